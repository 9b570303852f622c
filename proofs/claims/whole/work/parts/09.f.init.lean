/-! the constructors -/
section INIT
variable {G : wG} {M : aM} {vs : Nat → List Int32}
theorem cD_init (h22 : M 22 = some (.inr (2, [.null, .null, .null, .int 0, .int 0, .int 0, .int 0, .null, .null, .int 0, .int 0]))) (hV : dV M vs) : Mt G 3 mtD_init [.ref 22, .ref 4] M 22 10 143 (fun v M' n' => v = none ∧ n' = 32 ∧ fD M M' ∧ devX M' vs 0 0 0 0 0 0 (fun _ => []) (fun _ => 0) [] 0 (fun _ => false)) := by
  refine Mt.of rfl rfl (Nat.le_of_ble_eq_true rfl) ?_
  refine V_aload_n dD_init_0 rfl ?_
  refine V_obj dD_init_1 obD_3 ob_w (by decide) (Nat.le_of_ble_eq_true rfl) ?_
  refine V_aload_n dD_init_4 rfl ?_
  refine V_aload_n dD_init_5 rfl ?_
  refine V_putF dD_init_6 fD_9 rfl (h22) rfl rfl (Nat.le_of_ble_eq_true rfl) ?_
  generalize hM1 : hU M 22 _ = M1
  have m1 : M1 22 = some (.inr (2, [.ref 4, .null, .null, .int 0, .int 0, .int 0, .int 0, .null, .null, .int 0, .int 0])) := by rw [← hM1]; exact hU_eq _ _ _
  have F1 : ∀ q, q ≠ 22 → M1 q = M q := fun q hq => by rw [← hM1]; exact hU_ne hq
  refine V_aload_n dD_init_9 rfl ?_
  refine V_iconst (v := 2) dD_init_10 (by decide) ?_
  refine V_newR 2 9 141 dD_init_11 anD_15 (by decide) (by decide) (by decide) ?_
  generalize hM2 : hU M1 (22 + 1) _ = M2
  have m2 : M2 23 = some (.inl (2, 2, .inr (fun _ => none))) := by rw [← hM2]; exact hU_eq _ _ _
  have F2 : ∀ q, q ≠ 23 → M2 q = M1 q := fun q hq => by rw [← hM2]; exact hU_ne hq
  refine V_dup dD_init_14 rfl ?_
  refine V_iconst (v := 0) dD_init_15 (by decide) ?_
  refine V_new 8 139 dD_init_16 nwD_15 (by decide) (by decide) ?_
  refine V_dup dD_init_19 rfl ?_
  refine V_bipush (v := 40) dD_init_20 (by decide) ?_
  refine V_callI1 7 99 dD_init_22 clD_17 (Nat.le_of_ble_eq_true rfl) (by decide) (by decide) (by decide) (cR_init (G := G) (cap := 40) (Nat.le_refl 24) (hU_eq _ _ _) (by decide)) (fun v M4 n' hQ => ?_)
  obtain ⟨q1, q2, F4, X4⟩ := hQ
  subst q1; subst q2
  have F4 : ∀ q, q ≠ 24 → q ≠ 25 → M4 q = M2 q := fun q z1 z2 => (F4 q z1 z2).trans (hU_ne z1)
  have X4 : rowL M4 24 25 40 [] := X4
  obtain ⟨f4, x4, -⟩ := id X4
  have m4 := (F4 23 (by decide) (by decide)).trans m2
  refine V_aast dD_init_25 (m4) rfl rfl (x4) (vp_in_nI (n := 0) (N := 2) (by decide) (by decide)) ?_
  generalize hM5 : hU M4 _ _ = M5
  have m5 : M5 23 = some (.inl (2, 2, .inr (va_up (fun _ => none) 0 (some 24)))) := by rw [← hM5]; exact hU_eq _ _ _
  have F5 : ∀ q, q ≠ 23 → M5 q = M4 q := fun q hq => by rw [← hM5]; exact hU_ne hq
  refine V_dup dD_init_26 rfl ?_
  refine V_iconst (v := 1) dD_init_27 (by decide) ?_
  refine V_new 6 97 dD_init_28 nwD_15 (by decide) (by decide) ?_
  refine V_dup dD_init_31 rfl ?_
  refine V_bipush (v := 40) dD_init_32 (by decide) ?_
  refine V_callI1 5 57 dD_init_34 clD_17 (Nat.le_of_ble_eq_true rfl) (by decide) (by decide) (by decide) (cR_init (G := G) (cap := 40) (Nat.le_refl 26) (hU_eq _ _ _) (by decide)) (fun v M7 n' hQ => ?_)
  obtain ⟨q1, q2, F7, X7⟩ := hQ
  subst q1; subst q2
  have F7 : ∀ q, q ≠ 26 → q ≠ 27 → M7 q = M5 q := fun q z1 z2 => (F7 q z1 z2).trans (hU_ne z1)
  have X7 : rowL M7 26 27 40 [] := X7
  obtain ⟨f7, x7, -⟩ := id X7
  have m7 := (F7 23 (by decide) (by decide)).trans m5
  refine V_aast dD_init_37 (m7) rfl rfl (x7) (vp_in_nI (n := 1) (N := 2) (by decide) (by decide)) ?_
  generalize hM8 : hU M7 _ _ = M8
  have m8 : M8 23 = some (.inl (2, 2, .inr (va_up (va_up (fun _ => none) 0 (some 24)) 1 (some 26)))) := by rw [← hM8]; exact hU_eq _ _ _
  have F8 : ∀ q, q ≠ 23 → M8 q = M7 q := fun q hq => by rw [← hM8]; exact hU_ne hq
  have k8 : M8 22 = some (.inr (2, [.ref 4, .null, .null, .int 0, .int 0, .int 0, .int 0, .null, .null, .int 0, .int 0])) := by rw [F8 _ (by decide), F7 _ (by decide) (by decide), F5 _ (by decide), F4 _ (by decide) (by decide), F2 _ (by decide)]; exact m1
  refine V_putF dD_init_38 fD_20 rfl (k8) rfl rfl (Nat.le_of_ble_eq_true rfl) ?_
  generalize hM9 : hU M8 _ _ = M9
  have m9 : M9 22 = some (.inr (2, [.ref 4, .ref 23, .null, .int 0, .int 0, .int 0, .int 0, .null, .null, .int 0, .int 0])) := by rw [← hM9]; exact hU_eq _ _ _
  have F9 : ∀ q, q ≠ 22 → M9 q = M8 q := fun q hq => by rw [← hM9]; exact hU_ne hq
  refine V_aload_n dD_init_41 rfl ?_
  refine V_iconst (v := 2) dD_init_42 (by decide) ?_
  refine V_newI 2 4 55 dD_init_43 (by decide) (by decide) (by decide) ?_
  generalize hM10 : hU M9 _ _ = M10
  have m10 : M10 28 = some (.inl (0, 2, .inl (fun _ => 0))) := by rw [← hM10]; exact hU_eq _ _ _
  have F10 : ∀ q, q ≠ 28 → M10 q = M9 q := fun q hq => by rw [← hM10]; exact hU_ne hq
  refine V_putF dD_init_45 fD_23 rfl ((F10 22 (by decide)).trans m9) rfl rfl (Nat.le_of_ble_eq_true rfl) ?_
  refine V_aload_n dD_init_48 rfl ?_
  refine V_iconst (v := 0) dD_init_49 (by decide) ?_
  refine V_put dD_init_50 fD_27 (hU_eq _ _ _) rfl rfl (Nat.le_of_ble_eq_true rfl) ?_
  refine V_aload_n dD_init_53 rfl ?_
  refine V_iconst (v := 0) dD_init_54 (by decide) ?_
  refine V_put dD_init_55 fD_31 (hU_eq _ _ _) rfl rfl (Nat.le_of_ble_eq_true rfl) ?_
  refine V_aload_n dD_init_58 rfl ?_
  refine V_iconst (v := 0) dD_init_59 (by decide) ?_
  refine V_put dD_init_60 fD_34 (hU_eq _ _ _) rfl rfl (Nat.le_of_ble_eq_true rfl) ?_
  refine V_aload_n dD_init_63 rfl ?_
  refine V_iconst (v := 0) dD_init_64 (by decide) ?_
  refine V_put dD_init_65 fD_37 (hU_eq _ _ _) rfl rfl (Nat.le_of_ble_eq_true rfl) ?_
  generalize hM11 : hU (hU (hU (hU (hU M10 22 _) 22 _) 22 _) 22 _) 22 _ = M11
  have m11 : M11 22 = some (.inr (2, [.ref 4, .ref 23, .ref 28, .int 0, .int 0, .int 0, .int 0, .null, .null, .int 0, .int 0])) := by rw [← hM11]; exact hU_eq _ _ _
  have F11 : ∀ q, q ≠ 22 → M11 q = M10 q := fun q hq => by rw [← hM11, hU_ne hq, hU_ne hq, hU_ne hq, hU_ne hq, hU_ne hq]
  refine V_aload_n dD_init_68 rfl ?_
  refine V_new 3 53 dD_init_69 nwD_40 (by decide) (by decide) ?_
  refine V_dup dD_init_72 rfl ?_
  refine V_callI0 1 9 dD_init_73 clD_42 (Nat.le_of_ble_eq_true rfl) (by decide) (by decide) (by decide) (cP_init (G := G) (Nat.le_refl 29) (hU_eq _ _ _)) (fun v M12 n' hQ => ?_)
  obtain ⟨q1, q2, F12, X12⟩ := hQ
  subst q1; subst q2
  have F12 : ∀ q, q ≠ 29 → q ≠ 30 → q ≠ 31 → M12 q = M11 q := fun q z1 z2 z3 => (F12 q z1 z2 z3).trans (hU_ne z1)
  have X12 : patL M12 29 30 31 [] 0 := X12
  have k12 := (F12 22 (by decide) (by decide) (by decide)).trans m11
  refine V_putF dD_init_76 fD_43 rfl (k12) rfl rfl (Nat.le_of_ble_eq_true rfl) ?_
  generalize hM13 : hU M12 _ _ = M13
  have m13 : M13 22 = some (.inr (2, [.ref 4, .ref 23, .ref 28, .int 0, .int 0, .int 0, .int 0, .ref 29, .null, .int 0, .int 0])) := by rw [← hM13]; exact hU_eq _ _ _
  have F13 : ∀ q, q ≠ 22 → M13 q = M12 q := fun q hq => by rw [← hM13]; exact hU_ne hq
  refine V_aload_n dD_init_79 rfl ?_
  refine V_bipush (v := 9) dD_init_80 (by decide) ?_
  refine V_newZ 9 0 0 dD_init_82 (by decide) (by decide) (by decide) ?_
  generalize hM14 : hU M13 _ _ = M14
  have m14 : M14 32 = some (.inl (1, 9, .inl (fun _ => 0))) := by rw [← hM14]; exact hU_eq _ _ _
  have F14 : ∀ q, q ≠ 32 → M14 q = M13 q := fun q hq => by rw [← hM14]; exact hU_ne hq
  refine V_putF dD_init_84 fD_47 rfl ((F14 22 (by decide)).trans m13) rfl rfl (Nat.le_of_ble_eq_true rfl) ?_
  refine V_aload_n dD_init_87 rfl ?_
  refine V_iconst (v := 0) dD_init_88 (by decide) ?_
  refine V_put dD_init_89 fD_51 (hU_eq _ _ _) rfl rfl (Nat.le_of_ble_eq_true rfl) ?_
  refine V_aload_n dD_init_92 rfl ?_
  refine V_iconst (v := 0) dD_init_93 (by decide) ?_
  refine V_put dD_init_94 fD_54 (hU_eq _ _ _) rfl rfl (Nat.le_of_ble_eq_true rfl) ?_
  generalize hM15 : hU (hU (hU M14 22 _) 22 _) 22 _ = M15
  have m15 : M15 22 = some (.inr (2, [.ref 4, .ref 23, .ref 28, .int 0, .int 0, .int 0, .int 0, .ref 29, .ref 32, .int 0, .int 0])) := by rw [← hM15]; exact hU_eq _ _ _
  have F15 : ∀ q, q ≠ 22 → M15 q = M14 q := fun q hq => by rw [← hM15, hU_ne hq, hU_ne hq, hU_ne hq]
  have fr : fD M M15 := fun q hq => by rw [F15 q (by omega), F14 q (by omega), F13 q (by omega), F12 q (by omega) (by omega) (by omega), F11 q (by omega), F10 q (by omega), F9 q (by omega), F8 q (by omega), F7 q (by omega) (by omega), F5 q (by omega), F4 q (by omega) (by omega), F2 q (by omega), F1 q (by omega)]
  have to8 : ∀ q, q ≠ 22 → q < 28 → M15 q = M8 q := fun q z1 z2 => by rw [F15 q z1, F14 q (by omega), F13 q z1, F12 q (by omega) (by omega) (by omega), F11 q z1, F10 q (by omega), F9 q z1]
  have d0 : rowL M15 24 25 40 [] := X4.frame (by rw [to8 _ (by decide) (by decide), F8 _ (by decide), F7 _ (by decide) (by decide), F5 _ (by decide)]) (by rw [to8 _ (by decide) (by decide), F8 _ (by decide), F7 _ (by decide) (by decide), F5 _ (by decide)])
  have d1 : rowL M15 26 27 40 [] := X7.frame (by rw [to8 _ (by decide) (by decide), F8 _ (by decide)]) (by rw [to8 _ (by decide) (by decide), F8 _ (by decide)])
  refine V_vret dD_init_97 rfl ⟨rfl, rfl, fr, m15, hV.frame (fun q z1 z2 => fr q (by omega)), ⟨⟨_, (to8 23 (by decide) (by decide)).trans m8, fun s hs => ?_⟩, fun s hs => ?_⟩, ⟨_, ?_, fun s hs => rfl⟩, ?_, ⟨_, (F15 32 (by decide)).trans m14, fun i hi => rfl⟩⟩
  · rcases (show s = 0 ∨ s = 1 by omega) with rfl | rfl <;> rfl
  · rcases (show s = 0 ∨ s = 1 by omega) with rfl | rfl
    · exact d0
    · exact d1
  · rw [F15 _ (by decide), F14 _ (by decide), F13 _ (by decide), F12 _ (by decide) (by decide) (by decide), F11 _ (by decide)]
    exact m10
  · exact X12.frame (by rw [F15 _ (by decide), F14 _ (by decide), F13 _ (by decide)]) (by rw [F15 _ (by decide), F14 _ (by decide), F13 _ (by decide)]) (by rw [F15 _ (by decide), F14 _ (by decide), F13 _ (by decide)])
/-- the versions' rows, one behind the other -/
theorem lT_init {M0 : aM} (m1 : M0 1 = some (.inr (3, [.ref 2, .ref 4, .int 0, .null, .int 0, .int 0, .null]))) {Q : zQ} (k : ∀ M, (∀ q, q ≤ 3 → M q = M0 q) → dV M (fun _ => []) → V G mtT_init 4 Q 14 202 58 [some (.ref 1), none] [] M 18) : ∀ (j i : Nat) (M : aM) (g : Nat → Option Nat), i + j = 7 → (∀ q, q ≤ 3 → M q = M0 q) → M 4 = some (.inl (2, 7, .inr g)) → (∀ v, v < i → g v = some (5 + 2 * v) ∧ rowL M (5 + 2 * v) (6 + 2 * v) 40 []) → V G mtT_init 4 Q (14 + 2 * j) (202 + 42 * j) 28 [some (.ref 1), some (.int (nI i))] [] M (4 + 2 * i) := by
  intro j
  induction j with
  | zero =>
    intro i M g e a m4 hr
    have e : i = 7 := by omega
    subst e
    have m1' := (a 1 (by decide)).trans m1
    refine V_iload_n dT_init_28 rfl ?_
    refine V_aload_n dT_init_29 rfl ?_
    refine V_get dT_init_30 fT_18 (m1') rfl ?_
    refine V_alen dT_init_33 (m4) rfl ?_
    refine V_icmp_ge (tgt := 58) dT_init_34 (by decide) (fun c => ?_) (fun c => ?_)
    · exact V_wk (k M a ⟨⟨g, m4, fun v hv => (hr v hv).1⟩, fun v hv => (hr v hv).2⟩) ⟨rfl, trivial⟩
    · exact absurd (nI_le (Nat.le_refl 7) (by omega)) c
  | succ j ih =>
    intro i M g e a m4 hr
    have hi : i < 7 := by omega
    have m1' := (a 1 (by decide)).trans m1
    refine V_iload_n dT_init_28 rfl ?_
    refine V_aload_n dT_init_29 rfl ?_
    refine V_get dT_init_30 fT_18 (m1') rfl ?_
    refine V_alen dT_init_33 (m4) rfl ?_
    refine V_icmp_ge (tgt := 58) dT_init_34 (by decide) (fun c => ?_) (fun c => ?_)
    · exact absurd c (nI_ge hi (by omega))
    · refine V_aload_n dT_init_37 rfl ?_
      refine V_get dT_init_38 fT_18 (m1') rfl ?_
      refine V_iload_n dT_init_41 rfl ?_
      refine V_new (15 + 2 * j) (242 + 42 * j) dT_init_42 nwT_7 (by omega) (by show 242 + 42 * j + 2 ≤ _; omega) ?_
      refine V_dup dT_init_45 rfl ?_
      refine V_bipush (v := 40) dT_init_46 (by decide) ?_
      refine V_callI1 (14 + 2 * j) (202 + 42 * j) dT_init_48 clT_11 (Nat.le_of_ble_eq_true rfl) (by decide) (by omega) (by omega) (cR_init (G := G) (cap := 40) (Nat.le_refl (4 + 2 * i + 1)) (hU_eq _ _ _) (by decide)) (fun v M2 n' hQ => ?_)
      obtain ⟨q1, q2, F2, X2⟩ := hQ
      subst q1; subst q2
      have F2 : ∀ q, q ≠ 4 + 2 * i + 1 → q ≠ 4 + 2 * i + 1 + 1 → M2 q = M q := fun q z1 z2 => (F2 q z1 z2).trans (hU_ne z1)
      obtain ⟨f2, x2, -⟩ := id X2
      have m4' := (F2 4 (by omega) (by omega)).trans m4
      refine V_aast dT_init_51 m4' (ci := 0) rfl rfl x2 (vp_in_nI hi (by omega)) ?_
      rw [nI_clamp (by omega)]
      refine V_iinc (v := _ + 1) dT_init_52 (by decide) rfl rfl ?_
      refine V_goto (tgt := 28) dT_init_55 (by decide) ?_
      rw [nI_1, show 4 + 2 * i + 1 + 1 = 4 + 2 * (i + 1) by omega]
      generalize hM3 : hU M2 4 _ = M3
      have m3 : M3 4 = some (.inl (2, 7, .inr (va_up g i (some (4 + 2 * i + 1))))) := by rw [← hM3]; exact hU_eq _ _ _
      have F3 : ∀ q, q ≠ 4 → M3 q = M2 q := fun q hq => by rw [← hM3]; exact hU_ne hq
      refine ih (i + 1) M3 _ (by omega) (fun q hq => by rw [F3 q (by omega), F2 q (by omega) (by omega)]; exact a q hq) m3 (fun v hv => ?_)
      by_cases e2 : v = i
      · subst e2
        refine ⟨by rw [vu_eq]; congr 1; omega, ?_⟩
        rw [show 5 + 2 * v = 4 + 2 * v + 1 by omega, show 6 + 2 * v = 4 + 2 * v + 1 + 1 by omega]
        exact X2.frame (F3 _ (by omega)) (F3 _ (by omega))
      · obtain ⟨z1, z2⟩ := hr v (by omega)
        exact ⟨by rw [vu_ne e2]; exact z1, z2.frame (by rw [F3 _ (by omega), F2 _ (by omega) (by omega)]) (by rw [F3 _ (by omega), F2 _ (by omega) (by omega)])⟩
theorem cT_init (h1 : M 1 = some (.inr (3, [.null, .null, .int 0, .null, .int 0, .int 0, .null]))) : Mt G 4 mtT_init [.ref 1] M 1 31 545 (fun v M' n' => v = none ∧ n' = 32 ∧ clsX M' [] 0 (fun _ => []) 0 0 0 0 0 (fun _ => []) (fun _ => 0) (fun _ => false)) := by
  refine Mt.of rfl rfl (Nat.le_of_ble_eq_true rfl) ?_
  refine V_aload_n dT_init_0 rfl ?_
  refine V_obj dT_init_1 obT_1 ob_w (by decide) (Nat.le_of_ble_eq_true rfl) ?_
  refine V_aload_n dT_init_4 rfl ?_
  refine V_new 30 543 dT_init_5 nwT_7 (by decide) (by decide) ?_
  refine V_dup dT_init_8 rfl ?_
  refine V_bipush (v := 40) dT_init_9 (by decide) ?_
  refine V_callI1 29 503 dT_init_11 clT_11 (Nat.le_of_ble_eq_true rfl) (by decide) (by decide) (by decide) (cR_init (G := G) (cap := 40) (Nat.le_refl 2) (hU_eq _ _ _) (by decide)) (fun v M2 n' hQ => ?_)
  obtain ⟨q1, q2, F2, X2⟩ := hQ
  subst q1; subst q2
  have F2 : ∀ q, q ≠ 2 → q ≠ 3 → M2 q = M q := fun q z1 z2 => (F2 q z1 z2).trans (hU_ne z1)
  have X2 : rowL M2 2 3 40 [] := X2
  have k2 := (F2 1 (by decide) (by decide)).trans h1
  refine V_putF dT_init_14 fT_14 rfl (k2) rfl rfl (Nat.le_of_ble_eq_true rfl) ?_
  generalize hM3 : hU M2 _ _ = M3
  have m3 : M3 1 = some (.inr (3, [.ref 2, .null, .int 0, .null, .int 0, .int 0, .null])) := by rw [← hM3]; exact hU_eq _ _ _
  have F3 : ∀ q, q ≠ 1 → M3 q = M2 q := fun q hq => by rw [← hM3]; exact hU_ne hq
  refine V_aload_n dT_init_17 rfl ?_
  refine V_bipush (v := 7) dT_init_18 (by decide) ?_
  refine V_newR 7 28 496 dT_init_20 anT_7 (by decide) (by decide) (by decide) ?_
  generalize hM4 : hU M3 _ _ = M4
  have m4 : M4 4 = some (.inl (2, 7, .inr (fun _ => none))) := by rw [← hM4]; exact hU_eq _ _ _
  have F4 : ∀ q, q ≠ 4 → M4 q = M3 q := fun q hq => by rw [← hM4]; exact hU_ne hq
  refine V_putF dT_init_23 fT_18 rfl ((F4 1 (by decide)).trans m3) rfl rfl (Nat.le_of_ble_eq_true rfl) ?_
  refine V_iconst (v := 0) dT_init_26 (by decide) ?_
  refine V_istore_n dT_init_27 (by decide) ?_
  generalize hM5 : hU M4 1 _ = M5
  have m5 : M5 1 = some (.inr (3, [.ref 2, .ref 4, .int 0, .null, .int 0, .int 0, .null])) := by rw [← hM5]; exact hU_eq _ _ _
  have F5 : ∀ q, q ≠ 1 → M5 q = M4 q := fun q hq => by rw [← hM5]; exact hU_ne hq
  have X5 : rowL M5 2 3 40 [] := X2.frame (by rw [F5 _ (by decide), F4 _ (by decide), F3 _ (by decide)]) (by rw [F5 _ (by decide), F4 _ (by decide), F3 _ (by decide)])
  refine lT_init (M0 := M5) m5 (fun M6 a6 v6 => ?_) 7 0 M5 _ (by decide) (fun q _ => rfl) ((F5 4 (by decide)).trans m4) (fun v hv => by omega)
  have k6 := (a6 1 (by decide)).trans m5
  have X6 : rowL M6 2 3 40 [] := X5.frame (a6 2 (by decide)) (a6 3 (by decide))
  refine V_aload_n dT_init_58 rfl ?_
  refine V_iconst (v := 0) dT_init_59 (by decide) ?_
  refine V_put dT_init_60 fT_22 (k6) rfl rfl (Nat.le_of_ble_eq_true rfl) ?_
  generalize hM7 : hU M6 _ _ = M7
  have m7 : M7 1 = some (.inr (3, [.ref 2, .ref 4, .int 0, .null, .int 0, .int 0, .null])) := by rw [← hM7]; exact hU_eq _ _ _
  have F7 : ∀ q, q ≠ 1 → M7 q = M6 q := fun q hq => by rw [← hM7]; exact hU_ne hq
  refine V_aload_n dT_init_63 rfl ?_
  refine V_new 13 200 dT_init_64 nwT_26 (by decide) (by decide) ?_
  refine V_dup dT_init_67 rfl ?_
  refine V_callI0 11 156 dT_init_68 clT_28 (Nat.le_of_ble_eq_true rfl) (by decide) (by decide) (by decide) (cP_init (G := G) (Nat.le_refl 19) (hU_eq _ _ _)) (fun v M8 n' hQ => ?_)
  obtain ⟨q1, q2, F8, X8⟩ := hQ
  subst q1; subst q2
  have F8 : ∀ q, q ≠ 19 → q ≠ 20 → q ≠ 21 → M8 q = M7 q := fun q z1 z2 z3 => (F8 q z1 z2 z3).trans (hU_ne z1)
  have X8 : patL M8 19 20 21 [] 0 := X8
  refine V_putF dT_init_71 fT_29 rfl ((F8 1 (by decide) (by decide) (by decide)).trans m7) rfl rfl (Nat.le_of_ble_eq_true rfl) ?_
  refine V_aload_n dT_init_74 rfl ?_
  refine V_iconst (v := 0) dT_init_75 (by decide) ?_
  refine V_put dT_init_76 fT_33 (hU_eq _ _ _) rfl rfl (Nat.le_of_ble_eq_true rfl) ?_
  refine V_aload_n dT_init_79 rfl ?_
  refine V_iconst (v := 0) dT_init_80 (by decide) ?_
  refine V_put dT_init_81 fT_36 (hU_eq _ _ _) rfl rfl (Nat.le_of_ble_eq_true rfl) ?_
  generalize hM9 : hU (hU (hU M8 1 _) 1 _) 1 _ = M9
  have m9 : M9 1 = some (.inr (3, [.ref 2, .ref 4, .int 0, .ref 19, .int 0, .int 0, .null])) := by rw [← hM9]; exact hU_eq _ _ _
  have F9 : ∀ q, q ≠ 1 → M9 q = M8 q := fun q hq => by rw [← hM9, hU_ne hq, hU_ne hq, hU_ne hq]
  refine V_aload_n dT_init_84 rfl ?_
  refine V_new 10 145 dT_init_85 nwT_39 (by decide) (by decide) ?_
  generalize hM10 : hU M9 _ _ = M10
  have m10 : M10 22 = some (.inr (2, [.null, .null, .null, .int 0, .int 0, .int 0, .int 0, .null, .null, .int 0, .int 0])) := by rw [← hM10]; exact hU_eq _ _ _
  have F10 : ∀ q, q ≠ 22 → M10 q = M9 q := fun q hq => by rw [← hM10]; exact hU_ne hq
  have v10 : dV M10 (fun _ => []) := v6.frame (fun q z1 z2 => by rw [F10 q (by omega), F9 q (by omega), F8 q (by omega) (by omega) (by omega), F7 q (by omega)])
  have k10 := (F10 1 (by decide)).trans m9
  refine V_dup dT_init_88 rfl ?_
  refine V_aload_n dT_init_89 rfl ?_
  refine V_get dT_init_90 fT_18 (k10) rfl ?_
  refine V_callI1 0 2 dT_init_93 clT_41 (Nat.le_of_ble_eq_true rfl) (by decide) (by decide) (by decide) (cD_init (G := G) m10 v10) (fun v M11 n' hQ => ?_)
  obtain ⟨q1, q2, F11, X11⟩ := hQ
  subst q1; subst q2
  refine V_putF dT_init_96 fT_44 rfl ((F11 1 (by decide)).trans k10) rfl rfl (Nat.le_of_ble_eq_true rfl) ?_
  generalize hM12 : hU M11 _ _ = M12
  have m12 : M12 1 = some (.inr (3, [.ref 2, .ref 4, .int 0, .ref 19, .int 0, .int 0, .ref 22])) := by rw [← hM12]; exact hU_eq _ _ _
  have F12 : ∀ q, q ≠ 1 → M12 q = M11 q := fun q hq => by rw [← hM12]; exact hU_ne hq
  refine V_vret dT_init_99 rfl ⟨rfl, rfl, 0, 0, [], 0, 0, [], 0, ⟨m12, X6.frame ?_ ?_, X8.frame ?_ ?_ ?_⟩, X11.frame (fun q hq => F12 q (by omega)), ⟨by decide, by decide, fun z => absurd rfl z⟩, fun z => by have z : uwP 0 := z; omega⟩
  · rw [F12 _ (by decide), F11 _ (by decide), F10 _ (by decide), F9 _ (by decide), F8 _ (by decide) (by decide) (by decide), F7 _ (by decide)]
  · rw [F12 _ (by decide), F11 _ (by decide), F10 _ (by decide), F9 _ (by decide), F8 _ (by decide) (by decide) (by decide), F7 _ (by decide)]
  · rw [F12 _ (by decide), F11 _ (by decide), F10 _ (by decide), F9 _ (by decide)]
  · rw [F12 _ (by decide), F11 _ (by decide), F10 _ (by decide), F9 _ (by decide)]
  · rw [F12 _ (by decide), F11 _ (by decide), F10 _ (by decide), F9 _ (by decide)]
end INIT
