/-! TwoSlots$Row -/
abbrev xIn (xs : List Int32) (i : Int32) : Prop := ¬ i < 0 ∧ i < nI xs.length
def rAt (xs : List Int32) (i : Int32) : Int32 := if xIn xs i then xs.getD i.toNatClampNeg 0 else 0
theorem xIn_of {xs : List Int32} {i : Int32} (hl : xs.length ≤ 64) (h : xIn xs i) : ∃ j : Nat, j < xs.length ∧ i = nI j := by
  obtain ⟨j, hj, rfl⟩ := nI_of h.1
  exact ⟨j, (nI_ltI hj (by omega)).mp h.2, rfl⟩
theorem xIn_nI {xs : List Int32} {j : Nat} (hl : xs.length ≤ 64) (h : j < xs.length) : xIn xs (nI j) := ⟨nI_pos (by omega), nI_lt h (by omega)⟩
theorem rAt_nI {xs : List Int32} {j : Nat} (hl : xs.length ≤ 64) (hj : j < 2 ^ 31) : rAt xs (nI j) = xs.getD j 0 := by
  unfold rAt
  by_cases h : j < xs.length
  · rw [if_pos (xIn_nI hl h), nI_clamp hj]
  · rw [if_neg (fun q => h ((nI_ltI hj (by omega)).mp q.2))]
    simp [List.getD_eq_getElem?_getD, List.getElem?_eq_none (Nat.le_of_not_lt h)]
section ROW
variable {G : wG} {M : aM} {n r a cap : Nat} {xs : List Int32}
theorem cR_length (h : rowL M r a cap xs) : Mt G 0 mtR_length [.ref r] M n 0 0 (rd M n (nI xs.length)) := by
  obtain ⟨f, h1, h2, h3, h4, h5, h6⟩ := h
  refine Mt.of rfl rfl (Nat.le_of_ble_eq_true rfl) ?_
  refine V_aload_n dR_length_0 rfl ?_
  refine V_get dR_length_1 fR_13 (h1) rfl ?_
  exact V_iret dR_length_4 rfl ⟨rfl, rfl, rfl⟩
theorem cR_has (h : rowL M r a cap xs) (i : Int32) : Mt G 0 mtR_has [.ref r, .int i] M n 0 0 (rd M n (if xIn xs i then 1 else 0)) := by
  obtain ⟨f, h1, h2, h3, h4, h5, h6⟩ := h
  refine Mt.of rfl rfl (Nat.le_of_ble_eq_true rfl) ?_
  refine V_iload_n dR_has_0 rfl ?_
  refine V_if_lt (tgt := 16) dR_has_1 (by decide) (fun c1 => ?_) (fun c1 => ?_)
  · refine V_iconst (v := 0) dR_has_16 (by decide) ?_
    refine V_zret dR_has_17 rfl rfl ⟨?_, rfl, rfl⟩
    rw [if_neg (fun q => q.1 c1)]
  · refine V_iload_n dR_has_4 rfl ?_
    refine V_aload_n dR_has_5 rfl ?_
    refine V_get dR_has_6 fR_13 (h1) rfl ?_
    refine V_icmp_ge (tgt := 16) dR_has_9 (by decide) (fun c2 => ?_) (fun c2 => ?_)
    · refine V_iconst (v := 0) dR_has_16 (by decide) ?_
      refine V_zret dR_has_17 rfl rfl ⟨?_, rfl, rfl⟩
      rw [if_neg (fun q => Int32.not_lt.mpr c2 q.2)]
    · refine V_iconst (v := 1) dR_has_12 (by decide) ?_
      refine V_goto (tgt := 17) dR_has_13 (by decide) ?_
      refine V_zret dR_has_17 rfl rfl ⟨?_, rfl, rfl⟩
      rw [if_pos ⟨c1, Int32.not_le.mp c2⟩]
theorem cR_at (h : rowL M r a cap xs) (i : Int32) : Mt G 1 mtR_at [.ref r, .int i] M n 0 0 (rd M n (rAt xs i)) := by
  have h' := h
  obtain ⟨f, h1, h2, h3, h4, h5, h6⟩ := h
  refine Mt.of rfl rfl (Nat.le_of_ble_eq_true rfl) ?_
  refine V_aload_n dR_at_0 rfl ?_
  refine V_iload_n dR_at_1 rfl ?_
  refine V_rV1 dR_at_2 clR_17 (Nat.le_of_ble_eq_true rfl) (h1) rfl (by decide) (cR_has h' i) ?_
  by_cases c : xIn xs i
  · rw [if_pos c]
    obtain ⟨j, hj, rfl⟩ := xIn_of (by omega) c
    refine V_if_eq (tgt := 17) dR_at_5 (by decide) (fun c1 => ?_) (fun c1 => ?_)
    · exact absurd c1 (by decide)
    · refine V_aload_n dR_at_8 rfl ?_
      refine V_get dR_at_9 fR_7 (h1) rfl ?_
      refine V_iload_n dR_at_12 rfl ?_
      refine V_iald dR_at_13 (h2) rfl (vp_in_nI (by omega) (by omega)) ?_
      refine V_goto (tgt := 18) dR_at_14 (by decide) ?_
      refine V_iret dR_at_18 rfl ⟨?_, rfl, rfl⟩
      rw [nI_clamp (by omega), rAt_nI (by omega) (by omega), h6 j hj]
  · rw [if_neg c]
    refine V_if_eq (tgt := 17) dR_at_5 (by decide) (fun c1 => ?_) (fun c1 => ?_)
    · refine V_iconst (v := 0) dR_at_17 (by decide) ?_
      refine V_iret dR_at_18 rfl ⟨?_, rfl, rfl⟩
      unfold rAt
      rw [if_neg c]
    · exact absurd rfl c1
theorem cR_init (hr : r ≤ n) (h : M r = some (.inr (0, [.null, .int 0]))) (hc : cap ≤ 64) : Mt G 1 mtR_init [.ref r, .int (nI cap)] M n 1 cap (fun v M' n' => v = none ∧ n' = n + 1 ∧ (∀ q, q ≠ r → q ≠ n + 1 → M' q = M q) ∧ rowL M' r (n + 1) cap []) := by
  have hne : r ≠ n + 1 := by omega
  refine Mt.of rfl rfl (Nat.le_of_ble_eq_true rfl) ?_
  refine V_aload_n dR_init_0 rfl ?_
  refine V_obj dR_init_1 obR_1 ob_w (by decide) (Nat.le_of_ble_eq_true rfl) ?_
  refine V_aload_n dR_init_4 rfl ?_
  refine V_iload_n dR_init_5 rfl ?_
  refine V_newI cap 0 0 dR_init_6 (by omega) (by omega) (by omega) ?_
  refine V_putF dR_init_8 fR_7 rfl (hU_at hne h) rfl rfl (Nat.le_of_ble_eq_true rfl) ?_
  refine V_aload_n dR_init_11 rfl ?_
  refine V_iconst (v := 0) dR_init_12 (by decide) ?_
  refine V_put dR_init_13 fR_13 (hU_eq _ _ _) rfl rfl (Nat.le_of_ble_eq_true rfl) ?_
  refine V_vret dR_init_16 rfl ⟨rfl, rfl, fun q h1 h2 => ?_, ?_⟩
  · rw [hU_ne h1, hU_ne h1, hU_ne h2]
  · refine ⟨fun _ => 0, hU_eq _ _ _, ?_, hne, Nat.zero_le _, hc, fun i hi => by simp at hi⟩
    rw [hU_ne hne.symm, hU_ne hne.symm, hU_eq]
theorem cR_empty (h : rowL M r a cap xs) : Mt G 0 mtR_empty [.ref r] M n 0 0 (wR M n r a cap []) := by
  obtain ⟨f, h1, h2, h3, h4, h5, h6⟩ := h
  refine Mt.of rfl rfl (Nat.le_of_ble_eq_true rfl) ?_
  refine V_aload_n dR_empty_0 rfl ?_
  refine V_iconst (v := 0) dR_empty_1 (by decide) ?_
  refine V_put dR_empty_2 fR_13 (h1) rfl rfl (Nat.le_of_ble_eq_true rfl) ?_
  refine V_vret dR_empty_5 rfl ⟨rfl, rfl, fun q q1 q2 => hU_ne q1, f, hU_eq _ _ _, hU_at h3.symm h2, h3, Nat.zero_le _, h5, fun i hi => by simp at hi⟩
theorem cR_append (h : rowL M r a cap xs) (b : Int32) : Mt G 0 mtR_append [.ref r, .int b] M n 0 0 (wR M n r a cap (if xs.length < cap then xs ++ [b] else xs)) := by
  have h' := h
  obtain ⟨f, h1, h2, h3, h4, h5, h6⟩ := h
  refine Mt.of rfl rfl (Nat.le_of_ble_eq_true rfl) ?_
  refine V_aload_n dR_append_0 rfl ?_
  refine V_get dR_append_1 fR_13 (h1) rfl ?_
  refine V_aload_n dR_append_4 rfl ?_
  refine V_get dR_append_5 fR_7 (h1) rfl ?_
  refine V_alen dR_append_8 (h2) rfl ?_
  refine V_icmp_ge (tgt := 32) dR_append_9 (by decide) (fun c => ?_) (fun c => ?_)
  · have hc : ¬ xs.length < cap := fun q => nI_ge q (by omega) c
    rw [if_neg hc]
    exact V_vret dR_append_32 rfl ⟨rfl, rfl, fun q _ _ => rfl, h'⟩
  · have hc : xs.length < cap := Nat.lt_of_not_le fun q => c (nI_le q (by omega))
    rw [if_pos hc]
    refine V_aload_n dR_append_12 rfl ?_
    refine V_get dR_append_13 fR_7 (h1) rfl ?_
    refine V_aload_n dR_append_16 rfl ?_
    refine V_get dR_append_17 fR_13 (h1) rfl ?_
    refine V_iload_n dR_append_20 rfl ?_
    refine V_iast dR_append_21 (h2) rfl (vp_in_nI hc (by omega)) ?_
    refine V_aload_n dR_append_22 rfl ?_
    refine V_dup dR_append_23 rfl ?_
    refine V_get dR_append_24 fR_13 (hU_at h3 h1) rfl ?_
    refine V_iconst (v := 1) dR_append_27 (by decide) ?_
    refine V_iadd dR_append_28 ?_
    refine V_put dR_append_29 fR_13 (hU_at h3 h1) rfl rfl (Nat.le_of_ble_eq_true rfl) ?_
    refine V_vret dR_append_32 rfl ⟨rfl, rfl, fun q q1 q2 => by rw [hU_ne q1, hU_ne q2], upd f (nI xs.length).toNatClampNeg b, (hU_eq _ _ _).trans ?_, ?_, h3, ?_, h5, fun i hi => ?_⟩
    · show some (Sum.inr (0, [Value.ref a, Value.int (nI xs.length + 1)])) = _
      rw [List.length_append, List.length_singleton, nI_succ]
    · rw [hU_ne h3.symm, hU_eq]
    · rw [List.length_append, List.length_singleton]; omega
    · rw [List.length_append, List.length_singleton] at hi
      rw [nI_clamp (by omega)]
      by_cases e : i = xs.length
      · subst e
        rw [pk_us]
        simp [List.getD_eq_getElem?_getD]
      · rw [pk_un e, h6 i (by omega)]
        simp [List.getD_eq_getElem?_getD, List.getElem?_append_left (show i < xs.length by omega)]
theorem cR_change (h : rowL M r a cap xs) (i b : Int32) : Mt G 1 mtR_change [.ref r, .int i, .int b] M n 0 0 (wR M n r a cap (if xIn xs i then xs.set i.toNatClampNeg b else xs)) := by
  have h' := h
  obtain ⟨f, h1, h2, h3, h4, h5, h6⟩ := h
  refine Mt.of rfl rfl (Nat.le_of_ble_eq_true rfl) ?_
  refine V_aload_n dR_change_0 rfl ?_
  refine V_iload_n dR_change_1 rfl ?_
  refine V_rV1 dR_change_2 clR_17 (Nat.le_of_ble_eq_true rfl) (h1) rfl (by decide) (cR_has h' i) ?_
  by_cases c : xIn xs i
  · rw [if_pos c, if_pos c]
    obtain ⟨j, hj, rfl⟩ := xIn_of (by omega) c
    refine V_if_eq (tgt := 15) dR_change_5 (by decide) (fun c1 => ?_) (fun c1 => ?_)
    · exact absurd c1 (by decide)
    · refine V_aload_n dR_change_8 rfl ?_
      refine V_get dR_change_9 fR_7 (h1) rfl ?_
      refine V_iload_n dR_change_12 rfl ?_
      refine V_iload_n dR_change_13 rfl ?_
      refine V_iast dR_change_14 (h2) rfl (vp_in_nI (show j < cap by omega) (by omega)) ?_
      refine V_vret dR_change_15 rfl ⟨rfl, rfl, fun q q1 q2 => hU_ne q2, upd f (nI j).toNatClampNeg b, ?_, hU_eq _ _ _, h3, ?_, h5, fun i hi => ?_⟩
      · rw [hU_ne h3, List.length_set]; exact h1
      · rw [List.length_set]; omega
      · rw [List.length_set] at hi
        rw [nI_clamp (by omega)]
        by_cases e : i = j
        · subst e
          rw [pk_us]
          simp [List.getD_eq_getElem?_getD, hi]
        · rw [pk_un e, h6 i hi]
          simp [List.getD_eq_getElem?_getD, List.getElem?_set_ne (fun q => e q.symm)]
  · rw [if_neg c, if_neg c]
    refine V_if_eq (tgt := 15) dR_change_5 (by decide) (fun c1 => ?_) (fun c1 => ?_)
    · exact V_vret dR_change_15 rfl ⟨rfl, rfl, fun q _ _ => rfl, h'⟩
    · exact absurd rfl c1
/-- what a copying loop leaves -/
def apf (xs zs : List Int32) (cap p k : Nat) : List Int32 := (xs ++ (List.range k).map (fun i => zs.getD (p + i) 0)).take cap
theorem apf_0 {xs zs : List Int32} {cap p : Nat} (h : xs.length ≤ cap) : apf xs zs cap p 0 = xs := by
  unfold apf
  simp [List.take_of_length_le h]
theorem apf_s (xs zs : List Int32) (cap p k : Nat) : (if (apf xs zs cap p k).length < cap then apf xs zs cap p k ++ [zs.getD (p + k) 0] else apf xs zs cap p k) = apf xs zs cap p (k + 1) := by
  unfold apf
  rw [List.range_succ, List.map_append, ← List.append_assoc]
  generalize xs ++ (List.range k).map (fun i => zs.getD (p + i) 0) = A
  simp only [List.map_cons, List.map_nil, List.length_take]
  by_cases h : A.length < cap
  · rw [if_pos (by omega), List.take_of_length_le (by omega), List.take_of_length_le (by rw [List.length_append, List.length_singleton]; omega)]
  · rw [if_neg (by omega), List.take_append_of_le_length (by omega)]
theorem lR_appendFrom {M0 : aM} {r2 a2 cap2 p k : Nat} {xs0 zs : List Int32} (hx0 : xs0.length ≤ cap) (hp : p + k < 2 ^ 30) (hd1 : r ≠ r2) (hd2 : r ≠ a2) (hd3 : a ≠ r2) (hd4 : a ≠ a2) (h2 : rowL M0 r2 a2 cap2 zs) : ∀ (j i : Nat) (M : aM), i + j = k → (∀ q, q ≠ r → q ≠ a → M q = M0 q) → rowL M r a cap (apf xs0 zs cap p i) → V G mtR_appendFrom 2 (wR M0 n r a cap (apf xs0 zs cap p k)) 0 0 3 [some (.ref r), some (.ref r2), some (.int (nI p)), some (.int (nI k)), some (.int (nI i))] [] M n := by
  intro j
  induction j with
  | zero =>
    intro i M e hf h
    have e : i = k := by omega
    subst e
    refine V_iload dR_appendFrom_3 rfl ?_
    refine V_iload_n dR_appendFrom_5 rfl ?_
    refine V_icmp_ge (tgt := 27) dR_appendFrom_6 (by decide) (fun c => ?_) (fun c => ?_)
    · exact V_vret dR_appendFrom_27 rfl ⟨rfl, rfl, hf, h⟩
    · exact absurd (nI_le (Nat.le_refl _) (by omega)) c
  | succ j ih =>
    intro i M e hf h
    have h2' : rowL M r2 a2 cap2 zs := h2.frame (hf _ hd1.symm hd3.symm) (hf _ hd2.symm hd4.symm)
    obtain ⟨f, g1, g2, g3⟩ := h
    have h : rowL M r a cap (apf xs0 zs cap p i) := ⟨f, g1, g2, g3⟩
    obtain ⟨f2, k1, k2, k3, k4, k5, k6⟩ := id h2'
    refine V_iload dR_appendFrom_3 rfl ?_
    refine V_iload_n dR_appendFrom_5 rfl ?_
    refine V_icmp_ge (tgt := 27) dR_appendFrom_6 (by decide) (fun c => ?_) (fun c => ?_)
    · exact absurd c (nI_ge (by omega) (by omega))
    · refine V_aload_n dR_appendFrom_9 rfl ?_
      refine V_aload_n dR_appendFrom_10 rfl ?_
      refine V_iload_n dR_appendFrom_11 rfl ?_
      refine V_iload dR_appendFrom_12 rfl ?_
      refine V_iadd dR_appendFrom_14 ?_
      refine V_rV1 dR_appendFrom_15 clR_21 (Nat.le_of_ble_eq_true rfl) (k1) rfl (by decide) (cR_at h2' _) ?_
      refine V_wV1 dR_appendFrom_18 clR_25 (Nat.le_of_ble_eq_true rfl) (g1) rfl (by decide) (cR_append h _) (fun M' hF hX => ?_)
      refine V_iinc (v := _ + 1) dR_appendFrom_21 (by decide) rfl rfl ?_
      refine V_goto (tgt := 3) dR_appendFrom_24 (by decide) ?_
      rw [nI_add, rAt_nI (by omega) (by omega), apf_s] at hX
      rw [nI_1]
      exact ih (i + 1) M' (by omega) (fun q q1 q2 => (hF q q1 q2).trans (hf q q1 q2)) hX
theorem cR_appendFrom {r2 a2 cap2 p k : Nat} {zs : List Int32} (h : rowL M r a cap xs) (h2 : rowL M r2 a2 cap2 zs) (hp : p + k < 2 ^ 30) (hd1 : r ≠ r2) (hd2 : r ≠ a2) (hd3 : a ≠ r2) (hd4 : a ≠ a2) : Mt G 2 mtR_appendFrom [.ref r, .ref r2, .int (nI p), .int (nI k)] M n 0 0 (wR M n r a cap (apf xs zs cap p k)) := by
  have hx : xs.length ≤ cap := by obtain ⟨f, h1, h2, h3, h4, h5, h6⟩ := h; exact h4
  refine Mt.of rfl rfl (Nat.le_of_ble_eq_true rfl) ?_
  refine V_iconst (v := 0) dR_appendFrom_0 (by decide) ?_
  refine V_istore dR_appendFrom_1 (by decide) ?_
  exact lR_appendFrom hx hp hd1 hd2 hd3 hd4 h2 k 0 M (by omega) (fun q _ _ => rfl) (by rw [apf_0 hx]; exact h)
theorem chk_s {xs : List Int32} {i : Nat} (h : i < xs.length) : chk (xs.take (i + 1)) = (chk (xs.take i) * 31 + xs.getD i 0) &&& 65535 := by
  unfold chk
  rw [List.take_succ, List.foldl_append]
  simp [List.getD_eq_getElem?_getD, h]
theorem lR_check (h : rowL M r a cap xs) : ∀ (j i : Nat), i + j = xs.length → V G mtR_check 0 (rd M n (chk xs)) 0 0 5 [some (.ref r), some (.int (chk (xs.take i))), some (.int (nI i))] [] M n := by
  obtain ⟨f, h1, h2, h3, h4, h5, h6⟩ := h
  intro j
  induction j with
  | zero =>
    intro i e
    have e : i = xs.length := by omega
    subst e
    refine V_iload_n dR_check_5 rfl ?_
    refine V_aload_n dR_check_6 rfl ?_
    refine V_get dR_check_7 fR_13 (h1) rfl ?_
    refine V_icmp_ge (tgt := 34) dR_check_10 (by decide) (fun c => ?_) (fun c => ?_)
    · refine V_iload_n dR_check_34 rfl ?_
      exact V_iret dR_check_35 rfl ⟨by rw [List.take_length], rfl, rfl⟩
    · exact absurd (nI_le (Nat.le_refl _) (by omega)) c
  | succ j ih =>
    intro i e
    refine V_iload_n dR_check_5 rfl ?_
    refine V_aload_n dR_check_6 rfl ?_
    refine V_get dR_check_7 fR_13 (h1) rfl ?_
    refine V_icmp_ge (tgt := 34) dR_check_10 (by decide) (fun c => ?_) (fun c => ?_)
    · exact absurd c (nI_ge (by omega) (by omega))
    · refine V_iload_n dR_check_13 rfl ?_
      refine V_bipush (v := 31) dR_check_14 (by decide) ?_
      refine V_imul dR_check_16 ?_
      refine V_aload_n dR_check_17 rfl ?_
      refine V_get dR_check_18 fR_7 (h1) rfl ?_
      refine V_iload_n dR_check_21 rfl ?_
      refine V_iald dR_check_22 (h2) rfl (vp_in_nI (show i < cap by omega) (by omega)) ?_
      refine V_iadd dR_check_23 ?_
      refine V_ldc (v := 65535) dR_check_24 ldR_29 ?_
      refine V_iand dR_check_26 ?_
      refine V_istore_n dR_check_27 (by decide) ?_
      refine V_iinc (v := _ + 1) dR_check_28 (by decide) rfl rfl ?_
      refine V_goto (tgt := 5) dR_check_31 (by decide) ?_
      have := ih (i + 1) (by omega)
      rw [chk_s (by omega), ← h6 i (by omega)] at this
      rw [nI_clamp (by omega), nI_1]
      exact this
theorem cR_check (h : rowL M r a cap xs) : Mt G 0 mtR_check [.ref r] M n 0 0 (rd M n (chk xs)) := by
  refine Mt.of rfl rfl (Nat.le_of_ble_eq_true rfl) ?_
  refine V_bipush (v := 17) dR_check_0 (by decide) ?_
  refine V_istore_n dR_check_2 (by decide) ?_
  refine V_iconst (v := 0) dR_check_3 (by decide) ?_
  refine V_istore_n dR_check_4 (by decide) ?_
  exact lR_check h xs.length 0 (by omega)
theorem cR_looksLike {r2 a2 cap2 : Nat} {zs : List Int32} (h : rowL M r a cap xs) (h2 : rowL M r2 a2 cap2 zs) : Mt G 1 mtR_looksLike [.ref r, .ref r2] M n 0 0 (rd M n (if xs.length = zs.length ∧ chk xs = chk zs then 1 else 0)) := by
  have h' := h
  have h2' := h2
  obtain ⟨f, g1, g2, g3, g4, g5, g6⟩ := h
  obtain ⟨f2, k1, k2, k3, k4, k5, k6⟩ := h2
  refine Mt.of rfl rfl (Nat.le_of_ble_eq_true rfl) ?_
  refine V_aload_n dR_looksLike_0 rfl ?_
  refine V_get dR_looksLike_1 fR_13 (g1) rfl ?_
  refine V_aload_n dR_looksLike_4 rfl ?_
  refine V_get dR_looksLike_5 fR_13 (k1) rfl ?_
  refine V_icmp_ne (tgt := 26) dR_looksLike_8 (by decide) (fun c => ?_) (fun c => ?_)
  · refine V_iconst (v := 0) dR_looksLike_26 (by decide) ?_
    refine V_zret dR_looksLike_27 rfl rfl ⟨?_, rfl, rfl⟩
    rw [if_neg (fun q => c (by rw [q.1]))]
  · have c' := (nI_eq (by omega) (by omega)).mp c
    refine V_aload_n dR_looksLike_11 rfl ?_
    refine V_rV0 dR_looksLike_12 clR_30 (Nat.le_of_ble_eq_true rfl) (g1) rfl (by decide) (cR_check h') ?_
    refine V_aload_n dR_looksLike_15 rfl ?_
    refine V_rV0 dR_looksLike_16 clR_30 (Nat.le_of_ble_eq_true rfl) (k1) rfl (by decide) (cR_check h2') ?_
    refine V_icmp_ne (tgt := 26) dR_looksLike_19 (by decide) (fun e => ?_) (fun e => ?_)
    · refine V_iconst (v := 0) dR_looksLike_26 (by decide) ?_
      refine V_zret dR_looksLike_27 rfl rfl ⟨?_, rfl, rfl⟩
      rw [if_neg (fun q => e q.2)]
    · refine V_iconst (v := 1) dR_looksLike_22 (by decide) ?_
      refine V_goto (tgt := 27) dR_looksLike_23 (by decide) ?_
      refine V_zret dR_looksLike_27 rfl rfl ⟨?_, rfl, rfl⟩
      rw [if_pos ⟨c', e⟩]
end ROW
