/-! TwoSlots: the shop's calls -/
theorem i32_sub {a b : Nat} (ha : a < 2 ^ 31) (hb : b < 2 ^ 31) : (nI a - nI b).toInt = (a : Int) - b := by
  rw [Int32.toInt_sub, nI_toInt ha, nI_toInt hb]
  exact Int.bmod_eq_of_le (by omega) (by omega)
/-- k ≤ len - p, of counts -/
theorem le_sub_iff {k len p : Nat} (hk : k < 2 ^ 31) (hl : len < 2 ^ 31) (hp : p < 2 ^ 31) : nI k ≤ nI len - nI p ↔ k + p ≤ len := by
  rw [Int32.le_iff_toInt_le, i32_sub hl hp, nI_toInt hk]
  omega
theorem one_le {k : Int32} (h : 1 ≤ k) : ∃ j : Nat, 0 < j ∧ j < 2 ^ 31 ∧ k = nI j ∧ bN k = j := by
  have h0 : ¬ k < 0 := by
    rw [Int32.lt_iff_toInt_lt]
    rw [Int32.le_iff_toInt_le] at h
    have e1 : (1 : Int32).toInt = 1 := by decide
    have e0 : (0 : Int32).toInt = 0 := by decide
    omega
  obtain ⟨j, hj, e⟩ := nI_of h0
  subst e
  refine ⟨j, ?_, hj, rfl, nI_clamp hj⟩
  rcases Nat.eq_zero_or_pos j with q | q
  · subst q; exact absurd h (by decide)
  · exact q
theorem miss_false : ∀ k, miss (fun _ => false) k = k := by
  intro k
  induction k with
  | zero => rfl
  | succ k ih =>
    show (if false = true then _ else miss (fun _ => false) k + 1) = _
    rw [if_neg (by decide), ih]
section TOPC
variable {G : wG} {M M' : aM} {n : Nat} {dr : List Int32} {np : Nat} {vs : Nat → List Int32} {run sta tri tg nx : Nat} {sl : Nat → List Int32} {mr : Nat → Nat} {th : Nat → Bool}
theorem devX.ver {k ms : Nat} {ys ub : List Int32} {uc : Nat} (h : devX M vs run sta tri tg ms nx sl mr ub uc th) (hk : k < 7) (F : ∀ q, (4 ≤ q ∧ q ≤ 18) ∨ (22 ≤ q ∧ q ≤ 32) → q ≠ 5 + 2 * k → q ≠ 6 + 2 * k → M' q = M q) (X : rowL M' (5 + 2 * k) (6 + 2 * k) 40 ys) : devX M' (va_up vs k ys) run sta tri tg ms nx sl mr ub uc th := by
  obtain ⟨h1, ⟨⟨g, g1, g2⟩, g3⟩, h3, h4, h5, h6⟩ := h
  have a : ∀ lo hi, 22 ≤ lo → hi ≤ 32 → agr M M' lo hi := fun lo hi z1 z2 q q1 q2 => F q (by omega) (by omega) (by omega)
  refine ⟨(F 22 (by omega) (by omega) (by omega)).trans h1, ⟨⟨g, (F 4 (by omega) (by omega) (by omega)).trans g1, g2⟩, fun s hs => ?_⟩, h3.frame (a _ _ (by omega) (by omega)), h4.frame (a _ _ (by omega) (by omega)), h5.frame (a _ _ (by omega) (by omega)), h6.frame (a _ _ (by omega) (by omega))⟩
  by_cases e : s = k
  · subst e
    rw [vu_eq]
    exact X
  · rw [vu_ne e]
    exact (g3 s hs).frame (F _ (by omega) (by omega) (by omega)) (F _ (by omega) (by omega) (by omega))
theorem cT_reuse (h : clsX M dr np vs run sta tri tg nx sl mr th) (hi : inv dr np vs run sta tri tg nx sl mr th) (v p k : Int32) : Mt G 3 mtT_reuse [.ref 1, .int v, .int p, .int k] M n 0 0 (cQ M n (spReuse dr np vs v p k).1 (spReuse dr np vs v p k).2 np vs run sta tri tg nx sl mr th) := by
  obtain ⟨i1, i2, i3, i4, -⟩ := hi
  have h' := h
  obtain ⟨av, ao, ab, ac, ms, ub, uc, hT, hD, hA, hUu⟩ := h
  obtain ⟨t1, t2, t3⟩ := id hT
  obtain ⟨f, g1, g2, g3, g4, -⟩ := id t2
  obtain ⟨⟨gv, gv1, gv2⟩, gv3⟩ := id hD.2.1
  refine Mt.of rfl rfl (Nat.le_of_ble_eq_true rfl) ?_
  refine V_aload_n dT_reuse_0 rfl ?_
  refine V_iload_n dT_reuse_1 rfl ?_
  refine V_rV1 dT_reuse_2 clT_59 (Nat.le_of_ble_eq_true rfl) (t1) rfl (by decide) (cT_isVersion hT v) ?_
  unfold spReuse
  refine V_if_eq (tgt := 17) dT_reuse_5 (by decide) (fun c => ?_) (fun c => ?_)
  · rw [if_neg (fun q => if00 c q.1)]
    refine V_iconst (v := (-1)) dT_reuse_17 (by decide) ?_
    exact V_iret dT_reuse_18 rfl ⟨rfl, rfl, fun _ _ => rfl, h'⟩
  · have hv := if10 c
    refine V_iload_n dT_reuse_8 rfl ?_
    refine V_if_lt (tgt := 17) dT_reuse_9 (by decide) (fun c1 => ?_) (fun c1 => ?_)
    · rw [if_neg (fun q => q.2.1 c1)]
      refine V_iconst (v := (-1)) dT_reuse_17 (by decide) ?_
      exact V_iret dT_reuse_18 rfl ⟨rfl, rfl, fun _ _ => rfl, h'⟩
    · refine V_iload_n dT_reuse_12 rfl ?_
      refine V_iconst (v := 1) dT_reuse_13 (by decide) ?_
      refine V_icmp_ge (tgt := 19) dT_reuse_14 (by decide) (fun c2 => ?_) (fun c2 => ?_)
      · obtain ⟨a, ha, e, eb⟩ := inV_of hv i3
        have ha7 : a < 7 := by omega
        obtain ⟨k', hk0, hk1, ek, ekb⟩ := one_le c2
        obtain ⟨p', hp1, ep⟩ := nI_of c1
        subst e; subst ek; subst ep
        rw [eb, ekb, show bN (nI p') = p' from nI_clamp hp1]
        obtain ⟨fv, r1, -⟩ := id (gv3 a ha7)
        have hl := i4 a
        refine V_iload_n dT_reuse_19 rfl ?_
        refine V_aload_n dT_reuse_20 rfl ?_
        refine V_get dT_reuse_21 fT_18 (t1) rfl ?_
        refine V_iload_n dT_reuse_24 rfl ?_
        refine V_kaald dT_reuse_25 (gv1) rfl (ha7) (by decide) (gv2 a ha7) ?_
        refine V_rV0 dT_reuse_26 clT_52 (Nat.le_of_ble_eq_true rfl) (r1) rfl (by decide) (cR_length (gv3 a ha7)) ?_
        refine V_iload_n dT_reuse_29 rfl ?_
        refine V_isub dT_reuse_30 ?_
        refine V_icmp_le (tgt := 36) dT_reuse_31 (by decide) (fun c3 => ?_) (fun c3 => ?_)
        · rw [if_pos ⟨hv, c1, c2, c3⟩]
          have hkp := (le_sub_iff hk1 (by omega) hp1).mp c3
          refine V_iload_n dT_reuse_36 rfl ?_
          refine V_bipush (v := 40) dT_reuse_37 (by decide) ?_
          refine V_aload_n dT_reuse_39 rfl ?_
          refine V_get dT_reuse_40 fT_14 (t1) rfl ?_
          refine V_rV0 dT_reuse_43 clT_52 (Nat.le_of_ble_eq_true rfl) (g1) rfl (by decide) (cR_length t2) ?_
          refine V_isub dT_reuse_46 ?_
          refine V_icmp_le (tgt := 53) dT_reuse_47 (by decide) (fun c4 => ?_) (fun c4 => ?_)
          · rw [if_pos c4]
            have hkd := (le_sub_iff (len := 40) hk1 (by omega) (show dr.length < 2 ^ 31 by omega)).mp c4
            refine V_aload_n dT_reuse_53 rfl ?_
            refine V_get dT_reuse_54 fT_14 (t1) rfl ?_
            refine V_aload_n dT_reuse_57 rfl ?_
            refine V_get dT_reuse_58 fT_18 (t1) rfl ?_
            refine V_iload_n dT_reuse_61 rfl ?_
            refine V_kaald dT_reuse_62 (gv1) rfl (ha7) (by decide) (gv2 a ha7) ?_
            refine V_iload_n dT_reuse_63 rfl ?_
            refine V_iload_n dT_reuse_64 rfl ?_
            refine V_wV3 dT_reuse_65 clT_62 (Nat.le_of_ble_eq_true rfl) (g1) rfl (by decide) (cR_appendFrom t2 (gv3 a ha7) (by omega) (by omega) (by omega) (by omega) (by omega)) (fun M1 F1 X1 => ?_)
            rw [apf_fit (by omega) (by omega)] at X1
            obtain ⟨f1, k1, -⟩ := id X1
            have t1' := (F1 1 (by decide) (by decide)).trans t1
            refine V_aload_n dT_reuse_68 rfl ?_
            refine V_get dT_reuse_69 fT_14 (t1') rfl ?_
            refine V_rV0 dT_reuse_72 clT_52 (Nat.le_of_ble_eq_true rfl) (k1) rfl (by decide) (cR_length X1) ?_
            refine V_iret dT_reuse_75 rfl ⟨?_, rfl, fun q hq => F1 q (by omega) (by omega), av, ao, ab, ac, ms, ub, uc, ⟨t1', X1, t3.frame (F1 _ (by decide) (by decide)) (F1 _ (by decide) (by decide)) (F1 _ (by decide) (by decide))⟩, hD.frame (fun q hq => F1 q (by omega) (by omega)), hA, hUu⟩
            rw [List.length_append, List.length_take, List.length_drop, Nat.min_eq_left (by omega)]
          · rw [if_neg c4]
            refine V_bipush (v := (-2)) dT_reuse_50 (by decide) ?_
            exact V_iret dT_reuse_52 rfl ⟨rfl, rfl, fun _ _ => rfl, h'⟩
        · rw [if_neg (fun q => c3 q.2.2.2)]
          refine V_iconst (v := (-1)) dT_reuse_34 (by decide) ?_
          exact V_iret dT_reuse_35 rfl ⟨rfl, rfl, fun _ _ => rfl, h'⟩
      · rw [if_neg (fun q => c2 q.2.2.1)]
        refine V_iconst (v := (-1)) dT_reuse_17 (by decide) ?_
        exact V_iret dT_reuse_18 rfl ⟨rfl, rfl, fun _ _ => rfl, h'⟩
theorem cT_publish (h : clsX M dr np vs run sta tri tg nx sl mr th) (hi : inv dr np vs run sta tri tg nx sl mr th) : Mt G 3 mtT_publish [.ref 1] M n 0 0 (cQ M n (spPub dr np vs).1 (spPub dr np vs).2.1 (spPub dr np vs).2.2.1 (spPub dr np vs).2.2.2 run sta tri tg nx sl mr th) := by
  obtain ⟨i1, i2, i3, i4, i5, i6, i7, i8, i9, i10, i11, i12, i13, -⟩ := hi
  have h' := h
  obtain ⟨av, ao, ab, ac, ms, ub, uc, hT, hD, hA, hUu⟩ := h
  obtain ⟨t1, t2, t3⟩ := id hT
  obtain ⟨f, g1, g2, g3, g4, -⟩ := id t2
  refine Mt.of rfl rfl (Nat.le_of_ble_eq_true rfl) ?_
  refine V_aload_n dT_publish_0 rfl ?_
  refine V_get dT_publish_1 fT_14 (t1) rfl ?_
  refine V_rV0 dT_publish_4 clT_52 (Nat.le_of_ble_eq_true rfl) (g1) rfl (by decide) (cR_length t2) ?_
  unfold spPub
  refine V_if_ne (tgt := 12) dT_publish_7 (by decide) (fun c => ?_) (fun c => ?_)
  · have hc : ¬ dr.length = 0 := fun q => c (by rw [q]; rfl)
    rw [if_neg hc]
    refine V_aload_n dT_publish_12 rfl ?_
    refine V_get dT_publish_13 fT_22 (t1) rfl ?_
    refine V_bipush (v := 6) dT_publish_16 (by decide) ?_
    refine V_icmp_lt (tgt := 24) dT_publish_18 (by decide) (fun c2 => ?_) (fun c2 => ?_)
    · have hn : np < 6 := Nat.lt_of_not_le fun q => Int32.not_lt.mpr (nI_le (a := 6) q (by omega)) c2
      have hn7 : np + 1 < 7 := by omega
      rw [if_pos hn]
      refine V_aload_n dT_publish_24 rfl ?_
      refine V_dup dT_publish_25 rfl ?_
      refine V_get dT_publish_26 fT_22 (t1) rfl ?_
      refine V_iconst (v := 1) dT_publish_29 (by decide) ?_
      refine V_iadd dT_publish_30 ?_
      refine V_put dT_publish_31 fT_22 (t1) rfl rfl (Nat.le_of_ble_eq_true rfl) ?_
      generalize hM1 : hU M 1 _ = M1
      have m1 : M1 1 = some (.inr (3, [.ref 2, .ref 4, .int (nI (np + 1)), .ref 19, .int (nI av), .int (nI ao), .ref 22])) := by
        rw [← hM1, hU_eq]
        show some (Sum.inr (3, [Value.ref 2, .ref 4, .int (nI np + 1), .ref 19, .int (nI av), .int (nI ao), .ref 22])) = _
        rw [nI_1]
      have F0 : ∀ q, q ≠ 1 → M1 q = M q := fun q hq => by rw [← hM1]; exact hU_ne hq
      have t2' : rowL M1 2 3 40 dr := t2.frame (F0 _ (by decide)) (F0 _ (by decide))
      have hD1 := hD.frame (M' := M1) (fun q hq => F0 q (by omega))
      obtain ⟨⟨gv, gv1, gv2⟩, gv3⟩ := id hD1.2.1
      obtain ⟨fd, d1, -⟩ := id t2'
      obtain ⟨fv, r1, -⟩ := id (gv3 _ hn7)
      refine V_aload_n dT_publish_34 rfl ?_
      refine V_get dT_publish_35 fT_18 (m1) rfl ?_
      refine V_aload_n dT_publish_38 rfl ?_
      refine V_get dT_publish_39 fT_22 (m1) rfl ?_
      refine V_kaald dT_publish_42 (gv1) rfl (hn7) (by decide) (gv2 _ hn7) ?_
      refine V_aload_n dT_publish_43 rfl ?_
      refine V_get dT_publish_44 fT_14 (m1) rfl ?_
      refine V_iconst (v := 0) dT_publish_47 (by decide) ?_
      refine V_aload_n dT_publish_48 rfl ?_
      refine V_get dT_publish_49 fT_14 (m1) rfl ?_
      refine V_rV0 dT_publish_52 clT_52 (Nat.le_of_ble_eq_true rfl) (d1) rfl (by decide) (cR_length t2') ?_
      refine V_wV3 dT_publish_55 clT_62 (Nat.le_of_ble_eq_true rfl) (r1) rfl (by decide) (cR_appendFrom (p := 0) (gv3 _ hn7) t2' (by omega) (by omega) (by omega) (by omega) (by omega)) (fun M2 F2 X2 => ?_)
      rw [i6 (np + 1) (by omega), apf_fit (by simp; omega) (by omega), List.drop_zero, List.take_length, List.nil_append] at X2
      have m2 := (F2 1 (by omega) (by omega)).trans m1
      have t2'' : rowL M2 2 3 40 dr := t2'.frame (F2 _ (by omega) (by omega)) (F2 _ (by omega) (by omega))
      obtain ⟨fd2, d2, -⟩ := id t2''
      refine V_aload_n dT_publish_58 rfl ?_
      refine V_get dT_publish_59 fT_14 (m2) rfl ?_
      refine V_wV0 dT_publish_62 clT_66 (Nat.le_of_ble_eq_true rfl) (d2) rfl (by decide) (cR_empty t2'') (fun M3 F3 X3 => ?_)
      have m3 := (F3 1 (by decide) (by decide)).trans m2
      refine V_aload_n dT_publish_65 rfl ?_
      refine V_get dT_publish_66 fT_22 (m3) rfl ?_
      have hv : ∀ w, w ≤ np → va_up vs (np + 1) dr w = vs w := fun w hw => vu_ne (by omega)
      refine V_iret dT_publish_69 rfl ⟨rfl, rfl, fun q hq => by rw [F3 q (by omega) (by omega), F2 q (by omega) (by omega), F0 q (by omega)], av, ao, ab, ac, ms, ub, uc, ⟨m3, X3, t3.frame (by rw [F3 _ (by decide) (by decide), F2 _ (by omega) (by omega), F0 _ (by decide)]) (by rw [F3 _ (by decide) (by decide), F2 _ (by omega) (by omega), F0 _ (by decide)]) (by rw [F3 _ (by decide) (by decide), F2 _ (by omega) (by omega), F0 _ (by decide)])⟩, hD1.ver hn7 (fun q q1 q2 q3 => by rw [F3 q (by omega) (by omega), F2 q q2 q3]) (X2.frame (F3 _ (by omega) (by omega)) (F3 _ (by omega) (by omega))), ⟨hA.1, hA.2.1, fun z => ?_⟩, fun z => ?_⟩
      · obtain ⟨z1, z2, z3, z4⟩ := hA.2.2 z
        show av ≤ np + 1 ∧ ao ≤ np + 1 ∧ ab = patchOf (va_up vs (np + 1) dr av) (va_up vs (np + 1) dr ao) ∧ ac = savedOf (va_up vs (np + 1) dr av) (va_up vs (np + 1) dr ao)
        rw [hv _ z1, hv _ z2]
        exact ⟨by omega, by omega, z3, z4⟩
      · have z1 := i13 z
        have z2 := i11 run (by omega)
        show ub = patchOf (va_up vs (np + 1) dr tg) (va_up vs (np + 1) dr (mr run)) ∧ _
        rw [hv _ z1.2, hv _ z2]
        exact hUu z
    · have hn : ¬ np < 6 := fun q => c2 (nI_lt (b := 6) q (by omega))
      rw [if_neg hn]
      refine V_bipush (v := (-2)) dT_publish_21 (by decide) ?_
      exact V_iret dT_publish_23 rfl ⟨rfl, rfl, fun _ _ => rfl, h'⟩
  · have hc : dr.length = 0 := (nI_eq (b := 0) (by omega) (by omega)).mp c
    rw [if_pos hc]
    refine V_iconst (v := (-1)) dT_publish_10 (by decide) ?_
    exact V_iret dT_publish_11 rfl ⟨rfl, rfl, fun _ _ => rfl, h'⟩
/-- findPatch: what it leaves where it finds one -/
def fpQ (M : aM) (n : Nat) (dr : List Int32) (np : Nat) (vs : Nat → List Int32) (run sta tri tg nx : Nat) (sl : Nat → List Int32) (mr : Nat → Nat) (th : Nat → Bool) (v o : Nat) : zQ := fun x M' n' => x = some (.int 1) ∧ n' = n ∧ (∀ q, 33 ≤ q → M' q = M q) ∧ clsX M' dr np vs run sta tri tg nx sl mr th ∧ ∃ av ao, topX M' dr np av ao (patchOf (vs v) (vs o)) (savedOf (vs v) (vs o))
theorem cT_findPatch (h : clsX M dr np vs run sta tri tg nx sl mr th) (hi : inv dr np vs run sta tri tg nx sl mr th) (v o : Int32) : Mt G 5 mtT_findPatch [.ref 1, .int v, .int o] M n 0 0 (fun x M' n' => if okPair np v o then fpQ M n dr np vs run sta tri tg nx sl mr th (bN v) (bN o) x M' n' else (x = some (.int 0) ∧ M' = M ∧ n' = n)) := by
  obtain ⟨i1, i2, i3, i4, -⟩ := hi
  have h' := h
  obtain ⟨av, ao, ab, ac, ms, ub, uc, hT, hD, hA, hUu⟩ := h
  obtain ⟨t1, t2, t3⟩ := id hT
  obtain ⟨⟨gv, gv1, gv2⟩, gv3⟩ := id hD.2.1
  refine Mt.of rfl rfl (Nat.le_of_ble_eq_true rfl) ?_
  refine V_iload_n dT_findPatch_0 rfl ?_
  refine V_if_eq (tgt := 20) dT_findPatch_1 (by decide) (fun c0 => ?_) (fun c0 => ?_)
  · refine V_iconst (v := 0) dT_findPatch_20 (by decide) ?_
    refine V_zret dT_findPatch_21 rfl rfl ?_
    rw [if_neg (fun q => q.1 c0)]
    exact ⟨rfl, rfl, rfl⟩
  · refine V_aload_n dT_findPatch_4 rfl ?_
    refine V_iload_n dT_findPatch_5 rfl ?_
    refine V_rV1 dT_findPatch_6 clT_59 (Nat.le_of_ble_eq_true rfl) (t1) rfl (by decide) (cT_isVersion hT v) ?_
    refine V_if_eq (tgt := 20) dT_findPatch_9 (by decide) (fun c1 => ?_) (fun c1 => ?_)
    · refine V_iconst (v := 0) dT_findPatch_20 (by decide) ?_
      refine V_zret dT_findPatch_21 rfl rfl ?_
      rw [if_neg (fun q => if00 c1 q.2.1)]
      exact ⟨rfl, rfl, rfl⟩
    · refine V_aload_n dT_findPatch_12 rfl ?_
      refine V_iload_n dT_findPatch_13 rfl ?_
      refine V_rV1 dT_findPatch_14 clT_59 (Nat.le_of_ble_eq_true rfl) (t1) rfl (by decide) (cT_isVersion hT o) ?_
      refine V_if_ne (tgt := 22) dT_findPatch_17 (by decide) (fun c2 => ?_) (fun c2 => ?_)
      · have hv := if10 c1
        have ho := if10 c2
        obtain ⟨a, ha, e, eb⟩ := inV_of hv i3
        obtain ⟨b, hb, e', eb'⟩ := inV_of ho i3
        refine V_post (Q' := fpQ M n dr np vs run sta tri tg nx sl mr th a b) (fun x M' n' hq => by rw [if_pos ⟨c0, hv, ho⟩, eb, eb']; exact hq) ?_
        subst e; subst e'
        have ha7 : a < 7 := by omega
        have hb7 : b < 7 := by omega
        have ha0 : a ≠ 0 := fun q => c0 (by rw [q]; rfl)
        obtain ⟨p1, -⟩ := id t3
        have miss1 : V G mtT_findPatch 5 (fpQ M n dr np vs run sta tri tg nx sl mr th a b) 0 0 38 [some (.ref 1), some (.int (nI a)), some (.int (nI b))] [] M n := by
          refine V_aload_n dT_findPatch_38 rfl ?_
          refine V_get dT_findPatch_39 fT_29 (t1) rfl ?_
          refine V_aload_n dT_findPatch_42 rfl ?_
          refine V_get dT_findPatch_43 fT_18 (t1) rfl ?_
          refine V_iload_n dT_findPatch_46 rfl ?_
          refine V_kaald dT_findPatch_47 (gv1) rfl (ha7) (by decide) (gv2 a ha7) ?_
          refine V_aload_n dT_findPatch_48 rfl ?_
          refine V_get dT_findPatch_49 fT_18 (t1) rfl ?_
          refine V_iload_n dT_findPatch_52 rfl ?_
          refine V_kaald dT_findPatch_53 (gv1) rfl (hb7) (by decide) (gv2 b hb7) ?_
          refine V_callV2 0 0 dT_findPatch_54 clT_139 (Nat.le_of_ble_eq_true rfl) (p1) rfl (by decide) (by decide) (by decide) (cP_make t3 (gv3 a ha7) (gv3 b hb7) (i4 a) ⟨by omega, by omega, by omega⟩ ⟨by omega, by omega, by omega⟩ ⟨by omega, by omega, by omega⟩ ⟨by omega, by omega, by omega⟩) (fun x M1 n' hQ => ?_)
          obtain ⟨q1, q2, F1, X1⟩ := hQ
          subst q1; subst q2
          have m1 := (F1 1 (by decide) (by decide) (by decide)).trans t1
          refine V_aload_n dT_findPatch_57 rfl ?_
          refine V_iload_n dT_findPatch_58 rfl ?_
          refine V_put dT_findPatch_59 fT_33 (m1) rfl rfl (Nat.le_of_ble_eq_true rfl) ?_
          refine V_aload_n dT_findPatch_62 rfl ?_
          refine V_iload_n dT_findPatch_63 rfl ?_
          refine V_put dT_findPatch_64 fT_36 (hU_eq _ _ _) rfl rfl (Nat.le_of_ble_eq_true rfl) ?_
          refine V_iconst (v := 1) dT_findPatch_67 (by decide) ?_
          generalize hM3 : hU (hU M1 1 _) 1 _ = M3
          have F3 : ∀ q, q ≠ 1 → M3 q = M1 q := fun q hq => by rw [← hM3, hU_ne hq, hU_ne hq]
          have T3 : topX M3 dr np a b (patchOf (vs a) (vs b)) (savedOf (vs a) (vs b)) := ⟨by rw [← hM3]; exact hU_eq _ _ _, t2.frame (by rw [F3 _ (by decide), F1 _ (by decide) (by decide) (by decide)]) (by rw [F3 _ (by decide), F1 _ (by decide) (by decide) (by decide)]), X1.frame (F3 _ (by decide)) (F3 _ (by decide)) (F3 _ (by decide))⟩
          exact V_zret dT_findPatch_68 rfl rfl ⟨rfl, rfl, fun q hq => by rw [F3 q (by omega), F1 q (by omega) (by omega) (by omega)], ⟨a, b, _, _, ms, ub, uc, T3, hD.frame (fun q hq => by rw [F3 q (by omega), F1 q (by omega) (by omega) (by omega)]), ⟨by omega, by omega, fun _ => ⟨ha, hb, rfl, rfl⟩⟩, hUu⟩, a, b, T3⟩
        refine V_iload_n dT_findPatch_22 rfl ?_
        refine V_aload_n dT_findPatch_23 rfl ?_
        refine V_get dT_findPatch_24 fT_33 (t1) rfl ?_
        refine V_icmp_ne (tgt := 38) dT_findPatch_27 (by decide) (fun c3 => ?_) (fun c3 => ?_)
        · exact miss1
        · have ea : a = av := (nI_eq (by omega) (by have := hA.1; omega)).mp c3
          refine V_iload_n dT_findPatch_30 rfl ?_
          refine V_aload_n dT_findPatch_31 rfl ?_
          refine V_get dT_findPatch_32 fT_36 (t1) rfl ?_
          refine V_icmp_eq (tgt := 67) dT_findPatch_35 (by decide) (fun c4 => ?_) (fun c4 => ?_)
          · have eo : b = ao := (nI_eq (by omega) (by have := hA.2.1; omega)).mp c4
            subst ea; subst eo
            obtain ⟨z1, z2, z3, z4⟩ := hA.2.2 ha0
            refine V_iconst (v := 1) dT_findPatch_67 (by decide) ?_
            exact V_zret dT_findPatch_68 rfl rfl ⟨rfl, rfl, fun _ _ => rfl, h', a, b, by rw [← z3, ← z4]; exact hT⟩
          · exact miss1
      · refine V_iconst (v := 0) dT_findPatch_20 (by decide) ?_
        refine V_zret dT_findPatch_21 rfl rfl ?_
        rw [if_neg (fun q => if00 c2 q.2.2)]
        exact ⟨rfl, rfl, rfl⟩
theorem cT_patch (h : clsX M dr np vs run sta tri tg nx sl mr th) (hi : inv dr np vs run sta tri tg nx sl mr th) (v o : Int32) : Mt G 6 mtT_patch [.ref 1, .int v, .int o] M n 0 0 (cQ M n (spPatch np vs v o) dr np vs run sta tri tg nx sl mr th) := by
  obtain ⟨av0, ao0, ab0, ac0, ms0, ub0, uc0, hT0, -⟩ := id h
  have h1 := hT0.1
  refine Mt.of rfl rfl (Nat.le_of_ble_eq_true rfl) ?_
  refine V_aload_n dT_patch_0 rfl ?_
  refine V_iload_n dT_patch_1 rfl ?_
  refine V_iload_n dT_patch_2 rfl ?_
  refine V_callV2 0 0 dT_patch_3 clT_69 (Nat.le_of_ble_eq_true rfl) (h1) rfl (by decide) (by decide) (by decide) (cT_findPatch h hi v o) (fun x M1 n' hQ => ?_)
  unfold spPatch
  by_cases c : okPair np v o
  · rw [if_pos c] at hQ ⊢
    obtain ⟨q1, q2, q3, q4, av, ao, q5⟩ := hQ
    subst q1; subst q2
    obtain ⟨p1, -⟩ := id q5.2.2
    refine V_if_eq (tgt := 19) dT_patch_6 (by decide) (fun c1 => ?_) (fun c1 => ?_)
    · exact absurd c1 (by decide)
    · refine V_aload_n dT_patch_9 rfl ?_
      refine V_get dT_patch_10 fT_29 (q5.1) rfl ?_
      refine V_rV0 dT_patch_13 clT_73 (Nat.le_of_ble_eq_true rfl) (p1) rfl (by decide) (cP_length q5.2.2) ?_
      refine V_goto (tgt := 20) dT_patch_16 (by decide) ?_
      exact V_iret dT_patch_20 rfl ⟨rfl, rfl, q3, q4⟩
  · rw [if_neg c] at hQ ⊢
    obtain ⟨q1, q2, q3⟩ := hQ
    subst q1; subst q2; subst q3
    refine V_if_eq (tgt := 19) dT_patch_6 (by decide) (fun c1 => ?_) (fun c1 => ?_)
    · refine V_iconst (v := (-1)) dT_patch_19 (by decide) ?_
      exact V_iret dT_patch_20 rfl ⟨rfl, rfl, fun _ _ => rfl, h⟩
    · exact absurd rfl c1
theorem cT_saved (h : clsX M dr np vs run sta tri tg nx sl mr th) (hi : inv dr np vs run sta tri tg nx sl mr th) (v o : Int32) : Mt G 6 mtT_saved [.ref 1, .int v, .int o] M n 0 0 (cQ M n (spSaved np vs v o) dr np vs run sta tri tg nx sl mr th) := by
  obtain ⟨av0, ao0, ab0, ac0, ms0, ub0, uc0, hT0, -⟩ := id h
  have h1 := hT0.1
  refine Mt.of rfl rfl (Nat.le_of_ble_eq_true rfl) ?_
  refine V_aload_n dT_saved_0 rfl ?_
  refine V_iload_n dT_saved_1 rfl ?_
  refine V_iload_n dT_saved_2 rfl ?_
  refine V_callV2 0 0 dT_saved_3 clT_69 (Nat.le_of_ble_eq_true rfl) (h1) rfl (by decide) (by decide) (by decide) (cT_findPatch h hi v o) (fun x M1 n' hQ => ?_)
  unfold spSaved
  by_cases c : okPair np v o
  · rw [if_pos c] at hQ ⊢
    obtain ⟨q1, q2, q3, q4, av, ao, q5⟩ := hQ
    subst q1; subst q2
    obtain ⟨p1, -⟩ := id q5.2.2
    refine V_if_eq (tgt := 19) dT_saved_6 (by decide) (fun c1 => ?_) (fun c1 => ?_)
    · exact absurd c1 (by decide)
    · refine V_aload_n dT_saved_9 rfl ?_
      refine V_get dT_saved_10 fT_29 (q5.1) rfl ?_
      refine V_rV0 dT_saved_13 clT_81 (Nat.le_of_ble_eq_true rfl) (p1) rfl (by decide) (cP_copied q5.2.2) ?_
      refine V_goto (tgt := 20) dT_saved_16 (by decide) ?_
      exact V_iret dT_saved_20 rfl ⟨rfl, rfl, q3, q4⟩
  · rw [if_neg c] at hQ ⊢
    obtain ⟨q1, q2, q3⟩ := hQ
    subst q1; subst q2; subst q3
    refine V_if_eq (tgt := 19) dT_saved_6 (by decide) (fun c1 => ?_) (fun c1 => ?_)
    · refine V_iconst (v := (-1)) dT_saved_19 (by decide) ?_
      exact V_iret dT_saved_20 rfl ⟨rfl, rfl, fun _ _ => rfl, h⟩
    · exact absurd rfl c1
theorem cT_patchByte (h : clsX M dr np vs run sta tri tg nx sl mr th) (hi : inv dr np vs run sta tri tg nx sl mr th) (v o i : Int32) : Mt G 6 mtT_patchByte [.ref 1, .int v, .int o, .int i] M n 0 0 (cQ M n (spByte np vs v o i) dr np vs run sta tri tg nx sl mr th) := by
  obtain ⟨av0, ao0, ab0, ac0, ms0, ub0, uc0, hT0, -⟩ := id h
  have h1 := hT0.1
  refine Mt.of rfl rfl (Nat.le_of_ble_eq_true rfl) ?_
  refine V_aload_n dT_patchByte_0 rfl ?_
  refine V_iload_n dT_patchByte_1 rfl ?_
  refine V_iload_n dT_patchByte_2 rfl ?_
  refine V_callV2 0 0 dT_patchByte_3 clT_69 (Nat.le_of_ble_eq_true rfl) (h1) rfl (by decide) (by decide) (by decide) (cT_findPatch h hi v o) (fun x M1 n' hQ => ?_)
  unfold spByte
  by_cases c : okPair np v o
  · rw [if_pos c] at hQ ⊢
    obtain ⟨q1, q2, q3, q4, av, ao, q5⟩ := hQ
    subst q1; subst q2
    obtain ⟨p1, -⟩ := id q5.2.2
    refine V_if_eq (tgt := 31) dT_patchByte_6 (by decide) (fun c1 => ?_) (fun c1 => ?_)
    · exact absurd c1 (by decide)
    · refine V_aload_n dT_patchByte_9 rfl ?_
      refine V_get dT_patchByte_10 fT_29 (q5.1) rfl ?_
      refine V_iload_n dT_patchByte_13 rfl ?_
      refine V_rV1 dT_patchByte_14 clT_74 (Nat.le_of_ble_eq_true rfl) (p1) rfl (by decide) (cP_has q5.2.2 i) ?_
      refine V_if_eq (tgt := 31) dT_patchByte_17 (by decide) (fun c2 => ?_) (fun c2 => ?_)
      · rw [if_neg (if00 c2)]
        refine V_iconst (v := (-1)) dT_patchByte_31 (by decide) ?_
        exact V_iret dT_patchByte_32 rfl ⟨rfl, rfl, q3, q4⟩
      · rw [if_pos (if10 c2)]
        refine V_aload_n dT_patchByte_20 rfl ?_
        refine V_get dT_patchByte_21 fT_29 (q5.1) rfl ?_
        refine V_iload_n dT_patchByte_24 rfl ?_
        refine V_rV1 dT_patchByte_25 clT_77 (Nat.le_of_ble_eq_true rfl) (p1) rfl (by decide) (cP_at q5.2.2 i) ?_
        refine V_goto (tgt := 32) dT_patchByte_28 (by decide) ?_
        exact V_iret dT_patchByte_32 rfl ⟨rfl, rfl, q3, q4⟩
  · rw [if_neg c] at hQ ⊢
    obtain ⟨q1, q2, q3⟩ := hQ
    subst q1; subst q2; subst q3
    refine V_if_eq (tgt := 31) dT_patchByte_6 (by decide) (fun c1 => ?_) (fun c1 => ?_)
    · refine V_iconst (v := (-1)) dT_patchByte_31 (by decide) ?_
      exact V_iret dT_patchByte_32 rfl ⟨rfl, rfl, fun _ _ => rfl, h⟩
    · exact absurd rfl c1
end TOPC
