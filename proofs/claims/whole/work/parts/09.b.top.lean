/-! TwoSlots: the object at 1, the draft at 2, 3, the patch asked for at 19 .. 21, the device at 22 -/
def topX (M : aM) (dr : List Int32) (np av ao : Nat) (ab : List Int32) (ac : Nat) : Prop := M 1 = some (.inr (3, [.ref 2, .ref 4, .int (nI np), .ref 19, .int (nI av), .int (nI ao), .ref 22])) ∧ rowL M 2 3 40 dr ∧ patL M 19 20 21 ab ac
theorem topX.frame {M M' : aM} {dr : List Int32} {np av ao : Nat} {ab : List Int32} {ac : Nat} (h : topX M dr np av ao ab ac) (a : ∀ q, q ≤ 3 ∨ (19 ≤ q ∧ q ≤ 21) → M' q = M q) : topX M' dr np av ao ab ac :=
  ⟨(a 1 (by omega)).trans h.1, h.2.1.frame (a 2 (by omega)) (a 3 (by omega)), h.2.2.frame (a 19 (by omega)) (a 20 (by omega)) (a 21 (by omega))⟩
theorem devX.frame {M M' : aM} {vs : Nat → List Int32} {run sta tri tg ms nx : Nat} {sl : Nat → List Int32} {mr : Nat → Nat} {ub : List Int32} {uc : Nat} {th : Nat → Bool} (h : devX M vs run sta tri tg ms nx sl mr ub uc th) (a : ∀ q, (4 ≤ q ∧ q ≤ 18) ∨ (22 ≤ q ∧ q ≤ 32) → M' q = M q) : devX M' vs run sta tri tg ms nx sl mr ub uc th := by
  obtain ⟨h1, h2, h3, h4, h5, h6⟩ := h
  exact ⟨(a 22 (by omega)).trans h1, h2.frame (fun q q1 q2 => a q (by omega)), h3.frame (fun q q1 q2 => a q (by omega)), h4.frame (fun q q1 q2 => a q (by omega)), h5.frame (fun q q1 q2 => a q (by omega)), h6.frame (fun q q1 q2 => a q (by omega))⟩
def cA (np : Nat) (vs : Nat → List Int32) (av ao : Nat) (ab : List Int32) (ac : Nat) : Prop := av ≤ 6 ∧ ao ≤ 6 ∧ (av ≠ 0 → av ≤ np ∧ ao ≤ np ∧ ab = patchOf (vs av) (vs ao) ∧ ac = savedOf (vs av) (vs ao))
def cU (vs : Nat → List Int32) (run sta tg ms : Nat) (mr : Nat → Nat) (ub : List Int32) (th : Nat → Bool) : Prop := uwP sta → ub = patchOf (vs tg) (vs (mr run)) ∧ ms = miss th (blk ub)
def clsX (M : aM) (dr : List Int32) (np : Nat) (vs : Nat → List Int32) (run sta tri tg nx : Nat) (sl : Nat → List Int32) (mr : Nat → Nat) (th : Nat → Bool) : Prop :=
  ∃ (av ao : Nat) (ab : List Int32) (ac ms : Nat) (ub : List Int32) (uc : Nat), topX M dr np av ao ab ac ∧ devX M vs run sta tri tg ms nx sl mr ub uc th ∧ cA np vs av ao ab ac ∧ cU vs run sta tg ms mr ub th
def cQ (M : aM) (n : Nat) (x : Int32) (dr : List Int32) (np : Nat) (vs : Nat → List Int32) (run sta tri tg nx : Nat) (sl : Nat → List Int32) (mr : Nat → Nat) (th : Nat → Bool) : zQ := fun v M' n' => v = some (.int x) ∧ n' = n ∧ (∀ q, 33 ≤ q → M' q = M q) ∧ clsX M' dr np vs run sta tri tg nx sl mr th
/-- what holds of the state whatever the calls were -/
def inv (dr : List Int32) (np : Nat) (vs : Nat → List Int32) (run sta tri tg nx : Nat) (sl : Nat → List Int32) (mr : Nat → Nat) (th : Nat → Bool) : Prop :=
  dr.length ≤ 40 ∧ isB dr ∧ np ≤ 6 ∧ (∀ v, (vs v).length ≤ 40) ∧ (∀ v, isB (vs v)) ∧ (∀ v, v = 0 ∨ np < v → vs v = []) ∧ (∀ v, 0 < v → v ≤ np → vs v ≠ []) ∧ run ≤ 1 ∧ sta ≤ 4 ∧ tri ≤ 2 ∧ (∀ k, k < 2 → mr k ≤ np) ∧ (∀ k, k < 2 → (sl k).length ≤ 40) ∧ (uwP sta → 0 < tg ∧ tg ≤ np) ∧ (sta = 2 → nx < (patchOf (vs tg) (vs (mr run))).length) ∧ (∀ i, 9 ≤ i → th i = false) ∧ tg ≤ 6 ∧ nx ≤ 1000
section TOP
variable {G : wG} {M : aM} {n : Nat} {dr : List Int32} {np : Nat} {vs : Nat → List Int32} {run sta tri tg nx : Nat} {sl : Nat → List Int32} {mr : Nat → Nat} {th : Nat → Bool}
theorem cT_isByte (b : Int32) : Mt G 0 mtT_isByte [.int b] M n 0 0 (rd M n (if inB b then 1 else 0)) := by
  refine Mt.of rfl rfl (Nat.le_of_ble_eq_true rfl) ?_
  refine V_iload_n dT_isByte_0 rfl ?_
  refine V_if_lt (tgt := 15) dT_isByte_1 (by decide) (fun c1 => ?_) (fun c1 => ?_)
  · refine V_iconst (v := 0) dT_isByte_15 (by decide) ?_
    refine V_zret dT_isByte_16 rfl rfl ⟨?_, rfl, rfl⟩
    rw [if_neg (fun q => q.1 c1)]
  · refine V_iload_n dT_isByte_4 rfl ?_
    refine V_sipush (v := 255) dT_isByte_5 (by decide) ?_
    refine V_icmp_gt (tgt := 15) dT_isByte_8 (by decide) (fun c2 => ?_) (fun c2 => ?_)
    · refine V_iconst (v := 0) dT_isByte_15 (by decide) ?_
      refine V_zret dT_isByte_16 rfl rfl ⟨?_, rfl, rfl⟩
      rw [if_neg (fun q => Int32.not_le.mpr c2 q.2)]
    · refine V_iconst (v := 1) dT_isByte_11 (by decide) ?_
      refine V_goto (tgt := 16) dT_isByte_12 (by decide) ?_
      refine V_zret dT_isByte_16 rfl rfl ⟨?_, rfl, rfl⟩
      rw [if_pos ⟨c1, Int32.not_lt.mp c2⟩]
theorem cT_isSlot (s : Int32) : Mt G 0 mtT_isSlot [.int s] M n 0 0 (rd M n (if isS s then 1 else 0)) := by
  refine Mt.of rfl rfl (Nat.le_of_ble_eq_true rfl) ?_
  refine V_iload_n dT_isSlot_0 rfl ?_
  refine V_if_eq (tgt := 9) dT_isSlot_1 (by decide) (fun c1 => ?_) (fun c1 => ?_)
  · refine V_iconst (v := 1) dT_isSlot_9 (by decide) ?_
    refine V_goto (tgt := 14) dT_isSlot_10 (by decide) ?_
    refine V_zret dT_isSlot_14 rfl rfl ⟨?_, rfl, rfl⟩
    rw [if_pos (Or.inl c1)]
  · refine V_iload_n dT_isSlot_4 rfl ?_
    refine V_iconst (v := 1) dT_isSlot_5 (by decide) ?_
    refine V_icmp_ne (tgt := 13) dT_isSlot_6 (by decide) (fun c2 => ?_) (fun c2 => ?_)
    · refine V_iconst (v := 0) dT_isSlot_13 (by decide) ?_
      refine V_zret dT_isSlot_14 rfl rfl ⟨?_, rfl, rfl⟩
      rw [if_neg (fun q => q.elim c1 c2)]
    · refine V_iconst (v := 1) dT_isSlot_9 (by decide) ?_
      refine V_goto (tgt := 14) dT_isSlot_10 (by decide) ?_
      refine V_zret dT_isSlot_14 rfl rfl ⟨?_, rfl, rfl⟩
      rw [if_pos (Or.inr c2)]
theorem cT_isVersion {av ao : Nat} {ab : List Int32} {ac : Nat} (h : topX M dr np av ao ab ac) (v : Int32) : Mt G 0 mtT_isVersion [.ref 1, .int v] M n 0 0 (rd M n (if inV np v then 1 else 0)) := by
  refine Mt.of rfl rfl (Nat.le_of_ble_eq_true rfl) ?_
  refine V_iload_n dT_isVersion_0 rfl ?_
  refine V_if_lt (tgt := 16) dT_isVersion_1 (by decide) (fun c1 => ?_) (fun c1 => ?_)
  · refine V_iconst (v := 0) dT_isVersion_16 (by decide) ?_
    refine V_zret dT_isVersion_17 rfl rfl ⟨?_, rfl, rfl⟩
    rw [if_neg (fun q => q.1 c1)]
  · refine V_iload_n dT_isVersion_4 rfl ?_
    refine V_aload_n dT_isVersion_5 rfl ?_
    refine V_get dT_isVersion_6 fT_22 (h.1) rfl ?_
    refine V_icmp_gt (tgt := 16) dT_isVersion_9 (by decide) (fun c2 => ?_) (fun c2 => ?_)
    · refine V_iconst (v := 0) dT_isVersion_16 (by decide) ?_
      refine V_zret dT_isVersion_17 rfl rfl ⟨?_, rfl, rfl⟩
      rw [if_neg (fun q => Int32.not_le.mpr c2 q.2)]
    · refine V_iconst (v := 1) dT_isVersion_12 (by decide) ?_
      refine V_goto (tgt := 17) dT_isVersion_13 (by decide) ?_
      refine V_zret dT_isVersion_17 rfl rfl ⟨?_, rfl, rfl⟩
      rw [if_pos ⟨c1, Int32.not_lt.mp c2⟩]
theorem cT_feed (h : clsX M dr np vs run sta tri tg nx sl mr th) (b : Int32) : Mt G 1 mtT_feed [.ref 1, .int b] M n 0 0 (cQ M n (spFeed dr b).1 (spFeed dr b).2 np vs run sta tri tg nx sl mr th) := by
  have h' := h
  obtain ⟨av, ao, ab, ac, ms, ub, uc, hT, hD, hA, hUu⟩ := h
  obtain ⟨t1, t2, t3⟩ := id hT
  obtain ⟨f, g1, g2, g3, g4, -⟩ := id t2
  refine Mt.of rfl rfl (Nat.le_of_ble_eq_true rfl) ?_
  refine V_iload_n dT_feed_0 rfl ?_
  refine V_rS1 dT_feed_1 clT_48 (Nat.le_of_ble_eq_true rfl) (by decide) (cT_isByte b) ?_
  unfold spFeed
  refine V_if_ne (tgt := 9) dT_feed_4 (by decide) (fun c => ?_) (fun c => ?_)
  · rw [if_pos (if10 c)]
    refine V_aload_n dT_feed_9 rfl ?_
    refine V_get dT_feed_10 fT_14 (t1) rfl ?_
    refine V_rV0 dT_feed_13 clT_52 (Nat.le_of_ble_eq_true rfl) (g1) rfl (by decide) (cR_length t2) ?_
    refine V_bipush (v := 40) dT_feed_16 (by decide) ?_
    refine V_icmp_lt (tgt := 24) dT_feed_18 (by decide) (fun c2 => ?_) (fun c2 => ?_)
    · have hc : dr.length < 40 := Nat.lt_of_not_le fun q => Int32.not_lt.mpr (nI_le (a := 40) q (by omega)) c2
      rw [if_pos hc]
      refine V_aload_n dT_feed_24 rfl ?_
      refine V_get dT_feed_25 fT_14 (t1) rfl ?_
      refine V_iload_n dT_feed_28 rfl ?_
      refine V_wV1 dT_feed_29 clT_56 (Nat.le_of_ble_eq_true rfl) (g1) rfl (by decide) (cR_append t2 b) (fun M1 F1 X1 => ?_)
      rw [if_pos hc] at X1
      obtain ⟨f1, k1, -⟩ := id X1
      have t1' := (F1 1 (by decide) (by decide)).trans t1
      refine V_aload_n dT_feed_32 rfl ?_
      refine V_get dT_feed_33 fT_14 (t1') rfl ?_
      refine V_rV0 dT_feed_36 clT_52 (Nat.le_of_ble_eq_true rfl) (k1) rfl (by decide) (cR_length X1) ?_
      refine V_iret dT_feed_39 rfl ⟨?_, rfl, fun q hq => F1 q (by omega) (by omega), av, ao, ab, ac, ms, ub, uc, ⟨t1', X1, t3.frame (F1 _ (by decide) (by decide)) (F1 _ (by decide) (by decide)) (F1 _ (by decide) (by decide))⟩, hD.frame (fun q hq => F1 q (by omega) (by omega)), hA, hUu⟩
      rw [List.length_append, List.length_singleton]
    · have hc : ¬ dr.length < 40 := fun q => c2 (nI_lt (b := 40) q (by omega))
      rw [if_neg hc]
      refine V_bipush (v := (-2)) dT_feed_21 (by decide) ?_
      exact V_iret dT_feed_23 rfl ⟨rfl, rfl, fun _ _ => rfl, h'⟩
  · rw [if_neg (if00 c)]
    refine V_iconst (v := (-1)) dT_feed_7 (by decide) ?_
    exact V_iret dT_feed_8 rfl ⟨rfl, rfl, fun _ _ => rfl, h'⟩
theorem cT_confirm (h : clsX M dr np vs run sta tri tg nx sl mr th) (hs : sta ≤ 4) : Mt G 1 mtT_confirm [.ref 1] M n 0 0 (cQ M n (spConfirm sta).1 dr np vs run (spConfirm sta).2 tri tg nx sl mr th) := by
  have h' := h
  obtain ⟨av, ao, ab, ac, ms, ub, uc, hT, hD, hA, hUu⟩ := h
  obtain ⟨t1, t2, t3⟩ := id hT
  refine Mt.of rfl rfl (Nat.le_of_ble_eq_true rfl) ?_
  refine V_aload_n dT_confirm_0 rfl ?_
  refine V_get dT_confirm_1 fT_44 (t1) rfl ?_
  refine V_iconst (v := 4) dT_confirm_4 (by decide) ?_
  refine V_rV1 dT_confirm_5 clT_84 (Nat.le_of_ble_eq_true rfl) (hD.1) rfl (by decide) (cD_isIn hD hs 4 (by decide)) ?_
  unfold spConfirm
  refine V_if_ne (tgt := 14) dT_confirm_8 (by decide) (fun c => ?_) (fun c => ?_)
  · rw [if_pos (if10 c)]
    refine V_aload_n dT_confirm_14 rfl ?_
    refine V_get dT_confirm_15 fT_44 (t1) rfl ?_
    refine V_callV0 0 0 dT_confirm_18 clT_102 (Nat.le_of_ble_eq_true rfl) (hD.1) rfl (by decide) (by decide) (by decide) (cD_keep hD) (fun v M1 n' hQ => ?_)
    obtain ⟨q1, q2, q3, q4⟩ := hQ
    subst q1; subst q2
    refine V_iconst (v := 0) dT_confirm_21 (by decide) ?_
    exact V_iret dT_confirm_22 rfl ⟨rfl, rfl, fun q hq => q3 q (by omega), av, ao, ab, ac, ms, ub, uc, hT.frame (fun q hq => q3 q (by omega)), q4, hA, fun z => by omega⟩
  · rw [if_neg (if00 c)]
    refine V_bipush (v := (-4)) dT_confirm_11 (by decide) ?_
    exact V_iret dT_confirm_13 rfl ⟨rfl, rfl, fun _ _ => rfl, h'⟩
theorem cT_boot (h : clsX M dr np vs run sta tri tg nx sl mr th) (hi : inv dr np vs run sta tri tg nx sl mr th) : Mt G 5 mtT_boot [.ref 1] M n 0 0 (cQ M n (spBoot vs tg (run, sta, tri, nx, sl, mr)).1 dr np vs (spBoot vs tg (run, sta, tri, nx, sl, mr)).2.1 (spBoot vs tg (run, sta, tri, nx, sl, mr)).2.2.1 (spBoot vs tg (run, sta, tri, nx, sl, mr)).2.2.2.1 tg (spBoot vs tg (run, sta, tri, nx, sl, mr)).2.2.2.2.1 (spBoot vs tg (run, sta, tri, nx, sl, mr)).2.2.2.2.2.1 (spBoot vs tg (run, sta, tri, nx, sl, mr)).2.2.2.2.2.2 th) := by
  obtain ⟨i1, i2, i3, i4, i5, i6, i7, i8, i9, i10, i11, i12, i13, i14, i15, i16, i17⟩ := hi
  obtain ⟨av, ao, ab, ac, ms, ub, uc, hT, hD, hA, hUu⟩ := h
  obtain ⟨t1, t2, t3⟩ := id hT
  refine Mt.of rfl rfl (Nat.le_of_ble_eq_true rfl) ?_
  refine V_aload_n dT_boot_0 rfl ?_
  refine V_get dT_boot_1 fT_44 (t1) rfl ?_
  refine V_callV0 0 0 dT_boot_4 clT_99 (Nat.le_of_ble_eq_true rfl) (hD.1) rfl (by decide) (by decide) (by decide) (cD_start hD i8 i9 i10 (fun k hk => by have := i11 k hk; omega) (fun _ => by omega)) (fun v M1 n' hQ => ?_)
  obtain ⟨q1, q2, q3, q4⟩ := hQ
  subst q1; subst q2
  refine V_iret dT_boot_7 rfl ⟨rfl, rfl, fun q hq => q3 q (by omega), av, ao, ab, ac, ms, ub, uc, hT.frame (fun q hq => q3 q (by omega)), q4, hA, ?_⟩
  show cU vs (bFin vs (bStep tg (run, sta, tri, nx, sl, mr))).2.1 (bFin vs (bStep tg (run, sta, tri, nx, sl, mr))).2.2.1 tg ms (bFin vs (bStep tg (run, sta, tri, nx, sl, mr))).2.2.2.2.2.2 ub th
  -- only a state that stays under way keeps its update: its running slot and that slot's mark stay
  have key : ∀ x : bX, cU vs x.1 x.2.1 tg ms x.2.2.2.2.2 ub th → cU vs (bFin vs x).2.1 (bFin vs x).2.2.1 tg ms (bFin vs x).2.2.2.2.2.2 ub th := by
    intro x hx
    unfold bFin
    by_cases c1 : sndP vs x.2.2.2.2.1 x.2.2.2.2.2 x.1
    · rw [if_pos c1]; exact hx
    · rw [if_neg c1]
      by_cases c2 : sndP vs x.2.2.2.2.1 x.2.2.2.2.2 (1 - x.1)
      · rw [if_pos c2]
        intro z
        have z : uwP 0 := z
        omega
      · rw [if_neg c2]; exact hx
  refine key _ ?_
  unfold bStep
  by_cases c3 : sta = 3
  · rw [if_pos c3]; intro z; have z : uwP 4 := z; omega
  · rw [if_neg c3]
    by_cases c4 : sta = 4
    · rw [if_pos c4]
      by_cases c : 0 < tri
      · rw [if_pos c]; intro z; have z : uwP 4 := z; omega
      · rw [if_neg c]; intro z; have z : uwP 0 := z; omega
    · rw [if_neg c4]
      by_cases c2 : sta = 2
      · rw [if_pos c2]
        intro z
        obtain ⟨e1, e2⟩ := hUu (Or.inr (Or.inl c2))
        refine ⟨?_, e2⟩
        show ub = patchOf (vs tg) (vs (va_up mr (1 - run) tg run))
        rw [vu_ne (by omega)]
        exact e1
      · rw [if_neg c2]; exact hUu
end TOP
