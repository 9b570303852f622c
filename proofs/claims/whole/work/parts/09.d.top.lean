/-! TwoSlots: the device's calls -/
section TOPD
variable {G : wG} {M M' : aM} {n : Nat} {dr : List Int32} {np : Nat} {vs : Nat → List Int32} {run sta tri tg nx : Nat} {sl : Nat → List Int32} {mr : Nat → Nat} {th : Nat → Bool}
theorem cT_offer (h : clsX M dr np vs run sta tri tg nx sl mr th) (hi : inv dr np vs run sta tri tg nx sl mr th) (v : Int32) : Mt G 6 mtT_offer [.ref 1, .int v] M n 0 0 (cQ M n (spOffer np vs run sta tg mr th v).1 dr np vs run (spOffer np vs run sta tg mr th v).2.1 tri (spOffer np vs run sta tg mr th v).2.2.1 nx sl mr (spOffer np vs run sta tg mr th v).2.2.2) := by
  obtain ⟨i1, i2, i3, i4, i5, i6, i7, i8, i9, i10, i11, i12, i13, -⟩ := hi
  have h' := h
  obtain ⟨av, ao, ab, ac, ms, ub, uc, hT, hD, hA, hUu⟩ := h
  obtain ⟨t1, t2, t3⟩ := id hT
  refine Mt.of rfl rfl (Nat.le_of_ble_eq_true rfl) ?_
  unfold spOffer
  refine V_iload_n dT_offer_0 rfl ?_
  refine V_if_eq (tgt := 12) dT_offer_1 (by decide) (fun c0 => ?_) (fun c0 => ?_)
  · rw [if_neg (fun q => q.1 c0)]
    refine V_iconst (v := (-1)) dT_offer_12 (by decide) ?_
    exact V_iret dT_offer_13 rfl ⟨rfl, rfl, fun _ _ => rfl, h'⟩
  · refine V_aload_n dT_offer_4 rfl ?_
    refine V_iload_n dT_offer_5 rfl ?_
    refine V_rV1 dT_offer_6 clT_59 (Nat.le_of_ble_eq_true rfl) (t1) rfl (by decide) (cT_isVersion hT v) ?_
    refine V_if_ne (tgt := 14) dT_offer_9 (by decide) (fun c1 => ?_) (fun c1 => ?_)
    · have hv := if10 c1
      rw [if_pos ⟨c0, hv⟩]
      obtain ⟨a, ha, e, eb⟩ := inV_of hv i3
      rw [eb]
      subst e
      refine V_aload_n dT_offer_14 rfl ?_
      refine V_get dT_offer_15 fT_44 (t1) rfl ?_
      refine V_iconst (v := 3) dT_offer_18 (by decide) ?_
      refine V_rV1 dT_offer_19 clT_84 (Nat.le_of_ble_eq_true rfl) (hD.1) rfl (by decide) (cD_isIn hD i9 3 (by decide)) ?_
      refine V_if_ne (tgt := 36) dT_offer_22 (by decide) (fun c3 => ?_) (fun c3 => ?_)
      · rw [if_pos (Or.inl (if10 c3))]
        refine V_bipush (v := (-4)) dT_offer_36 (by decide) ?_
        exact V_iret dT_offer_38 rfl ⟨rfl, rfl, fun _ _ => rfl, h'⟩
      · refine V_aload_n dT_offer_25 rfl ?_
        refine V_get dT_offer_26 fT_44 (t1) rfl ?_
        refine V_iconst (v := 4) dT_offer_29 (by decide) ?_
        refine V_rV1 dT_offer_30 clT_84 (Nat.le_of_ble_eq_true rfl) (hD.1) rfl (by decide) (cD_isIn hD i9 4 (by decide)) ?_
        refine V_if_eq (tgt := 39) dT_offer_33 (by decide) (fun c4 => ?_) (fun c4 => ?_)
        · rw [if_neg (fun q => q.elim (if00 c3) (if00 c4))]
          have hmr := i11 run (by omega)
          refine V_aload_n dT_offer_39 rfl ?_
          refine V_get dT_offer_40 fT_44 (t1) rfl ?_
          refine V_iload_n dT_offer_43 rfl ?_
          refine V_callV1 0 0 dT_offer_44 clT_87 (Nat.le_of_ble_eq_true rfl) (hD.1) rfl (by decide) (by decide) (by decide) (cD_beginUpdate hD i8 (show a < 7 by omega) (by omega) (i4 a)) (fun x M1 n' hQ => ?_)
          obtain ⟨q1, q2, q3, q4⟩ := hQ
          subst q1; subst q2
          refine V_iret dT_offer_47 rfl ⟨rfl, rfl, fun q hq => q3 q (by omega), av, ao, ab, ac, _, _, _, hT.frame (fun q hq => q3 q (by omega)), q4, hA, fun z => ⟨rfl, ?_⟩⟩
          show blk _ = miss (fun _ => false) _
          rw [miss_false]
        · rw [if_pos (Or.inr (if10 c4))]
          refine V_bipush (v := (-4)) dT_offer_36 (by decide) ?_
          exact V_iret dT_offer_38 rfl ⟨rfl, rfl, fun _ _ => rfl, h'⟩
    · rw [if_neg (fun q => if00 c1 q.2)]
      refine V_iconst (v := (-1)) dT_offer_12 (by decide) ?_
      exact V_iret dT_offer_13 rfl ⟨rfl, rfl, fun _ _ => rfl, h'⟩
theorem cT_block (h : clsX M dr np vs run sta tri tg nx sl mr th) (hi : inv dr np vs run sta tri tg nx sl mr th) (i z : Int32) : Mt G 3 mtT_block [.ref 1, .int i, .int z] M n 0 0 (cQ M n (spBlock vs run sta tg nx sl mr th i z).1 dr np vs run (spBlock vs run sta tg nx sl mr th i z).2.1 tri tg (spBlock vs run sta tg nx sl mr th i z).2.2.1 (spBlock vs run sta tg nx sl mr th i z).2.2.2.1 (spBlock vs run sta tg nx sl mr th i z).2.2.2.2.1 (spBlock vs run sta tg nx sl mr th i z).2.2.2.2.2) := by
  obtain ⟨i1, i2, i3, i4, i5, i6, i7, i8, i9, i10, i11, i12, i13, -⟩ := hi
  have h' := h
  obtain ⟨av, ao, ab, ac, ms, ub, uc, hT, hD, hA, hUu⟩ := h
  obtain ⟨t1, t2, t3⟩ := id hT
  refine Mt.of rfl rfl (Nat.le_of_ble_eq_true rfl) ?_
  unfold spBlock
  refine V_iload_n dT_block_0 rfl ?_
  refine V_rS1 dT_block_1 clT_48 (Nat.le_of_ble_eq_true rfl) (by decide) (cT_isByte z) ?_
  refine V_if_eq (tgt := 18) dT_block_4 (by decide) (fun c1 => ?_) (fun c1 => ?_)
  · rw [if_neg (fun q => if00 c1 q.1)]
    refine V_iconst (v := (-1)) dT_block_18 (by decide) ?_
    exact V_iret dT_block_19 rfl ⟨rfl, rfl, fun _ _ => rfl, h'⟩
  · refine V_aload_n dT_block_7 rfl ?_
    refine V_get dT_block_8 fT_44 (t1) rfl ?_
    refine V_iload_n dT_block_11 rfl ?_
    refine V_rV1 dT_block_12 clT_90 (Nat.le_of_ble_eq_true rfl) (hD.1) rfl (by decide) (cD_hasBlock hD i9 i) ?_
    refine V_if_ne (tgt := 20) dT_block_15 (by decide) (fun c2 => ?_) (fun c2 => ?_)
    · obtain ⟨hu, hi0, hib⟩ := if10 c2
      obtain ⟨e1, e2⟩ := hUu hu
      rw [e1] at hib
      rw [if_pos ⟨if10 c1, hu, hi0, hib⟩]
      have hb9 : blk ub ≤ 9 := by
        have := patchOf_len (vs tg) (vs (mr run)) (i4 tg)
        rw [e1]
        unfold blk
        omega
      obtain ⟨k, hk31, ek⟩ := nI_of hi0
      have hkb : k < blk ub := by
        rw [ek, ← e1] at hib
        exact (nI_ltI hk31 (by omega)).mp hib
      have ebk : bN i = k := by rw [ek]; exact nI_clamp hk31
      rw [ebk]
      refine V_aload_n dT_block_20 rfl ?_
      refine V_get dT_block_21 fT_44 (t1) rfl ?_
      refine V_iconst (v := 1) dT_block_24 (by decide) ?_
      refine V_rV1 dT_block_25 clT_84 (Nat.le_of_ble_eq_true rfl) (hD.1) rfl (by decide) (cD_isIn hD i9 1 (by decide)) ?_
      refine V_if_ne (tgt := 34) dT_block_28 (by decide) (fun c3 => ?_) (fun c3 => ?_)
      · have hs1 := if10 c3
        rw [if_pos hs1]
        refine V_iload_n dT_block_34 rfl ?_
        refine V_if_eq (tgt := 41) dT_block_35 (by decide) (fun c4 => ?_) (fun c4 => ?_)
        · rw [if_pos c4]
          subst ek
          have hml := miss_le th (blk ub)
          have hmu := miss_up (th := th) (j := k) (blk ub) hkb
          rw [← e2, e1] at hmu
          refine V_aload_n dT_block_41 rfl ?_
          refine V_get dT_block_42 fT_44 (t1) rfl ?_
          refine V_iload_n dT_block_45 rfl ?_
          refine V_callV1 0 0 dT_block_46 clT_93 (Nat.le_of_ble_eq_true rfl) (hD.1) rfl (by decide) (by decide) (by decide) (cD_takeBlock hD i8 (show k < 9 by omega) (fun q => by rw [e2]; exact miss_pos q _ hkb) (by omega)) (fun x M1 n' hQ => ?_)
          rw [← hmu] at hQ
          by_cases cm : miss (va_up th k true) (blk (patchOf (vs tg) (vs (mr run)))) = 0
          · rw [if_pos cm] at hQ ⊢
            obtain ⟨q1, q2, q3, q4⟩ := hQ
            subst q1; subst q2
            refine V_iret dT_block_49 rfl ⟨rfl, rfl, fun q hq => q3 q (by omega), av, ao, ab, ac, _, _, _, hT.frame (fun q hq => q3 q (by omega)), q4, hA, fun _ => ⟨?_, ?_⟩⟩
            · show ub = patchOf (vs tg) (vs (va_up mr (1 - run) tg run))
              rw [vu_ne (by omega)]
              exact e1
            · show 0 = miss (va_up th k true) (blk ub)
              rw [e1, cm]
          · rw [if_neg cm] at hQ ⊢
            obtain ⟨q1, q2, q3, q4⟩ := hQ
            subst q1; subst q2
            refine V_iret dT_block_49 rfl ⟨rfl, rfl, fun q hq => q3 q (by omega), av, ao, ab, ac, _, _, _, hT.frame (fun q hq => q3 q (by omega)), q4, hA, fun _ => ⟨e1, ?_⟩⟩
            show _ = miss (va_up th k true) (blk ub)
            rw [e1]
        · rw [if_neg c4]
          refine V_bipush (v := (-3)) dT_block_38 (by decide) ?_
          exact V_iret dT_block_40 rfl ⟨rfl, rfl, fun _ _ => rfl, h'⟩
      · rw [if_neg (if00 c3)]
        refine V_bipush (v := (-4)) dT_block_31 (by decide) ?_
        exact V_iret dT_block_33 rfl ⟨rfl, rfl, fun _ _ => rfl, h'⟩
    · have hn : ¬ (inB z ∧ uwP sta ∧ ¬ i < 0 ∧ i < nI (blk (patchOf (vs tg) (vs (mr run))))) := by
        intro q
        have e1 := (hUu q.2.1).1
        refine if00 c2 ⟨q.2.1, q.2.2.1, ?_⟩
        rw [e1]
        exact q.2.2.2
      rw [if_neg hn]
      refine V_iconst (v := (-1)) dT_block_18 (by decide) ?_
      exact V_iret dT_block_19 rfl ⟨rfl, rfl, fun _ _ => rfl, h'⟩
theorem cT_install (h : clsX M dr np vs run sta tri tg nx sl mr th) (hi : inv dr np vs run sta tri tg nx sl mr th) (k : Int32) : Mt G 5 mtT_install [.ref 1, .int k] M n 0 0 (cQ M n (spInstall vs run sta tg nx sl mr k).1 dr np vs run (spInstall vs run sta tg nx sl mr k).2.1 tri tg (spInstall vs run sta tg nx sl mr k).2.2.1 (spInstall vs run sta tg nx sl mr k).2.2.2 mr th) := by
  obtain ⟨i1, i2, i3, i4, i5, i6, i7, i8, i9, i10, i11, i12, i13, i14, -⟩ := hi
  have h' := h
  obtain ⟨av, ao, ab, ac, ms, ub, uc, hT, hD, hA, hUu⟩ := h
  obtain ⟨t1, t2, t3⟩ := id hT
  refine Mt.of rfl rfl (Nat.le_of_ble_eq_true rfl) ?_
  unfold spInstall
  refine V_iload_n dT_install_0 rfl ?_
  refine V_iconst (v := 1) dT_install_1 (by decide) ?_
  refine V_icmp_lt (tgt := 11) dT_install_2 (by decide) (fun c1 => ?_) (fun c1 => ?_)
  · rw [if_neg (fun q => Int32.not_lt.mpr q.1 c1)]
    refine V_iconst (v := (-1)) dT_install_11 (by decide) ?_
    exact V_iret dT_install_12 rfl ⟨rfl, rfl, fun _ _ => rfl, h'⟩
  · refine V_iload_n dT_install_5 rfl ?_
    refine V_bipush (v := 20) dT_install_6 (by decide) ?_
    refine V_icmp_le (tgt := 13) dT_install_8 (by decide) (fun c2 => ?_) (fun c2 => ?_)
    · have hk1 : 1 ≤ k := Int32.not_lt.mp c1
      rw [if_pos ⟨hk1, c2⟩]
      obtain ⟨j, hj0, hj1, ej, ejb⟩ := one_le hk1
      rw [ejb]
      subst ej
      have hj20 : j ≤ 20 := (nI_leI (b := 20) hj1 (by omega)).mp c2
      refine V_aload_n dT_install_13 rfl ?_
      refine V_get dT_install_14 fT_44 (t1) rfl ?_
      refine V_iconst (v := 2) dT_install_17 (by decide) ?_
      refine V_rV1 dT_install_18 clT_84 (Nat.le_of_ble_eq_true rfl) (hD.1) rfl (by decide) (cD_isIn hD i9 2 (by decide)) ?_
      refine V_if_ne (tgt := 27) dT_install_21 (by decide) (fun c3 => ?_) (fun c3 => ?_)
      · have hs2 := if10 c3
        rw [if_pos hs2]
        obtain ⟨e1, e2⟩ := hUu (Or.inr (Or.inl hs2))
        have hmr := i11 (1 - run) (by omega)
        have hB : isB ub := by rw [e1]; exact isB_patchOf (i5 _) (i4 _) (i4 _)
        refine V_aload_n dT_install_27 rfl ?_
        refine V_get dT_install_28 fT_44 (t1) rfl ?_
        refine V_iload_n dT_install_31 rfl ?_
        refine V_callV1 0 0 dT_install_32 clT_96 (Nat.le_of_ble_eq_true rfl) (hD.1) rfl (by decide) (by decide) (by decide) (cD_installPieces hD i8 (by omega) hB hj20 i9 (fun q => by rw [e1]; exact i14 q)) (fun x M1 n' hQ => ?_)
        obtain ⟨q1, q2, q3, q4⟩ := hQ
        subst q1; subst q2
        rw [← e1]
        exact V_iret dT_install_35 rfl ⟨rfl, rfl, fun q hq => q3 q (by omega), av, ao, ab, ac, _, _, _, hT.frame (fun q hq => q3 q (by omega)), q4, hA, fun _ => ⟨e1, e2⟩⟩
      · rw [if_neg (if00 c3)]
        refine V_bipush (v := (-4)) dT_install_24 (by decide) ?_
        exact V_iret dT_install_26 rfl ⟨rfl, rfl, fun _ _ => rfl, h'⟩
    · rw [if_neg (fun q => c2 q.2)]
      refine V_iconst (v := (-1)) dT_install_11 (by decide) ?_
      exact V_iret dT_install_12 rfl ⟨rfl, rfl, fun _ _ => rfl, h'⟩
theorem cT_damage (h : clsX M dr np vs run sta tri tg nx sl mr th) (s i b : Int32) : Mt G 2 mtT_damage [.ref 1, .int s, .int i, .int b] M n 0 0 (cQ M n (spDamage sl s i b).1 dr np vs run sta tri tg nx (spDamage sl s i b).2 mr th) := by
  have h' := h
  obtain ⟨av, ao, ab, ac, ms, ub, uc, hT, hD, hA, hUu⟩ := h
  obtain ⟨t1, t2, t3⟩ := id hT
  obtain ⟨⟨g, g1, g2⟩, g3⟩ := id hD.2.2.1
  refine Mt.of rfl rfl (Nat.le_of_ble_eq_true rfl) ?_
  unfold spDamage
  refine V_iload_n dT_damage_0 rfl ?_
  refine V_rS1 dT_damage_1 clT_105 (Nat.le_of_ble_eq_true rfl) (by decide) (cT_isSlot s) ?_
  refine V_if_eq (tgt := 29) dT_damage_4 (by decide) (fun c1 => ?_) (fun c1 => ?_)
  · rw [if_neg (fun q => if00 c1 q.1)]
    refine V_iconst (v := (-1)) dT_damage_29 (by decide) ?_
    exact V_iret dT_damage_30 rfl ⟨rfl, rfl, fun _ _ => rfl, h'⟩
  · obtain ⟨k, hk, e, eb⟩ := isS_of (if10 c1)
    have hS := if10 c1
    rw [eb]
    subst e
    obtain ⟨fs, s1, s2, s3, s4, s5, -⟩ := id (g3 k hk)
    refine V_aload_n dT_damage_7 rfl ?_
    refine V_get dT_damage_8 fT_44 (t1) rfl ?_
    refine V_iload_n dT_damage_11 rfl ?_
    refine V_callV1 0 0 dT_damage_12 clT_108 (Nat.le_of_ble_eq_true rfl) (hD.1) rfl (by decide) (by decide) (by decide) (cD_row hD hk) (fun x M1 n' hQ => ?_)
    obtain ⟨q1, q2, q3⟩ := hQ
    rw [q1, q2, q3]
    refine V_iload_n dT_damage_15 rfl ?_
    refine V_rV1 dT_damage_16 clT_112 (Nat.le_of_ble_eq_true rfl) (s1) rfl (by decide) (cR_has (g3 k hk) i) ?_
    refine V_if_eq (tgt := 29) dT_damage_19 (by decide) (fun c2 => ?_) (fun c2 => ?_)
    · rw [if_neg (fun q => if00 c2 q.2.1)]
      refine V_iconst (v := (-1)) dT_damage_29 (by decide) ?_
      exact V_iret dT_damage_30 rfl ⟨rfl, rfl, fun _ _ => rfl, h'⟩
    · have hx := if10 c2
      refine V_iload_n dT_damage_22 rfl ?_
      refine V_rS1 dT_damage_23 clT_48 (Nat.le_of_ble_eq_true rfl) (by decide) (cT_isByte b) ?_
      refine V_if_ne (tgt := 31) dT_damage_26 (by decide) (fun c3 => ?_) (fun c3 => ?_)
      · rw [if_pos ⟨hS, hx, if10 c3⟩]
        refine V_aload_n dT_damage_31 rfl ?_
        refine V_get dT_damage_32 fT_44 (t1) rfl ?_
        refine V_iload_n dT_damage_35 rfl ?_
        refine V_callV1 0 0 dT_damage_36 clT_108 (Nat.le_of_ble_eq_true rfl) (hD.1) rfl (by decide) (by decide) (by decide) (cD_row hD hk) (fun x M1 n' hQ => ?_)
        obtain ⟨q1, q2, q3⟩ := hQ
        rw [q1, q2, q3]
        refine V_iload_n dT_damage_39 rfl ?_
        refine V_iload_n dT_damage_40 rfl ?_
        refine V_wV2 dT_damage_41 clT_113 (Nat.le_of_ble_eq_true rfl) (s1) rfl (by decide) (cR_change (g3 k hk) i b) (fun M2 F2 X2 => ?_)
        rw [if_pos hx] at X2
        obtain ⟨e1, a1⟩ := hD.slot hk F2 X2
        refine V_iconst (v := 0) dT_damage_44 (by decide) ?_
        exact V_iret dT_damage_45 rfl ⟨rfl, rfl, fun q hq => a1 q (by omega), av, ao, ab, ac, _, _, _, hT.frame (fun q hq => a1 q (by omega)), e1, hA, hUu⟩
      · rw [if_neg (fun q => if00 c3 q.2.2)]
        refine V_iconst (v := (-1)) dT_damage_29 (by decide) ?_
        exact V_iret dT_damage_30 rfl ⟨rfl, rfl, fun _ _ => rfl, h'⟩
theorem cT_slot (h : clsX M dr np vs run sta tri tg nx sl mr th) (s i : Int32) : Mt G 2 mtT_slot [.ref 1, .int s, .int i] M n 0 0 (rd M n (spSlot sl s i)) := by
  obtain ⟨av, ao, ab, ac, ms, ub, uc, hT, hD, hA, hUu⟩ := h
  obtain ⟨t1, t2, t3⟩ := id hT
  obtain ⟨⟨g, g1, g2⟩, g3⟩ := id hD.2.2.1
  refine Mt.of rfl rfl (Nat.le_of_ble_eq_true rfl) ?_
  unfold spSlot
  refine V_iload_n dT_slot_0 rfl ?_
  refine V_rS1 dT_slot_1 clT_105 (Nat.le_of_ble_eq_true rfl) (by decide) (cT_isSlot s) ?_
  refine V_if_eq (tgt := 37) dT_slot_4 (by decide) (fun c1 => ?_) (fun c1 => ?_)
  · rw [if_neg (fun q => if00 c1 q.1)]
    refine V_iconst (v := (-1)) dT_slot_37 (by decide) ?_
    exact V_iret dT_slot_38 rfl ⟨rfl, rfl, rfl⟩
  · have hS := if10 c1
    obtain ⟨k, hk, e, eb⟩ := isS_of hS
    rw [eb]
    subst e
    obtain ⟨fs, s1, -⟩ := id (g3 k hk)
    refine V_aload_n dT_slot_7 rfl ?_
    refine V_get dT_slot_8 fT_44 (t1) rfl ?_
    refine V_iload_n dT_slot_11 rfl ?_
    refine V_callV1 0 0 dT_slot_12 clT_108 (Nat.le_of_ble_eq_true rfl) (hD.1) rfl (by decide) (by decide) (by decide) (cD_row hD hk) (fun x M1 n' hQ => ?_)
    obtain ⟨q1, q2, q3⟩ := hQ
    rw [q1, q2, q3]
    refine V_iload_n dT_slot_15 rfl ?_
    refine V_rV1 dT_slot_16 clT_112 (Nat.le_of_ble_eq_true rfl) (s1) rfl (by decide) (cR_has (g3 k hk) i) ?_
    refine V_if_eq (tgt := 37) dT_slot_19 (by decide) (fun c2 => ?_) (fun c2 => ?_)
    · rw [if_neg (fun q => if00 c2 q.2)]
      refine V_iconst (v := (-1)) dT_slot_37 (by decide) ?_
      exact V_iret dT_slot_38 rfl ⟨rfl, rfl, rfl⟩
    · rw [if_pos ⟨hS, if10 c2⟩]
      refine V_aload_n dT_slot_22 rfl ?_
      refine V_get dT_slot_23 fT_44 (t1) rfl ?_
      refine V_iload_n dT_slot_26 rfl ?_
      refine V_callV1 0 0 dT_slot_27 clT_108 (Nat.le_of_ble_eq_true rfl) (hD.1) rfl (by decide) (by decide) (by decide) (cD_row hD hk) (fun x M1 n' hQ => ?_)
      obtain ⟨q1, q2, q3⟩ := hQ
      rw [q1, q2, q3]
      refine V_iload_n dT_slot_30 rfl ?_
      refine V_rV1 dT_slot_31 clT_117 (Nat.le_of_ble_eq_true rfl) (s1) rfl (by decide) (cR_at (g3 k hk) i) ?_
      refine V_goto (tgt := 38) dT_slot_34 (by decide) ?_
      exact V_iret dT_slot_38 rfl ⟨rfl, rfl, rfl⟩
theorem cT_sound (h : clsX M dr np vs run sta tri tg nx sl mr th) (hi : inv dr np vs run sta tri tg nx sl mr th) (s : Int32) : Mt G 3 mtT_sound [.ref 1, .int s] M n 0 0 (rd M n (spSound vs sl mr s)) := by
  obtain ⟨i1, i2, i3, i4, i5, i6, i7, i8, i9, i10, i11, i12, i13, i14, -⟩ := hi
  obtain ⟨av, ao, ab, ac, ms, ub, uc, hT, hD, hA, hUu⟩ := h
  obtain ⟨t1, t2, t3⟩ := id hT
  refine Mt.of rfl rfl (Nat.le_of_ble_eq_true rfl) ?_
  unfold spSound
  refine V_iload_n dT_sound_0 rfl ?_
  refine V_rS1 dT_sound_1 clT_105 (Nat.le_of_ble_eq_true rfl) (by decide) (cT_isSlot s) ?_
  refine V_if_eq (tgt := 22) dT_sound_4 (by decide) (fun c1 => ?_) (fun c1 => ?_)
  · rw [if_neg (fun q => if00 c1 q.1)]
    refine V_iconst (v := 0) dT_sound_22 (by decide) ?_
    exact V_zret dT_sound_23 rfl rfl ⟨rfl, rfl, rfl⟩
  · have hS := if10 c1
    obtain ⟨k, hk, e, eb⟩ := isS_of hS
    rw [eb]
    subst e
    have hmr := i11 k hk
    refine V_aload_n dT_sound_7 rfl ?_
    refine V_get dT_sound_8 fT_44 (t1) rfl ?_
    refine V_iload_n dT_sound_11 rfl ?_
    refine V_rV1 dT_sound_12 clT_136 (Nat.le_of_ble_eq_true rfl) (hD.1) rfl (by decide) (cD_isSound hD hk (by omega)) ?_
    refine V_if_eq (tgt := 22) dT_sound_15 (by decide) (fun c2 => ?_) (fun c2 => ?_)
    · rw [if_neg (fun q => if00 c2 q.2)]
      refine V_iconst (v := 0) dT_sound_22 (by decide) ?_
      exact V_zret dT_sound_23 rfl rfl ⟨rfl, rfl, rfl⟩
    · rw [if_pos ⟨hS, if10 c2⟩]
      refine V_iconst (v := 1) dT_sound_18 (by decide) ?_
      refine V_goto (tgt := 23) dT_sound_19 (by decide) ?_
      exact V_zret dT_sound_23 rfl rfl ⟨rfl, rfl, rfl⟩
end TOPD
