/-! the model: the device's calls -/
section MODF
variable {G : wG} {M M' : aM} {n : Nat} {dr : List Int32} {np : Nat} {vs : Nat → List Int32} {run sta tri tg nx : Nat} {sl : Nat → List Int32} {mr : Nat → Nat} {th : Nat → Bool} {bs : List Int32} {cp bl : Nat}
theorem lM_offer {M0 : aM} {k : Nat} (hb : bl ≤ 9) : ∀ (j i : Nat) (M : aM), i + j = 32 → fM M0 M → modX M dr np vs run sta tri tg nx sl mr (thC th i) bs cp bl → V G mtM_offer 2 (mQ M0 n (some (.int (nI bl))) dr np vs run 1 tri tg nx sl mr (fun _ => false) bs cp bl) 0 0 66 [some (.ref 33), some (.int (nI k)), some (.int (nI i))] [] M n := by
  intro j
  induction j with
  | zero =>
    intro i M e a h
    have e : i = 32 := by omega
    subst e
    obtain ⟨h1, h2, h3, h4, h5, h6, ⟨f, f1, f2⟩⟩ := id h
    refine V_iload_n dM_offer_66 rfl ?_
    refine V_bipush (v := 32) dM_offer_67 (by decide) ?_
    refine V_icmp_ge (tgt := 85) dM_offer_69 (by decide) (fun c => ?_) (fun c => ?_)
    · have h' : modX M dr np vs run sta tri tg nx sl mr (fun _ => false) bs cp bl := ⟨h1, h2, h3, h4, h5, h6, f, f1, fun i hi => by rw [f2 i hi, show thC th 32 i = false from if_pos hi]⟩
      refine V_aload_n dM_offer_85 rfl ?_
      refine V_iconst (v := 1) dM_offer_86 (by decide) ?_
      refine V_put dM_offer_87 fM_68 (h1) rfl rfl (Nat.le_of_ble_eq_true rfl) ?_
      obtain ⟨e1, a1⟩ := h'.fld (np' := np) (run' := run) (sta' := 1) (tri' := tri) (tg' := tg) (nx' := nx) (cp' := cp) (bl' := bl) rfl
      refine V_aload_n dM_offer_90 rfl ?_
      refine V_get dM_offer_91 fM_77 (e1.1) rfl ?_
      exact V_iret dM_offer_94 rfl ⟨rfl, rfl, a.tr a1, e1⟩
    · exact absurd (nI_le (Nat.le_refl 32) (by omega)) c
  | succ j ih =>
    intro i M e a h
    have hi : i < 32 := by omega
    obtain ⟨h1, h2, h3, h4, h5, h6, ⟨f, f1, f2⟩⟩ := id h
    refine V_iload_n dM_offer_66 rfl ?_
    refine V_bipush (v := 32) dM_offer_67 (by decide) ?_
    refine V_icmp_ge (tgt := 85) dM_offer_69 (by decide) (fun c => ?_) (fun c => ?_)
    · exact absurd c (nI_ge (b := 32) hi (by omega))
    · refine V_aload_n dM_offer_72 rfl ?_
      refine V_get dM_offer_73 fM_31 (h1) rfl ?_
      refine V_iload_n dM_offer_76 rfl ?_
      refine V_iconst (v := 0) dM_offer_77 (by decide) ?_
      refine V_kzast dM_offer_78 (f1) rfl (hi) (by decide) ?_
      obtain ⟨e1, a1⟩ := h.thr (f := upd f i (vp_nar .boolean 0)) (th' := thC th (i + 1)) (fun q hq => by
        by_cases z : q = i
        · subst z
          rw [pk_us, thC_at]
          rfl
        · rw [pk_un z, f2 q hq, thC_ne z])
      refine V_iinc (v := _ + 1) dM_offer_79 (by decide) rfl rfl ?_
      refine V_goto (tgt := 66) dM_offer_82 (by decide) ?_
      rw [nI_1]
      exact ih (i + 1) _ (by omega) (a.tr a1) e1
theorem cM_offer (h : refX M dr np vs run sta tri tg nx sl mr th) (hi : inv dr np vs run sta tri tg nx sl mr th) (v : Int32) : Mt G 2 mtM_offer [.ref 33, .int v] M n 0 0 (rQ M n (spOffer np vs run sta tg mr th v).1 dr np vs run (spOffer np vs run sta tg mr th v).2.1 tri (spOffer np vs run sta tg mr th v).2.2.1 nx sl mr (spOffer np vs run sta tg mr th v).2.2.2) := by
  obtain ⟨i1, i2, i3, i4, i5, i6, i7, i8, i9, i10, i11, i12, i13, -⟩ := hi
  have h' := h
  obtain ⟨bs, cp, bl, hM, hb, hu⟩ := h
  have h1 := hM.1
  refine Mt.of rfl rfl (Nat.le_of_ble_eq_true rfl) ?_
  unfold spOffer
  refine V_iload_n dM_offer_0 rfl ?_
  refine V_iconst (v := 1) dM_offer_1 (by decide) ?_
  refine V_aload_n dM_offer_2 rfl ?_
  refine V_get dM_offer_3 fM_43 (h1) rfl ?_
  refine V_rS3 dM_offer_6 clM_35 (Nat.le_of_ble_eq_true rfl) (by decide) (cM_in v _ _) ?_
  refine V_if_ne (tgt := 14) dM_offer_9 (by decide) (fun c => ?_) (fun c => ?_)
  · have hp := in1.mp (if10 c)
    obtain ⟨a, ha, e, eb⟩ := inV_of hp.2 i3
    rw [if_pos hp, eb]
    subst e
    refine V_aload_n dM_offer_14 rfl ?_
    refine V_get dM_offer_15 fM_68 (h1) rfl ?_
    refine V_iconst (v := 3) dM_offer_18 (by decide) ?_
    refine V_icmp_eq (tgt := 30) dM_offer_19 (by decide) (fun c3 => ?_) (fun c3 => ?_)
    · rw [if_pos (Or.inl ((nI_eq (b := 3) (by omega) (by omega)).mp c3))]
      refine V_bipush (v := (-4)) dM_offer_30 (by decide) ?_
      exact V_iret dM_offer_32 rfl ⟨rfl, rfl, fM.rf, h'⟩
    · have e3 : ¬ sta = 3 := fun q => c3 (by rw [q]; rfl)
      refine V_aload_n dM_offer_22 rfl ?_
      refine V_get dM_offer_23 fM_68 (h1) rfl ?_
      refine V_iconst (v := 4) dM_offer_26 (by decide) ?_
      refine V_icmp_ne (tgt := 33) dM_offer_27 (by decide) (fun c4 => ?_) (fun c4 => ?_)
      · have e4 : ¬ sta = 4 := fun q => c4 (by rw [q]; rfl)
        rw [if_neg (fun q => q.elim e3 e4)]
        have hr2 : run < 2 := by omega
        have hmr := i11 run hr2
        obtain ⟨-, -, -, -, -, ⟨fm, m1, m2⟩, -⟩ := id hM
        have hlen := patchOf_len (vs a) (vs (mr run)) (i4 a)
        refine V_aload_n dM_offer_33 rfl ?_
        refine V_iload_n dM_offer_34 rfl ?_
        refine V_aload_n dM_offer_35 rfl ?_
        refine V_get dM_offer_36 fM_28 (h1) rfl ?_
        refine V_aload_n dM_offer_39 rfl ?_
        refine V_get dM_offer_40 fM_71 (h1) rfl ?_
        refine V_kiald dM_offer_43 (m1) rfl (hr2) (by decide) (m2 run hr2) ?_
        refine V_callV2 0 0 dM_offer_44 clM_64 (Nat.le_of_ble_eq_true rfl) (h1) rfl (by decide) (by decide) (by decide) (cM_make hM (show a < 7 by omega) (show mr run < 7 by omega) (i4 a) (i4 _)) (fun x M1 n' hQ => ?_)
        obtain ⟨q1, q2, q3, q4⟩ := hQ
        subst q1; subst q2
        refine V_aload_n dM_offer_47 rfl ?_
        refine V_iload_n dM_offer_48 rfl ?_
        refine V_put dM_offer_49 fM_74 (q4.1) rfl rfl (Nat.le_of_ble_eq_true rfl) ?_
        obtain ⟨e2, a2⟩ := q4.fld (np' := np) (run' := run) (sta' := sta) (tri' := tri) (tg' := a) (nx' := nx) (cp' := savedOf (vs a) (vs (mr run))) (bl' := bl) rfl
        refine V_aload_n dM_offer_52 rfl ?_
        refine V_aload_n dM_offer_53 rfl ?_
        refine V_get dM_offer_54 fM_46 (e2.1) rfl ?_
        refine V_iconst (v := 4) dM_offer_57 (by decide) ?_
        refine V_iadd dM_offer_58 ?_
        refine V_iconst (v := 5) dM_offer_59 (by decide) ?_
        refine V_idiv dM_offer_60 (by decide) ?_
        refine V_put dM_offer_61 fM_77 (e2.1) rfl rfl (Nat.le_of_ble_eq_true rfl) ?_
        have hbl : (nI (patchOf (vs a) (vs (mr run))).length + 4) / 5 = nI (blk (patchOf (vs a) (vs (mr run)))) := by
          rw [show nI (patchOf (vs a) (vs (mr run))).length + 4 = nI ((patchOf (vs a) (vs (mr run))).length + 4) from nI_add _ 4]
          exact pk_div (d := 5) (by omega) (by omega) (by omega)
        obtain ⟨e3', a3⟩ := e2.fld (c := .inr (4, [.ref 34, .ref 35, .int (nI np), .ref 36, .int (nI dr.length), .ref 37, .int (nI (patchOf (vs a) (vs (mr run))).length), .int (nI (savedOf (vs a) (vs (mr run)))), .ref 38, .ref 39, .ref 40, .int (nI run), .int (nI sta), .int (nI tri), .int (nI a), .ref 41, .int ((nI (patchOf (vs a) (vs (mr run))).length + 4) / 5), .int (nI nx)])) (np' := np) (run' := run) (sta' := sta) (tri' := tri) (tg' := a) (nx' := nx) (cp' := savedOf (vs a) (vs (mr run))) (bl' := blk (patchOf (vs a) (vs (mr run)))) (by rw [hbl])
        have hb9 : blk (patchOf (vs a) (vs (mr run))) ≤ 9 := by unfold blk; omega
        refine V_iconst (v := 0) dM_offer_64 (by decide) ?_
        refine V_istore_n dM_offer_65 (by decide) ?_
        refine V_post (fun x M' n' hq => ?_) (lM_offer (th := th) hb9 32 0 _ (by omega) ((q3.tr a2).tr a3) e3')
        obtain ⟨y1, y2, y3, y4⟩ := hq
        exact ⟨y1, y2, y3, _, _, _, y4, hb9, fun _ => rfl⟩
      · rw [if_pos (Or.inr ((nI_eq (b := 4) (by omega) (by omega)).mp c4))]
        refine V_bipush (v := (-4)) dM_offer_30 (by decide) ?_
        exact V_iret dM_offer_32 rfl ⟨rfl, rfl, fM.rf, h'⟩
  · rw [if_neg (fun q => if00 c (in1.mpr q))]
    refine V_iconst (v := (-1)) dM_offer_12 (by decide) ?_
    exact V_iret dM_offer_13 rfl ⟨rfl, rfl, fM.rf, h'⟩
theorem cM_block (h : refX M dr np vs run sta tri tg nx sl mr th) (hi : inv dr np vs run sta tri tg nx sl mr th) (i z : Int32) : Mt G 1 mtM_block [.ref 33, .int i, .int z] M n 0 0 (rQ M n (spBlock vs run sta tg nx sl mr th i z).1 dr np vs run (spBlock vs run sta tg nx sl mr th i z).2.1 tri tg (spBlock vs run sta tg nx sl mr th i z).2.2.1 (spBlock vs run sta tg nx sl mr th i z).2.2.2.1 (spBlock vs run sta tg nx sl mr th i z).2.2.2.2.1 (spBlock vs run sta tg nx sl mr th i z).2.2.2.2.2) := by
  obtain ⟨i1, i2, i3, i4, i5, i6, i7, i8, i9, i10, i11, i12, i13, -⟩ := hi
  have h' := h
  obtain ⟨bs, cp, bl, hM, hb, hu⟩ := h
  have h1 := hM.1
  refine Mt.of rfl rfl (Nat.le_of_ble_eq_true rfl) ?_
  unfold spBlock
  refine V_iload_n dM_block_0 rfl ?_
  refine V_iconst (v := 0) dM_block_1 (by decide) ?_
  refine V_sipush (v := 255) dM_block_2 (by decide) ?_
  refine V_rS3 dM_block_5 clM_35 (Nat.le_of_ble_eq_true rfl) (by decide) (cM_in z _ _) ?_
  refine V_if_eq (tgt := 30) dM_block_8 (by decide) (fun c1 => ?_) (fun c1 => ?_)
  · rw [if_neg (fun q => if00 c1 (in0.mpr q.1))]
    refine V_iconst (v := (-1)) dM_block_30 (by decide) ?_
    exact V_iret dM_block_31 rfl ⟨rfl, rfl, fM.rf, h'⟩
  · have hz := in0.mp (if10 c1)
    refine V_aload_n dM_block_11 rfl ?_
    refine V_rV0 dM_block_12 clM_83 (Nat.le_of_ble_eq_true rfl) (h1) rfl (by decide) (cM_underWay hM i9) ?_
    refine V_if_eq (tgt := 30) dM_block_15 (by decide) (fun c2 => ?_) (fun c2 => ?_)
    · rw [if_neg (fun q => if00 c2 q.2.1)]
      refine V_iconst (v := (-1)) dM_block_30 (by decide) ?_
      exact V_iret dM_block_31 rfl ⟨rfl, rfl, fM.rf, h'⟩
    · have huw := if10 c2
      have ebl := hu huw
      rw [← ebl]
      refine V_iload_n dM_block_18 rfl ?_
      refine V_if_lt (tgt := 30) dM_block_19 (by decide) (fun c3 => ?_) (fun c3 => ?_)
      · rw [if_neg (fun q => q.2.2.1 c3)]
        refine V_iconst (v := (-1)) dM_block_30 (by decide) ?_
        exact V_iret dM_block_31 rfl ⟨rfl, rfl, fM.rf, h'⟩
      · refine V_iload_n dM_block_22 rfl ?_
        refine V_aload_n dM_block_23 rfl ?_
        refine V_get dM_block_24 fM_77 (h1) rfl ?_
        refine V_icmp_lt (tgt := 32) dM_block_27 (by decide) (fun c4 => ?_) (fun c4 => ?_)
        · rw [if_pos ⟨hz, huw, c3, c4⟩]
          obtain ⟨k, hk31, ek⟩ := nI_of c3
          have hkb : k < bl := by
            rw [ek] at c4
            exact (nI_ltI hk31 (by omega)).mp c4
          rw [show bN i = k by rw [ek]; exact nI_clamp hk31]
          refine V_aload_n dM_block_32 rfl ?_
          refine V_get dM_block_33 fM_68 (h1) rfl ?_
          refine V_iconst (v := 1) dM_block_36 (by decide) ?_
          refine V_icmp_eq (tgt := 43) dM_block_37 (by decide) (fun c5 => ?_) (fun c5 => ?_)
          · have es : sta = 1 := (nI_eq (b := 1) (by omega) (by omega)).mp c5
            rw [if_pos es]
            refine V_iload_n dM_block_43 rfl ?_
            refine V_if_eq (tgt := 50) dM_block_44 (by decide) (fun c6 => ?_) (fun c6 => ?_)
            · rw [if_pos c6]
              subst ek
              obtain ⟨-, -, -, -, -, -, ⟨f, f1, f2⟩⟩ := id hM
              refine V_aload_n dM_block_50 rfl ?_
              refine V_get dM_block_51 fM_31 (h1) rfl ?_
              refine V_iload_n dM_block_54 rfl ?_
              refine V_iconst (v := 1) dM_block_55 (by decide) ?_
              refine V_kzast dM_block_56 (f1) rfl (show k < 32 by omega) (by decide) ?_
              obtain ⟨e1, a1⟩ := hM.thr (f := upd f k (vp_nar .boolean 1)) (th' := va_up th k true) (fun q hq => by
                by_cases y : q = k
                · subst y
                  rw [pk_us, vu_eq, if_pos rfl]
                  rfl
                · rw [pk_un y, vu_ne y]
                  exact f2 q hq)
              refine V_aload_n dM_block_57 rfl ?_
              refine V_rV0 dM_block_58 clM_87 (Nat.le_of_ble_eq_true rfl) (e1.1) rfl (by decide) (cM_missing e1 hb) ?_
              refine V_istore_n dM_block_61 (by decide) ?_
              refine V_iload_n dM_block_62 rfl ?_
              have hml := miss_le (va_up th k true) bl
              refine V_if_ne (tgt := 70) dM_block_63 (by decide) (fun c7 => ?_) (fun c7 => ?_)
              · have hn : ¬ miss (va_up th k true) bl = 0 := fun q => c7 (by rw [q]; rfl)
                rw [if_neg hn]
                refine V_iload_n dM_block_70 rfl ?_
                exact V_iret dM_block_71 rfl ⟨rfl, rfl, a1, _, _, _, e1, hb, hu⟩
              · have hn : miss (va_up th k true) bl = 0 := (nI_eq (b := 0) (by omega) (by omega)).mp c7
                rw [if_pos hn, hn]
                refine V_aload_n dM_block_66 rfl ?_
                refine V_callV0 0 0 dM_block_67 clM_91 (Nat.le_of_ble_eq_true rfl) (e1.1) rfl (by decide) (by decide) (by decide) (cM_beginInstall e1 i8) (fun x M2 n' hQ => ?_)
                obtain ⟨q1, q2, q3, q4⟩ := hQ
                subst q1; subst q2
                refine V_iload_n dM_block_70 rfl ?_
                refine V_iret dM_block_71 rfl ⟨rfl, rfl, a1.tr q3, _, _, _, q4, hb, fun _ => ?_⟩
                show bl = blk (patchOf (vs tg) (vs (va_up mr (1 - run) tg run)))
                rw [vu_ne (by omega)]
                exact ebl
            · rw [if_neg c6]
              refine V_bipush (v := (-3)) dM_block_47 (by decide) ?_
              exact V_iret dM_block_49 rfl ⟨rfl, rfl, fM.rf, h'⟩
          · have es : ¬ sta = 1 := fun q => c5 (by rw [q]; rfl)
            rw [if_neg es]
            refine V_bipush (v := (-4)) dM_block_40 (by decide) ?_
            exact V_iret dM_block_42 rfl ⟨rfl, rfl, fM.rf, h'⟩
        · rw [if_neg (fun q => c4 q.2.2.2)]
          refine V_iconst (v := (-1)) dM_block_30 (by decide) ?_
          exact V_iret dM_block_31 rfl ⟨rfl, rfl, fM.rf, h'⟩
theorem lM_install {M0 : aM} {N : Nat} (hr : run ≤ 1) (hV : ∀ v, (vs v).length ≤ 40) (hm : ∀ k, k < 2 → mr k < 7) (hB : isB bs) (hl : bs.length ≤ 42) (hN : N ≤ 20) : ∀ (j i : Nat) (M : aM) (sta nx : Nat) (sl : Nat → List Int32), i + j = N → sta ≤ 4 → (∀ s, s < 2 → (sl s).length ≤ 40) → (sta = 2 → nx < bs.length ∧ ∃ f, okL f (bs.drop nx)) → fM M0 M → modX M dr np vs run sta tri tg nx sl mr th bs cp bl → V G mtM_install 3 (mQ M0 n (some (.int (nI (insN vs mr bs run j (sta, nx, sl)).1))) dr np vs run (insN vs mr bs run j (sta, nx, sl)).1 tri tg (insN vs mr bs run j (sta, nx, sl)).2.1 (insN vs mr bs run j (sta, nx, sl)).2.2 mr th bs cp bl) 0 0 42 [some (.ref 33), some (.int (nI N)), some (.int (nI i))] [] M n := by
  intro j
  induction j with
  | zero =>
    intro i M sta nx sl e hs hS hok a h
    have e : i = N := by omega
    subst e
    refine V_iload_n dM_install_42 rfl ?_
    refine V_iload_n dM_install_43 rfl ?_
    refine V_icmp_ge (tgt := 65) dM_install_44 (by decide) (fun c => ?_) (fun c => ?_)
    · refine V_aload_n dM_install_65 rfl ?_
      refine V_get dM_install_66 fM_68 (h.1) rfl ?_
      exact V_iret dM_install_69 rfl ⟨rfl, rfl, a, h⟩
    · exact absurd (nI_le (Nat.le_refl _) (by omega)) c
  | succ j ih =>
    intro i M sta nx sl e hs hS hok a h
    refine V_iload_n dM_install_42 rfl ?_
    refine V_iload_n dM_install_43 rfl ?_
    refine V_icmp_ge (tgt := 65) dM_install_44 (by decide) (fun c => ?_) (fun c => ?_)
    · exact absurd c (nI_ge (show i < N by omega) (by omega))
    · have hI : insN vs mr bs run (j + 1) (sta, nx, sl) = if sta = 2 then insN vs mr bs run j (ins1 vs mr bs run (sta, nx, sl)) else (sta, nx, sl) := rfl
      rw [hI]
      refine V_aload_n dM_install_47 rfl ?_
      refine V_get dM_install_48 fM_68 (h.1) rfl ?_
      refine V_iconst (v := 2) dM_install_51 (by decide) ?_
      refine V_icmp_ne (tgt := 65) dM_install_52 (by decide) (fun c2 => ?_) (fun c2 => ?_)
      · have hs2 : ¬ sta = 2 := fun q => c2 (by rw [q]; rfl)
        rw [if_neg hs2]
        refine V_aload_n dM_install_65 rfl ?_
        refine V_get dM_install_66 fM_68 (h.1) rfl ?_
        exact V_iret dM_install_69 rfl ⟨rfl, rfl, a, h⟩
      · have hs2 : sta = 2 := (nI_eq (b := 2) (by omega) (by omega)).mp c2
        rw [if_pos hs2]
        subst hs2
        obtain ⟨hn, f, hf⟩ := hok rfl
        obtain ⟨o1, o2, o3, o4⟩ := okL_at hf hn
        refine V_aload_n dM_install_55 rfl ?_
        refine V_callV0 0 0 dM_install_56 clM_101 (Nat.le_of_ble_eq_true rfl) (h.1) rfl (by decide) (by decide) (by decide) (cM_piece h hr hS hV hm hB hl hn o1 o2) (fun x M1 n' hQ => ?_)
        obtain ⟨q1, q2, q3, q4⟩ := hQ
        subst q1; subst q2
        refine V_iinc (v := _ + 1) dM_install_59 (by decide) rfl rfl ?_
        refine V_goto (tgt := 42) dM_install_62 (by decide) ?_
        rw [nI_1]
        have hE : ins1 vs mr bs run (2, nx, sl) = ((ins1 vs mr bs run (2, nx, sl)).1, (ins1 vs mr bs run (2, nx, sl)).2.1, (ins1 vs mr bs run (2, nx, sl)).2.2) := rfl
        rw [hE]
        refine ih (i + 1) M1 _ _ _ (by omega) ?_ (fun s hs' => ?_) (fun z => ?_) (a.tr q3) q4
        · unfold ins1
          by_cases z : bs.length ≤ pcN bs nx
          · rw [if_pos z]
            by_cases y : sndP vs (va_up sl (1 - run) (pcY bs (sl run) (sl (1 - run)) nx)) mr (1 - run)
            · rw [if_pos y]; exact Nat.le_of_ble_eq_true rfl
            · rw [if_neg y]; exact Nat.le_of_ble_eq_true rfl
          · rw [if_neg z]; exact Nat.le_of_ble_eq_true rfl
        · show (va_up sl (1 - run) (pcY bs (sl run) (sl (1 - run)) nx) s).length ≤ 40
          by_cases z : s = 1 - run
          · subst z
            rw [vu_eq]
            unfold pcY
            by_cases y : bN (bs.getD nx 0) ≤ 31
            · rw [if_pos y]; unfold apf; rw [List.length_take]; omega
            · rw [if_neg y]; unfold apf; rw [List.length_take]; omega
          · rw [vu_ne z]; exact hS s hs'
        · show pcN bs nx < bs.length ∧ ∃ f, okL f (bs.drop (pcN bs nx))
          refine ⟨?_, o4⟩
          by_cases y : bs.length ≤ pcN bs nx
          · have z : (ins1 vs mr bs run (2, nx, sl)).1 = 2 := z
            unfold ins1 at z
            rw [if_pos y] at z
            by_cases w : sndP vs (va_up sl (1 - run) (pcY bs (sl run) (sl (1 - run)) nx)) mr (1 - run)
            · rw [if_pos w] at z; omega
            · rw [if_neg w] at z; omega
          · omega
theorem cM_install (h : refX M dr np vs run sta tri tg nx sl mr th) (hi : inv dr np vs run sta tri tg nx sl mr th) (hok : sta = 2 → ∃ f, okL f ((patchOf (vs tg) (vs (mr run))).drop nx)) (k : Int32) : Mt G 3 mtM_install [.ref 33, .int k] M n 0 0 (rQ M n (spInstall vs run sta tg nx sl mr k).1 dr np vs run (spInstall vs run sta tg nx sl mr k).2.1 tri tg (spInstall vs run sta tg nx sl mr k).2.2.1 (spInstall vs run sta tg nx sl mr k).2.2.2 mr th) := by
  obtain ⟨i1, i2, i3, i4, i5, i6, i7, i8, i9, i10, i11, i12, i13, i14, -⟩ := hi
  have h' := h
  obtain ⟨bs, cp, bl, hM, hb, hu⟩ := h
  have h1 := hM.1
  refine Mt.of rfl rfl (Nat.le_of_ble_eq_true rfl) ?_
  unfold spInstall
  refine V_iload_n dM_install_0 rfl ?_
  refine V_iconst (v := 1) dM_install_1 (by decide) ?_
  refine V_bipush (v := 20) dM_install_2 (by decide) ?_
  refine V_rS3 dM_install_4 clM_35 (Nat.le_of_ble_eq_true rfl) (by decide) (cM_in k _ _) ?_
  refine V_if_ne (tgt := 12) dM_install_7 (by decide) (fun c => ?_) (fun c => ?_)
  · have hk := if10 c
    rw [if_pos hk]
    obtain ⟨j, hj0, hj1, ej, ejb⟩ := one_le hk.1
    rw [ejb]
    subst ej
    have hj20 : j ≤ 20 := (nI_leI (b := 20) hj1 (by omega)).mp hk.2
    refine V_aload_n dM_install_12 rfl ?_
    refine V_get dM_install_13 fM_68 (h1) rfl ?_
    refine V_iconst (v := 2) dM_install_16 (by decide) ?_
    refine V_icmp_eq (tgt := 23) dM_install_17 (by decide) (fun c2 => ?_) (fun c2 => ?_)
    · have hs2 : sta = 2 := (nI_eq (b := 2) (by omega) (by omega)).mp c2
      rw [if_pos hs2]
      have hr2 : run < 2 := by omega
      have hmr := i11 run hr2
      have htg := i13 (Or.inr (Or.inl hs2))
      obtain ⟨-, -, -, -, -, ⟨fm, m1, m2⟩, -⟩ := id hM
      refine V_aload_n dM_install_23 rfl ?_
      refine V_aload_n dM_install_24 rfl ?_
      refine V_get dM_install_25 fM_74 (h1) rfl ?_
      refine V_aload_n dM_install_28 rfl ?_
      refine V_get dM_install_29 fM_28 (h1) rfl ?_
      refine V_aload_n dM_install_32 rfl ?_
      refine V_get dM_install_33 fM_71 (h1) rfl ?_
      refine V_kiald dM_install_36 (m1) rfl (hr2) (by decide) (m2 run hr2) ?_
      refine V_callV2 0 0 dM_install_37 clM_64 (Nat.le_of_ble_eq_true rfl) (h1) rfl (by decide) (by decide) (by decide) (cM_make hM (show tg < 7 by omega) (show mr run < 7 by omega) (i4 _) (i4 _)) (fun x M1 n' hQ => ?_)
      obtain ⟨q1, q2, q3, q4⟩ := hQ
      subst q1; subst q2
      refine V_iconst (v := 0) dM_install_40 (by decide) ?_
      refine V_istore_n dM_install_41 (by decide) ?_
      refine V_post (fun x M' n' hq => ?_) (lM_install (N := j) i8 i4 (fun k hk => by have := i11 k hk; omega) (isB_patchOf (i5 _) (i4 _) (i4 _)) (patchOf_len _ _ (i4 _)) hj20 j 0 M1 sta nx sl (by omega) i9 i12 (fun z => ⟨i14 z, hok z⟩) q3 q4)
      obtain ⟨y1, y2, y3, y4⟩ := hq
      exact ⟨y1, y2, y3, _, _, _, y4, hb, fun _ => hu (Or.inr (Or.inl hs2))⟩
    · have hs2 : ¬ sta = 2 := fun q => c2 (by rw [q]; rfl)
      rw [if_neg hs2]
      refine V_bipush (v := (-4)) dM_install_20 (by decide) ?_
      exact V_iret dM_install_22 rfl ⟨rfl, rfl, fM.rf, h'⟩
  · rw [if_neg (if00 c)]
    refine V_iconst (v := (-1)) dM_install_10 (by decide) ?_
    exact V_iret dM_install_11 rfl ⟨rfl, rfl, fM.rf, h'⟩
theorem spSound_nI {k : Nat} (hk : k < 2) : spSound vs sl mr (nI k) = if sndP vs sl mr k then 1 else 0 := by
  unfold spSound
  rw [show bN (nI k) = k from nI_clamp (by omega)]
  have hiS : isS (nI k) := by
    rcases (show k = 0 ∨ k = 1 by omega) with z | z
    · exact Or.inl (by rw [z]; rfl)
    · exact Or.inr (by rw [z]; rfl)
  by_cases z : sndP vs sl mr k
  · rw [if_pos ⟨hiS, z⟩, if_pos z]
  · rw [if_neg (fun y => z y.2), if_neg z]
def modB (M : aM) (dr : List Int32) (np : Nat) (vs : Nat → List Int32) (tg : Nat) (th : Nat → Bool) (bs : List Int32) (cp bl : Nat) (x : bX) : Prop := modX M dr np vs x.1 x.2.1 x.2.2.1 tg x.2.2.2.1 x.2.2.2.2.1 x.2.2.2.2.2 th bs cp bl
theorem lM_boot {M0 : aM} {x : bX} (h : modB M dr np vs tg th bs cp bl x) (a : fM M0 M) (hr : x.1 ≤ 1) (hV : ∀ v, (vs v).length ≤ 40) (hm : ∀ k, k < 2 → x.2.2.2.2.2 k < 7) (hS : ∀ k, k < 2 → (x.2.2.2.2.1 k).length ≤ 40) : V G mtM_boot 2 (fun v M' n' => v = some (.int (bFin vs x).1) ∧ n' = n ∧ fM M0 M' ∧ modB M' dr np vs tg th bs cp bl (bFin vs x).2) 0 0 97 [some (.ref 33)] [] M n := by
  obtain ⟨run, sta, tri, nx, sl, mr⟩ := x
  have hr : run ≤ 1 := hr
  have hm : ∀ k, k < 2 → mr k < 7 := hm
  have hS : ∀ k, k < 2 → (sl k).length ≤ 40 := hS
  have h : modX M dr np vs run sta tri tg nx sl mr th bs cp bl := h
  have hE : bFin vs (run, sta, tri, nx, sl, mr) = if sndP vs sl mr run then (nI run, (run, sta, tri, nx, sl, mr)) else if sndP vs sl mr (1 - run) then (nI (1 - run), (1 - run, 0, tri, nx, sl, mr)) else (-5, (run, sta, tri, nx, sl, mr)) := rfl
  rw [hE]
  refine V_aload_n dM_boot_97 rfl ?_
  refine V_aload_n dM_boot_98 rfl ?_
  refine V_get dM_boot_99 fM_71 (h.1) rfl ?_
  refine V_rV1 dM_boot_102 clM_97 (Nat.le_of_ble_eq_true rfl) (h.1) rfl (by decide) (cM_sound h hm hV hS _) ?_
  rw [spSound_nI (show run < 2 by omega)]
  refine V_if_eq (tgt := 113) dM_boot_105 (by decide) (fun c => ?_) (fun c => ?_)
  · rw [if_neg (if00 c)]
    refine V_aload_n dM_boot_113 rfl ?_
    refine V_iconst (v := 1) dM_boot_114 (by decide) ?_
    refine V_aload_n dM_boot_115 rfl ?_
    refine V_get dM_boot_116 fM_71 (h.1) rfl ?_
    refine V_isub dM_boot_119 ?_
    rw [sub1 hr]
    refine V_rV1 dM_boot_120 clM_97 (Nat.le_of_ble_eq_true rfl) (h.1) rfl (by decide) (cM_sound h hm hV hS _) ?_
    rw [spSound_nI (show 1 - run < 2 by omega)]
    refine V_if_ne (tgt := 129) dM_boot_123 (by decide) (fun c2 => ?_) (fun c2 => ?_)
    · rw [if_pos (if10 c2)]
      refine V_aload_n dM_boot_129 rfl ?_
      refine V_iconst (v := 1) dM_boot_130 (by decide) ?_
      refine V_aload_n dM_boot_131 rfl ?_
      refine V_get dM_boot_132 fM_71 (h.1) rfl ?_
      refine V_isub dM_boot_135 ?_
      rw [sub1 hr]
      refine V_put dM_boot_136 fM_71 (h.1) rfl rfl (Nat.le_of_ble_eq_true rfl) ?_
      obtain ⟨e1, a1⟩ := h.fld (np' := np) (run' := 1 - run) (sta' := sta) (tri' := tri) (tg' := tg) (nx' := nx) (cp' := cp) (bl' := bl) rfl
      refine V_aload_n dM_boot_139 rfl ?_
      refine V_iconst (v := 0) dM_boot_140 (by decide) ?_
      refine V_put dM_boot_141 fM_68 (e1.1) rfl rfl (Nat.le_of_ble_eq_true rfl) ?_
      obtain ⟨e2, a2⟩ := e1.fld (np' := np) (run' := 1 - run) (sta' := 0) (tri' := tri) (tg' := tg) (nx' := nx) (cp' := cp) (bl' := bl) rfl
      refine V_aload_n dM_boot_144 rfl ?_
      refine V_get dM_boot_145 fM_71 (e2.1) rfl ?_
      exact V_iret dM_boot_148 rfl ⟨rfl, rfl, (a.tr a1).tr a2, e2⟩
    · rw [if_neg (if00 c2)]
      refine V_bipush (v := (-5)) dM_boot_126 (by decide) ?_
      exact V_iret dM_boot_128 rfl ⟨rfl, rfl, a, h⟩
  · rw [if_pos (if10 c)]
    refine V_aload_n dM_boot_108 rfl ?_
    refine V_get dM_boot_109 fM_71 (h.1) rfl ?_
    exact V_iret dM_boot_112 rfl ⟨rfl, rfl, a, h⟩
theorem cM_boot (h : refX M dr np vs run sta tri tg nx sl mr th) (hi : inv dr np vs run sta tri tg nx sl mr th) : Mt G 2 mtM_boot [.ref 33] M n 0 0 (rQ M n (spBoot vs tg (run, sta, tri, nx, sl, mr)).1 dr np vs (spBoot vs tg (run, sta, tri, nx, sl, mr)).2.1 (spBoot vs tg (run, sta, tri, nx, sl, mr)).2.2.1 (spBoot vs tg (run, sta, tri, nx, sl, mr)).2.2.2.1 tg (spBoot vs tg (run, sta, tri, nx, sl, mr)).2.2.2.2.1 (spBoot vs tg (run, sta, tri, nx, sl, mr)).2.2.2.2.2.1 (spBoot vs tg (run, sta, tri, nx, sl, mr)).2.2.2.2.2.2 th) := by
  obtain ⟨i1, i2, i3, i4, i5, i6, i7, i8, i9, i10, i11, i12, i13, i14, i15, i16, i17⟩ := hi
  obtain ⟨bs, cp, bl, hM, hb, hu⟩ := h
  have h1 := hM.1
  have hm7 : ∀ k, k < 2 → mr k < 7 := fun k hk => by have := i11 k hk; omega
  -- only a state that stays under way keeps its update
  have fin : ∀ x : bX, (uwP x.2.1 → bl = blk (patchOf (vs tg) (vs (x.2.2.2.2.2 x.1)))) → (uwP (bFin vs x).2.2.1 → bl = blk (patchOf (vs tg) (vs ((bFin vs x).2.2.2.2.2.2 (bFin vs x).2.1)))) := by
    intro x hx
    unfold bFin
    by_cases c1 : sndP vs x.2.2.2.2.1 x.2.2.2.2.2 x.1
    · rw [if_pos c1]; exact hx
    · rw [if_neg c1]
      by_cases c2 : sndP vs x.2.2.2.2.1 x.2.2.2.2.2 (1 - x.1)
      · rw [if_pos c2]
        intro z
        have z : uwP 0 := z
        omega
      · rw [if_neg c2]; exact hx
  have go : ∀ (x : bX) (M1 : aM), bStep tg (run, sta, tri, nx, sl, mr) = x → fM M M1 → modB M1 dr np vs tg th bs cp bl x → x.1 ≤ 1 → (∀ k, k < 2 → x.2.2.2.2.2 k < 7) → (∀ k, k < 2 → (x.2.2.2.2.1 k).length ≤ 40) → (uwP x.2.1 → bl = blk (patchOf (vs tg) (vs (x.2.2.2.2.2 x.1)))) → V G mtM_boot 2 (rQ M n (spBoot vs tg (run, sta, tri, nx, sl, mr)).1 dr np vs (spBoot vs tg (run, sta, tri, nx, sl, mr)).2.1 (spBoot vs tg (run, sta, tri, nx, sl, mr)).2.2.1 (spBoot vs tg (run, sta, tri, nx, sl, mr)).2.2.2.1 tg (spBoot vs tg (run, sta, tri, nx, sl, mr)).2.2.2.2.1 (spBoot vs tg (run, sta, tri, nx, sl, mr)).2.2.2.2.2.1 (spBoot vs tg (run, sta, tri, nx, sl, mr)).2.2.2.2.2.2 th) 0 0 97 [some (.ref 33)] [] M1 n := by
    intro x M1 ex a1 e1 y1 y2 y3 y4
    unfold spBoot
    rw [ex]
    refine V_post (fun v M' n' hq => ?_) (lM_boot e1 a1 y1 i4 y2 y3)
    obtain ⟨z1, z2, z3, z4⟩ := hq
    exact ⟨z1, z2, z3, _, _, _, z4, hb, fin x y4⟩
  refine Mt.of rfl rfl (Nat.le_of_ble_eq_true rfl) ?_
  refine V_aload_n dM_boot_0 rfl ?_
  refine V_get dM_boot_1 fM_68 (h1) rfl ?_
  refine V_iconst (v := 3) dM_boot_4 (by decide) ?_
  refine V_icmp_ne (tgt := 31) dM_boot_5 (by decide) (fun c3 => ?_) (fun c3 => ?_)
  · have e3 : ¬ sta = 3 := fun q => c3 (by rw [q]; rfl)
    refine V_aload_n dM_boot_31 rfl ?_
    refine V_get dM_boot_32 fM_68 (h1) rfl ?_
    refine V_iconst (v := 4) dM_boot_35 (by decide) ?_
    refine V_icmp_ne (tgt := 59) dM_boot_36 (by decide) (fun c4 => ?_) (fun c4 => ?_)
    · have e4 : ¬ sta = 4 := fun q => c4 (by rw [q]; rfl)
      refine V_aload_n dM_boot_59 rfl ?_
      refine V_get dM_boot_60 fM_68 (h1) rfl ?_
      refine V_iconst (v := 4) dM_boot_63 (by decide) ?_
      refine V_icmp_ne (tgt := 85) dM_boot_64 (by decide) (fun c5 => ?_) (fun c5 => ?_)
      · refine V_aload_n dM_boot_85 rfl ?_
        refine V_get dM_boot_86 fM_68 (h1) rfl ?_
        refine V_iconst (v := 2) dM_boot_89 (by decide) ?_
        refine V_icmp_ne (tgt := 97) dM_boot_90 (by decide) (fun c2 => ?_) (fun c2 => ?_)
        · have e2 : ¬ sta = 2 := fun q => c2 (by rw [q]; rfl)
          refine go (run, sta, tri, nx, sl, mr) M ?_ fM.rf hM i8 hm7 i12 hu
          unfold bStep
          rw [if_neg e3, if_neg e4, if_neg e2]
        · have e2 : sta = 2 := (nI_eq (b := 2) (by omega) (by omega)).mp c2
          refine V_aload_n dM_boot_93 rfl ?_
          refine V_callV0 0 0 dM_boot_94 clM_91 (Nat.le_of_ble_eq_true rfl) (h1) rfl (by decide) (by decide) (by decide) (cM_beginInstall hM i8) (fun x M1 n' hQ => ?_)
          obtain ⟨q1, q2, q3, q4⟩ := hQ
          subst q1; subst q2
          refine go (run, 2, tri, 0, va_up sl (1 - run) [], va_up mr (1 - run) tg) M1 ?_ q3 q4 i8 (fun k hk => ?_) (fun k hk => ?_) (fun _ => ?_)
          · unfold bStep
            rw [if_neg e3, if_neg e4, if_pos e2]
          · show va_up mr (1 - run) tg k < 7
            by_cases z : k = 1 - run
            · subst z; rw [vu_eq]; omega
            · rw [vu_ne z]; exact hm7 k hk
          · show (va_up sl (1 - run) [] k).length ≤ 40
            by_cases z : k = 1 - run
            · subst z; rw [vu_eq]; simp
            · rw [vu_ne z]; exact i12 k hk
          · show bl = blk (patchOf (vs tg) (vs (va_up mr (1 - run) tg run)))
            rw [vu_ne (by omega)]
            exact hu (Or.inr (Or.inl e2))
      · exact absurd ((nI_eq (b := 4) (by omega) (by omega)).mp c5) e4
    · have e4 : sta = 4 := (nI_eq (b := 4) (by omega) (by omega)).mp c4
      refine V_aload_n dM_boot_39 rfl ?_
      refine V_get dM_boot_40 fM_105 (h1) rfl ?_
      refine V_if_le (tgt := 59) dM_boot_43 (by decide) (fun c5 => ?_) (fun c5 => ?_)
      · have ct : ¬ 0 < tri := fun q => nI_nle q (by omega) c5
        refine V_aload_n dM_boot_59 rfl ?_
        refine V_get dM_boot_60 fM_68 (h1) rfl ?_
        refine V_iconst (v := 4) dM_boot_63 (by decide) ?_
        refine V_icmp_ne (tgt := 85) dM_boot_64 (by decide) (fun c6 => ?_) (fun c6 => ?_)
        · exact absurd c4 c6
        · refine V_aload_n dM_boot_67 rfl ?_
          refine V_iconst (v := 1) dM_boot_68 (by decide) ?_
          refine V_aload_n dM_boot_69 rfl ?_
          refine V_get dM_boot_70 fM_71 (h1) rfl ?_
          refine V_isub dM_boot_73 ?_
          rw [sub1 i8]
          refine V_put dM_boot_74 fM_71 (h1) rfl rfl (Nat.le_of_ble_eq_true rfl) ?_
          obtain ⟨f1, a1⟩ := hM.fld (np' := np) (run' := 1 - run) (sta' := sta) (tri' := tri) (tg' := tg) (nx' := nx) (cp' := cp) (bl' := bl) rfl
          refine V_aload_n dM_boot_77 rfl ?_
          refine V_iconst (v := 0) dM_boot_78 (by decide) ?_
          refine V_put dM_boot_79 fM_68 (f1.1) rfl rfl (Nat.le_of_ble_eq_true rfl) ?_
          obtain ⟨f2, a2⟩ := f1.fld (np' := np) (run' := 1 - run) (sta' := 0) (tri' := tri) (tg' := tg) (nx' := nx) (cp' := cp) (bl' := bl) rfl
          refine V_goto (tgt := 97) dM_boot_82 (by decide) ?_
          refine go (1 - run, 0, tri, nx, sl, mr) _ ?_ (a1.tr a2) f2 (by show 1 - run ≤ 1; omega) hm7 i12 (fun z => by have z : uwP 0 := z; omega)
          unfold bStep
          rw [if_neg e3, if_pos e4, if_neg ct]
      · have ct : 0 < tri := by
          rcases Nat.eq_zero_or_pos tri with q | q
          · exact absurd (by rw [q]; exact Int32.le_refl 0) c5
          · exact q
        refine V_aload_n dM_boot_46 rfl ?_
        refine V_dup dM_boot_47 rfl ?_
        refine V_get dM_boot_48 fM_105 (h1) rfl ?_
        refine V_iconst (v := 1) dM_boot_51 (by decide) ?_
        refine V_isub dM_boot_52 ?_
        refine V_put dM_boot_53 fM_105 (h1) rfl rfl (Nat.le_of_ble_eq_true rfl) ?_
        obtain ⟨f1, a1⟩ := hM.fld (c := .inr (4, [.ref 34, .ref 35, .int (nI np), .ref 36, .int (nI dr.length), .ref 37, .int (nI bs.length), .int (nI cp), .ref 38, .ref 39, .ref 40, .int (nI run), .int (nI sta), .int (nI tri - 1), .int (nI tg), .ref 41, .int (nI bl), .int (nI nx)])) (np' := np) (run' := run) (sta' := 4) (tri' := tri - 1) (tg' := tg) (nx' := nx) (cp' := cp) (bl' := bl) (by rw [show nI tri - 1 = nI (tri - 1) from pk_sub (b := 1) ct, e4])
        refine V_goto (tgt := 97) dM_boot_56 (by decide) ?_
        refine go (run, 4, tri - 1, nx, sl, mr) _ ?_ a1 f1 i8 hm7 i12 (fun z => by have z : uwP 4 := z; omega)
        unfold bStep
        rw [if_neg e3, if_pos e4, if_pos ct]
  · have e3 : sta = 3 := (nI_eq (b := 3) (by omega) (by omega)).mp c3
    refine V_aload_n dM_boot_8 rfl ?_
    refine V_iconst (v := 1) dM_boot_9 (by decide) ?_
    refine V_aload_n dM_boot_10 rfl ?_
    refine V_get dM_boot_11 fM_71 (h1) rfl ?_
    refine V_isub dM_boot_14 ?_
    rw [sub1 i8]
    refine V_put dM_boot_15 fM_71 (h1) rfl rfl (Nat.le_of_ble_eq_true rfl) ?_
    obtain ⟨f1, a1⟩ := hM.fld (np' := np) (run' := 1 - run) (sta' := sta) (tri' := tri) (tg' := tg) (nx' := nx) (cp' := cp) (bl' := bl) rfl
    refine V_aload_n dM_boot_18 rfl ?_
    refine V_iconst (v := 4) dM_boot_19 (by decide) ?_
    refine V_put dM_boot_20 fM_68 (f1.1) rfl rfl (Nat.le_of_ble_eq_true rfl) ?_
    obtain ⟨f2, a2⟩ := f1.fld (np' := np) (run' := 1 - run) (sta' := 4) (tri' := tri) (tg' := tg) (nx' := nx) (cp' := cp) (bl' := bl) rfl
    refine V_aload_n dM_boot_23 rfl ?_
    refine V_iconst (v := 2) dM_boot_24 (by decide) ?_
    refine V_put dM_boot_25 fM_105 (f2.1) rfl rfl (Nat.le_of_ble_eq_true rfl) ?_
    obtain ⟨f3, a3⟩ := f2.fld (np' := np) (run' := 1 - run) (sta' := 4) (tri' := 2) (tg' := tg) (nx' := nx) (cp' := cp) (bl' := bl) rfl
    refine V_goto (tgt := 97) dM_boot_28 (by decide) ?_
    refine go (1 - run, 4, 2, nx, sl, mr) _ ?_ ((a1.tr a2).tr a3) f3 (by show 1 - run ≤ 1; omega) hm7 i12 (fun z => by have z : uwP 4 := z; omega)
    unfold bStep
    rw [if_pos e3]
theorem cM_damage (h : refX M dr np vs run sta tri tg nx sl mr th) (hS : ∀ k, k < 2 → (sl k).length ≤ 40) (s i b : Int32) : Mt G 1 mtM_damage [.ref 33, .int s, .int i, .int b] M n 0 0 (rQ M n (spDamage sl s i b).1 dr np vs run sta tri tg nx (spDamage sl s i b).2 mr th) := by
  have h' := h
  obtain ⟨bs, cp, bl, hM, hb, hu⟩ := h
  obtain ⟨h1, h2, h3, h4, ⟨fr, fL, r1, r2, r3, r4⟩, -⟩ := id hM
  refine Mt.of rfl rfl (Nat.le_of_ble_eq_true rfl) ?_
  unfold spDamage
  refine V_iload_n dM_damage_0 rfl ?_
  refine V_iconst (v := 0) dM_damage_1 (by decide) ?_
  refine V_iconst (v := 1) dM_damage_2 (by decide) ?_
  refine V_rS3 dM_damage_3 clM_35 (Nat.le_of_ble_eq_true rfl) (by decide) (cM_in s _ _) ?_
  refine V_if_eq (tgt := 34) dM_damage_6 (by decide) (fun c1 => ?_) (fun c1 => ?_)
  · rw [if_neg (fun q => if00 c1 (in01.mpr q.1))]
    refine V_iconst (v := (-1)) dM_damage_34 (by decide) ?_
    exact V_iret dM_damage_35 rfl ⟨rfl, rfl, fM.rf, h'⟩
  · have hs := in01.mp (if10 c1)
    obtain ⟨k, hk, e, eb⟩ := isS_of hs
    rw [eb]
    subst e
    have hl := hS k hk
    refine V_iload_n dM_damage_9 rfl ?_
    refine V_if_lt (tgt := 34) dM_damage_10 (by decide) (fun c2 => ?_) (fun c2 => ?_)
    · rw [if_neg (fun q => q.2.1.1 c2)]
      refine V_iconst (v := (-1)) dM_damage_34 (by decide) ?_
      exact V_iret dM_damage_35 rfl ⟨rfl, rfl, fM.rf, h'⟩
    · refine V_iload_n dM_damage_13 rfl ?_
      refine V_aload_n dM_damage_14 rfl ?_
      refine V_get dM_damage_15 fM_25 (h1) rfl ?_
      refine V_iload_n dM_damage_18 rfl ?_
      refine V_kiald dM_damage_19 (r2) rfl (hk) (by decide) (r4 k hk) ?_
      refine V_icmp_ge (tgt := 34) dM_damage_20 (by decide) (fun c3 => ?_) (fun c3 => ?_)
      · rw [if_neg (fun q => Int32.not_lt.mpr c3 q.2.1.2)]
        refine V_iconst (v := (-1)) dM_damage_34 (by decide) ?_
        exact V_iret dM_damage_35 rfl ⟨rfl, rfl, fM.rf, h'⟩
      · have hx : xIn (sl k) i := ⟨c2, Int32.not_le.mp c3⟩
        refine V_iload_n dM_damage_23 rfl ?_
        refine V_iconst (v := 0) dM_damage_24 (by decide) ?_
        refine V_sipush (v := 255) dM_damage_25 (by decide) ?_
        refine V_rS3 dM_damage_28 clM_35 (Nat.le_of_ble_eq_true rfl) (by decide) (cM_in b _ _) ?_
        refine V_if_ne (tgt := 36) dM_damage_31 (by decide) (fun c4 => ?_) (fun c4 => ?_)
        · rw [if_pos ⟨hs, hx, in0.mp (if10 c4)⟩]
          obtain ⟨j, hj, e⟩ := xIn_of (by omega) hx
          subst e
          rw [show bN (nI j) = j from nI_clamp (by omega)]
          refine V_aload_n dM_damage_36 rfl ?_
          refine V_get dM_damage_37 fM_22 (h1) rfl ?_
          refine V_bipush (v := 40) dM_damage_40 (by decide) ?_
          refine V_iload_n dM_damage_42 rfl ?_
          refine V_imul dM_damage_43 ?_
          refine V_iload_n dM_damage_44 rfl ?_
          refine V_iadd dM_damage_45 ?_
          rw [m40, nI_add]
          refine V_iload_n dM_damage_46 rfl ?_
          refine V_kiast dM_damage_47 (r1) rfl (show 40 * k + j < 80 by omega) (by decide) ?_
          obtain ⟨e1, a1⟩ := hM.rows (M' := hU M 38 (.inl (0, 80, .inl (upd fr (40 * k + j) b)))) (sl' := va_up sl k ((sl k).set j b)) (fun q z _ => hU_ne z) ⟨_, fL, hU_eq _ _ _, (hU_ne (by decide)).trans r2, fun s hs' i' hi' => by
            by_cases z : s = k
            · subst z
              rw [vu_eq] at hi' ⊢
              rw [List.length_set] at hi'
              by_cases y : i' = j
              · subst y
                rw [pk_us]
                simp [List.getD_eq_getElem?_getD, hj]
              · rw [pk_un (by omega), r3 s hs' i' hi']
                simp [List.getD_eq_getElem?_getD, List.getElem?_set_ne (fun q => y q.symm)]
            · rw [vu_ne z] at hi' ⊢
              have := hS s hs'
              rw [pk_un (by omega)]
              exact r3 s hs' i' hi', fun s hs' => by
            by_cases z : s = k
            · subst z; rw [vu_eq, List.length_set]; exact r4 s hs'
            · rw [vu_ne z]; exact r4 s hs'⟩
          refine V_iconst (v := 0) dM_damage_48 (by decide) ?_
          exact V_iret dM_damage_49 rfl ⟨rfl, rfl, a1, _, _, _, e1, hb, hu⟩
        · rw [if_neg (fun q => if00 c4 (in0.mpr q.2.2))]
          refine V_iconst (v := (-1)) dM_damage_34 (by decide) ?_
          exact V_iret dM_damage_35 rfl ⟨rfl, rfl, fM.rf, h'⟩
theorem cM_slot (h : refX M dr np vs run sta tri tg nx sl mr th) (hS : ∀ k, k < 2 → (sl k).length ≤ 40) (s i : Int32) : Mt G 1 mtM_slot [.ref 33, .int s, .int i] M n 0 0 (rd M n (spSlot sl s i)) := by
  obtain ⟨bs, cp, bl, hM, hb, hu⟩ := h
  obtain ⟨h1, h2, h3, h4, ⟨fr, fL, r1, r2, r3, r4⟩, -⟩ := id hM
  refine Mt.of rfl rfl (Nat.le_of_ble_eq_true rfl) ?_
  unfold spSlot
  refine V_iload_n dM_slot_0 rfl ?_
  refine V_iconst (v := 0) dM_slot_1 (by decide) ?_
  refine V_iconst (v := 1) dM_slot_2 (by decide) ?_
  refine V_rS3 dM_slot_3 clM_35 (Nat.le_of_ble_eq_true rfl) (by decide) (cM_in s _ _) ?_
  refine V_if_eq (tgt := 37) dM_slot_6 (by decide) (fun c1 => ?_) (fun c1 => ?_)
  · rw [if_neg (fun q => if00 c1 (in01.mpr q.1))]
    refine V_iconst (v := (-1)) dM_slot_37 (by decide) ?_
    exact V_iret dM_slot_38 rfl ⟨rfl, rfl, rfl⟩
  · have hs := in01.mp (if10 c1)
    obtain ⟨k, hk, e, eb⟩ := isS_of hs
    rw [eb]
    subst e
    have hl := hS k hk
    refine V_iload_n dM_slot_9 rfl ?_
    refine V_if_lt (tgt := 37) dM_slot_10 (by decide) (fun c2 => ?_) (fun c2 => ?_)
    · rw [if_neg (fun q => q.2.1 c2)]
      refine V_iconst (v := (-1)) dM_slot_37 (by decide) ?_
      exact V_iret dM_slot_38 rfl ⟨rfl, rfl, rfl⟩
    · refine V_iload_n dM_slot_13 rfl ?_
      refine V_aload_n dM_slot_14 rfl ?_
      refine V_get dM_slot_15 fM_25 (h1) rfl ?_
      refine V_iload_n dM_slot_18 rfl ?_
      refine V_kiald dM_slot_19 (r2) rfl (hk) (by decide) (r4 k hk) ?_
      refine V_icmp_ge (tgt := 37) dM_slot_20 (by decide) (fun c3 => ?_) (fun c3 => ?_)
      · rw [if_neg (fun q => Int32.not_lt.mpr c3 q.2.2)]
        refine V_iconst (v := (-1)) dM_slot_37 (by decide) ?_
        exact V_iret dM_slot_38 rfl ⟨rfl, rfl, rfl⟩
      · have hx : xIn (sl k) i := ⟨c2, Int32.not_le.mp c3⟩
        rw [if_pos ⟨hs, hx⟩]
        obtain ⟨j, hj, e⟩ := xIn_of (by omega) hx
        subst e
        refine V_aload_n dM_slot_23 rfl ?_
        refine V_get dM_slot_24 fM_22 (h1) rfl ?_
        refine V_bipush (v := 40) dM_slot_27 (by decide) ?_
        refine V_iload_n dM_slot_29 rfl ?_
        refine V_imul dM_slot_30 ?_
        refine V_iload_n dM_slot_31 rfl ?_
        refine V_iadd dM_slot_32 ?_
        rw [m40, nI_add]
        refine V_kiald dM_slot_33 (r1) rfl (show 40 * k + j < 80 by omega) (by decide) (r3 k hk j hj) ?_
        refine V_goto (tgt := 38) dM_slot_34 (by decide) ?_
        refine V_iret dM_slot_38 rfl ⟨?_, rfl, rfl⟩
        rw [rAt_nI (by omega) (by omega)]
theorem cM_state (h : refX M dr np vs run sta tri tg nx sl mr th) (hs : sta ≤ 4) (w : Int32) : Mt G 1 mtM_state [.ref 33, .int w] M n 0 0 (rd M n (spState dr np vs run sta tri tg sl mr th w)) := by
  obtain ⟨bs, cp, bl, hM, hb, hu⟩ := h
  obtain ⟨h1, h2, h3, h4, ⟨fr, fL, r1, r2, r3, r4⟩, ⟨fm, m1, m2⟩, -⟩ := id hM
  refine Mt.of rfl rfl (Nat.le_of_ble_eq_true rfl) ?_
  refine V_iload_n dM_state_0 rfl ?_
  unfold spState
  by_cases w0 : w = 0
  · subst w0
    rw [if_pos rfl]
    refine V_tableIn (tgt := 60) (off := 59) dM_state_1 (by decide) (by decide) rfl (by decide) ?_
    refine V_aload_n dM_state_60 rfl ?_
    refine V_get dM_state_61 fM_68 (h1) rfl ?_
    exact V_iret dM_state_64 rfl ⟨rfl, rfl, rfl⟩
  by_cases w1 : w = 1
  · subst w1
    rw [if_neg (show ¬ (1 : Int32) = 0 by decide), if_pos rfl]
    refine V_tableIn (tgt := 65) (off := 64) dM_state_1 (by decide) (by decide) rfl (by decide) ?_
    refine V_aload_n dM_state_65 rfl ?_
    refine V_get dM_state_66 fM_71 (h1) rfl ?_
    exact V_iret dM_state_69 rfl ⟨rfl, rfl, rfl⟩
  by_cases w2 : w = 2
  · subst w2
    rw [if_neg (show ¬ (2 : Int32) = 0 by decide), if_neg (show ¬ (2 : Int32) = 1 by decide), if_pos rfl]
    refine V_tableIn (tgt := 70) (off := 69) dM_state_1 (by decide) (by decide) rfl (by decide) ?_
    refine V_aload_n dM_state_70 rfl ?_
    refine V_get dM_state_71 fM_68 (h1) rfl ?_
    refine V_iconst (v := 4) dM_state_74 (by decide) ?_
    refine V_icmp_ne (tgt := 85) dM_state_75 (by decide) (fun c => ?_) (fun c => ?_)
    · refine V_iconst (v := 0) dM_state_85 (by decide) ?_
      refine V_iret dM_state_86 rfl ⟨?_, rfl, rfl⟩
      rw [if_neg (fun q => c (by rw [q]; rfl))]
    · have e : sta = 4 := (nI_eq (b := 4) (by omega) (by omega)).mp c
      refine V_aload_n dM_state_78 rfl ?_
      refine V_get dM_state_79 fM_105 (h1) rfl ?_
      refine V_goto (tgt := 86) dM_state_82 (by decide) ?_
      refine V_iret dM_state_86 rfl ⟨?_, rfl, rfl⟩
      rw [if_pos e]
  by_cases w3 : w = 3
  · subst w3
    rw [if_neg (show ¬ (3 : Int32) = 0 by decide), if_neg (show ¬ (3 : Int32) = 1 by decide), if_neg (show ¬ (3 : Int32) = 2 by decide), if_pos rfl]
    refine V_tableIn (tgt := 87) (off := 86) dM_state_1 (by decide) (by decide) rfl (by decide) ?_
    refine V_aload_n dM_state_87 rfl ?_
    refine V_get dM_state_88 fM_28 (h1) rfl ?_
    refine V_iconst (v := 0) dM_state_91 (by decide) ?_
    refine V_kiald dM_state_92 (m1) rfl (show 0 < 2 by decide) (by decide) (m2 0 (by decide)) ?_
    exact V_iret dM_state_93 rfl ⟨rfl, rfl, rfl⟩
  by_cases w4 : w = 4
  · subst w4
    rw [if_neg (show ¬ (4 : Int32) = 0 by decide), if_neg (show ¬ (4 : Int32) = 1 by decide), if_neg (show ¬ (4 : Int32) = 2 by decide), if_neg (show ¬ (4 : Int32) = 3 by decide), if_pos rfl]
    refine V_tableIn (tgt := 94) (off := 93) dM_state_1 (by decide) (by decide) rfl (by decide) ?_
    refine V_aload_n dM_state_94 rfl ?_
    refine V_get dM_state_95 fM_28 (h1) rfl ?_
    refine V_iconst (v := 1) dM_state_98 (by decide) ?_
    refine V_kiald dM_state_99 (m1) rfl (show 1 < 2 by decide) (by decide) (m2 1 (by decide)) ?_
    exact V_iret dM_state_100 rfl ⟨rfl, rfl, rfl⟩
  by_cases w5 : w = 5
  · subst w5
    rw [if_neg (show ¬ (5 : Int32) = 0 by decide), if_neg (show ¬ (5 : Int32) = 1 by decide), if_neg (show ¬ (5 : Int32) = 2 by decide), if_neg (show ¬ (5 : Int32) = 3 by decide), if_neg (show ¬ (5 : Int32) = 4 by decide), if_pos rfl]
    refine V_tableIn (tgt := 101) (off := 100) dM_state_1 (by decide) (by decide) rfl (by decide) ?_
    refine V_aload_n dM_state_101 rfl ?_
    refine V_get dM_state_102 fM_25 (h1) rfl ?_
    refine V_iconst (v := 0) dM_state_105 (by decide) ?_
    refine V_kiald dM_state_106 (r2) rfl (show 0 < 2 by decide) (by decide) (r4 0 (by decide)) ?_
    exact V_iret dM_state_107 rfl ⟨rfl, rfl, rfl⟩
  by_cases w6 : w = 6
  · subst w6
    rw [if_neg (show ¬ (6 : Int32) = 0 by decide), if_neg (show ¬ (6 : Int32) = 1 by decide), if_neg (show ¬ (6 : Int32) = 2 by decide), if_neg (show ¬ (6 : Int32) = 3 by decide), if_neg (show ¬ (6 : Int32) = 4 by decide), if_neg (show ¬ (6 : Int32) = 5 by decide), if_pos rfl]
    refine V_tableIn (tgt := 108) (off := 107) dM_state_1 (by decide) (by decide) rfl (by decide) ?_
    refine V_aload_n dM_state_108 rfl ?_
    refine V_get dM_state_109 fM_25 (h1) rfl ?_
    refine V_iconst (v := 1) dM_state_112 (by decide) ?_
    refine V_kiald dM_state_113 (r2) rfl (show 1 < 2 by decide) (by decide) (r4 1 (by decide)) ?_
    exact V_iret dM_state_114 rfl ⟨rfl, rfl, rfl⟩
  by_cases w7 : w = 7
  · subst w7
    rw [if_neg (show ¬ (7 : Int32) = 0 by decide), if_neg (show ¬ (7 : Int32) = 1 by decide), if_neg (show ¬ (7 : Int32) = 2 by decide), if_neg (show ¬ (7 : Int32) = 3 by decide), if_neg (show ¬ (7 : Int32) = 4 by decide), if_neg (show ¬ (7 : Int32) = 5 by decide), if_neg (show ¬ (7 : Int32) = 6 by decide), if_pos rfl]
    refine V_tableIn (tgt := 115) (off := 114) dM_state_1 (by decide) (by decide) rfl (by decide) ?_
    refine V_aload_n dM_state_115 rfl ?_
    refine V_rV0 dM_state_116 clM_83 (Nat.le_of_ble_eq_true rfl) (h1) rfl (by decide) (cM_underWay hM hs) ?_
    refine V_if_eq (tgt := 129) dM_state_119 (by decide) (fun c => ?_) (fun c => ?_)
    · refine V_iconst (v := 0) dM_state_129 (by decide) ?_
      refine V_iret dM_state_130 rfl ⟨?_, rfl, rfl⟩
      rw [if_neg (if00 c)]
    · refine V_aload_n dM_state_122 rfl ?_
      refine V_get dM_state_123 fM_74 (h1) rfl ?_
      refine V_goto (tgt := 130) dM_state_126 (by decide) ?_
      refine V_iret dM_state_130 rfl ⟨?_, rfl, rfl⟩
      rw [if_pos (if10 c)]
  by_cases w8 : w = 8
  · subst w8
    rw [if_neg (show ¬ (8 : Int32) = 0 by decide), if_neg (show ¬ (8 : Int32) = 1 by decide), if_neg (show ¬ (8 : Int32) = 2 by decide), if_neg (show ¬ (8 : Int32) = 3 by decide), if_neg (show ¬ (8 : Int32) = 4 by decide), if_neg (show ¬ (8 : Int32) = 5 by decide), if_neg (show ¬ (8 : Int32) = 6 by decide), if_neg (show ¬ (8 : Int32) = 7 by decide), if_pos rfl]
    refine V_tableIn (tgt := 131) (off := 130) dM_state_1 (by decide) (by decide) rfl (by decide) ?_
    refine V_aload_n dM_state_131 rfl ?_
    refine V_rV0 dM_state_132 clM_83 (Nat.le_of_ble_eq_true rfl) (h1) rfl (by decide) (cM_underWay hM hs) ?_
    refine V_if_eq (tgt := 150) dM_state_135 (by decide) (fun c => ?_) (fun c => ?_)
    · refine V_iconst (v := 0) dM_state_150 (by decide) ?_
      refine V_iret dM_state_151 rfl ⟨?_, rfl, rfl⟩
      rw [if_neg (if00 c)]
    · refine V_aload_n dM_state_138 rfl ?_
      refine V_get dM_state_139 fM_77 (h1) rfl ?_
      refine V_aload_n dM_state_142 rfl ?_
      refine V_rV0 dM_state_143 clM_87 (Nat.le_of_ble_eq_true rfl) (h1) rfl (by decide) (cM_missing hM hb) ?_
      refine V_isub dM_state_146 ?_
      refine V_goto (tgt := 151) dM_state_147 (by decide) ?_
      refine V_iret dM_state_151 rfl ⟨?_, rfl, rfl⟩
      rw [if_pos (if10 c), ← hu (if10 c), pk_sub (miss_le th bl)]
  by_cases w9 : w = 9
  · subst w9
    rw [if_neg (show ¬ (9 : Int32) = 0 by decide), if_neg (show ¬ (9 : Int32) = 1 by decide), if_neg (show ¬ (9 : Int32) = 2 by decide), if_neg (show ¬ (9 : Int32) = 3 by decide), if_neg (show ¬ (9 : Int32) = 4 by decide), if_neg (show ¬ (9 : Int32) = 5 by decide), if_neg (show ¬ (9 : Int32) = 6 by decide), if_neg (show ¬ (9 : Int32) = 7 by decide), if_neg (show ¬ (9 : Int32) = 8 by decide), if_pos rfl]
    refine V_tableIn (tgt := 152) (off := 151) dM_state_1 (by decide) (by decide) rfl (by decide) ?_
    refine V_aload_n dM_state_152 rfl ?_
    refine V_get dM_state_153 fM_43 (h1) rfl ?_
    exact V_iret dM_state_156 rfl ⟨rfl, rfl, rfl⟩
  by_cases w10 : w = 10
  · subst w10
    rw [if_neg (show ¬ (10 : Int32) = 0 by decide), if_neg (show ¬ (10 : Int32) = 1 by decide), if_neg (show ¬ (10 : Int32) = 2 by decide), if_neg (show ¬ (10 : Int32) = 3 by decide), if_neg (show ¬ (10 : Int32) = 4 by decide), if_neg (show ¬ (10 : Int32) = 5 by decide), if_neg (show ¬ (10 : Int32) = 6 by decide), if_neg (show ¬ (10 : Int32) = 7 by decide), if_neg (show ¬ (10 : Int32) = 8 by decide), if_neg (show ¬ (10 : Int32) = 9 by decide), if_pos rfl]
    refine V_tableIn (tgt := 157) (off := 156) dM_state_1 (by decide) (by decide) rfl (by decide) ?_
    refine V_aload_n dM_state_157 rfl ?_
    refine V_get dM_state_158 fM_39 (h1) rfl ?_
    exact V_iret dM_state_161 rfl ⟨rfl, rfl, rfl⟩
  rw [if_neg w0, if_neg w1, if_neg w2, if_neg w3, if_neg w4, if_neg w5, if_neg w6, if_neg w7, if_neg w8, if_neg w9, if_neg w10]
  refine V_tableOut (tgt := 162) dM_state_1 ?_ (by decide) ?_
  · by_cases q : w.toInt < 0
    · exact Or.inl q
    · by_cases r : 10 < w.toInt
      · exact Or.inr r
      · obtain ⟨k, hk, e⟩ := w_of (N := 10) (by omega) (by omega) (by omega)
        exfalso
        rcases (show k = 0 ∨ k = 1 ∨ k = 2 ∨ k = 3 ∨ k = 4 ∨ k = 5 ∨ k = 6 ∨ k = 7 ∨ k = 8 ∨ k = 9 ∨ k = 10 by omega) with q | q | q | q | q | q | q | q | q | q | q <;> subst q
        · exact w0 e
        · exact w1 e
        · exact w2 e
        · exact w3 e
        · exact w4 e
        · exact w5 e
        · exact w6 e
        · exact w7 e
        · exact w8 e
        · exact w9 e
        · exact w10 e
  · refine V_iconst (v := (-1)) dM_state_162 (by decide) ?_
    exact V_iret dM_state_163 rfl ⟨rfl, rfl, rfl⟩
end MODF
