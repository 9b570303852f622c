/-! TwoSlots$Device: an update begins; pieces are installed -/
def thC (th : Nat → Bool) (i : Nat) : Nat → Bool := fun j => if j < i then false else th j
theorem thC_at (th : Nat → Bool) (i : Nat) : thC th (i + 1) i = false := by unfold thC; rw [if_pos (Nat.lt_succ_self i)]
theorem thC_ne {th : Nat → Bool} {i q : Nat} (h : ¬ q = i) : thC th (i + 1) q = thC th i q := by
  unfold thC
  by_cases y : q < i
  · rw [if_pos y, if_pos (by omega)]
  · rw [if_neg y, if_neg (by omega)]
def ins1 (vs : Nat → List Int32) (mr : Nat → Nat) (ub : List Int32) (run : Nat) (x : Nat × Nat × (Nat → List Int32)) : Nat × Nat × (Nat → List Int32) :=
  (if ub.length ≤ pcN ub x.2.1 then (if sndP vs (va_up x.2.2 (1 - run) (pcY ub (x.2.2 run) (x.2.2 (1 - run)) x.2.1)) mr (1 - run) then 3 else 0) else x.1, pcN ub x.2.1, va_up x.2.2 (1 - run) (pcY ub (x.2.2 run) (x.2.2 (1 - run)) x.2.1))
def insN (vs : Nat → List Int32) (mr : Nat → Nat) (ub : List Int32) (run : Nat) : Nat → Nat × Nat × (Nat → List Int32) → Nat × Nat × (Nat → List Int32)
  | 0, x => x
  | k + 1, x => if x.1 = 2 then insN vs mr ub run k (ins1 vs mr ub run x) else x
section DEVC
variable {G : wG} {M M' : aM} {n : Nat} {vs : Nat → List Int32} {run sta tri tg ms nx : Nat} {sl : Nat → List Int32} {mr : Nat → Nat} {ub : List Int32} {uc : Nat} {th : Nat → Bool}
theorem lD_beginUpdate {M0 : aM} {k : Nat} (hms : ms ≤ 9) : ∀ (j i : Nat) (M : aM), i + j = 9 → fD M0 M → devX M vs run sta tri tg ms nx sl mr ub uc (thC th i) → V G mtD_beginUpdate 5 (dQ M0 n (some (.int (nI ms))) vs run 1 tri tg ms nx sl mr ub uc (fun _ => false)) 0 0 45 [some (.ref 22), some (.int (nI k)), some (.int (nI i))] [] M n := by
  intro j
  induction j with
  | zero =>
    intro i M e a h
    have e : i = 9 := by omega
    subst e
    obtain ⟨h1, h2, h3, h4, h5, h6⟩ := id h
    obtain ⟨f, f1, f2⟩ := id h6
    refine V_iload_n dD_beginUpdate_45 rfl ?_
    refine V_aload_n dD_beginUpdate_46 rfl ?_
    refine V_get dD_beginUpdate_47 fD_47 (h1) rfl ?_
    refine V_alen dD_beginUpdate_50 (f1) rfl ?_
    refine V_icmp_ge (tgt := 67) dD_beginUpdate_51 (by decide) (fun c => ?_) (fun c => ?_)
    · have h' : devX M vs run sta tri tg ms nx sl mr ub uc (fun _ => false) := ⟨h1, h2, h3, h4, h5, f, f1, fun i hi => by rw [f2 i hi, show thC th 9 i = false from if_pos hi]⟩
      refine V_aload_n dD_beginUpdate_67 rfl ?_
      refine V_iconst (v := 1) dD_beginUpdate_68 (by decide) ?_
      refine V_put dD_beginUpdate_69 fD_31 (h1) rfl rfl (Nat.le_of_ble_eq_true rfl) ?_
      obtain ⟨e1, a1⟩ := h'.fld (run' := run) (sta' := 1) (tri' := tri) (tg' := tg) (ms' := ms) (nx' := nx) rfl
      refine V_aload_n dD_beginUpdate_72 rfl ?_
      refine V_get dD_beginUpdate_73 fD_51 (e1.1) rfl ?_
      exact V_iret dD_beginUpdate_76 rfl ⟨rfl, rfl, a.tr a1, e1⟩
    · exact absurd (nI_le (Nat.le_refl 9) (by omega)) c
  | succ j ih =>
    intro i M e a h
    have hi : i < 9 := by omega
    obtain ⟨h1, h2, h3, h4, h5, h6⟩ := id h
    obtain ⟨f, f1, f2⟩ := id h6
    refine V_iload_n dD_beginUpdate_45 rfl ?_
    refine V_aload_n dD_beginUpdate_46 rfl ?_
    refine V_get dD_beginUpdate_47 fD_47 (h1) rfl ?_
    refine V_alen dD_beginUpdate_50 (f1) rfl ?_
    refine V_icmp_ge (tgt := 67) dD_beginUpdate_51 (by decide) (fun c => ?_) (fun c => ?_)
    · exact absurd c (nI_ge hi (by omega))
    · refine V_aload_n dD_beginUpdate_54 rfl ?_
      refine V_get dD_beginUpdate_55 fD_47 (h1) rfl ?_
      refine V_iload_n dD_beginUpdate_58 rfl ?_
      refine V_iconst (v := 0) dD_beginUpdate_59 (by decide) ?_
      refine V_kzast dD_beginUpdate_60 (f1) rfl (hi) (by decide) ?_
      obtain ⟨e1, a1⟩ := h.thr (f := upd f i (vp_nar .boolean 0)) (th' := thC th (i + 1)) (fun q hq => by
        by_cases z : q = i
        · subst z
          rw [pk_us, thC_at]
          rfl
        · rw [pk_un z, f2 q hq, thC_ne z])
      refine V_iinc (v := _ + 1) dD_beginUpdate_61 (by decide) rfl rfl ?_
      refine V_goto (tgt := 45) dD_beginUpdate_64 (by decide) ?_
      rw [nI_1]
      exact ih (i + 1) _ (by omega) (a.tr a1) e1
theorem cD_beginUpdate (h : devX M vs run sta tri tg ms nx sl mr ub uc th) (hr : run ≤ 1) {k : Nat} (hk : k < 7) (hm : mr run < 7) (hv : (vs k).length ≤ 40) : Mt G 5 mtD_beginUpdate [.ref 22, .int (nI k)] M n 0 0 (dQ M n (some (.int (nI (blk (patchOf (vs k) (vs (mr run))))))) vs run 1 tri k (blk (patchOf (vs k) (vs (mr run)))) nx sl mr (patchOf (vs k) (vs (mr run))) (savedOf (vs k) (vs (mr run))) (fun _ => false)) := by
  have hr2 : run < 2 := by omega
  obtain ⟨h1, h2, h3, h4, h5, h6⟩ := id h
  obtain ⟨⟨gv, gv1, gv2⟩, gv3⟩ := id h2
  obtain ⟨f, f1, f2⟩ := id h4
  obtain ⟨p1, -⟩ := id h5
  have hb9 : blk (patchOf (vs k) (vs (mr run))) ≤ 9 := by
    have := patchOf_len (vs k) (vs (mr run)) hv
    unfold blk
    omega
  refine Mt.of rfl rfl (Nat.le_of_ble_eq_true rfl) ?_
  refine V_aload_n dD_beginUpdate_0 rfl ?_
  refine V_get dD_beginUpdate_1 fD_43 (h1) rfl ?_
  refine V_aload_n dD_beginUpdate_4 rfl ?_
  refine V_get dD_beginUpdate_5 fD_9 (h1) rfl ?_
  refine V_iload_n dD_beginUpdate_8 rfl ?_
  refine V_kaald dD_beginUpdate_9 (gv1) rfl (hk) (by decide) (gv2 k hk) ?_
  refine V_aload_n dD_beginUpdate_10 rfl ?_
  refine V_get dD_beginUpdate_11 fD_9 (h1) rfl ?_
  refine V_aload_n dD_beginUpdate_14 rfl ?_
  refine V_get dD_beginUpdate_15 fD_23 (h1) rfl ?_
  refine V_aload_n dD_beginUpdate_18 rfl ?_
  refine V_get dD_beginUpdate_19 fD_27 (h1) rfl ?_
  refine V_kiald dD_beginUpdate_22 (f1) rfl (hr2) (by decide) (f2 run hr2) ?_
  refine V_kaald dD_beginUpdate_23 (gv1) rfl (hm) (by decide) (gv2 _ hm) ?_
  refine V_callV2 0 0 dD_beginUpdate_24 clD_69 (Nat.le_of_ble_eq_true rfl) (p1) rfl (by decide) (by decide) (by decide) (cP_make h5 (gv3 k hk) (gv3 _ hm) hv ⟨by omega, by omega, by omega⟩ ⟨by omega, by omega, by omega⟩ ⟨by omega, by omega, by omega⟩ ⟨by omega, by omega, by omega⟩) (fun v M1 n' hQ => ?_)
  obtain ⟨q1, q2, q3, q4⟩ := hQ
  subst q1; subst q2
  obtain ⟨e1, a1⟩ := h.pat q3 q4
  refine V_aload_n dD_beginUpdate_27 rfl ?_
  refine V_iload_n dD_beginUpdate_28 rfl ?_
  refine V_put dD_beginUpdate_29 fD_37 (e1.1) rfl rfl (Nat.le_of_ble_eq_true rfl) ?_
  obtain ⟨e2, a2⟩ := e1.fld (run' := run) (sta' := sta) (tri' := tri) (tg' := k) (ms' := ms) (nx' := nx) rfl
  obtain ⟨p2, -⟩ := id e2.2.2.2.2.1
  refine V_aload_n dD_beginUpdate_32 rfl ?_
  refine V_aload_n dD_beginUpdate_33 rfl ?_
  refine V_get dD_beginUpdate_34 fD_43 (e2.1) rfl ?_
  refine V_rV0 dD_beginUpdate_37 clD_65 (Nat.le_of_ble_eq_true rfl) (p2) rfl (by decide) (cP_blocks e2.2.2.2.2.1) ?_
  refine V_put dD_beginUpdate_40 fD_51 (e2.1) rfl rfl (Nat.le_of_ble_eq_true rfl) ?_
  obtain ⟨e3, a3⟩ := e2.fld (run' := run) (sta' := sta) (tri' := tri) (tg' := k) (ms' := blk (patchOf (vs k) (vs (mr run)))) (nx' := nx) rfl
  refine V_iconst (v := 0) dD_beginUpdate_43 (by decide) ?_
  refine V_istore_n dD_beginUpdate_44 (by decide) ?_
  exact lD_beginUpdate (th := th) hb9 9 0 _ (by omega) ((a1.tr a2).tr a3) e3
theorem lD_installPieces {M0 : aM} {N : Nat} (hr : run ≤ 1) (hm : mr (1 - run) < 7) (hB : isB ub) (hN : N ≤ 20) : ∀ (j i : Nat) (M : aM) (sta nx : Nat) (sl : Nat → List Int32), i + j = N → sta ≤ 4 → (sta = 2 → nx < ub.length) → fD M0 M → devX M vs run sta tri tg ms nx sl mr ub uc th → V G mtD_installPieces 4 (dQ M0 n (some (.int (nI (insN vs mr ub run j (sta, nx, sl)).1))) vs run (insN vs mr ub run j (sta, nx, sl)).1 tri tg ms (insN vs mr ub run j (sta, nx, sl)).2.1 (insN vs mr ub run j (sta, nx, sl)).2.2 mr ub uc th) 0 0 2 [some (.ref 22), some (.int (nI N)), some (.int (nI i))] [] M n := by
  have hr2 : run < 2 := by omega
  have hk2 : 1 - run < 2 := by omega
  intro j
  induction j with
  | zero =>
    intro i M sta nx sl e hs hnx a h
    have e : i = N := by omega
    subst e
    refine V_iload_n dD_installPieces_2 rfl ?_
    refine V_iload_n dD_installPieces_3 rfl ?_
    refine V_icmp_ge (tgt := 88) dD_installPieces_4 (by decide) (fun c => ?_) (fun c => ?_)
    · refine V_aload_n dD_installPieces_88 rfl ?_
      refine V_get dD_installPieces_89 fD_31 (h.1) rfl ?_
      exact V_iret dD_installPieces_92 rfl ⟨rfl, rfl, a, h⟩
    · exact absurd (nI_le (Nat.le_refl _) (by omega)) c
  | succ j ih =>
    intro i M sta nx sl e hs hnx a h
    obtain ⟨h1, h2, h3, h4, h5, h6⟩ := id h
    obtain ⟨⟨g, g1, g2⟩, g3⟩ := id h3
    obtain ⟨p1, p2, p3, p4⟩ := id h5
    obtain ⟨fu, u1, u2, u3, u4, u5, -⟩ := id p2
    refine V_iload_n dD_installPieces_2 rfl ?_
    refine V_iload_n dD_installPieces_3 rfl ?_
    refine V_icmp_ge (tgt := 88) dD_installPieces_4 (by decide) (fun c => ?_) (fun c => ?_)
    · exact absurd c (nI_ge (show i < N by omega) (by omega))
    · have hI : insN vs mr ub run (j + 1) (sta, nx, sl) = if sta = 2 then insN vs mr ub run j (ins1 vs mr ub run (sta, nx, sl)) else (sta, nx, sl) := rfl
      rw [hI]
      refine V_aload_n dD_installPieces_7 rfl ?_
      refine V_get dD_installPieces_8 fD_31 (h1) rfl ?_
      refine V_iconst (v := 2) dD_installPieces_11 (by decide) ?_
      refine V_icmp_ne (tgt := 88) dD_installPieces_12 (by decide) (fun c2 => ?_) (fun c2 => ?_)
      · have hs2 : ¬ sta = 2 := fun q => c2 (by rw [q]; rfl)
        rw [if_neg hs2]
        refine V_aload_n dD_installPieces_88 rfl ?_
        refine V_get dD_installPieces_89 fD_31 (h1) rfl ?_
        exact V_iret dD_installPieces_92 rfl ⟨rfl, rfl, a, h⟩
      · have hs2 : sta = 2 := (nI_eq (b := 2) (by omega) (by omega)).mp c2
        rw [if_pos hs2]
        have hlt := hnx hs2
        have hpc : pcN ub nx ≤ 400 := by
          have := (isB_at hB nx).2
          unfold pcN
          by_cases z : bN (ub.getD nx 0) ≤ 31
          · rw [if_pos z]; omega
          · rw [if_neg z]; omega
        refine V_aload_n dD_installPieces_15 rfl ?_
        refine V_aload_n dD_installPieces_16 rfl ?_
        refine V_get dD_installPieces_17 fD_43 (h1) rfl ?_
        refine V_aload_n dD_installPieces_20 rfl ?_
        refine V_get dD_installPieces_21 fD_54 (h1) rfl ?_
        refine V_aload_n dD_installPieces_24 rfl ?_
        refine V_get dD_installPieces_25 fD_20 (h1) rfl ?_
        refine V_aload_n dD_installPieces_28 rfl ?_
        refine V_get dD_installPieces_29 fD_27 (h1) rfl ?_
        refine V_kaald dD_installPieces_32 (g1) rfl (hr2) (by decide) (g2 _ hr2) ?_
        refine V_aload_n dD_installPieces_33 rfl ?_
        refine V_get dD_installPieces_34 fD_20 (h1) rfl ?_
        refine V_aload_n dD_installPieces_37 rfl ?_
        refine V_rV0 dD_installPieces_38 clD_76 (Nat.le_of_ble_eq_true rfl) (h1) rfl (by decide) (cD_spare h hr) ?_
        refine V_kaald dD_installPieces_41 (g1) rfl (hk2) (by decide) (g2 _ hk2) ?_
        refine V_callV3 0 0 dD_installPieces_42 clD_79 (Nat.le_of_ble_eq_true rfl) (p1) rfl (by decide) (by decide) (by decide) (cP_putPiece h5 hB (g3 _ hr2) (g3 _ hk2) (show nx ≤ 42 by omega) ⟨by omega, by omega, by omega⟩ ⟨by omega, by omega, by omega⟩ (by omega) (by omega) (by omega) (by omega)) (fun v M1 n' hQ => ?_)
        obtain ⟨q1, q2, q3, q4⟩ := hQ
        subst q1; subst q2
        obtain ⟨e1, a1⟩ := h.slot hk2 q3 q4
        refine V_put dD_installPieces_45 fD_54 (e1.1) rfl rfl (Nat.le_of_ble_eq_true rfl) ?_
        obtain ⟨e2, a2⟩ := e1.fld (run' := run) (sta' := sta) (tri' := tri) (tg' := tg) (ms' := ms) (nx' := pcN ub nx) rfl
        obtain ⟨pp1, -⟩ := id e2.2.2.2.2.1
        refine V_aload_n dD_installPieces_48 rfl ?_
        refine V_get dD_installPieces_49 fD_54 (e2.1) rfl ?_
        refine V_aload_n dD_installPieces_52 rfl ?_
        refine V_get dD_installPieces_53 fD_43 (e2.1) rfl ?_
        refine V_rV0 dD_installPieces_56 clD_83 (Nat.le_of_ble_eq_true rfl) (pp1) rfl (by decide) (cP_length e2.2.2.2.2.1) ?_
        refine V_icmp_lt (tgt := 82) dD_installPieces_59 (by decide) (fun c3 => ?_) (fun c3 => ?_)
        · have hc : ¬ ub.length ≤ pcN ub nx := fun z => Int32.not_lt.mpr (nI_le z (by omega)) c3
          have hE : ins1 vs mr ub run (sta, nx, sl) = (sta, pcN ub nx, va_up sl (1 - run) (pcY ub (sl run) (sl (1 - run)) nx)) := by
            unfold ins1
            rw [if_neg hc]
          rw [hE]
          refine V_iinc (v := _ + 1) dD_installPieces_82 (by decide) rfl rfl ?_
          refine V_goto (tgt := 2) dD_installPieces_85 (by decide) ?_
          rw [nI_1]
          exact ih (i + 1) _ sta _ _ (by omega) hs (fun _ => by omega) ((a.tr a1).tr a2) e2
        · have hc : ub.length ≤ pcN ub nx := Nat.le_of_not_lt fun z => c3 (nI_lt z (by omega))
          refine V_aload_n dD_installPieces_62 rfl ?_
          refine V_aload_n dD_installPieces_63 rfl ?_
          refine V_aload_n dD_installPieces_64 rfl ?_
          refine V_rV0 dD_installPieces_65 clD_76 (Nat.le_of_ble_eq_true rfl) (e2.1) rfl (by decide) (cD_spare e2 hr) ?_
          refine V_rV1 dD_installPieces_68 clD_86 (Nat.le_of_ble_eq_true rfl) (e2.1) rfl (by decide) (cD_isSound e2 hk2 hm) ?_
          refine V_if_eq (tgt := 78) dD_installPieces_71 (by decide) (fun c4 => ?_) (fun c4 => ?_)
          · have hE : ins1 vs mr ub run (sta, nx, sl) = (0, pcN ub nx, va_up sl (1 - run) (pcY ub (sl run) (sl (1 - run)) nx)) := by
              unfold ins1
              rw [if_pos hc, if_neg (if00 c4)]
            rw [hE]
            refine V_iconst (v := 0) dD_installPieces_78 (by decide) ?_
            refine V_put dD_installPieces_79 fD_31 (e2.1) rfl rfl (Nat.le_of_ble_eq_true rfl) ?_
            refine V_iinc (v := _ + 1) dD_installPieces_82 (by decide) rfl rfl ?_
            refine V_goto (tgt := 2) dD_installPieces_85 (by decide) ?_
            obtain ⟨e3, a3⟩ := e2.fld (run' := run) (sta' := 0) (tri' := tri) (tg' := tg) (ms' := ms) (nx' := pcN ub nx) rfl
            rw [nI_1]
            exact ih (i + 1) _ 0 _ _ (by omega) (by omega) (fun z => by omega) (((a.tr a1).tr a2).tr a3) e3
          · have hE : ins1 vs mr ub run (sta, nx, sl) = (3, pcN ub nx, va_up sl (1 - run) (pcY ub (sl run) (sl (1 - run)) nx)) := by
              unfold ins1
              rw [if_pos hc, if_pos (if10 c4)]
            rw [hE]
            refine V_iconst (v := 3) dD_installPieces_74 (by decide) ?_
            refine V_goto (tgt := 79) dD_installPieces_75 (by decide) ?_
            refine V_put dD_installPieces_79 fD_31 (e2.1) rfl rfl (Nat.le_of_ble_eq_true rfl) ?_
            refine V_iinc (v := _ + 1) dD_installPieces_82 (by decide) rfl rfl ?_
            refine V_goto (tgt := 2) dD_installPieces_85 (by decide) ?_
            obtain ⟨e3, a3⟩ := e2.fld (run' := run) (sta' := 3) (tri' := tri) (tg' := tg) (ms' := ms) (nx' := pcN ub nx) rfl
            rw [nI_1]
            exact ih (i + 1) _ 3 _ _ (by omega) (by omega) (fun z => by omega) (((a.tr a1).tr a2).tr a3) e3
theorem cD_installPieces {N : Nat} (h : devX M vs run sta tri tg ms nx sl mr ub uc th) (hr : run ≤ 1) (hm : mr (1 - run) < 7) (hB : isB ub) (hN : N ≤ 20) (hs : sta ≤ 4) (hnx : sta = 2 → nx < ub.length) : Mt G 4 mtD_installPieces [.ref 22, .int (nI N)] M n 0 0 (dQ M n (some (.int (nI (insN vs mr ub run N (sta, nx, sl)).1))) vs run (insN vs mr ub run N (sta, nx, sl)).1 tri tg ms (insN vs mr ub run N (sta, nx, sl)).2.1 (insN vs mr ub run N (sta, nx, sl)).2.2 mr ub uc th) := by
  refine Mt.of rfl rfl (Nat.le_of_ble_eq_true rfl) ?_
  refine V_iconst (v := 0) dD_installPieces_0 (by decide) ?_
  refine V_istore_n dD_installPieces_1 (by decide) ?_
  exact lD_installPieces hr hm hB hN N 0 M sta nx sl (by omega) hs hnx fD.rf h
end DEVC
