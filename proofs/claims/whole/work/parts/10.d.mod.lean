/-! the model: the shop's calls -/
section MODD
variable {G : wG} {M M' : aM} {n : Nat} {dr : List Int32} {np : Nat} {vs : Nat → List Int32} {run sta tri tg nx : Nat} {sl : Nat → List Int32} {mr : Nat → Nat} {th : Nat → Bool} {bs : List Int32} {cp bl : Nat}
theorem cM_feed (h : refX M dr np vs run sta tri tg nx sl mr th) (hd : dr.length ≤ 40) (b : Int32) : Mt G 1 mtM_feed [.ref 33, .int b] M n 0 0 (rQ M n (spFeed dr b).1 (spFeed dr b).2 np vs run sta tri tg nx sl mr th) := by
  have h' := h
  obtain ⟨bs, cp, bl, hM, hb, hu⟩ := h
  obtain ⟨h1, h2, ⟨fd, d1, d2⟩, h4, h5, h6, h7⟩ := id hM
  refine Mt.of rfl rfl (Nat.le_of_ble_eq_true rfl) ?_
  unfold spFeed
  refine V_iload_n dM_feed_0 rfl ?_
  refine V_iconst (v := 0) dM_feed_1 (by decide) ?_
  refine V_sipush (v := 255) dM_feed_2 (by decide) ?_
  refine V_rS3 dM_feed_5 clM_35 (Nat.le_of_ble_eq_true rfl) (by decide) (cM_in b _ _) ?_
  refine V_if_ne (tgt := 13) dM_feed_8 (by decide) (fun c => ?_) (fun c => ?_)
  · rw [if_pos (in0.mp (if10 c))]
    refine V_aload_n dM_feed_13 rfl ?_
    refine V_get dM_feed_14 fM_39 (h1) rfl ?_
    refine V_bipush (v := 40) dM_feed_17 (by decide) ?_
    refine V_icmp_ne (tgt := 25) dM_feed_19 (by decide) (fun c2 => ?_) (fun c2 => ?_)
    · have hc : dr.length < 40 := by
        have : dr.length ≠ 40 := fun q => c2 (by rw [q]; rfl)
        omega
      rw [if_pos hc]
      refine V_aload_n dM_feed_25 rfl ?_
      refine V_get dM_feed_26 fM_16 (h1) rfl ?_
      refine V_aload_n dM_feed_29 rfl ?_
      refine V_get dM_feed_30 fM_39 (h1) rfl ?_
      refine V_iload_n dM_feed_33 rfl ?_
      refine V_kiast dM_feed_34 (d1) rfl (hc) (by decide) ?_
      refine V_aload_n dM_feed_35 rfl ?_
      refine V_dup dM_feed_36 rfl ?_
      refine V_get dM_feed_37 fM_39 (hU_at (by decide) h1) rfl ?_
      refine V_iconst (v := 1) dM_feed_40 (by decide) ?_
      refine V_iadd dM_feed_41 ?_
      refine V_put dM_feed_42 fM_39 (hU_at (by decide) h1) rfl rfl (Nat.le_of_ble_eq_true rfl) ?_
      generalize hM2 : hU (hU M 36 _) 33 _ = M2
      have F2 : ∀ q, q ≠ 33 → q ≠ 36 → M2 q = M q := fun q z1 z2 => by rw [← hM2, hU_ne z1, hU_ne z2]
      have m2 : mF M2 np (dr ++ [b]).length bs.length cp run sta tri tg bl nx := by
        unfold mF
        rw [← hM2, List.length_append, List.length_singleton, ← nI_1]
        exact hU_eq _ _ _
      have m36 : M2 36 = some (.inl (0, 40, .inl (upd fd dr.length b))) := by rw [← hM2, hU_ne (by decide)]; exact hU_eq _ _ _
      have ag : ∀ lo hi, (33 < lo ∧ hi < 36) ∨ 36 < lo → agr M M2 lo hi := fun lo hi z q z1 z2 => F2 q (by omega) (by omega)
      have e2 : modX M2 (dr ++ [b]) np vs run sta tri tg nx sl mr th bs cp bl := ⟨m2, h2.frame (ag _ _ (by omega)), ⟨_, m36, fun i hi => by
        rw [List.length_append, List.length_singleton] at hi
        by_cases e : i = dr.length
        · subst e
          rw [pk_us]
          simp [List.getD_eq_getElem?_getD]
        · rw [pk_un e, d2 i (by omega)]
          simp [List.getD_eq_getElem?_getD, List.getElem?_append_left (show i < dr.length by omega)]⟩, h4.frame (ag _ _ (by omega)), h5.frame (ag _ _ (by omega)), h6.frame (ag _ _ (by omega)), h7.frame (ag _ _ (by omega))⟩
      refine V_aload_n dM_feed_45 rfl ?_
      refine V_get dM_feed_46 fM_39 (m2) rfl ?_
      refine V_iret dM_feed_49 rfl ⟨?_, rfl, fun q hq => F2 q (by omega) (by omega), _, _, _, e2, hb, hu⟩
      rw [List.length_append, List.length_singleton]
    · have hc : ¬ dr.length < 40 := by
        have : dr.length = 40 := (nI_eq (b := 40) (by omega) (by omega)).mp c2
        omega
      rw [if_neg hc]
      refine V_bipush (v := (-2)) dM_feed_22 (by decide) ?_
      exact V_iret dM_feed_24 rfl ⟨rfl, rfl, fM.rf, h'⟩
  · rw [if_neg (fun q => if00 c (in0.mpr q))]
    refine V_iconst (v := (-1)) dM_feed_11 (by decide) ?_
    exact V_iret dM_feed_12 rfl ⟨rfl, rfl, fM.rf, h'⟩
theorem lM_reuse {v p k : Nat} {M0 : aM} {Q : zQ} (hv : v < 7) (hlv : (vs v).length ≤ 40) (hp : p + k ≤ (vs v).length) (hd : dr.length + k ≤ 40) (h1 : mF M0 np dr.length bs.length cp run sta tri tg bl nx) (h2 : mV M0 vs)
    (kk : ∀ M fd, (∀ q, q ≠ 36 → M q = M0 q) → M 36 = some (.inl (0, 40, .inl fd)) → (∀ i, i < dr.length + k → fd i = (dr ++ ((vs v).drop p).take k).getD i 0) → V G mtM_reuse 1 Q 0 0 96 [some (.ref 33), some (.int (nI v)), some (.int (nI p)), some (.int (nI k)), none] [] M n) :
    ∀ (j i : Nat) (M : aM) (fd : Nat → Int32), i + j = k → (∀ q, q ≠ 36 → M q = M0 q) → M 36 = some (.inl (0, 40, .inl fd)) → (∀ t, t < dr.length + i → fd t = (dr ++ ((vs v).drop p).take k).getD t 0) → V G mtM_reuse 1 Q 0 0 58 [some (.ref 33), some (.int (nI v)), some (.int (nI p)), some (.int (nI k)), some (.int (nI i))] [] M n := by
  obtain ⟨fv, fl, v1, v2, v3, v4⟩ := h2
  intro j
  induction j with
  | zero =>
    intro i M fd e F m hf
    have e : i = k := by omega
    subst e
    refine V_iload dM_reuse_58 rfl ?_
    refine V_iload_n dM_reuse_60 rfl ?_
    refine V_icmp_ge (tgt := 96) dM_reuse_61 (by decide) (fun c => ?_) (fun c => ?_)
    · exact V_wk (kk M fd F m hf) ⟨rfl, rfl, rfl, rfl, trivial⟩
    · exact absurd (nI_le (Nat.le_refl _) (by omega)) c
  | succ j ih =>
    intro i M fd e F m hf
    have k1 := (F 33 (by decide)).trans h1
    have w1 := (F 34 (by decide)).trans v1
    refine V_iload dM_reuse_58 rfl ?_
    refine V_iload_n dM_reuse_60 rfl ?_
    refine V_icmp_ge (tgt := 96) dM_reuse_61 (by decide) (fun c => ?_) (fun c => ?_)
    · exact absurd c (nI_ge (by omega) (by omega))
    · refine V_aload_n dM_reuse_64 rfl ?_
      refine V_get dM_reuse_65 fM_16 (k1) rfl ?_
      refine V_aload_n dM_reuse_68 rfl ?_
      refine V_get dM_reuse_69 fM_39 (k1) rfl ?_
      refine V_iload dM_reuse_72 rfl ?_
      refine V_iadd dM_reuse_74 ?_
      refine V_aload_n dM_reuse_75 rfl ?_
      refine V_get dM_reuse_76 fM_7 (k1) rfl ?_
      refine V_bipush (v := 40) dM_reuse_79 (by decide) ?_
      refine V_iload_n dM_reuse_81 rfl ?_
      refine V_imul dM_reuse_82 ?_
      refine V_iload_n dM_reuse_83 rfl ?_
      refine V_iadd dM_reuse_84 ?_
      refine V_iload dM_reuse_85 rfl ?_
      refine V_iadd dM_reuse_87 ?_
      rw [m40, nI_add, nI_add, nI_add]
      refine V_kiald (x := (vs v).getD (p + i) 0) dM_reuse_88 w1 rfl (show 40 * v + p + i < 280 by omega) (by decide) (by rw [show 40 * v + p + i = 40 * v + (p + i) by omega]; exact v3 v hv (p + i) (by omega)) ?_
      refine V_kiast dM_reuse_89 m rfl (show dr.length + i < 40 by omega) (by decide) ?_
      refine V_iinc (v := _ + 1) dM_reuse_90 (by decide) rfl rfl ?_
      refine V_goto (tgt := 58) dM_reuse_93 (by decide) ?_
      rw [nI_1]
      refine ih (i + 1) _ _ (by omega) (fun q hq => (hU_ne hq).trans (F q hq)) (hU_eq _ _ _) (fun t ht => ?_)
      by_cases z : t = dr.length + i
      · subst z
        rw [pk_us]
        simp [List.getD_eq_getElem?_getD, List.getElem?_append_right, List.getElem?_take, List.getElem?_drop, show i < k by omega]
      · rw [pk_un z]
        exact hf t (by omega)
theorem cM_reuse (h : refX M dr np vs run sta tri tg nx sl mr th) (hi : inv dr np vs run sta tri tg nx sl mr th) (v p k : Int32) : Mt G 1 mtM_reuse [.ref 33, .int v, .int p, .int k] M n 0 0 (rQ M n (spReuse dr np vs v p k).1 (spReuse dr np vs v p k).2 np vs run sta tri tg nx sl mr th) := by
  obtain ⟨i1, i2, i3, i4, -⟩ := hi
  have h' := h
  obtain ⟨bs, cp, bl, hM, hb, hu⟩ := h
  obtain ⟨h1, h2, ⟨fd, d1, d2⟩, h4, h5, h6, h7⟩ := id hM
  obtain ⟨fv, fl, v1, v2, v3, v4⟩ := id h2
  refine Mt.of rfl rfl (Nat.le_of_ble_eq_true rfl) ?_
  unfold spReuse
  refine V_iload_n dM_reuse_0 rfl ?_
  refine V_iconst (v := 0) dM_reuse_1 (by decide) ?_
  refine V_aload_n dM_reuse_2 rfl ?_
  refine V_get dM_reuse_3 fM_43 (h1) rfl ?_
  refine V_rS3 dM_reuse_6 clM_35 (Nat.le_of_ble_eq_true rfl) (by decide) (cM_in v _ _) ?_
  refine V_if_eq (tgt := 39) dM_reuse_9 (by decide) (fun c => ?_) (fun c => ?_)
  · rw [if_neg (fun q => if00 c (in0.mpr q.1))]
    refine V_iconst (v := (-1)) dM_reuse_39 (by decide) ?_
    exact V_iret dM_reuse_40 rfl ⟨rfl, rfl, fM.rf, h'⟩
  · have hv := in0.mp (if10 c)
    refine V_iload_n dM_reuse_12 rfl ?_
    refine V_iconst (v := 1) dM_reuse_13 (by decide) ?_
    refine V_icmp_lt (tgt := 39) dM_reuse_14 (by decide) (fun c1 => ?_) (fun c1 => ?_)
    · rw [if_neg (fun q => Int32.not_lt.mpr q.2.2.1 c1)]
      refine V_iconst (v := (-1)) dM_reuse_39 (by decide) ?_
      exact V_iret dM_reuse_40 rfl ⟨rfl, rfl, fM.rf, h'⟩
    · have hk1 : 1 ≤ k := Int32.not_lt.mp c1
      obtain ⟨a, ha, e, eb⟩ := inV_of hv i3
      have ha7 : a < 7 := by omega
      obtain ⟨k', hk0, hk31, ek, ekb⟩ := one_le hk1
      have hl := i4 a
      rw [eb, ekb]
      subst e; subst ek
      refine V_iload_n dM_reuse_17 rfl ?_
      refine V_iconst (v := 0) dM_reuse_18 (by decide) ?_
      refine V_bipush (v := 40) dM_reuse_19 (by decide) ?_
      refine V_rS3 dM_reuse_21 clM_35 (Nat.le_of_ble_eq_true rfl) (by decide) (cM_in p _ _) ?_
      refine V_if_eq (tgt := 39) dM_reuse_24 (by decide) (fun c2 => ?_) (fun c2 => ?_)
      · have hn : ¬ (inV np (nI a) ∧ ¬ p < 0 ∧ 1 ≤ nI k' ∧ nI k' ≤ nI (vs a).length - p) := by
          rintro ⟨-, z1, -, z3⟩
          obtain ⟨p', hp31, ep⟩ := nI_of z1
          subst ep
          have z4 := (le_sub_iff hk31 (by omega) hp31).mp z3
          exact if00 c2 ⟨Int32.not_lt.mp z1, nI_le (b := 40) (show p' ≤ 40 by omega) (by omega)⟩
        rw [if_neg hn]
        refine V_iconst (v := (-1)) dM_reuse_39 (by decide) ?_
        exact V_iret dM_reuse_40 rfl ⟨rfl, rfl, fM.rf, h'⟩
      · have hp0 := (in0.mp (if10 c2)).1
        obtain ⟨p', hp31, ep⟩ := nI_of hp0
        subst ep
        rw [show bN (nI p') = p' from nI_clamp hp31]
        refine V_iload_n dM_reuse_27 rfl ?_
        refine V_aload_n dM_reuse_28 rfl ?_
        refine V_get dM_reuse_29 fM_13 (h1) rfl ?_
        refine V_iload_n dM_reuse_32 rfl ?_
        refine V_kiald dM_reuse_33 (v2) rfl (ha7) (by decide) (v4 a ha7) ?_
        refine V_iload_n dM_reuse_34 rfl ?_
        refine V_isub dM_reuse_35 ?_
        refine V_icmp_le (tgt := 41) dM_reuse_36 (by decide) (fun c3 => ?_) (fun c3 => ?_)
        · rw [if_pos ⟨hv, hp0, hk1, c3⟩]
          have hkp := (le_sub_iff hk31 (by omega) hp31).mp c3
          refine V_aload_n dM_reuse_41 rfl ?_
          refine V_get dM_reuse_42 fM_39 (h1) rfl ?_
          refine V_iload_n dM_reuse_45 rfl ?_
          refine V_iadd dM_reuse_46 ?_
          refine V_bipush (v := 40) dM_reuse_47 (by decide) ?_
          rw [nI_add]
          refine V_icmp_le (tgt := 55) dM_reuse_49 (by decide) (fun c4 => ?_) (fun c4 => ?_)
          · have hkd : dr.length + k' ≤ 40 := (nI_leI (b := 40) (by omega) (by omega)).mp c4
            have c4' : nI k' ≤ 40 - nI dr.length := (le_sub_iff (len := 40) hk31 (by omega) (by omega)).mpr (by omega)
            rw [if_pos c4']
            refine V_iconst (v := 0) dM_reuse_55 (by decide) ?_
            refine V_istore dM_reuse_56 (by decide) ?_
            refine lM_reuse (M0 := M) (np := np) (run := run) (sta := sta) (tri := tri) (tg := tg) (nx := nx) (bs := bs) (cp := cp) (bl := bl) ha7 hl (p := p') (k := k') (by omega) hkd h1 h2 (fun M1 fd1 F1 m1 hf1 => ?_) k' 0 M fd (by omega) (fun _ _ => rfl) d1 (fun t ht => ?_)
            · have j1 := (F1 33 (by decide)).trans h1
              refine V_aload_n dM_reuse_96 rfl ?_
              refine V_dup dM_reuse_97 rfl ?_
              refine V_get dM_reuse_98 fM_39 (j1) rfl ?_
              refine V_iload_n dM_reuse_101 rfl ?_
              refine V_iadd dM_reuse_102 ?_
              refine V_put dM_reuse_103 fM_39 (j1) rfl rfl (Nat.le_of_ble_eq_true rfl) ?_
              generalize hM2 : hU M1 33 _ = M2
              have hlen : (dr ++ ((vs a).drop p').take k').length = dr.length + k' := by rw [List.length_append, List.length_take, List.length_drop, Nat.min_eq_left (by omega)]
              have F2 : ∀ q, q ≠ 33 → M2 q = M1 q := fun q z1 => by rw [← hM2, hU_ne z1]
              have m2 : mF M2 np (dr ++ ((vs a).drop p').take k').length bs.length cp run sta tri tg bl nx := by
                unfold mF
                rw [hlen, ← hM2, ← nI_add]
                exact hU_eq _ _ _
              have ag : ∀ lo hi, (33 < lo ∧ hi < 36) ∨ 36 < lo → agr M M2 lo hi := fun lo hi z q z1 z2 => (F2 q (by omega)).trans (F1 q (by omega))
              have e2 : modX M2 (dr ++ ((vs a).drop p').take k') np vs run sta tri tg nx sl mr th bs cp bl := ⟨m2, h2.frame (ag _ _ (by omega)), ⟨fd1, (F2 36 (by decide)).trans m1, fun i hi => hf1 i (by omega)⟩, h4.frame (ag _ _ (by omega)), h5.frame (ag _ _ (by omega)), h6.frame (ag _ _ (by omega)), h7.frame (ag _ _ (by omega))⟩
              refine V_aload_n dM_reuse_106 rfl ?_
              refine V_get dM_reuse_107 fM_39 (m2) rfl ?_
              refine V_iret dM_reuse_110 rfl ⟨?_, rfl, fun q hq => (F2 q (by omega)).trans (F1 q (by omega)), _, _, _, e2, hb, hu⟩
              rw [hlen]
            · rw [d2 t (by omega)]
              simp [List.getD_eq_getElem?_getD, List.getElem?_append_left (show t < dr.length by omega)]
          · have hkd : ¬ dr.length + k' ≤ 40 := fun z => c4 (nI_le (b := 40) z (by omega))
            have c4' : ¬ nI k' ≤ 40 - nI dr.length := fun z => hkd (by have := (le_sub_iff (len := 40) hk31 (by omega) (by omega)).mp z; omega)
            rw [if_neg c4']
            refine V_bipush (v := (-2)) dM_reuse_52 (by decide) ?_
            exact V_iret dM_reuse_54 rfl ⟨rfl, rfl, fM.rf, h'⟩
        · rw [if_neg (fun q => c3 q.2.2.2)]
          refine V_iconst (v := (-1)) dM_reuse_39 (by decide) ?_
          exact V_iret dM_reuse_40 rfl ⟨rfl, rfl, fM.rf, h'⟩
theorem lM_publish {M0 : aM} {w : Nat} {Q : zQ} {fd fv0 : Nat → Int32} (hw : w < 7) (hd : dr.length ≤ 40) (h1 : mF M0 w dr.length bs.length cp run sta tri tg bl nx) (d1 : M0 36 = some (.inl (0, 40, .inl fd))) (d2 : ∀ i, i < dr.length → fd i = dr.getD i 0)
    (kk : ∀ M fv, (∀ q, q ≠ 34 → M q = M0 q) → M 34 = some (.inl (0, 280, .inl fv)) → (∀ i, i < dr.length → fv (40 * w + i) = dr.getD i 0) → (∀ t, (t < 40 * w ∨ 40 * w + 40 ≤ t) → fv t = fv0 t) → V G mtM_publish 0 Q 0 0 67 [some (.ref 33), none] [] M n) :
    ∀ (j i : Nat) (M : aM) (fv : Nat → Int32), i + j = dr.length → (∀ q, q ≠ 34 → M q = M0 q) → M 34 = some (.inl (0, 280, .inl fv)) → (∀ t, t < i → fv (40 * w + t) = dr.getD t 0) → (∀ t, (t < 40 * w ∨ 40 * w + 40 ≤ t) → fv t = fv0 t) → V G mtM_publish 0 Q 0 0 33 [some (.ref 33), some (.int (nI i))] [] M n := by
  intro j
  induction j with
  | zero =>
    intro i M fv e F m hf ho
    have e : i = dr.length := by omega
    subst e
    have k1 := (F 33 (by decide)).trans h1
    refine V_iload_n dM_publish_33 rfl ?_
    refine V_aload_n dM_publish_34 rfl ?_
    refine V_get dM_publish_35 fM_39 (k1) rfl ?_
    refine V_icmp_ge (tgt := 67) dM_publish_38 (by decide) (fun c => ?_) (fun c => ?_)
    · exact V_wk (kk M fv F m hf ho) ⟨rfl, trivial⟩
    · exact absurd (nI_le (Nat.le_refl _) (by omega)) c
  | succ j ih =>
    intro i M fv e F m hf ho
    have k1 := (F 33 (by decide)).trans h1
    have w1 := (F 36 (by decide)).trans d1
    refine V_iload_n dM_publish_33 rfl ?_
    refine V_aload_n dM_publish_34 rfl ?_
    refine V_get dM_publish_35 fM_39 (k1) rfl ?_
    refine V_icmp_ge (tgt := 67) dM_publish_38 (by decide) (fun c => ?_) (fun c => ?_)
    · exact absurd c (nI_ge (by omega) (by omega))
    · refine V_aload_n dM_publish_41 rfl ?_
      refine V_get dM_publish_42 fM_7 (k1) rfl ?_
      refine V_bipush (v := 40) dM_publish_45 (by decide) ?_
      refine V_aload_n dM_publish_47 rfl ?_
      refine V_get dM_publish_48 fM_43 (k1) rfl ?_
      refine V_imul dM_publish_51 ?_
      refine V_iload_n dM_publish_52 rfl ?_
      refine V_iadd dM_publish_53 ?_
      rw [m40, nI_add]
      refine V_aload_n dM_publish_54 rfl ?_
      refine V_get dM_publish_55 fM_16 (k1) rfl ?_
      refine V_iload_n dM_publish_58 rfl ?_
      refine V_kiald dM_publish_59 (w1) rfl (show i < 40 by omega) (by decide) (d2 i (by omega)) ?_
      refine V_kiast dM_publish_60 (m) rfl (show 40 * w + i < 280 by omega) (by decide) ?_
      refine V_iinc (v := _ + 1) dM_publish_61 (by decide) rfl rfl ?_
      refine V_goto (tgt := 33) dM_publish_64 (by decide) ?_
      rw [nI_1]
      refine ih (i + 1) _ _ (by omega) (fun q hq => (hU_ne hq).trans (F q hq)) (hU_eq _ _ _) (fun t ht => ?_) (fun t ht => ?_)
      · by_cases z : t = i
        · subst z
          rw [pk_us]
        · rw [pk_un (by omega)]
          exact hf t (by omega)
      · rw [pk_un (by omega)]
        exact ho t ht
theorem cM_publish (h : refX M dr np vs run sta tri tg nx sl mr th) (hi : inv dr np vs run sta tri tg nx sl mr th) : Mt G 0 mtM_publish [.ref 33] M n 0 0 (rQ M n (spPub dr np vs).1 (spPub dr np vs).2.1 (spPub dr np vs).2.2.1 (spPub dr np vs).2.2.2 run sta tri tg nx sl mr th) := by
  obtain ⟨i1, i2, i3, i4, i5, i6, i7, i8, i9, i10, i11, i12, i13, -⟩ := hi
  have h' := h
  obtain ⟨bs, cp, bl, hM, hb, hu⟩ := h
  obtain ⟨h1, h2, ⟨fd, d1, d2⟩, h4, h5, h6, h7⟩ := id hM
  obtain ⟨fv, fl, v1, v2, v3, v4⟩ := id h2
  refine Mt.of rfl rfl (Nat.le_of_ble_eq_true rfl) ?_
  unfold spPub
  refine V_aload_n dM_publish_0 rfl ?_
  refine V_get dM_publish_1 fM_39 (h1) rfl ?_
  refine V_if_ne (tgt := 9) dM_publish_4 (by decide) (fun c => ?_) (fun c => ?_)
  · have hc : ¬ dr.length = 0 := fun q => c (by rw [q]; rfl)
    rw [if_neg hc]
    refine V_aload_n dM_publish_9 rfl ?_
    refine V_get dM_publish_10 fM_43 (h1) rfl ?_
    refine V_bipush (v := 6) dM_publish_13 (by decide) ?_
    refine V_icmp_ne (tgt := 21) dM_publish_15 (by decide) (fun c2 => ?_) (fun c2 => ?_)
    · have hn : np < 6 := by
        have : np ≠ 6 := fun q => c2 (by rw [q]; rfl)
        omega
      rw [if_pos hn]
      refine V_aload_n dM_publish_21 rfl ?_
      refine V_dup dM_publish_22 rfl ?_
      refine V_get dM_publish_23 fM_43 (h1) rfl ?_
      refine V_iconst (v := 1) dM_publish_26 (by decide) ?_
      refine V_iadd dM_publish_27 ?_
      refine V_put dM_publish_28 fM_43 (h1) rfl rfl (Nat.le_of_ble_eq_true rfl) ?_
      generalize hM1 : hU M 33 _ = M1
      have F1 : ∀ q, q ≠ 33 → M1 q = M q := fun q z1 => by rw [← hM1, hU_ne z1]
      have m1 : mF M1 (np + 1) dr.length bs.length cp run sta tri tg bl nx := by
        unfold mF
        rw [← hM1, ← nI_1]
        exact hU_eq _ _ _
      refine V_iconst (v := 0) dM_publish_31 (by decide) ?_
      refine V_istore_n dM_publish_32 (by decide) ?_
      refine lM_publish (M0 := M1) (w := np + 1) (fv0 := fv) (by omega) i1 m1 ((F1 36 (by decide)).trans d1) d2 (fun M2 fv2 F2 m2 hf2 ho2 => ?_) dr.length 0 M1 fv (by omega) (fun _ _ => rfl) ((F1 34 (by decide)).trans v1) (fun t ht => by omega) (fun _ _ => rfl)
      have j1 := (F2 33 (by decide)).trans m1
      have l2 := (F2 35 (by decide)).trans ((F1 35 (by decide)).trans v2)
      refine V_aload_n dM_publish_67 rfl ?_
      refine V_get dM_publish_68 fM_13 (j1) rfl ?_
      refine V_aload_n dM_publish_71 rfl ?_
      refine V_get dM_publish_72 fM_43 (j1) rfl ?_
      refine V_aload_n dM_publish_75 rfl ?_
      refine V_get dM_publish_76 fM_39 (j1) rfl ?_
      refine V_kiast dM_publish_79 (l2) rfl (show np + 1 < 7 by omega) (by decide) ?_
      refine V_aload_n dM_publish_80 rfl ?_
      refine V_iconst (v := 0) dM_publish_81 (by decide) ?_
      refine V_put dM_publish_82 fM_39 (hU_at (by decide) j1) rfl rfl (Nat.le_of_ble_eq_true rfl) ?_
      generalize hM4 : hU (hU M2 35 _) 33 _ = M4
      have F4 : ∀ q, q ≠ 33 → q ≠ 35 → M4 q = M2 q := fun q z1 z2 => by rw [← hM4, hU_ne z1, hU_ne z2]
      have m4 : mF M4 (np + 1) ([] : List Int32).length bs.length cp run sta tri tg bl nx := by
        rw [← hM4]; exact hU_eq _ _ _
      have m35 : M4 35 = some (.inl (0, 7, .inl (upd fl (np + 1) (nI dr.length)))) := by rw [← hM4, hU_ne (by decide)]; exact hU_eq _ _ _
      have ag : ∀ lo hi, 35 < lo → agr M M4 lo hi := fun lo hi z q z1 z2 => by rw [F4 q (by omega) (by omega), F2 q (by omega), F1 q (by omega)]
      have e4 : modX M4 [] (np + 1) (va_up vs (np + 1) dr) run sta tri tg nx sl mr th bs cp bl := by
        refine ⟨m4, ⟨fv2, _, (F4 34 (by decide) (by decide)).trans m2, m35, fun v hv i hi' => ?_, fun v hv => ?_⟩, ⟨fd, (ag 36 36 (by omega) 36 (by omega) (by omega)).trans d1, fun i hi => by simp at hi⟩, h4.frame (ag _ _ (by omega)), h5.frame (ag _ _ (by omega)), h6.frame (ag _ _ (by omega)), h7.frame (ag _ _ (by omega))⟩
        · by_cases z : v = np + 1
          · subst z
            rw [vu_eq] at hi' ⊢
            exact hf2 i hi'
          · rw [vu_ne z] at hi' ⊢
            have := i4 v
            rw [ho2 _ (by omega)]
            exact v3 v hv i hi'
        · by_cases z : v = np + 1
          · subst z
            rw [vu_eq, pk_us]
          · rw [vu_ne z, pk_un z]
            exact v4 v hv
      refine V_aload_n dM_publish_85 rfl ?_
      refine V_get dM_publish_86 fM_43 (m4) rfl ?_
      refine V_iret dM_publish_89 rfl ⟨rfl, rfl, fun q hq => by rw [F4 q (by omega) (by omega), F2 q (by omega), F1 q (by omega)], _, _, _, e4, hb, fun z => ?_⟩
      have z1 := i13 z
      have z2 := i11 run (by omega)
      show bl = blk (patchOf (va_up vs (np + 1) dr tg) (va_up vs (np + 1) dr (mr run)))
      rw [vu_ne (by omega), vu_ne (by omega)]
      exact hu z
    · have hn : ¬ np < 6 := by
        have : np = 6 := (nI_eq (b := 6) (by omega) (by omega)).mp c2
        omega
      rw [if_neg hn]
      refine V_bipush (v := (-2)) dM_publish_18 (by decide) ?_
      exact V_iret dM_publish_20 rfl ⟨rfl, rfl, fM.rf, h'⟩
  · have hc : dr.length = 0 := (nI_eq (b := 0) (by omega) (by omega)).mp c
    rw [if_pos hc]
    refine V_iconst (v := (-1)) dM_publish_7 (by decide) ?_
    exact V_iret dM_publish_8 rfl ⟨rfl, rfl, fM.rf, h'⟩
end MODD
