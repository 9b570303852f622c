/-! the model makes the same patch -/
theorem mp_zero (v o : List Int32) (p : Nat) : ∀ k, (mp v o p k).1 = lcp (v.drop p) (o.drop (mp v o p k).2) ∨ (mp v o p k = (0, 0) ∧ ∀ q, q < k → lcp (v.drop p) (o.drop q) = 0) := by
  intro k
  induction k with
  | zero => exact Or.inr ⟨rfl, fun q hq => by omega⟩
  | succ k ih =>
    rw [mp_s]
    by_cases c : (mp v o p k).1 < lcp (v.drop p) (o.drop k)
    · rw [if_pos c]; exact Or.inl rfl
    · rw [if_neg c]
      rcases ih with h | ⟨h1, h2⟩
      · exact Or.inl h
      · refine Or.inr ⟨h1, fun q hq => ?_⟩
        rcases Nat.lt_or_ge q k with z | z
        · exact h2 q z
        · have : q = k := by omega
          subst this
          rw [h1] at c
          have c : ¬ 0 < lcp (v.drop p) (o.drop q) := c
          omega
theorem mp_lcp (v o : List Int32) (p : Nat) : (mp v o p o.length).1 = lcp (v.drop p) (o.drop (mp v o p o.length).2) := by
  rcases mp_zero v o p o.length with h | ⟨h1, h2⟩
  · exact h
  · rw [h1]
    show 0 = lcp (v.drop p) (o.drop 0)
    rcases Nat.eq_zero_or_pos o.length with z | z
    · rw [List.length_eq_zero_iff.mp z]
      cases v.drop p <;> rfl
    · exact (h2 0 z).symm
theorem lEnc_1 {xs : List Int32} (h1 : 1 ≤ xs.length) (h2 : xs.length ≤ 31) : lEnc 2 xs = nI xs.length :: xs := by
  show (if xs.length = 0 then [] else nI (min 31 xs.length) :: (xs.take 31 ++ lEnc 1 (xs.drop 31))) = _
  rw [if_neg (by omega), Nat.min_eq_right h2, List.take_of_length_le h2, List.drop_of_length_le h2]
  show nI xs.length :: (xs ++ []) = _
  rw [List.append_nil]
theorem lEnc_2 {xs : List Int32} (h1 : 31 < xs.length) (h2 : xs.length ≤ 62) : lEnc 2 xs = nI 31 :: (xs.take 31 ++ (nI (xs.length - 31) :: xs.drop 31)) := by
  show (if xs.length = 0 then [] else nI (min 31 xs.length) :: (xs.take 31 ++ (if (xs.drop 31).length = 0 then [] else nI (min 31 (xs.drop 31).length) :: ((xs.drop 31).take 31 ++ [])))) = _
  have hd : (xs.drop 31).length = xs.length - 31 := List.length_drop
  have ht : (xs.drop 31).take 31 = xs.drop 31 := List.take_of_length_le (by omega)
  rw [if_neg (by omega), Nat.min_eq_left (by omega), if_neg (by omega), hd, Nat.min_eq_right (by omega), ht, List.append_nil]
theorem set_mid (A B : List Int32) (y z : Int32) : (A ++ y :: B).set A.length z = A ++ z :: B := by
  rw [List.set_append_right _ _ (Nat.le_refl _)]
  simp
def lo (k : Nat) : Nat := if k ≤ 31 then k else k - 31
def hdp (k : Nat) : Nat := if k ≤ 31 then 0 else 32
theorem loose_new {acc pend : List Int32} {x : Int32} (hk : pend.length = 0 ∨ pend.length = 31) : ((acc ++ lEnc 2 pend ++ [0]).set (acc ++ lEnc 2 pend).length (nI 1)) ++ [x] = acc ++ lEnc 2 (pend ++ [x]) ∧ (acc ++ lEnc 2 pend).length = acc.length + hdp (pend.length + 1) := by
  rw [set_mid]
  rcases hk with h | h
  · have e := List.length_eq_zero_iff.mp h
    subst e
    have e2 : lEnc 2 ([] : List Int32) = [] := rfl
    rw [e2, List.append_nil, List.nil_append, lEnc_1 (xs := [x]) (by simp) (by simp)]
    refine ⟨?_, rfl⟩
    simp
  · rw [lEnc_1 (xs := pend) (by omega) (by omega), lEnc_2 (xs := pend ++ [x]) (by simp; omega) (by simp; omega), h, List.take_append_of_le_length (by omega), List.take_of_length_le (by omega), List.drop_append_of_le_length (by omega), List.drop_of_length_le (by omega)]
    refine ⟨?_, ?_⟩
    · simp [h]
    · simp [hdp, h]
theorem loose_old {acc pend : List Int32} {x : Int32} (h0 : 0 < pend.length) (h31 : pend.length ≠ 31) (h62 : pend.length < 62) : ((acc ++ lEnc 2 pend).set (acc.length + hdp pend.length) (nI (lo pend.length + 1))) ++ [x] = acc ++ lEnc 2 (pend ++ [x]) := by
  by_cases h : pend.length ≤ 31
  · have e1 : hdp pend.length = 0 := if_pos h
    have e2 : lo pend.length = pend.length := if_pos h
    rw [e1, e2, Nat.add_zero, lEnc_1 h0 h, set_mid, lEnc_1 (xs := pend ++ [x]) (by simp) (by simp; omega)]
    simp
  · have e1 : hdp pend.length = 32 := if_neg h
    have e2 : lo pend.length = pend.length - 31 := if_neg h
    have ht : (pend.take 31).length = 31 := by rw [List.length_take]; omega
    rw [e1, e2, lEnc_2 (by omega) (by omega), lEnc_2 (xs := pend ++ [x]) (by simp; omega) (by simp; omega), List.take_append_of_le_length (by omega), List.drop_append_of_le_length (by omega)]
    have e3 : acc ++ nI 31 :: (pend.take 31 ++ nI (pend.length - 31) :: pend.drop 31) = (acc ++ nI 31 :: pend.take 31) ++ nI (pend.length - 31) :: pend.drop 31 := by simp
    have e4 : acc.length + 32 = (acc ++ nI 31 :: pend.take 31).length := by simp [ht]
    rw [e3, e4, set_mid]
    simp
    congr 1
    omega
theorem lo_31 {k : Nat} (h : k < 62) : (lo k = 0 ∨ lo k = 31) ↔ (k = 0 ∨ k = 31) := by
  unfold lo
  by_cases c : k ≤ 31
  · rw [if_pos c]
  · rw [if_neg c]; omega
section MOB
variable {G : wG} {M M' : aM} {n : Nat} {dr : List Int32} {np : Nat} {vs : Nat → List Int32} {run sta tri tg nx : Nat} {sl : Nat → List Int32} {mr : Nat → Nat} {th : Nat → Bool} {bs : List Int32} {cp bl : Nat}
theorem modX.set {k : Nat} {x : Int32} {fp : Nat → Int32} (h : modX M dr np vs run sta tri tg nx sl mr th bs cp bl) (hp : ∀ i, i < bs.length → fp i = bs.getD i 0) (hk : k < bs.length) : modX (hU M 37 (.inl (0, 128, .inl (upd fp k x)))) dr np vs run sta tri tg nx sl mr th (bs.set k x) cp bl ∧ fM M (hU M 37 (.inl (0, 128, .inl (upd fp k x)))) := by
  obtain ⟨h1, h2, h3, h4, h5, h6, h7⟩ := h
  refine ⟨⟨?_, h2.frame (agr_hU (by omega)), h3.frame (agr_hU (by omega)), ⟨_, hU_eq _ _ _, fun i hi => ?_⟩, h5.frame (agr_hU (by omega)), h6.frame (agr_hU (by omega)), h7.frame (agr_hU (by omega))⟩, fM_hU (by omega)⟩
  · rw [List.length_set]
    exact hU_at (by decide) h1
  · rw [List.length_set] at hi
    by_cases e : i = k
    · subst e
      rw [pk_us]
      simp [List.getD_eq_getElem?_getD, hk]
    · rw [pk_un e, hp i hi]
      simp [List.getD_eq_getElem?_getD, List.getElem?_set_ne (fun q => e q.symm)]
theorem lM_best {v o p : Nat} {l3 l4 : Int32} {Q : zQ} (h : modX M dr np vs run sta tri tg nx sl mr th bs cp bl) (hv : v < 7) (ho : o < 7) (hlv : (vs v).length ≤ 40) (hlo : (vs o).length ≤ 40) (hp : p ≤ (vs v).length) (kk : V G mtM_make 1 Q 0 0 86 [some (.ref 33), some (.int (nI v)), some (.int (nI o)), some (.int l3), some (.int l4), some (.int (nI p)), some (.int (nI (mp (vs v) (vs o) p (vs o).length).1)), some (.int (nI (mp (vs v) (vs o) p (vs o).length).2)), none] [] M n) : ∀ (j i : Nat), i + j = (vs o).length → V G mtM_make 1 Q 0 0 38 [some (.ref 33), some (.int (nI v)), some (.int (nI o)), some (.int l3), some (.int l4), some (.int (nI p)), some (.int (nI (mp (vs v) (vs o) p i).1)), some (.int (nI (mp (vs v) (vs o) p i).2)), some (.int (nI i))] [] M n := by
  obtain ⟨h1, ⟨fv, fl, v1, v2, v3, v4⟩, -⟩ := id h
  have hb : ∀ i, (mp (vs v) (vs o) p i).1 ≤ (vs v).length := by
    intro i
    induction i with
    | zero => exact Nat.zero_le _
    | succ i ih =>
      rw [mp_s]
      have hm := (lcp_le ((vs v).drop p) ((vs o).drop i)).1
      rw [List.length_drop] at hm
      by_cases c : (mp (vs v) (vs o) p i).1 < lcp ((vs v).drop p) ((vs o).drop i)
      · rw [if_pos c]; show lcp ((vs v).drop p) ((vs o).drop i) ≤ _; omega
      · rw [if_neg c]; exact ih
  intro j
  induction j with
  | zero =>
    intro i e
    have e : i = (vs o).length := by omega
    subst e
    refine V_iload dM_make_38 rfl ?_
    refine V_aload_n dM_make_40 rfl ?_
    refine V_get dM_make_41 fM_13 (h1) rfl ?_
    refine V_iload_n dM_make_44 rfl ?_
    refine V_kiald dM_make_45 (v2) rfl (ho) (by decide) (v4 o ho) ?_
    refine V_icmp_ge (tgt := 86) dM_make_46 (by decide) (fun c => ?_) (fun c => ?_)
    · exact V_wk kk ⟨rfl, rfl, rfl, rfl, rfl, rfl, rfl, rfl, trivial⟩
    · exact absurd (nI_le (Nat.le_refl _) (by omega)) c
  | succ j ih =>
    intro i e
    have hm := (lcp_le ((vs v).drop p) ((vs o).drop i)).1
    rw [List.length_drop] at hm
    have hbi := hb i
    have ih' := ih (i + 1) (by omega)
    rw [mp_s] at ih'
    refine V_iload dM_make_38 rfl ?_
    refine V_aload_n dM_make_40 rfl ?_
    refine V_get dM_make_41 fM_13 (h1) rfl ?_
    refine V_iload_n dM_make_44 rfl ?_
    refine V_kiald dM_make_45 (v2) rfl (ho) (by decide) (v4 o ho) ?_
    refine V_icmp_ge (tgt := 86) dM_make_46 (by decide) (fun c => ?_) (fun c => ?_)
    · exact absurd c (nI_ge (by omega) (by omega))
    · refine V_aload_n dM_make_49 rfl ?_
      refine V_iload_n dM_make_50 rfl ?_
      refine V_iload dM_make_51 rfl ?_
      refine V_iload_n dM_make_53 rfl ?_
      refine V_iload dM_make_54 rfl ?_
      refine V_rV4 dM_make_56 clM_52 (Nat.le_of_ble_eq_true rfl) (h1) rfl (by decide) (cM_agree h hv ho hlv hlo hp (show i ≤ (vs o).length by omega)) ?_
      refine V_iload dM_make_59 rfl ?_
      refine V_icmp_le (tgt := 80) dM_make_61 (by decide) (fun c2 => ?_) (fun c2 => ?_)
      · have c3 : ¬ (mp (vs v) (vs o) p i).1 < lcp ((vs v).drop p) ((vs o).drop i) := fun q => nI_ge q (by omega) c2
        rw [if_neg c3] at ih'
        refine V_iinc (v := _ + 1) dM_make_80 (by decide) rfl rfl ?_
        refine V_goto (tgt := 38) dM_make_83 (by decide) ?_
        rw [nI_1]
        exact ih'
      · have c3 : (mp (vs v) (vs o) p i).1 < lcp ((vs v).drop p) ((vs o).drop i) := Nat.lt_of_not_le fun q => c2 (nI_le q (by omega))
        rw [if_pos c3] at ih'
        refine V_aload_n dM_make_64 rfl ?_
        refine V_iload_n dM_make_65 rfl ?_
        refine V_iload dM_make_66 rfl ?_
        refine V_iload_n dM_make_68 rfl ?_
        refine V_iload dM_make_69 rfl ?_
        refine V_rV4 dM_make_71 clM_52 (Nat.le_of_ble_eq_true rfl) (h1) rfl (by decide) (cM_agree h hv ho hlv hlo hp (show i ≤ (vs o).length by omega)) ?_
        refine V_istore dM_make_74 (by decide) ?_
        refine V_iload dM_make_76 rfl ?_
        refine V_istore dM_make_78 (by decide) ?_
        refine V_iinc (v := _ + 1) dM_make_80 (by decide) rfl rfl ?_
        refine V_goto (tgt := 38) dM_make_83 (by decide) ?_
        rw [nI_1]
        exact ih'
theorem lM_make {v o : Nat} {M0 : aM} (hv : v < 7) (ho : o < 7) (hlv : (vs v).length ≤ 40) (hlo : (vs o).length ≤ 40) : ∀ (f p lf : Nat) (acc : List Int32) (cp : Nat) (M : aM) (hd : Nat), (vs v).length + 1 ≤ f + p → lf ≤ p → p ≤ (vs v).length → acc.length ≤ lf → (0 < p - lf → hd = acc.length + hdp (p - lf)) → hd ≤ 1000 → fM M0 M → modX M dr np vs run sta tri tg nx sl mr th (acc ++ lEnc 2 (((vs v).drop lf).take (p - lf))) cp bl → V G mtM_make 1 (mQ M0 n none dr np vs run sta tri tg nx sl mr th (mkA (vs v) (vs o) f p lf acc cp).1 (mkA (vs v) (vs o) f p lf acc cp).2 bl) 0 0 18 [some (.ref 33), some (.int (nI v)), some (.int (nI o)), some (.int (nI (lo (p - lf)))), some (.int (nI hd)), some (.int (nI p)), none, none, none] [] M n := by
  intro f
  induction f with
  | zero => intro p lf acc cp M hd q1 q2 q3; omega
  | succ f ih =>
    intro p lf acc cp M hd q1 q2 q3 q4 q5 q6 a h
    obtain ⟨h1, ⟨fv, fl, v1, v2, v3, v4⟩, -⟩ := id h
    have hlen : (((vs v).drop lf).take (p - lf)).length = p - lf := by rw [List.length_take, List.length_drop]; omega
    have henc := lEnc_len (((vs v).drop lf).take (p - lf)) (by omega)
    refine V_iload dM_make_18 rfl ?_
    refine V_aload_n dM_make_20 rfl ?_
    refine V_get dM_make_21 fM_13 (h1) rfl ?_
    refine V_iload_n dM_make_24 rfl ?_
    refine V_kiald dM_make_25 (v2) rfl (hv) (by decide) (v4 v hv) ?_
    refine V_icmp_ge (tgt := 186) dM_make_26 (by decide) (fun c => ?_) (fun c => ?_)
    · have hpe : p = (vs v).length := by
        rcases Nat.lt_or_ge p (vs v).length with z | z
        · exact absurd c (nI_ge z (by omega))
        · omega
      have e : mkA (vs v) (vs o) (f + 1) p lf acc cp = (acc ++ lEnc 2 (((vs v).drop lf).take (p - lf)), cp) := by
        rw [mkA, if_neg (by omega)]
      rw [e]
      exact V_vret dM_make_186 rfl ⟨rfl, rfl, a, h⟩
    · have hpe : p < (vs v).length := Nat.lt_of_not_le fun z => c (nI_le z (by omega))
      have hm := (lcp_le ((vs v).drop p) ((vs o).drop (mp (vs v) (vs o) p (vs o).length).2)).1
      rw [List.length_drop] at hm
      have hq := mp_lt (vs v) (vs o) p (vs o).length
      have hE := mp_lcp (vs v) (vs o) p
      refine V_iconst (v := 0) dM_make_29 (by decide) ?_
      refine V_istore dM_make_30 (by decide) ?_
      refine V_iconst (v := 0) dM_make_32 (by decide) ?_
      refine V_istore dM_make_33 (by decide) ?_
      refine V_iconst (v := 0) dM_make_35 (by decide) ?_
      refine V_istore dM_make_36 (by decide) ?_
      refine lM_best h hv ho hlv hlo q3 ?_ (vs o).length 0 (by omega)
      rw [hE]
      generalize hmm : lcp ((vs v).drop p) ((vs o).drop (mp (vs v) (vs o) p (vs o).length).2) = mm at hm ⊢
      refine V_iload dM_make_86 rfl ?_
      refine V_iconst (v := 4) dM_make_88 (by decide) ?_
      refine V_icmp_lt (tgt := 130) dM_make_89 (by decide) (fun c4 => ?_) (fun c4 => ?_)
      · have hm4 : ¬ 4 ≤ mm := fun z => Int32.not_lt.mpr (nI_le (a := 4) (b := mm) z (by omega)) c4
        have e : mkA (vs v) (vs o) (f + 1) p lf acc cp = mkA (vs v) (vs o) f (p + 1) lf acc cp := by
          rw [mkA, if_pos hpe, hmm, if_neg hm4]
        rw [e]
        have hx : (((vs v).drop lf).take (p - lf)) ++ [(vs v).getD p 0] = ((vs v).drop lf).take (p + 1 - lf) := by
          rw [show p + 1 - lf = (p - lf) + 1 by omega, List.take_succ]
          congr 1
          rw [List.getElem?_drop, show lf + (p - lf) = p by omega, List.getElem?_eq_getElem hpe]
          simp [List.getD_eq_getElem?_getD, hpe]
        have hk62 : p - lf < 62 := by omega
        -- the tail: the head's count, the byte
        have tail : ∀ (M2 : aM) (bs2 : List Int32) (hd2 lo2 : Nat), lo2 ≤ 100 → hd2 < bs2.length → bs2.length ≤ 100 → fM M0 M2 → modX M2 dr np vs run sta tri tg nx sl mr th bs2 cp bl → (bs2.set hd2 (nI (lo2 + 1))) ++ [(vs v).getD p 0] = acc ++ lEnc 2 (((vs v).drop lf).take (p + 1 - lf)) → hd2 = acc.length + hdp (p + 1 - lf) → lo2 + 1 = lo (p + 1 - lf) → V G mtM_make 1 (mQ M0 n none dr np vs run sta tri tg nx sl mr th (mkA (vs v) (vs o) f (p + 1) lf acc cp).1 (mkA (vs v) (vs o) f (p + 1) lf acc cp).2 bl) 0 0 153 [some (.ref 33), some (.int (nI v)), some (.int (nI o)), some (.int (nI lo2)), some (.int (nI hd2)), some (.int (nI p)), none, none, none] [] M2 n := by
          intro M2 bs2 hd2 lo2 z1 z2 z3 a2 e2 z4 z5 z6
          obtain ⟨k1, ⟨fv2, fl2, w1, w2, w3, w4⟩, k3, ⟨fp2, p1, p2⟩, -⟩ := id e2
          refine V_iinc (v := _ + 1) dM_make_153 (by decide) rfl rfl ?_
          refine V_aload_n dM_make_156 rfl ?_
          refine V_get dM_make_157 fM_19 (k1) rfl ?_
          refine V_iload dM_make_160 rfl ?_
          refine V_iload_n dM_make_162 rfl ?_
          rw [nI_1]
          refine V_kiast dM_make_163 p1 rfl (show hd2 < 128 by omega) (by decide) ?_
          obtain ⟨e3, a3⟩ := e2.set (x := nI (lo2 + 1)) p2 z2
          obtain ⟨j1, ⟨fv3, fl3, x1, x2, x3, x4⟩, -⟩ := id e3
          refine V_aload_n dM_make_164 rfl ?_
          refine V_aload_n dM_make_165 rfl ?_
          refine V_get dM_make_166 fM_7 (j1) rfl ?_
          refine V_bipush (v := 40) dM_make_169 (by decide) ?_
          refine V_iload_n dM_make_171 rfl ?_
          refine V_imul dM_make_172 ?_
          refine V_iload dM_make_173 rfl ?_
          refine V_iadd dM_make_175 ?_
          rw [m40, nI_add]
          refine V_kiald (x := (vs v).getD p 0) dM_make_176 x1 rfl (show 40 * v + p < 280 by omega) (by decide) (x3 v hv p hpe) ?_
          refine V_callV1 0 0 dM_make_177 clM_56 (Nat.le_of_ble_eq_true rfl) (j1) rfl (by decide) (by decide) (by decide) (cM_put e3 ((vs v).getD p 0) (by rw [List.length_set]; omega)) (fun v' M4 n' hQ => ?_)
          obtain ⟨y1, y2, y3, y4⟩ := hQ
          subst y1; subst y2
          rw [z4] at y4
          refine V_iinc (v := _ + 1) dM_make_180 (by decide) rfl rfl ?_
          refine V_goto (tgt := 18) dM_make_183 (by decide) ?_
          rw [nI_1, z6]
          exact V_wk (ih (p + 1) lf acc cp M4 hd2 (by omega) (by omega) (by omega) q4 (fun _ => z5) (by omega) ((a2.tr a3).tr y3) y4) ⟨rfl, rfl, rfl, rfl, rfl, rfl, trivial⟩
        -- a new row begins
        have fresh : (p - lf = 0 ∨ p - lf = 31) → V G mtM_make 1 (mQ M0 n none dr np vs run sta tri tg nx sl mr th (mkA (vs v) (vs o) f (p + 1) lf acc cp).1 (mkA (vs v) (vs o) f (p + 1) lf acc cp).2 bl) 0 0 140 [some (.ref 33), some (.int (nI v)), some (.int (nI o)), some (.int (nI (lo (p - lf)))), some (.int (nI hd)), some (.int (nI p)), none, none, none] [] M n := by
          intro hk
          obtain ⟨z4, z5⟩ := loose_new (acc := acc) (x := (vs v).getD p 0) (show (((vs v).drop lf).take (p - lf)).length = 0 ∨ (((vs v).drop lf).take (p - lf)).length = 31 by rw [hlen]; exact hk)
          rw [hx] at z4
          rw [hlen] at z5
          refine V_aload_n dM_make_140 rfl ?_
          refine V_get dM_make_141 fM_46 (h1) rfl ?_
          refine V_istore dM_make_144 (by decide) ?_
          refine V_aload_n dM_make_146 rfl ?_
          refine V_iconst (v := 0) dM_make_147 (by decide) ?_
          refine V_callV1 0 0 dM_make_148 clM_56 (Nat.le_of_ble_eq_true rfl) (h1) rfl (by decide) (by decide) (by decide) (cM_put h 0 (by rw [List.length_append]; omega)) (fun v' M4 n' hQ => ?_)
          obtain ⟨y1, y2, y3, y4⟩ := hQ
          subst y1; subst y2
          refine V_iconst (v := 0) dM_make_151 (by decide) ?_
          refine V_istore_n dM_make_152 (by decide) ?_
          exact tail M4 _ _ 0 (by omega) (by rw [List.length_append (bs := [(0 : Int32)])]; simp) (by rw [List.length_append, List.length_append]; simp; omega) (a.tr y3) y4 z4 (by rw [show p + 1 - lf = p - lf + 1 by omega]; exact z5) (by rcases hk with z | z <;> (rw [show p + 1 - lf = p - lf + 1 by omega, z]; rfl))
        refine V_wk (L' := [some (.ref 33), some (.int (nI v)), some (.int (nI o)), some (.int (nI (lo (p - lf)))), some (.int (nI hd)), some (.int (nI p)), none, none, none]) ?_ ⟨rfl, rfl, rfl, rfl, rfl, rfl, trivial⟩
        have hlo31 := lo_31 hk62
        have hlob : lo (p - lf) ≤ 40 := by unfold lo; by_cases z : p - lf ≤ 31 <;> simp [z] <;> omega
        refine V_iload_n dM_make_130 rfl ?_
        refine V_if_eq (tgt := 140) dM_make_131 (by decide) (fun c5 => ?_) (fun c5 => ?_)
        · have z : lo (p - lf) = 0 := (nI_eq (b := 0) (by omega) (by omega)).mp c5
          exact fresh (hlo31.mp (Or.inl z))
        · have z0 : ¬ lo (p - lf) = 0 := fun z => c5 (by rw [z]; rfl)
          refine V_iload_n dM_make_134 rfl ?_
          refine V_bipush (v := 31) dM_make_135 (by decide) ?_
          refine V_icmp_ne (tgt := 153) dM_make_137 (by decide) (fun c6 => ?_) (fun c6 => ?_)
          · have z31 : ¬ lo (p - lf) = 31 := fun z => c6 (by rw [z]; rfl)
            have hk : ¬ (p - lf = 0 ∨ p - lf = 31) := fun z => (hlo31.mpr z).elim z0 z31
            have hh := q5 (by omega)
            have z4 := loose_old (acc := acc) (x := (vs v).getD p 0) (show 0 < (((vs v).drop lf).take (p - lf)).length by omega) (by omega) (by omega)
            rw [hx, hlen] at z4
            have hE2 : hdp (p + 1 - lf) = hdp (p - lf) := by
              unfold hdp
              by_cases z : p - lf ≤ 31
              · rw [if_pos z, if_pos (by omega)]
              · rw [if_neg z, if_neg (by omega)]
            have hE3 : lo (p - lf) + 1 = lo (p + 1 - lf) := by
              unfold lo
              by_cases z : p - lf ≤ 31
              · rw [if_pos z, if_pos (by omega)]; omega
              · rw [if_neg z, if_neg (by omega)]; omega
            have hin : hd < (acc ++ lEnc 2 (((vs v).drop lf).take (p - lf))).length := by
              rw [hh, List.length_append]
              by_cases z : p - lf ≤ 31
              · rw [show hdp (p - lf) = 0 from if_pos z, lEnc_1 (by omega) (by omega)]; simp
              · rw [show hdp (p - lf) = 32 from if_neg z, lEnc_2 (by omega) (by omega)]; simp; omega
            exact tail M _ hd (lo (p - lf)) (by omega) hin (by rw [List.length_append]; omega) a h (by rw [hh]; exact z4) (by rw [hE2]; exact hh) hE3
          · have z : lo (p - lf) = 31 := (nI_eq (b := 31) (by omega) (by omega)).mp c6
            exact fresh (hlo31.mp (Or.inr z))
      · have hm4 : 4 ≤ mm := Nat.le_of_not_lt fun z => c4 (nI_lt (a := mm) (b := 4) z (by omega))
        have e : mkA (vs v) (vs o) (f + 1) p lf acc cp = mkA (vs v) (vs o) f (p + mm) (p + mm) (acc ++ lEnc 2 (((vs v).drop lf).take (p - lf)) ++ [nI (28 + mm), nI (mp (vs v) (vs o) p (vs o).length).2]) (cp + mm) := by
          rw [mkA, if_pos hpe, hmm, if_pos hm4]
        rw [e]
        refine V_aload_n dM_make_92 rfl ?_
        refine V_bipush (v := 28) dM_make_93 (by decide) ?_
        refine V_iload dM_make_95 rfl ?_
        refine V_iadd dM_make_97 ?_
        refine V_callV1 0 0 dM_make_98 clM_56 (Nat.le_of_ble_eq_true rfl) (h1) rfl (by decide) (by decide) (by decide) (cM_put h _ (by rw [List.length_append]; omega)) (fun v' M2 n' hQ => ?_)
        obtain ⟨y1, y2, y3, y4⟩ := hQ
        subst y1; subst y2
        refine V_aload_n dM_make_101 rfl ?_
        refine V_iload dM_make_102 rfl ?_
        refine V_callV1 0 0 dM_make_104 clM_56 (Nat.le_of_ble_eq_true rfl) (y4.1) rfl (by decide) (by decide) (by decide) (cM_put y4 _ (by rw [List.length_append, List.length_append]; simp; omega)) (fun v' M3 n' hQ => ?_)
        obtain ⟨y1, y2, x3, x4⟩ := hQ
        subst y1; subst y2
        refine V_aload_n dM_make_107 rfl ?_
        refine V_dup dM_make_108 rfl ?_
        refine V_get dM_make_109 fM_49 (x4.1) rfl ?_
        refine V_iload dM_make_112 rfl ?_
        refine V_iadd dM_make_114 ?_
        refine V_put dM_make_115 fM_49 (x4.1) rfl rfl (Nat.le_of_ble_eq_true rfl) ?_
        obtain ⟨e3, a3⟩ := x4.fld (c := .inr (4, [.ref 34, .ref 35, .int (nI np), .ref 36, .int (nI dr.length), .ref 37, .int (nI (acc ++ lEnc 2 (((vs v).drop lf).take (p - lf)) ++ [28 + nI mm] ++ [nI (mp (vs v) (vs o) p (vs o).length).2]).length), .int (nI cp + nI mm), .ref 38, .ref 39, .ref 40, .int (nI run), .int (nI sta), .int (nI tri), .int (nI tg), .ref 41, .int (nI bl), .int (nI nx)])) (np' := np) (run' := run) (sta' := sta) (tri' := tri) (tg' := tg) (nx' := nx) (cp' := cp + mm) (bl' := bl) (by rw [nI_add])
        refine V_iload dM_make_118 rfl ?_
        refine V_iload dM_make_120 rfl ?_
        refine V_iadd dM_make_122 ?_
        refine V_istore dM_make_123 (by decide) ?_
        refine V_iconst (v := 0) dM_make_125 (by decide) ?_
        refine V_istore_n dM_make_126 (by decide) ?_
        refine V_goto (tgt := 18) dM_make_127 (by decide) ?_
        rw [nI_add]
        have e5 : acc ++ lEnc 2 (((vs v).drop lf).take (p - lf)) ++ [28 + nI mm] ++ [nI (mp (vs v) (vs o) p (vs o).length).2] = acc ++ lEnc 2 (((vs v).drop lf).take (p - lf)) ++ [nI (28 + mm), nI (mp (vs v) (vs o) p (vs o).length).2] ++ lEnc 2 (((vs v).drop (p + mm)).take (p + mm - (p + mm))) := by
          rw [Nat.sub_self, List.take_zero, show lEnc 2 ([] : List Int32) = [] from rfl, List.append_nil, ← nI_add]
          simp
          rfl
        have e3' : ∀ M4 : aM, modX M4 dr np vs run sta tri tg nx sl mr th (acc ++ lEnc 2 (((vs v).drop lf).take (p - lf)) ++ [28 + nI mm] ++ [nI (mp (vs v) (vs o) p (vs o).length).2]) (cp + mm) bl → modX M4 dr np vs run sta tri tg nx sl mr th (acc ++ lEnc 2 (((vs v).drop lf).take (p - lf)) ++ [nI (28 + mm), nI (mp (vs v) (vs o) p (vs o).length).2] ++ lEnc 2 (((vs v).drop (p + mm)).take (p + mm - (p + mm)))) (cp + mm) bl := fun M4 z => by rw [← e5]; exact z
        have ih' := ih (p + mm) (p + mm) (acc ++ lEnc 2 (((vs v).drop lf).take (p - lf)) ++ [nI (28 + mm), nI (mp (vs v) (vs o) p (vs o).length).2]) (cp + mm) _ hd (by omega) (Nat.le_refl _) (by omega) (by rw [List.length_append, List.length_append]; simp only [List.length_cons, List.length_nil]; omega) (fun z => by omega) q6 (((a.tr y3).tr x3).tr a3) (e3' _ e3)
        rw [Nat.sub_self] at ih'
        exact V_wk ih' ⟨rfl, rfl, rfl, rfl, rfl, rfl, trivial⟩
theorem cM_make {v o : Nat} (h : modX M dr np vs run sta tri tg nx sl mr th bs cp bl) (hv : v < 7) (ho : o < 7) (hlv : (vs v).length ≤ 40) (hlo : (vs o).length ≤ 40) : Mt G 1 mtM_make [.ref 33, .int (nI v), .int (nI o)] M n 0 0 (mQ M n none dr np vs run sta tri tg nx sl mr th (patchOf (vs v) (vs o)) (savedOf (vs v) (vs o)) bl) := by
  obtain ⟨h1, h2, h3, ⟨fp, p1, p2⟩, h5, h6, h7⟩ := id h
  refine Mt.of rfl rfl (Nat.le_of_ble_eq_true rfl) ?_
  refine V_aload_n dM_make_0 rfl ?_
  refine V_iconst (v := 0) dM_make_1 (by decide) ?_
  refine V_put dM_make_2 fM_46 (h1) rfl rfl (Nat.le_of_ble_eq_true rfl) ?_
  refine V_aload_n dM_make_5 rfl ?_
  refine V_iconst (v := 0) dM_make_6 (by decide) ?_
  refine V_put dM_make_7 fM_49 (hU_eq _ _ _) rfl rfl (Nat.le_of_ble_eq_true rfl) ?_
  refine V_iconst (v := 0) dM_make_10 (by decide) ?_
  refine V_istore_n dM_make_11 (by decide) ?_
  refine V_iconst (v := 0) dM_make_12 (by decide) ?_
  refine V_istore dM_make_13 (by decide) ?_
  refine V_iconst (v := 0) dM_make_15 (by decide) ?_
  refine V_istore dM_make_16 (by decide) ?_
  generalize hM2 : hU (hU M 33 _) 33 _ = M2
  have F2 : ∀ q, q ≠ 33 → M2 q = M q := fun q hq => by rw [← hM2, hU_ne hq, hU_ne hq]
  have ag : ∀ lo hi, 33 < lo → agr M M2 lo hi := fun lo hi z q z1 z2 => F2 q (by omega)
  have e2 : modX M2 dr np vs run sta tri tg nx sl mr th ([] ++ lEnc 2 (((vs v).drop 0).take (0 - 0))) 0 bl := ⟨by rw [← hM2]; exact hU_eq _ _ _, h2.frame (ag _ _ (by omega)), h3.frame (ag _ _ (by omega)), ⟨fp, (F2 _ (by decide)).trans p1, fun i hi => by simp [lEnc] at hi⟩, h5.frame (ag _ _ (by omega)), h6.frame (ag _ _ (by omega)), h7.frame (ag _ _ (by omega))⟩
  exact lM_make hv ho hlv hlo ((vs v).length + 1) 0 0 [] 0 M2 0 (by omega) (by omega) (by omega) (by simp) (fun z => by omega) (by omega) (fun q hq => F2 q (by omega)) e2
end MOB
