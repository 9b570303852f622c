/-! a patch is made of whole pieces -/
def okL : Nat → List Int32 → Prop
  | 0, l => l = []
  | f + 1, l => l = [] ∨ ∃ (h : Nat) (r : List Int32), l = nI h :: r ∧ h < 256 ∧ ((h ≤ 31 ∧ h ≤ r.length ∧ okL f (r.drop h)) ∨ (31 < h ∧ 1 ≤ r.length ∧ okL f (r.drop 1)))
theorem okL_nil (f : Nat) : okL f [] := by cases f <;> first | rfl | exact Or.inl rfl
theorem okL_mono : ∀ (f : Nat) (l : List Int32), okL f l → okL (f + 1) l := by
  intro f
  induction f with
  | zero => intro l h; exact Or.inl h
  | succ f ih =>
    intro l h
    rcases h with h | ⟨h, r, e, hh, z⟩
    · exact Or.inl h
    · refine Or.inr ⟨h, r, e, hh, ?_⟩
      rcases z with ⟨z1, z2, z3⟩ | ⟨z1, z2, z3⟩
      · exact Or.inl ⟨z1, z2, ih _ z3⟩
      · exact Or.inr ⟨z1, z2, ih _ z3⟩
theorem okL_le {f : Nat} {l : List Int32} (h : okL f l) : ∀ g, okL (f + g) l := by
  intro g
  induction g with
  | zero => exact h
  | succ g ih => exact okL_mono _ _ ih
theorem okL_app : ∀ (f : Nat) (a b : List Int32) (g : Nat), okL f a → okL g b → okL (f + g) (a ++ b) := by
  intro f
  induction f with
  | zero =>
    intro a b g h1 h2
    have h1 : a = [] := h1
    rw [h1, List.nil_append, Nat.zero_add]
    exact h2
  | succ f ih =>
    intro a b g h1 h2
    rcases h1 with h | ⟨h, r, e, hh, z⟩
    · rw [h, List.nil_append, Nat.add_comm]
      exact okL_le h2 _
    · rw [show f + 1 + g = (f + g) + 1 by omega, e, List.cons_append]
      refine Or.inr ⟨h, r ++ b, rfl, hh, ?_⟩
      rcases z with ⟨z1, z2, z3⟩ | ⟨z1, z2, z3⟩
      · refine Or.inl ⟨z1, by rw [List.length_append]; omega, ?_⟩
        rw [List.drop_append_of_le_length z2]
        exact ih _ _ _ z3 h2
      · refine Or.inr ⟨z1, by rw [List.length_append]; omega, ?_⟩
        rw [List.drop_append_of_le_length z2]
        exact ih _ _ _ z3 h2
theorem okL_lEnc : ∀ (f : Nat) (xs : List Int32), okL f (lEnc f xs) := by
  intro f
  induction f with
  | zero => intro xs; rfl
  | succ f ih =>
    intro xs
    unfold lEnc
    by_cases e : xs.length = 0
    · rw [if_pos e]; exact Or.inl rfl
    · rw [if_neg e]
      have hl : (xs.take 31).length = min 31 xs.length := List.length_take
      refine Or.inr ⟨min 31 xs.length, _, rfl, by omega, Or.inl ⟨by omega, by rw [List.length_append]; omega, ?_⟩⟩
      rw [← hl, List.drop_left]
      exact ih _
theorem okL_mkA {v o : List Int32} (hv : v.length ≤ 40) : ∀ (f p lf : Nat) (acc : List Int32) (cp g : Nat), okL g acc → ∃ g', okL g' (mkA v o f p lf acc cp).1 := by
  intro f
  induction f with
  | zero => intro p lf acc cp g h; exact ⟨g, h⟩
  | succ f ih =>
    intro p lf acc cp g h
    unfold mkA
    have h1 := okL_app g acc _ 2 h (okL_lEnc 2 ((v.drop lf).take (p - lf)))
    have hm := (lcp_le (v.drop p) (o.drop (mp v o p o.length).2)).1
    rw [List.length_drop] at hm
    by_cases c : p < v.length
    · rw [if_pos c]
      by_cases c4 : 4 ≤ lcp (v.drop p) (o.drop (mp v o p o.length).2)
      · rw [if_pos c4]
        refine ih _ _ _ _ _ (okL_app _ _ _ 1 h1 ?_)
        exact Or.inr ⟨_, _, rfl, by omega, Or.inr ⟨by omega, by simp, rfl⟩⟩
      · rw [if_neg c4]
        exact ih _ _ _ _ _ h
    · rw [if_neg c]
      exact ⟨_, h1⟩
theorem okL_patchOf (v o : List Int32) (hv : v.length ≤ 40) : ∃ g, okL g (patchOf v o) := okL_mkA hv _ _ _ _ _ 0 rfl
/-- at the beginning of a piece: it lies within, and behind it is again such a place -/
theorem okL_at {f : Nat} {ub : List Int32} {nx : Nat} (h : okL f (ub.drop nx)) (hn : nx < ub.length) : (bN (ub.getD nx 0) ≤ 31 → nx + bN (ub.getD nx 0) < ub.length) ∧ (¬ bN (ub.getD nx 0) ≤ 31 → nx + 1 < ub.length) ∧ pcN ub nx ≤ ub.length ∧ ∃ f', okL f' (ub.drop (pcN ub nx)) := by
  have hne : ub.drop nx ≠ [] := fun z => by
    have := congrArg List.length z
    rw [List.length_drop, List.length_nil] at this
    omega
  cases f with
  | zero => exact absurd h hne
  | succ f =>
    rcases h with h | ⟨h, r, e, hh, z⟩
    · exact absurd h hne
    · have e0 : ub.getD nx 0 = nI h := by
        have := drop_getD ub nx 0
        rw [Nat.add_zero] at this
        rw [← this, e]
        rfl
      have er : r = ub.drop (nx + 1) := by
        have : (ub.drop nx).drop 1 = r := by rw [e]; rfl
        rw [← this, List.drop_drop]
      have lr : r.length = ub.length - (nx + 1) := by rw [er, List.length_drop]
      have eb : bN (ub.getD nx 0) = h := by rw [e0]; exact bN_nI hh
      unfold pcN
      rw [eb]
      rcases z with ⟨z1, z2, z3⟩ | ⟨z1, z2, z3⟩
      · rw [if_pos z1]
        refine ⟨fun _ => by omega, fun z => absurd z1 z, by omega, f, ?_⟩
        rw [er, List.drop_drop] at z3
        exact z3
      · rw [if_neg (by omega)]
        refine ⟨fun z => by omega, fun _ => by omega, by omega, f, ?_⟩
        rw [er, List.drop_drop] at z3
        exact z3
section MODE
variable {G : wG} {M M' : aM} {n : Nat} {dr : List Int32} {np : Nat} {vs : Nat → List Int32} {run sta tri tg nx : Nat} {sl : Nat → List Int32} {mr : Nat → Nat} {th : Nat → Bool} {bs : List Int32} {cp bl : Nat}
theorem modX.rows {sl' : Nat → List Int32} (h : modX M dr np vs run sta tri tg nx sl mr th bs cp bl) (F : ∀ q, q ≠ 38 → q ≠ 39 → M' q = M q) (X : mR M' sl') : modX M' dr np vs run sta tri tg nx sl' mr th bs cp bl ∧ fM M M' := by
  obtain ⟨h1, h2, h3, h4, h5, h6, h7⟩ := h
  have a : ∀ lo hi, (hi < 38 ∨ 39 < lo) → agr M M' lo hi := fun lo hi hh q q1 q2 => F q (by omega) (by omega)
  exact ⟨⟨(F 33 (by decide) (by decide)).trans h1, h2.frame (a _ _ (by omega)), h3.frame (a _ _ (by omega)), h4.frame (a _ _ (by omega)), X, h6.frame (a _ _ (by omega)), h7.frame (a _ _ (by omega))⟩, fun q hq => F q (by omega) (by omega)⟩
theorem modX.mark {k t : Nat} {f : Nat → Int32} (h : modX M dr np vs run sta tri tg nx sl mr th bs cp bl) (hk : k < 2) (hf : ∀ s, s < 2 → f s = nI (mr s)) : modX (hU M 40 (.inl (0, 2, .inl (upd f k (nI t))))) dr np vs run sta tri tg nx sl (va_up mr k t) th bs cp bl ∧ fM M (hU M 40 (.inl (0, 2, .inl (upd f k (nI t))))) := by
  obtain ⟨h1, h2, h3, h4, h5, h6, h7⟩ := h
  refine ⟨⟨hU_at (by decide) h1, h2.frame (agr_hU (by omega)), h3.frame (agr_hU (by omega)), h4.frame (agr_hU (by omega)), h5.frame (agr_hU (by omega)), ⟨_, hU_eq _ _ _, fun s hs => ?_⟩, h7.frame (agr_hU (by omega))⟩, fM_hU (by omega)⟩
  by_cases e : s = k
  · subst e
    rw [vu_eq, pk_us]
  · rw [vu_ne e, pk_un e]
    exact hf s hs
theorem modX.thr {f : Nat → Int32} {th' : Nat → Bool} (h : modX M dr np vs run sta tri tg nx sl mr th bs cp bl) (hf : ∀ i, i < 32 → f i = if th' i = true then 1 else 0) : modX (hU M 41 (.inl (1, 32, .inl f))) dr np vs run sta tri tg nx sl mr th' bs cp bl ∧ fM M (hU M 41 (.inl (1, 32, .inl f))) := by
  obtain ⟨h1, h2, h3, h4, h5, h6, h7⟩ := h
  exact ⟨⟨hU_at (by decide) h1, h2.frame (agr_hU (by omega)), h3.frame (agr_hU (by omega)), h4.frame (agr_hU (by omega)), h5.frame (agr_hU (by omega)), h6.frame (agr_hU (by omega)), ⟨f, hU_eq _ _ _, hf⟩⟩, fM_hU (by omega)⟩
theorem sub1 {r : Nat} (h : r ≤ 1) : (1 : Int32) - nI r = nI (1 - r) := pk_sub (a := 1) h
theorem cM_beginInstall (h : modX M dr np vs run sta tri tg nx sl mr th bs cp bl) (hr : run ≤ 1) : Mt G 0 mtM_beginInstall [.ref 33] M n 0 0 (mQ M n none dr np vs run 2 tri tg 0 (va_up sl (1 - run) []) (va_up mr (1 - run) tg) th bs cp bl) := by
  have hk : 1 - run < 2 := by omega
  refine Mt.of rfl rfl (Nat.le_of_ble_eq_true rfl) ?_
  refine V_aload_n dM_beginInstall_0 rfl ?_
  refine V_iconst (v := 2) dM_beginInstall_1 (by decide) ?_
  refine V_put dM_beginInstall_2 fM_68 (h.1) rfl rfl (Nat.le_of_ble_eq_true rfl) ?_
  obtain ⟨e1, a1⟩ := h.fld (np' := np) (run' := run) (sta' := 2) (tri' := tri) (tg' := tg) (nx' := nx) (cp' := cp) (bl' := bl) rfl
  refine V_aload_n dM_beginInstall_5 rfl ?_
  refine V_iconst (v := 0) dM_beginInstall_6 (by decide) ?_
  refine V_put dM_beginInstall_7 fM_80 (e1.1) rfl rfl (Nat.le_of_ble_eq_true rfl) ?_
  obtain ⟨e2, a2⟩ := e1.fld (np' := np) (run' := run) (sta' := 2) (tri' := tri) (tg' := tg) (nx' := 0) (cp' := cp) (bl' := bl) rfl
  obtain ⟨-, -, -, -, ⟨fr, fL, r1, r2, r3, r4⟩, -⟩ := id e2
  refine V_aload_n dM_beginInstall_10 rfl ?_
  refine V_get dM_beginInstall_11 fM_25 (e2.1) rfl ?_
  refine V_iconst (v := 1) dM_beginInstall_14 (by decide) ?_
  refine V_aload_n dM_beginInstall_15 rfl ?_
  refine V_get dM_beginInstall_16 fM_71 (e2.1) rfl ?_
  refine V_isub dM_beginInstall_19 ?_
  rw [sub1 hr]
  refine V_iconst (v := 0) dM_beginInstall_20 (by decide) ?_
  refine V_kiast dM_beginInstall_21 (r2) rfl (hk) (by decide) ?_
  obtain ⟨e3, a3⟩ := e2.rows (M' := hU _ 39 (.inl (0, 2, .inl (upd fL (1 - run) 0)))) (sl' := va_up sl (1 - run) []) (fun q _ z => hU_ne z) ⟨fr, upd fL (1 - run) 0, (hU_ne (by decide)).trans r1, hU_eq _ _ _, fun s hs i hi => by
    by_cases z : s = 1 - run
    · subst z; rw [vu_eq] at hi; simp at hi
    · rw [vu_ne z] at hi ⊢; exact r3 s hs i hi, fun s hs => by
    by_cases z : s = 1 - run
    · subst z; rw [vu_eq, pk_us]; rfl
    · rw [vu_ne z, pk_un z]; exact r4 s hs⟩
  obtain ⟨-, -, -, -, -, ⟨fm, m1, m2⟩, -⟩ := id e3
  refine V_aload_n dM_beginInstall_22 rfl ?_
  refine V_get dM_beginInstall_23 fM_28 (e3.1) rfl ?_
  refine V_iconst (v := 1) dM_beginInstall_26 (by decide) ?_
  refine V_aload_n dM_beginInstall_27 rfl ?_
  refine V_get dM_beginInstall_28 fM_71 (e3.1) rfl ?_
  refine V_isub dM_beginInstall_31 ?_
  rw [sub1 hr]
  refine V_aload_n dM_beginInstall_32 rfl ?_
  refine V_get dM_beginInstall_33 fM_74 (e3.1) rfl ?_
  refine V_kiast dM_beginInstall_36 (m1) rfl (hk) (by decide) ?_
  obtain ⟨e4, a4⟩ := e3.mark (t := tg) hk m2
  exact V_vret dM_beginInstall_37 rfl ⟨rfl, rfl, ((a1.tr a2).tr a3).tr a4, e4⟩
theorem cM_grow (h : modX M dr np vs run sta tri tg nx sl mr th bs cp bl) (hr : run ≤ 1) (hS : ∀ s, s < 2 → (sl s).length ≤ 40) (b : Int32) : Mt G 0 mtM_grow [.ref 33, .int b] M n 0 0 (mQ M n none dr np vs run sta tri tg nx (va_up sl (1 - run) (if (sl (1 - run)).length < 40 then sl (1 - run) ++ [b] else sl (1 - run))) mr th bs cp bl) := by
  have hk : 1 - run < 2 := by omega
  have hl := hS _ hk
  obtain ⟨h1, h2, h3, h4, ⟨fr, fL, r1, r2, r3, r4⟩, -⟩ := id h
  refine Mt.of rfl rfl (Nat.le_of_ble_eq_true rfl) ?_
  refine V_iconst (v := 1) dM_grow_0 (by decide) ?_
  refine V_aload_n dM_grow_1 rfl ?_
  refine V_get dM_grow_2 fM_71 (h1) rfl ?_
  refine V_isub dM_grow_5 ?_
  rw [sub1 hr]
  refine V_istore_n dM_grow_6 (by decide) ?_
  refine V_aload_n dM_grow_7 rfl ?_
  refine V_get dM_grow_8 fM_25 (h1) rfl ?_
  refine V_iload_n dM_grow_11 rfl ?_
  refine V_kiald dM_grow_12 (r2) rfl (hk) (by decide) (r4 _ hk) ?_
  refine V_bipush (v := 40) dM_grow_13 (by decide) ?_
  refine V_icmp_ne (tgt := 19) dM_grow_15 (by decide) (fun c => ?_) (fun c => ?_)
  · have hc : (sl (1 - run)).length < 40 := by
      have : (sl (1 - run)).length ≠ 40 := fun q => c (by rw [q]; rfl)
      omega
    rw [if_pos hc]
    refine V_aload_n dM_grow_19 rfl ?_
    refine V_get dM_grow_20 fM_22 (h1) rfl ?_
    refine V_bipush (v := 40) dM_grow_23 (by decide) ?_
    refine V_iload_n dM_grow_25 rfl ?_
    refine V_imul dM_grow_26 ?_
    refine V_aload_n dM_grow_27 rfl ?_
    refine V_get dM_grow_28 fM_25 (h1) rfl ?_
    refine V_iload_n dM_grow_31 rfl ?_
    refine V_kiald dM_grow_32 (r2) rfl (hk) (by decide) (r4 _ hk) ?_
    refine V_iadd dM_grow_33 ?_
    rw [m40, nI_add]
    refine V_iload_n dM_grow_34 rfl ?_
    refine V_kiast dM_grow_35 (r1) rfl (show 40 * (1 - run) + (sl (1 - run)).length < 80 by omega) (by decide) ?_
    have h1' := hU_at (M := M) (a := 38) (c := .inl (0, 80, .inl (upd fr (40 * (1 - run) + (sl (1 - run)).length) b))) (q := 33) (by decide) h1
    have r2' := hU_at (M := M) (a := 38) (c := .inl (0, 80, .inl (upd fr (40 * (1 - run) + (sl (1 - run)).length) b))) (q := 39) (by decide) r2
    refine V_aload_n dM_grow_36 rfl ?_
    refine V_get dM_grow_37 fM_25 (h1') rfl ?_
    refine V_iload_n dM_grow_40 rfl ?_
    refine V_dup2 dM_grow_41 rfl rfl ?_
    refine V_kiald dM_grow_42 (r2') rfl (hk) (by decide) (r4 _ hk) ?_
    refine V_iconst (v := 1) dM_grow_43 (by decide) ?_
    refine V_iadd dM_grow_44 ?_
    refine V_kiast dM_grow_45 (r2') rfl (hk) (by decide) ?_
    generalize hM2 : hU (hU M 38 _) 39 _ = M2
    have F2 : ∀ q, q ≠ 38 → q ≠ 39 → M2 q = M q := fun q z1 z2 => by rw [← hM2, hU_ne z2, hU_ne z1]
    obtain ⟨e2, a2⟩ := h.rows (sl' := va_up sl (1 - run) (sl (1 - run) ++ [b])) F2 ⟨upd fr (40 * (1 - run) + (sl (1 - run)).length) b, upd fL (1 - run) (nI (sl (1 - run)).length + 1), by rw [← hM2, hU_ne (by decide)]; exact hU_eq _ _ _, by rw [← hM2]; exact hU_eq _ _ _, fun s hs i hi => by
      by_cases z : s = 1 - run
      · subst z
        rw [vu_eq] at hi ⊢
        rw [List.length_append, List.length_singleton] at hi
        by_cases e : i = (sl (1 - run)).length
        · subst e
          rw [pk_us]
          simp [List.getD_eq_getElem?_getD]
        · rw [pk_un (by omega), r3 _ hs i (by omega)]
          simp [List.getD_eq_getElem?_getD, List.getElem?_append_left (show i < (sl (1 - run)).length by omega)]
      · rw [vu_ne z] at hi ⊢
        have hx := hS s hs
        have hls : 40 * s + i ≠ 40 * (1 - run) + (sl (1 - run)).length := by omega
        rw [pk_un hls]
        exact r3 s hs i hi, fun s hs => by
      by_cases z : s = 1 - run
      · subst z; rw [vu_eq, pk_us, List.length_append, List.length_singleton, nI_1]
      · rw [vu_ne z, pk_un z]; exact r4 s hs⟩
    exact V_vret dM_grow_46 rfl ⟨rfl, rfl, a2, e2⟩
  · have hc : ¬ (sl (1 - run)).length < 40 := by
      have : (sl (1 - run)).length = 40 := (nI_eq (b := 40) (by omega) (by omega)).mp c
      omega
    rw [if_neg hc]
    have hu : va_up sl (1 - run) (sl (1 - run)) = sl := by
      funext j
      by_cases e : j = 1 - run
      · subst e; rw [vu_eq]
      · rw [vu_ne e]
    rw [hu]
    exact V_vret dM_grow_18 rfl ⟨rfl, rfl, fM.rf, h⟩
theorem V_ge {G : wG} {mt : mT} {d : Nat} {Q : zQ} {rc rs pc : Nat} {L : List (Option Value)} {st : List Value} {M : aM} {n : Nat} {x y : Value} (h : x = y) (k : V G mt d Q rc rs pc L (y :: st) M n) : V G mt d Q rc rs pc L (x :: st) M n := h ▸ k
/-- the loose bytes of a piece -/
theorem lM_loose {M0 : aM} {hd : Nat} {Q : zQ} {ys : List Int32} (hr : run ≤ 1) (hS : ∀ s, s < 2 → (sl s).length ≤ 40) (hys : ys = sl (1 - run)) (hhd : hd ≤ 31) (hin : nx + hd < bs.length) (hbs : bs.length ≤ 42)
    (kk : ∀ M, fM M0 M → modX M dr np vs run sta tri tg nx (va_up sl (1 - run) (apf ys bs 40 (nx + 1) hd)) mr th bs cp bl → V G mtM_piece 2 Q 0 0 44 [some (.ref 33), some (.int (nI hd)), none, none] [] M n) :
    ∀ (j i : Nat) (M : aM), i + j = hd → fM M0 M → modX M dr np vs run sta tri tg nx (va_up sl (1 - run) (apf ys bs 40 (nx + 1) i)) mr th bs cp bl → V G mtM_piece 2 Q 0 0 18 [some (.ref 33), some (.int (nI hd)), some (.int (nI (i + 1))), none] [] M n := by
  have hk : 1 - run < 2 := by omega
  intro j
  induction j with
  | zero =>
    intro i M e a h
    have e : i = hd := by omega
    subst e
    refine V_iload_n dM_piece_18 rfl ?_
    refine V_iload_n dM_piece_19 rfl ?_
    refine V_icmp_gt (tgt := 44) dM_piece_20 (by decide) (fun c => ?_) (fun c => ?_)
    · exact V_wk (kk M a h) ⟨rfl, rfl, trivial⟩
    · exact absurd (nI_lt (Nat.lt_succ_self i) (by omega)) c
  | succ j ih =>
    intro i M e a h
    obtain ⟨h1, h2, h3, ⟨fp, p1, p2⟩, -⟩ := id h
    refine V_iload_n dM_piece_18 rfl ?_
    refine V_iload_n dM_piece_19 rfl ?_
    refine V_icmp_gt (tgt := 44) dM_piece_20 (by decide) (fun c => ?_) (fun c => ?_)
    · exact absurd c (nI_nlt (show i + 1 ≤ hd by omega) (by omega))
    · refine V_aload_n dM_piece_23 rfl ?_
      refine V_aload_n dM_piece_24 rfl ?_
      refine V_get dM_piece_25 fM_19 (h1) rfl ?_
      refine V_aload_n dM_piece_28 rfl ?_
      refine V_get dM_piece_29 fM_80 (h1) rfl ?_
      refine V_iload_n dM_piece_32 rfl ?_
      refine V_iadd dM_piece_33 ?_
      rw [nI_add]
      have hS' : ∀ s, s < 2 → (va_up sl (1 - run) (apf ys bs 40 (nx + 1) i) s).length ≤ 40 := fun s hs => by
        by_cases z : s = 1 - run
        · subst z; rw [vu_eq]; unfold apf; rw [List.length_take]; omega
        · rw [vu_ne z]; exact hS s hs
      refine V_kiald dM_piece_34 (p1) rfl (show nx + (i + 1) < 128 by omega) (by decide) (p2 _ (by omega)) ?_
      refine V_callV1 0 0 dM_piece_35 clM_94 (Nat.le_of_ble_eq_true rfl) (h1) rfl (by decide) (by decide) (by decide) (cM_grow h hr hS' _) (fun x M1 n' hQ => ?_)
      obtain ⟨q1, q2, q3, q4⟩ := hQ
      subst q1; subst q2
      rw [vu_eq, bx_uu, show nx + (i + 1) = nx + 1 + i by omega, apf_s] at q4
      refine V_iinc (v := _ + 1) dM_piece_38 (by decide) rfl rfl ?_
      refine V_goto (tgt := 18) dM_piece_41 (by decide) ?_
      rw [nI_1]
      exact ih (i + 1) M1 (by omega) (a.tr q3) q4
/-- the copy of a piece -/
theorem lM_copy {M0 : aM} {q hd : Nat} {Q : zQ} {ys : List Int32} (hr : run ≤ 1) (hS : ∀ s, s < 2 → (sl s).length ≤ 40) (hys : ys = sl (1 - run)) (hq : q < 256) (hhd : hd < 256) (hh2 : 31 < hd)
    (kk : ∀ M, fM M0 M → modX M dr np vs run sta tri tg nx (va_up sl (1 - run) (apf ys (sl run) 40 q (hd - 28))) mr th bs cp bl → V G mtM_piece 2 Q 0 0 124 [some (.ref 33), some (.int (nI hd)), none, none] [] M n) :
    ∀ (j i : Nat) (M : aM), i + j = hd - 28 → fM M0 M → modX M dr np vs run sta tri tg nx (va_up sl (1 - run) (apf ys (sl run) 40 q i)) mr th bs cp bl → V G mtM_piece 2 Q 0 0 73 [some (.ref 33), some (.int (nI hd)), some (.int (nI q)), some (.int (nI (q + i)))] [] M n := by
  have hk : 1 - run < 2 := by omega
  have hr2 : run < 2 := by omega
  intro j
  induction j with
  | zero =>
    intro i M e a h
    refine V_iload_n dM_piece_73 rfl ?_
    refine V_iload_n dM_piece_74 rfl ?_
    refine V_iload_n dM_piece_75 rfl ?_
    refine V_iadd dM_piece_76 ?_
    refine V_bipush (v := 28) dM_piece_77 (by decide) ?_
    refine V_isub dM_piece_79 ?_
    rw [nI_add, show nI (q + hd) - 28 = nI (q + hd - 28) from pk_sub (b := 28) (by omega)]
    refine V_icmp_ge (tgt := 124) dM_piece_80 (by decide) (fun c => ?_) (fun c => ?_)
    · rw [show i = hd - 28 by omega] at h
      exact V_wk (kk M a h) ⟨rfl, rfl, trivial⟩
    · exact absurd (nI_le (show q + hd - 28 ≤ q + i by omega) (by omega)) c
  | succ j ih =>
    intro i M e a h
    obtain ⟨h1, h2, h3, h4, ⟨fr, fL, r1, r2, r3, r4⟩, -⟩ := id h
    have hS' : ∀ s, s < 2 → (va_up sl (1 - run) (apf ys (sl run) 40 q i) s).length ≤ 40 := fun s hs => by
      by_cases z : s = 1 - run
      · subst z; rw [vu_eq]; unfold apf; rw [List.length_take]; omega
      · rw [vu_ne z]; exact hS s hs
    have er : va_up sl (1 - run) (apf ys (sl run) 40 q i) run = sl run := vu_ne (by omega)
    have r3r := r3 run hr2
    have r4r := r4 run hr2
    rw [er] at r3r r4r
    have hlr := hS run hr2
    have tail : ∀ x : Int32, x = (sl run).getD (q + i) 0 → V G mtM_piece 2 Q 0 0 115 [some (.ref 33), some (.int (nI hd)), some (.int (nI q)), some (.int (nI (q + i)))] [.int x, .ref 33] M n := by
      intro x hx
      refine V_callV1 0 0 dM_piece_115 clM_94 (Nat.le_of_ble_eq_true rfl) (h1) rfl (by decide) (by decide) (by decide) (cM_grow h hr hS' _) (fun x M1 n' hQ => ?_)
      obtain ⟨q1, q2, q3, q4⟩ := hQ
      subst q1; subst q2
      rw [vu_eq, bx_uu, hx, apf_s] at q4
      refine V_iinc (v := _ + 1) dM_piece_118 (by decide) rfl rfl ?_
      refine V_goto (tgt := 73) dM_piece_121 (by decide) ?_
      rw [nI_1]
      exact ih (i + 1) M1 (by omega) (a.tr q3) q4
    refine V_iload_n dM_piece_73 rfl ?_
    refine V_iload_n dM_piece_74 rfl ?_
    refine V_iload_n dM_piece_75 rfl ?_
    refine V_iadd dM_piece_76 ?_
    refine V_bipush (v := 28) dM_piece_77 (by decide) ?_
    refine V_isub dM_piece_79 ?_
    rw [nI_add, show nI (q + hd) - 28 = nI (q + hd - 28) from pk_sub (b := 28) (by omega)]
    refine V_icmp_ge (tgt := 124) dM_piece_80 (by decide) (fun c => ?_) (fun c => ?_)
    · exact absurd c (nI_ge (show q + i < q + hd - 28 by omega) (by omega))
    · refine V_aload_n dM_piece_83 rfl ?_
      refine V_iload_n dM_piece_84 rfl ?_
      refine V_aload_n dM_piece_85 rfl ?_
      refine V_get dM_piece_86 fM_25 (h1) rfl ?_
      refine V_aload_n dM_piece_89 rfl ?_
      refine V_get dM_piece_90 fM_71 (h1) rfl ?_
      refine V_kiald dM_piece_93 (r2) rfl (hr2) (by decide) (r4r) ?_
      refine V_icmp_ge (tgt := 114) dM_piece_94 (by decide) (fun c2 => ?_) (fun c2 => ?_)
      · refine V_iconst (v := 0) dM_piece_114 (by decide) ?_
        refine tail 0 ?_
        have : ¬ q + i < (sl run).length := fun z => nI_ge z (by omega) c2
        simp [List.getD_eq_getElem?_getD, List.getElem?_eq_none (Nat.le_of_not_lt this)]
      · have hlt : q + i < (sl run).length := Nat.lt_of_not_le fun z => c2 (nI_le z (by omega))
        refine V_aload_n dM_piece_97 rfl ?_
        refine V_get dM_piece_98 fM_22 (h1) rfl ?_
        refine V_bipush (v := 40) dM_piece_101 (by decide) ?_
        refine V_aload_n dM_piece_103 rfl ?_
        refine V_get dM_piece_104 fM_71 (h1) rfl ?_
        refine V_imul dM_piece_107 ?_
        refine V_iload_n dM_piece_108 rfl ?_
        refine V_iadd dM_piece_109 ?_
        rw [m40, nI_add]
        refine V_kiald dM_piece_110 (r1) rfl (show 40 * run + (q + i) < 80 by omega) (by decide) (r3r _ hlt) ?_
        refine V_goto (tgt := 115) dM_piece_111 (by decide) ?_
        exact tail _ rfl
theorem cM_piece (h : modX M dr np vs run 2 tri tg nx sl mr th bs cp bl) (hr : run ≤ 1) (hS : ∀ s, s < 2 → (sl s).length ≤ 40) (hV : ∀ v, (vs v).length ≤ 40) (hm : ∀ k, k < 2 → mr k < 7) (hB : isB bs) (hl : bs.length ≤ 42) (hnx : nx < bs.length) (ho1 : bN (bs.getD nx 0) ≤ 31 → nx + bN (bs.getD nx 0) < bs.length) (ho2 : ¬ bN (bs.getD nx 0) ≤ 31 → nx + 1 < bs.length) : Mt G 2 mtM_piece [.ref 33] M n 0 0 (mQ M n none dr np vs run (ins1 vs mr bs run (2, nx, sl)).1 tri tg (ins1 vs mr bs run (2, nx, sl)).2.1 (ins1 vs mr bs run (2, nx, sl)).2.2 mr th bs cp bl) := by
  have hk : 1 - run < 2 := by omega
  obtain ⟨hh, hh2⟩ := isB_at hB nx
  obtain ⟨hq, hq2⟩ := isB_at hB (nx + 1)
  obtain ⟨h1, h2, h3, ⟨fp, p1, p2⟩, -⟩ := id h
  -- behind the bytes: next stands, is the patch done?
  have tail : ∀ (M1 : aM) (L : List (Option Value)), L = [some (.ref 33), some (.int (nI (bN (bs.getD nx 0)))), none, none] → fM M M1 → modX M1 dr np vs run 2 tri tg (pcN bs nx) (va_up sl (1 - run) (pcY bs (sl run) (sl (1 - run)) nx)) mr th bs cp bl → V G mtM_piece 2 (mQ M n none dr np vs run (ins1 vs mr bs run (2, nx, sl)).1 tri tg (ins1 vs mr bs run (2, nx, sl)).2.1 (ins1 vs mr bs run (2, nx, sl)).2.2 mr th bs cp bl) 0 0 134 L [] M1 n := by
    intro M1 L hL a1 e1
    subst hL
    have hpc : pcN bs nx ≤ 400 := by
      unfold pcN
      by_cases z : bN (bs.getD nx 0) ≤ 31
      · rw [if_pos z]; omega
      · rw [if_neg z]; omega
    have hS' : ∀ s, s < 2 → (va_up sl (1 - run) (pcY bs (sl run) (sl (1 - run)) nx) s).length ≤ 40 := fun s hs => by
      by_cases z : s = 1 - run
      · subst z
        rw [vu_eq]
        unfold pcY
        by_cases y : bN (bs.getD nx 0) ≤ 31
        · rw [if_pos y]; unfold apf; rw [List.length_take]; omega
        · rw [if_neg y]; unfold apf; rw [List.length_take]; omega
      · rw [vu_ne z]; exact hS s hs
    refine V_aload_n dM_piece_134 rfl ?_
    refine V_get dM_piece_135 fM_80 (e1.1) rfl ?_
    refine V_aload_n dM_piece_138 rfl ?_
    refine V_get dM_piece_139 fM_46 (e1.1) rfl ?_
    refine V_icmp_ge (tgt := 146) dM_piece_142 (by decide) (fun c => ?_) (fun c => ?_)
    · have hc : bs.length ≤ pcN bs nx := Nat.le_of_not_lt fun z => nI_ge z (by omega) c
      refine V_aload_n dM_piece_146 rfl ?_
      refine V_aload_n dM_piece_147 rfl ?_
      refine V_iconst (v := 1) dM_piece_148 (by decide) ?_
      refine V_aload_n dM_piece_149 rfl ?_
      refine V_get dM_piece_150 fM_71 (e1.1) rfl ?_
      refine V_isub dM_piece_153 ?_
      rw [sub1 hr]
      refine V_rV1 dM_piece_154 clM_97 (Nat.le_of_ble_eq_true rfl) (e1.1) rfl (by decide) (cM_sound e1 hm hV hS' _) ?_
      have hsp : spSound vs (va_up sl (1 - run) (pcY bs (sl run) (sl (1 - run)) nx)) mr (nI (1 - run)) = if sndP vs (va_up sl (1 - run) (pcY bs (sl run) (sl (1 - run)) nx)) mr (1 - run) then 1 else 0 := by
        unfold spSound
        rw [show bN (nI (1 - run)) = 1 - run from nI_clamp (by omega)]
        have hiS : isS (nI (1 - run)) := by
          rcases (show 1 - run = 0 ∨ 1 - run = 1 by omega) with z | z
          · exact Or.inl (by rw [z]; rfl)
          · exact Or.inr (by rw [z]; rfl)
        by_cases z : sndP vs (va_up sl (1 - run) (pcY bs (sl run) (sl (1 - run)) nx)) mr (1 - run)
        · rw [if_pos ⟨hiS, z⟩, if_pos z]
        · rw [if_neg (fun y => z y.2), if_neg z]
      rw [hsp]
      refine V_if_eq (tgt := 164) dM_piece_157 (by decide) (fun c4 => ?_) (fun c4 => ?_)
      · have hE : ins1 vs mr bs run (2, nx, sl) = (0, pcN bs nx, va_up sl (1 - run) (pcY bs (sl run) (sl (1 - run)) nx)) := by
          unfold ins1
          rw [if_pos hc, if_neg (if00 c4)]
        rw [hE]
        refine V_iconst (v := 0) dM_piece_164 (by decide) ?_
        refine V_put dM_piece_165 fM_68 (e1.1) rfl rfl (Nat.le_of_ble_eq_true rfl) ?_
        obtain ⟨e3, a3⟩ := e1.fld (np' := np) (run' := run) (sta' := 0) (tri' := tri) (tg' := tg) (nx' := pcN bs nx) (cp' := cp) (bl' := bl) rfl
        exact V_vret dM_piece_168 rfl ⟨rfl, rfl, a1.tr a3, e3⟩
      · have hE : ins1 vs mr bs run (2, nx, sl) = (3, pcN bs nx, va_up sl (1 - run) (pcY bs (sl run) (sl (1 - run)) nx)) := by
          unfold ins1
          rw [if_pos hc, if_pos (if10 c4)]
        rw [hE]
        refine V_iconst (v := 3) dM_piece_160 (by decide) ?_
        refine V_goto (tgt := 165) dM_piece_161 (by decide) ?_
        refine V_put dM_piece_165 fM_68 (e1.1) rfl rfl (Nat.le_of_ble_eq_true rfl) ?_
        obtain ⟨e3, a3⟩ := e1.fld (np' := np) (run' := run) (sta' := 3) (tri' := tri) (tg' := tg) (nx' := pcN bs nx) (cp' := cp) (bl' := bl) rfl
        exact V_vret dM_piece_168 rfl ⟨rfl, rfl, a1.tr a3, e3⟩
    · have hc : ¬ bs.length ≤ pcN bs nx := fun z => c (nI_le z (by omega))
      have hE : ins1 vs mr bs run (2, nx, sl) = (2, pcN bs nx, va_up sl (1 - run) (pcY bs (sl run) (sl (1 - run)) nx)) := by
        unfold ins1
        rw [if_neg hc]
      rw [hE]
      exact V_vret dM_piece_145 rfl ⟨rfl, rfl, a1, e1⟩
  have hu : ∀ ys : List Int32, ys = sl (1 - run) → va_up sl (1 - run) ys = sl := by
    intro ys hy
    subst hy
    funext j
    by_cases e : j = 1 - run
    · subst e; rw [vu_eq]
    · rw [vu_ne e]
  have hl0 := hS _ hk
  refine Mt.of rfl rfl (Nat.le_of_ble_eq_true rfl) ?_
  refine V_aload_n dM_piece_0 rfl ?_
  refine V_get dM_piece_1 fM_19 (h1) rfl ?_
  refine V_aload_n dM_piece_4 rfl ?_
  refine V_get dM_piece_5 fM_80 (h1) rfl ?_
  refine V_kiald dM_piece_8 (p1) rfl (show nx < 128 by omega) (by decide) (p2 nx hnx) ?_
  rw [hh]
  refine V_istore_n dM_piece_9 (by decide) ?_
  refine V_iload_n dM_piece_10 rfl ?_
  refine V_bipush (v := 32) dM_piece_11 (by decide) ?_
  refine V_icmp_ge (tgt := 59) dM_piece_13 (by decide) (fun c => ?_) (fun c => ?_)
  · have hc : ¬ bN (bs.getD nx 0) ≤ 31 := fun z => Int32.not_le.mpr (nI_lt (a := bN (bs.getD nx 0)) (b := 32) (by omega) (by omega)) c
    have hin := ho2 hc
    refine V_aload_n dM_piece_59 rfl ?_
    refine V_get dM_piece_60 fM_19 (h1) rfl ?_
    refine V_aload_n dM_piece_63 rfl ?_
    refine V_get dM_piece_64 fM_80 (h1) rfl ?_
    refine V_iconst (v := 1) dM_piece_67 (by decide) ?_
    refine V_iadd dM_piece_68 ?_
    rw [nI_1]
    refine V_kiald dM_piece_69 (p1) rfl (show nx + 1 < 128 by omega) (by decide) (p2 _ hin) ?_
    rw [hq]
    refine V_istore_n dM_piece_70 (by decide) ?_
    refine V_iload_n dM_piece_71 rfl ?_
    refine V_istore_n dM_piece_72 (by decide) ?_
    refine lM_copy (M0 := M) (ys := sl (1 - run)) hr hS rfl hq2 hh2 (by omega) (fun M1 a1 e1 => ?_) (bN (bs.getD nx 0) - 28) 0 M (by omega) fM.rf (by rw [apf_0 hl0, hu _ rfl]; exact h)
    refine V_aload_n dM_piece_124 rfl ?_
    refine V_dup dM_piece_125 rfl ?_
    refine V_get dM_piece_126 fM_80 (e1.1) rfl ?_
    refine V_iconst (v := 2) dM_piece_129 (by decide) ?_
    refine V_iadd dM_piece_130 ?_
    refine V_put dM_piece_131 fM_80 (e1.1) rfl rfl (Nat.le_of_ble_eq_true rfl) ?_
    have hp : pcN bs nx = nx + 2 := if_neg hc
    obtain ⟨e3, a3⟩ := e1.fld (c := .inr (4, [.ref 34, .ref 35, .int (nI np), .ref 36, .int (nI dr.length), .ref 37, .int (nI bs.length), .int (nI cp), .ref 38, .ref 39, .ref 40, .int (nI run), .int (nI 2), .int (nI tri), .int (nI tg), .ref 41, .int (nI bl), .int (nI nx + 2)])) (np' := np) (run' := run) (sta' := 2) (tri' := tri) (tg' := tg) (nx' := pcN bs nx) (cp' := cp) (bl' := bl) (by rw [hp, show nI nx + 2 = nI (nx + 2) from nI_add nx 2])
    refine tail _ _ rfl (a1.tr a3) ?_
    have hy : pcY bs (sl run) (sl (1 - run)) nx = apf (sl (1 - run)) (sl run) 40 (bN (bs.getD (nx + 1) 0)) (bN (bs.getD nx 0) - 28) := if_neg hc
    rw [hy]
    exact e3
  · have hc : bN (bs.getD nx 0) ≤ 31 := by
      rcases Nat.lt_or_ge (bN (bs.getD nx 0)) 32 with z | z
      · omega
      · exact absurd (nI_le (a := 32) z (by omega)) c
    have hin := ho1 hc
    refine V_iconst (v := 1) dM_piece_16 (by decide) ?_
    refine V_istore_n dM_piece_17 (by decide) ?_
    refine lM_loose (M0 := M) (ys := sl (1 - run)) hr hS rfl hc hin hl (fun M1 a1 e1 => ?_) (bN (bs.getD nx 0)) 0 M (by omega) fM.rf (by rw [apf_0 hl0, hu _ rfl]; exact h)
    refine V_aload_n dM_piece_44 rfl ?_
    refine V_dup dM_piece_45 rfl ?_
    refine V_get dM_piece_46 fM_80 (e1.1) rfl ?_
    refine V_iload_n dM_piece_49 rfl ?_
    refine V_iconst (v := 1) dM_piece_50 (by decide) ?_
    refine V_iadd dM_piece_51 ?_
    refine V_iadd dM_piece_52 ?_
    refine V_put dM_piece_53 fM_80 (e1.1) rfl rfl (Nat.le_of_ble_eq_true rfl) ?_
    have hp : pcN bs nx = nx + 1 + bN (bs.getD nx 0) := if_pos hc
    obtain ⟨e3, a3⟩ := e1.fld (c := .inr (4, [.ref 34, .ref 35, .int (nI np), .ref 36, .int (nI dr.length), .ref 37, .int (nI bs.length), .int (nI cp), .ref 38, .ref 39, .ref 40, .int (nI run), .int (nI 2), .int (nI tri), .int (nI tg), .ref 41, .int (nI bl), .int (nI nx + (nI (bN (bs.getD nx 0)) + 1))])) (np' := np) (run' := run) (sta' := 2) (tri' := tri) (tg' := tg) (nx' := pcN bs nx) (cp' := cp) (bl' := bl) (by rw [hp, nI_1, nI_add, show nx + (bN (bs.getD nx 0) + 1) = nx + 1 + bN (bs.getD nx 0) by omega])
    refine V_goto (tgt := 134) dM_piece_56 (by decide) ?_
    refine tail _ _ rfl (a1.tr a3) ?_
    have hy : pcY bs (sl run) (sl (1 - run)) nx = apf (sl (1 - run)) bs 40 (nx + 1) (bN (bs.getD nx 0)) := if_pos hc
    rw [hy]
    exact e3
end MODE
