/-! TwoSlots$Device, the writes -/
theorem vu_eq {α : Type} (f : Nat → α) (k : Nat) (x : α) : va_up f k x k = x := by unfold va_up; rw [if_pos rfl]
theorem vu_ne {α : Type} {f : Nat → α} {k j : Nat} {x : α} (h : j ≠ k) : va_up f k x j = f j := by unfold va_up; rw [if_neg h]
section DEVB
variable {G : wG} {M M' : aM} {n : Nat} {vs : Nat → List Int32} {run sta tri tg ms nx : Nat} {sl : Nat → List Int32} {mr : Nat → Nat} {ub : List Int32} {uc : Nat} {th : Nat → Bool}
theorem devX.slot {k : Nat} {ys : List Int32} (h : devX M vs run sta tri tg ms nx sl mr ub uc th) (hk : k < 2) (F : ∀ q, q ≠ 24 + 2 * k → q ≠ 25 + 2 * k → M' q = M q) (X : rowL M' (24 + 2 * k) (25 + 2 * k) 40 ys) : devX M' vs run sta tri tg ms nx (va_up sl k ys) mr ub uc th ∧ fD M M' := by
  obtain ⟨h1, h2, ⟨⟨g, g1, g2⟩, g3⟩, h4, h5, h6⟩ := h
  have a : ∀ lo hi, (hi < 24 ∨ 27 < lo) → agr M M' lo hi := fun lo hi hh q q1 q2 => F q (by omega) (by omega)
  refine ⟨⟨(F 22 (by omega) (by omega)).trans h1, h2.frame (a _ _ (by omega)), ⟨⟨g, (F 23 (by omega) (by omega)).trans g1, g2⟩, fun s hs => ?_⟩, h4.frame (a _ _ (by omega)), h5.frame (a _ _ (by omega)), h6.frame (a _ _ (by omega))⟩, fun q hq => F q (by omega) (by omega)⟩
  by_cases e : s = k
  · subst e
    rw [vu_eq]
    exact X
  · rw [vu_ne e]
    exact (g3 s hs).frame (F _ (by omega) (by omega)) (F _ (by omega) (by omega))
theorem devX.mark {k t : Nat} {f : Nat → Int32} (h : devX M vs run sta tri tg ms nx sl mr ub uc th) (hk : k < 2) (hf : ∀ s, s < 2 → f s = nI (mr s)) : devX (hU M 28 (.inl (0, 2, .inl (upd f k (nI t))))) vs run sta tri tg ms nx sl (va_up mr k t) ub uc th ∧ fD M (hU M 28 (.inl (0, 2, .inl (upd f k (nI t))))) := by
  obtain ⟨h1, h2, h3, h4, h5, h6⟩ := h
  have a : ∀ lo hi, (hi < 28 ∨ 28 < lo) → agr M (hU M 28 (.inl (0, 2, .inl (upd f k (nI t))))) lo hi := fun lo hi hh q q1 q2 => hU_ne (by omega)
  refine ⟨⟨hU_at (by decide) h1, h2.frame (a _ _ (by omega)), h3.frame (a _ _ (by omega)), ⟨_, hU_eq _ _ _, fun s hs => ?_⟩, h5.frame (a _ _ (by omega)), h6.frame (a _ _ (by omega))⟩, fun q hq => hU_ne (by omega)⟩
  by_cases e : s = k
  · subst e
    rw [vu_eq, pk_us]
  · rw [vu_ne e, pk_un e]
    exact hf s hs
theorem devX.thr {f : Nat → Int32} {th' : Nat → Bool} (h : devX M vs run sta tri tg ms nx sl mr ub uc th) (hf : ∀ i, i < 9 → f i = if th' i = true then 1 else 0) : devX (hU M 32 (.inl (1, 9, .inl f))) vs run sta tri tg ms nx sl mr ub uc th' ∧ fD M (hU M 32 (.inl (1, 9, .inl f))) := by
  obtain ⟨h1, h2, h3, h4, h5, h6⟩ := h
  have a : ∀ lo hi, (hi < 32 ∨ 32 < lo) → agr M (hU M 32 (.inl (1, 9, .inl f))) lo hi := fun lo hi hh q q1 q2 => hU_ne (by omega)
  exact ⟨⟨hU_at (by decide) h1, h2.frame (a _ _ (by omega)), h3.frame (a _ _ (by omega)), h4.frame (a _ _ (by omega)), h5.frame (a _ _ (by omega)), ⟨f, hU_eq _ _ _, hf⟩⟩, fun q hq => hU_ne (by omega)⟩
theorem devX.pat {ub' : List Int32} {uc' : Nat} (h : devX M vs run sta tri tg ms nx sl mr ub uc th) (F : ∀ q, q ≠ 29 → q ≠ 30 → q ≠ 31 → M' q = M q) (X : patL M' 29 30 31 ub' uc') : devX M' vs run sta tri tg ms nx sl mr ub' uc' th ∧ fD M M' := by
  obtain ⟨h1, h2, h3, h4, h5, h6⟩ := h
  have a : ∀ lo hi, (hi < 29 ∨ 31 < lo) → agr M M' lo hi := fun lo hi hh q q1 q2 => F q (by omega) (by omega) (by omega)
  exact ⟨⟨(F 22 (by omega) (by omega) (by omega)).trans h1, h2.frame (a _ _ (by omega)), h3.frame (a _ _ (by omega)), h4.frame (a _ _ (by omega)), X, h6.frame (a _ _ (by omega))⟩, fun q hq => F q (by omega) (by omega) (by omega)⟩
theorem cD_beginInstalling (h : devX M vs run sta tri tg ms nx sl mr ub uc th) (hr : run ≤ 1) : Mt G 1 mtD_beginInstalling [.ref 22] M n 0 0 (dQ M n none vs run 2 tri tg ms 0 (va_up sl (1 - run) []) (va_up mr (1 - run) tg) ub uc th) := by
  have hk : 1 - run < 2 := by omega
  obtain ⟨h1, h2, h3, h4, h5, h6⟩ := id h
  obtain ⟨⟨g, g1, g2⟩, g3⟩ := id h3
  obtain ⟨fs, s1, -⟩ := id (g3 _ hk)
  refine Mt.of rfl rfl (Nat.le_of_ble_eq_true rfl) ?_
  refine V_aload_n dD_beginInstalling_0 rfl ?_
  refine V_get dD_beginInstalling_1 fD_20 (h1) rfl ?_
  refine V_aload_n dD_beginInstalling_4 rfl ?_
  refine V_rV0 dD_beginInstalling_5 clD_76 (Nat.le_of_ble_eq_true rfl) (h1) rfl (by decide) (cD_spare h hr) ?_
  refine V_kaald dD_beginInstalling_8 (g1) rfl (hk) (by decide) (g2 _ hk) ?_
  refine V_wV0 dD_beginInstalling_9 clD_96 (Nat.le_of_ble_eq_true rfl) (s1) rfl (by decide) (cR_empty (g3 _ hk)) (fun M1 F1 X1 => ?_)
  obtain ⟨e1, a1⟩ := h.slot hk F1 X1
  obtain ⟨f, f1, f2⟩ := id e1.2.2.2.1
  refine V_aload_n dD_beginInstalling_12 rfl ?_
  refine V_get dD_beginInstalling_13 fD_23 (e1.1) rfl ?_
  refine V_aload_n dD_beginInstalling_16 rfl ?_
  refine V_rV0 dD_beginInstalling_17 clD_76 (Nat.le_of_ble_eq_true rfl) (e1.1) rfl (by decide) (cD_spare e1 hr) ?_
  refine V_aload_n dD_beginInstalling_20 rfl ?_
  refine V_get dD_beginInstalling_21 fD_37 (e1.1) rfl ?_
  refine V_kiast dD_beginInstalling_24 (f1) rfl (hk) (by decide) ?_
  obtain ⟨e2, a2⟩ := e1.mark (t := tg) hk f2
  refine V_aload_n dD_beginInstalling_25 rfl ?_
  refine V_iconst (v := 0) dD_beginInstalling_26 (by decide) ?_
  refine V_put dD_beginInstalling_27 fD_54 (e2.1) rfl rfl (Nat.le_of_ble_eq_true rfl) ?_
  obtain ⟨e3, a3⟩ := e2.fld (run' := run) (sta' := sta) (tri' := tri) (tg' := tg) (ms' := ms) (nx' := 0) rfl
  refine V_aload_n dD_beginInstalling_30 rfl ?_
  refine V_iconst (v := 2) dD_beginInstalling_31 (by decide) ?_
  refine V_put dD_beginInstalling_32 fD_31 (e3.1) rfl rfl (Nat.le_of_ble_eq_true rfl) ?_
  obtain ⟨e4, a4⟩ := e3.fld (run' := run) (sta' := 2) (tri' := tri) (tg' := tg) (ms' := ms) (nx' := 0) rfl
  exact V_vret dD_beginInstalling_35 rfl ⟨rfl, rfl, ((a1.tr a2).tr a3).tr a4, e4⟩
theorem cD_useTry (h : devX M vs run sta tri tg ms nx sl mr ub uc th) (hr : run ≤ 1) (ht : tri ≤ 2) : Mt G 2 mtD_useTry [.ref 22] M n 0 0 (fun v M' n' => if 0 < tri then dQ M n none vs run sta (tri - 1) tg ms nx sl mr ub uc th v M' n' else dQ M n none vs (1 - run) 0 tri tg ms nx sl mr ub uc th v M' n') := by
  obtain ⟨h1, h2, h3, h4, h5, h6⟩ := id h
  refine Mt.of rfl rfl (Nat.le_of_ble_eq_true rfl) ?_
  refine V_aload_n dD_useTry_0 rfl ?_
  refine V_get dD_useTry_1 fD_34 (h1) rfl ?_
  refine V_if_le (tgt := 20) dD_useTry_4 (by decide) (fun c => ?_) (fun c => ?_)
  · have c' : ¬ 0 < tri := fun q => nI_nle q (by omega) c
    refine V_aload_n dD_useTry_20 rfl ?_
    refine V_callV0 0 0 dD_useTry_21 clD_93 (Nat.le_of_ble_eq_true rfl) (h1) rfl (by decide) (by decide) (by decide) (cD_goBack h hr) (fun v M' n' hQ => ?_)
    obtain ⟨e1, e2, e3, e4⟩ := hQ
    subst e1; subst e2
    refine V_vret dD_useTry_24 rfl ?_
    rw [if_neg c']
    exact ⟨rfl, rfl, e3, e4⟩
  · have c' : 0 < tri := by
      rcases Nat.eq_zero_or_pos tri with q | q
      · exact absurd (by rw [q]; exact Int32.le_refl 0) c
      · exact q
    refine V_aload_n dD_useTry_7 rfl ?_
    refine V_dup dD_useTry_8 rfl ?_
    refine V_get dD_useTry_9 fD_34 (h1) rfl ?_
    refine V_iconst (v := 1) dD_useTry_12 (by decide) ?_
    refine V_isub dD_useTry_13 ?_
    refine V_put dD_useTry_14 fD_34 (h1) rfl rfl (Nat.le_of_ble_eq_true rfl) ?_
    obtain ⟨e1, e2⟩ := h.fld (c := .inr (2, [.ref 4, .ref 23, .ref 28, .int (nI run), .int (nI sta), .int (nI tri - 1), .int (nI tg), .ref 29, .ref 32, .int (nI ms), .int (nI nx)])) (run' := run) (sta' := sta) (tri' := tri - 1) (tg' := tg) (ms' := ms) (nx' := nx) (by rw [show nI tri - 1 = nI (tri - 1) from pk_sub (b := 1) c'])
    refine V_goto (tgt := 24) dD_useTry_17 (by decide) ?_
    refine V_vret dD_useTry_24 rfl ?_
    rw [if_pos c']
    exact ⟨rfl, rfl, e2, e1⟩
/-- a boot's first step: run, state, tries, next, rows, marks -/
abbrev bX : Type := Nat × Nat × Nat × Nat × (Nat → List Int32) × (Nat → Nat)
def bStep (tg : Nat) (x : bX) : bX := if x.2.1 = 3 then (1 - x.1, 4, 2, x.2.2.2) else if x.2.1 = 4 then (if 0 < x.2.2.1 then (x.1, 4, x.2.2.1 - 1, x.2.2.2) else (1 - x.1, 0, x.2.2.1, x.2.2.2)) else if x.2.1 = 2 then (x.1, 2, x.2.2.1, 0, va_up x.2.2.2.2.1 (1 - x.1) [], va_up x.2.2.2.2.2 (1 - x.1) tg) else x
def devB (M : aM) (vs : Nat → List Int32) (tg ms : Nat) (ub : List Int32) (uc : Nat) (th : Nat → Bool) (x : bX) : Prop := devX M vs x.1 x.2.1 x.2.2.1 tg ms x.2.2.2.1 x.2.2.2.2.1 x.2.2.2.2.2 ub uc th
theorem cD_stepAtBoot (h : devX M vs run sta tri tg ms nx sl mr ub uc th) (hr : run ≤ 1) (hs : sta ≤ 4) (ht : tri ≤ 2) : Mt G 3 mtD_stepAtBoot [.ref 22] M n 0 0 (fun v M' n' => v = none ∧ n' = n ∧ fD M M' ∧ devB M' vs tg ms ub uc th (bStep tg (run, sta, tri, nx, sl, mr))) := by
  obtain ⟨h1, h2, h3, h4, h5, h6⟩ := id h
  refine Mt.of rfl rfl (Nat.le_of_ble_eq_true rfl) ?_
  refine V_aload_n dD_stepAtBoot_0 rfl ?_
  refine V_get dD_stepAtBoot_1 fD_31 (h1) rfl ?_
  have hT : (nI sta).toInt = (sta : Int) := nI_toInt (by omega)
  rcases (show sta < 2 ∨ sta = 2 ∨ sta = 3 ∨ sta = 4 by omega) with q | q | q | q
  · refine V_tableOut (tgt := 67) dD_stepAtBoot_4 (by rw [hT]; omega) (by decide) ?_
    refine V_vret dD_stepAtBoot_67 rfl ⟨rfl, rfl, fD.rf, ?_⟩
    unfold bStep
    rw [if_neg (by show ¬ sta = 3; omega), if_neg (by show ¬ sta = 4; omega), if_neg (by show ¬ sta = 2; omega)]
    exact h
  · subst q
    refine V_tableIn (tgt := 60) (off := 56) dD_stepAtBoot_4 (by decide) (by decide) rfl (by decide) ?_
    refine V_aload_n dD_stepAtBoot_60 rfl ?_
    refine V_callV0 0 0 dD_stepAtBoot_61 clD_73 (Nat.le_of_ble_eq_true rfl) (h1) rfl (by decide) (by decide) (by decide) (cD_beginInstalling h hr) (fun v M' n' hQ => ?_)
    obtain ⟨e1, e2, e3, e4⟩ := hQ
    subst e1; subst e2
    refine V_goto (tgt := 67) dD_stepAtBoot_64 (by decide) ?_
    exact V_vret dD_stepAtBoot_67 rfl ⟨rfl, rfl, e3, e4⟩
  · subst q
    refine V_tableIn (tgt := 32) (off := 28) dD_stepAtBoot_4 (by decide) (by decide) rfl (by decide) ?_
    refine V_aload_n dD_stepAtBoot_32 rfl ?_
    refine V_aload_n dD_stepAtBoot_33 rfl ?_
    refine V_rV0 dD_stepAtBoot_34 clD_76 (Nat.le_of_ble_eq_true rfl) (h1) rfl (by decide) (cD_spare h hr) ?_
    refine V_put dD_stepAtBoot_37 fD_27 (h1) rfl rfl (Nat.le_of_ble_eq_true rfl) ?_
    obtain ⟨e1, a1⟩ := h.fld (run' := 1 - run) (sta' := 3) (tri' := tri) (tg' := tg) (ms' := ms) (nx' := nx) rfl
    refine V_aload_n dD_stepAtBoot_40 rfl ?_
    refine V_iconst (v := 4) dD_stepAtBoot_41 (by decide) ?_
    refine V_put dD_stepAtBoot_42 fD_31 (e1.1) rfl rfl (Nat.le_of_ble_eq_true rfl) ?_
    obtain ⟨e2, a2⟩ := e1.fld (run' := 1 - run) (sta' := 4) (tri' := tri) (tg' := tg) (ms' := ms) (nx' := nx) rfl
    refine V_aload_n dD_stepAtBoot_45 rfl ?_
    refine V_iconst (v := 2) dD_stepAtBoot_46 (by decide) ?_
    refine V_put dD_stepAtBoot_47 fD_34 (e2.1) rfl rfl (Nat.le_of_ble_eq_true rfl) ?_
    obtain ⟨e3, a3⟩ := e2.fld (run' := 1 - run) (sta' := 4) (tri' := 2) (tg' := tg) (ms' := ms) (nx' := nx) rfl
    refine V_goto (tgt := 67) dD_stepAtBoot_50 (by decide) ?_
    exact V_vret dD_stepAtBoot_67 rfl ⟨rfl, rfl, (a1.tr a2).tr a3, e3⟩
  · subst q
    refine V_tableIn (tgt := 53) (off := 49) dD_stepAtBoot_4 (by decide) (by decide) rfl (by decide) ?_
    refine V_aload_n dD_stepAtBoot_53 rfl ?_
    refine V_callV0 0 0 dD_stepAtBoot_54 clD_99 (Nat.le_of_ble_eq_true rfl) (h1) rfl (by decide) (by decide) (by decide) (cD_useTry h hr ht) (fun v M' n' hQ => ?_)
    have e : bStep tg (run, 4, tri, nx, sl, mr) = if 0 < tri then (run, 4, tri - 1, nx, sl, mr) else (1 - run, 0, tri, nx, sl, mr) := rfl
    rw [e]
    by_cases c : 0 < tri
    · rw [if_pos c] at hQ ⊢
      obtain ⟨e1, e2, e3, e4⟩ := hQ
      subst e1; subst e2
      refine V_goto (tgt := 67) dD_stepAtBoot_57 (by decide) ?_
      exact V_vret dD_stepAtBoot_67 rfl ⟨rfl, rfl, e3, e4⟩
    · rw [if_neg c] at hQ ⊢
      obtain ⟨e1, e2, e3, e4⟩ := hQ
      subst e1; subst e2
      refine V_goto (tgt := 67) dD_stepAtBoot_57 (by decide) ?_
      exact V_vret dD_stepAtBoot_67 rfl ⟨rfl, rfl, e3, e4⟩
/-- its end: the answer and the state -/
def bFin (vs : Nat → List Int32) (x : bX) : Int32 × bX := if sndP vs x.2.2.2.2.1 x.2.2.2.2.2 x.1 then (nI x.1, x) else if sndP vs x.2.2.2.2.1 x.2.2.2.2.2 (1 - x.1) then (nI (1 - x.1), (1 - x.1, 0, x.2.2)) else (-5, x)
theorem cD_start (h : devX M vs run sta tri tg ms nx sl mr ub uc th) (hr : run ≤ 1) (hs : sta ≤ 4) (ht : tri ≤ 2) (hm : ∀ k, k < 2 → mr k < 7) (htg : sta = 2 → tg < 7) : Mt G 4 mtD_start [.ref 22] M n 0 0 (fun v M' n' => v = some (.int (bFin vs (bStep tg (run, sta, tri, nx, sl, mr))).1) ∧ n' = n ∧ fD M M' ∧ devB M' vs tg ms ub uc th (bFin vs (bStep tg (run, sta, tri, nx, sl, mr))).2) := by
  obtain ⟨h1, h2, h3, h4, h5, h6⟩ := id h
  have hb : (bStep tg (run, sta, tri, nx, sl, mr)).1 ≤ 1 ∧ ∀ k, k < 2 → (bStep tg (run, sta, tri, nx, sl, mr)).2.2.2.2.2 k < 7 := by
    unfold bStep
    by_cases c3 : sta = 3
    · rw [if_pos c3]; exact ⟨by show 1 - run ≤ 1; omega, hm⟩
    · rw [if_neg c3]
      by_cases c4 : sta = 4
      · rw [if_pos c4]
        by_cases c : 0 < tri
        · rw [if_pos c]; exact ⟨hr, hm⟩
        · rw [if_neg c]; exact ⟨by show 1 - run ≤ 1; omega, hm⟩
      · rw [if_neg c4]
        by_cases c2 : sta = 2
        · rw [if_pos c2]
          refine ⟨hr, fun k hk => ?_⟩
          show va_up mr (1 - run) tg k < 7
          by_cases e : k = 1 - run
          · subst e; rw [vu_eq]; exact htg c2
          · rw [vu_ne e]; exact hm k hk
        · rw [if_neg c2]; exact ⟨hr, hm⟩
  refine Mt.of rfl rfl (Nat.le_of_ble_eq_true rfl) ?_
  refine V_aload_n dD_start_0 rfl ?_
  refine V_callV0 0 0 dD_start_1 clD_90 (Nat.le_of_ble_eq_true rfl) (h1) rfl (by decide) (by decide) (by decide) (cD_stepAtBoot h hr hs ht) (fun v M' n' hQ => ?_)
  obtain ⟨e1, e2, a1, e4⟩ := hQ
  subst e1; subst e2
  generalize bStep tg (run, sta, tri, nx, sl, mr) = x at hb e4 ⊢
  obtain ⟨run1, sta1, tri1, nx1, sl1, mr1⟩ := x
  obtain ⟨hr1, hm1⟩ := hb
  have hr1 : run1 ≤ 1 := hr1
  have hm1 : ∀ k, k < 2 → mr1 k < 7 := hm1
  have e4 : devX M' vs run1 sta1 tri1 tg ms nx1 sl1 mr1 ub uc th := e4
  have hE : bFin vs (run1, sta1, tri1, nx1, sl1, mr1) = if sndP vs sl1 mr1 run1 then (nI run1, (run1, sta1, tri1, nx1, sl1, mr1)) else if sndP vs sl1 mr1 (1 - run1) then (nI (1 - run1), (1 - run1, 0, tri1, nx1, sl1, mr1)) else (-5, (run1, sta1, tri1, nx1, sl1, mr1)) := rfl
  rw [hE]
  refine V_aload_n dD_start_4 rfl ?_
  refine V_aload_n dD_start_5 rfl ?_
  refine V_get dD_start_6 fD_27 (e4.1) rfl ?_
  refine V_rV1 dD_start_9 clD_86 (Nat.le_of_ble_eq_true rfl) (e4.1) rfl (by decide) (cD_isSound e4 (show run1 < 2 by omega) (hm1 _ (by omega))) ?_
  refine V_if_eq (tgt := 20) dD_start_12 (by decide) (fun c => ?_) (fun c => ?_)
  · rw [if_neg (if00 c)]
    refine V_aload_n dD_start_20 rfl ?_
    refine V_aload_n dD_start_21 rfl ?_
    refine V_rV0 dD_start_22 clD_76 (Nat.le_of_ble_eq_true rfl) (e4.1) rfl (by decide) (cD_spare e4 hr1) ?_
    refine V_rV1 dD_start_25 clD_86 (Nat.le_of_ble_eq_true rfl) (e4.1) rfl (by decide) (cD_isSound e4 (show 1 - run1 < 2 by omega) (hm1 _ (by omega))) ?_
    refine V_if_ne (tgt := 34) dD_start_28 (by decide) (fun c2 => ?_) (fun c2 => ?_)
    · rw [if_pos (if10 c2)]
      refine V_aload_n dD_start_34 rfl ?_
      refine V_callV0 0 0 dD_start_35 clD_93 (Nat.le_of_ble_eq_true rfl) (e4.1) rfl (by decide) (by decide) (by decide) (cD_goBack e4 hr1) (fun v M2 n' hQ => ?_)
      obtain ⟨f1, f2, f3, f4⟩ := hQ
      subst f1; subst f2
      refine V_aload_n dD_start_38 rfl ?_
      refine V_get dD_start_39 fD_27 (f4.1) rfl ?_
      exact V_iret dD_start_42 rfl ⟨rfl, rfl, a1.tr f3, f4⟩
    · rw [if_neg (if00 c2)]
      refine V_bipush (v := (-5)) dD_start_31 (by decide) ?_
      exact V_iret dD_start_33 rfl ⟨rfl, rfl, a1, e4⟩
  · rw [if_pos (if10 c)]
    refine V_aload_n dD_start_15 rfl ?_
    refine V_get dD_start_16 fD_27 (e4.1) rfl ?_
    exact V_iret dD_start_19 rfl ⟨rfl, rfl, a1, e4⟩
theorem cD_takeBlock (h : devX M vs run sta tri tg ms nx sl mr ub uc th) (hr : run ≤ 1) {k : Nat} (hk : k < 9) (hms : th k = false → 0 < ms) (hm9 : ms ≤ 9) : Mt G 2 mtD_takeBlock [.ref 22, .int (nI k)] M n 0 0 (fun v M' n' => if (if th k = true then ms else ms - 1) = 0 then dQ M n (some (.int 0)) vs run 2 tri tg 0 0 (va_up sl (1 - run) []) (va_up mr (1 - run) tg) ub uc (va_up th k true) v M' n' else dQ M n (some (.int (nI (if th k = true then ms else ms - 1)))) vs run sta tri tg (if th k = true then ms else ms - 1) nx sl mr ub uc (va_up th k true) v M' n') := by
  obtain ⟨h1, h2, h3, h4, h5, h6⟩ := id h
  obtain ⟨f, f1, f2⟩ := id h6
  have tail : ∀ (M1 : aM) (ms1 : Nat), ms1 ≤ 9 → fD M M1 → devX M1 vs run sta tri tg ms1 nx sl mr ub uc (va_up th k true) → V G mtD_takeBlock 2 (fun v M' n' => if ms1 = 0 then dQ M n (some (.int 0)) vs run 2 tri tg 0 0 (va_up sl (1 - run) []) (va_up mr (1 - run) tg) ub uc (va_up th k true) v M' n' else dQ M n (some (.int (nI ms1))) vs run sta tri tg ms1 nx sl mr ub uc (va_up th k true) v M' n') 0 0 26 [some (.ref 22), some (.int (nI k))] [] M1 n := by
    intro M1 ms1 hm a1 e1
    refine V_aload_n dD_takeBlock_26 rfl ?_
    refine V_get dD_takeBlock_27 fD_51 (e1.1) rfl ?_
    refine V_if_ne (tgt := 37) dD_takeBlock_30 (by decide) (fun c => ?_) (fun c => ?_)
    · have c' : ¬ ms1 = 0 := fun q => c (by rw [q]; rfl)
      refine V_aload_n dD_takeBlock_37 rfl ?_
      refine V_get dD_takeBlock_38 fD_51 (e1.1) rfl ?_
      refine V_iret dD_takeBlock_41 rfl ?_
      rw [if_neg c']
      exact ⟨rfl, rfl, a1, e1⟩
    · have c' : ms1 = 0 := (nI_eq (b := 0) (by omega) (by omega)).mp c
      subst c'
      refine V_aload_n dD_takeBlock_33 rfl ?_
      refine V_callV0 0 0 dD_takeBlock_34 clD_73 (Nat.le_of_ble_eq_true rfl) (e1.1) rfl (by decide) (by decide) (by decide) (cD_beginInstalling e1 hr) (fun v M2 n' hQ => ?_)
      obtain ⟨q1, q2, q3, q4⟩ := hQ
      subst q1; subst q2
      refine V_aload_n dD_takeBlock_37 rfl ?_
      refine V_get dD_takeBlock_38 fD_51 (q4.1) rfl ?_
      refine V_iret dD_takeBlock_41 rfl ?_
      rw [if_pos rfl]
      exact ⟨rfl, rfl, a1.tr q3, q4⟩
  refine Mt.of rfl rfl (Nat.le_of_ble_eq_true rfl) ?_
  refine V_aload_n dD_takeBlock_0 rfl ?_
  refine V_get dD_takeBlock_1 fD_47 (h1) rfl ?_
  refine V_iload_n dD_takeBlock_4 rfl ?_
  refine V_kzald dD_takeBlock_5 (f1) rfl (hk) (by decide) (f2 k hk) ?_
  refine V_if_ne (tgt := 26) dD_takeBlock_6 (by decide) (fun c => ?_) (fun c => ?_)
  · have ht : th k = true := if10 c
    have hu : va_up th k true = th := by
      funext j
      by_cases e : j = k
      · subst e; rw [vu_eq, ht]
      · rw [vu_ne e]
    rw [if_pos ht]
    exact tail M ms hm9 fD.rf (by rw [hu]; exact h)
  · have ht : ¬ th k = true := if00 c
    have hp : 0 < ms := hms (by simpa using ht)
    rw [if_neg ht]
    refine V_aload_n dD_takeBlock_9 rfl ?_
    refine V_get dD_takeBlock_10 fD_47 (h1) rfl ?_
    refine V_iload_n dD_takeBlock_13 rfl ?_
    refine V_iconst (v := 1) dD_takeBlock_14 (by decide) ?_
    refine V_kzast dD_takeBlock_15 (f1) rfl (hk) (by decide) ?_
    obtain ⟨e1, a1⟩ := h.thr (f := upd f k (vp_nar .boolean 1)) (th' := va_up th k true) (fun i hi => by
      by_cases e : i = k
      · subst e
        rw [pk_us, vu_eq, if_pos rfl]
        rfl
      · rw [pk_un e, vu_ne e]
        exact f2 i hi)
    refine V_aload_n dD_takeBlock_16 rfl ?_
    refine V_dup dD_takeBlock_17 rfl ?_
    refine V_get dD_takeBlock_18 fD_51 (e1.1) rfl ?_
    refine V_iconst (v := 1) dD_takeBlock_21 (by decide) ?_
    refine V_isub dD_takeBlock_22 ?_
    refine V_put dD_takeBlock_23 fD_51 (e1.1) rfl rfl (Nat.le_of_ble_eq_true rfl) ?_
    obtain ⟨e2, a2⟩ := e1.fld (c := .inr (2, [.ref 4, .ref 23, .ref 28, .int (nI run), .int (nI sta), .int (nI tri), .int (nI tg), .ref 29, .ref 32, .int (nI ms - 1), .int (nI nx)])) (run' := run) (sta' := sta) (tri' := tri) (tg' := tg) (ms' := ms - 1) (nx' := nx) (by rw [show nI ms - 1 = nI (ms - 1) from pk_sub (b := 1) hp])
    exact tail _ (ms - 1) (by omega) (a1.tr a2) e2
end DEVB
