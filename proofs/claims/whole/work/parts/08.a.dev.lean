/-! arrays at a place that is known as a number -/
section VK
variable {G : wG} {mt : mT} {d : Nat} {Q : zQ} {rc rs pc : Nat} {L : List (Option Value)} {st : List Value} {M : aM} {n : Nat}
theorem V_kiald {a t ln k : Nat} {f : Nat → Int32} {x : Int32} (hd : decode mt.2.1 pc = .ok (.iaload, 1)) (hM : M a = some (.inl (t, ln, .inl f))) (ht : vwTy[t]? = some .int) (hk : k < ln) (hln : ln < 2 ^ 31) (hf : f k = x) (kk : V G mt d Q rc rs (pc + 1) L (.int x :: st) M n) : V G mt d Q rc rs pc L (.int (nI k) :: .ref a :: st) M n :=
  V_iald hd hM ht (vp_in_nI hk hln) (by rw [nI_clamp (by omega), hf]; exact kk)
theorem V_kzald {a t ln k : Nat} {f : Nat → Int32} {x : Int32} (hd : decode mt.2.1 pc = .ok (.baload, 1)) (hM : M a = some (.inl (t, ln, .inl f))) (ht : vwTy[t]? = some .boolean) (hk : k < ln) (hln : ln < 2 ^ 31) (hf : f k = x) (kk : V G mt d Q rc rs (pc + 1) L (.int x :: st) M n) : V G mt d Q rc rs pc L (.int (nI k) :: .ref a :: st) M n :=
  V_zald hd hM ht (vp_in_nI hk hln) (by rw [nI_clamp (by omega), hf]; exact kk)
theorem V_kaald {a t ln k b : Nat} {f : Nat → Option Nat} {Cn : String} (hd : decode mt.2.1 pc = .ok (.aaload, 1)) (hM : M a = some (.inl (t, ln, .inr f))) (ht : vwTy[t]? = some (.object Cn)) (hk : k < ln) (hln : ln < 2 ^ 31) (hf : f k = some b) (kk : V G mt d Q rc rs (pc + 1) L (.ref b :: st) M n) : V G mt d Q rc rs pc L (.int (nI k) :: .ref a :: st) M n :=
  V_aald hd hM ht (vp_in_nI hk hln) (by rw [nI_clamp (by omega), hf]; exact kk)
theorem V_kiast {a t ln k : Nat} {f : Nat → Int32} {x : Int32} (hd : decode mt.2.1 pc = .ok (.iastore, 1)) (hM : M a = some (.inl (t, ln, .inl f))) (ht : vwTy[t]? = some .int) (hk : k < ln) (hln : ln < 2 ^ 31) (kk : V G mt d Q rc rs (pc + 1) L st (hU M a (.inl (t, ln, .inl (upd f k x)))) n) : V G mt d Q rc rs pc L (.int x :: .int (nI k) :: .ref a :: st) M n :=
  V_iast hd hM ht (vp_in_nI hk hln) (by rw [nI_clamp (by omega)]; exact kk)
theorem V_kzast {a t ln k : Nat} {f : Nat → Int32} {x : Int32} (hd : decode mt.2.1 pc = .ok (.bastore, 1)) (hM : M a = some (.inl (t, ln, .inl f))) (ht : vwTy[t]? = some .boolean) (hk : k < ln) (hln : ln < 2 ^ 31) (kk : V G mt d Q rc rs (pc + 1) L st (hU M a (.inl (t, ln, .inl (upd f k (vp_nar .boolean x))))) n) : V G mt d Q rc rs pc L (.int x :: .int (nI k) :: .ref a :: st) M n :=
  V_zast hd hM ht (vp_in_nI hk hln) (by rw [nI_clamp (by omega)]; exact kk)
end VK
/-! TwoSlots$Device: the object at 22, what it holds at 4 .. 18 (versions) and 23 .. 32 -/
def dF (M : aM) (run sta tri tg ms nx : Nat) : Prop := M 22 = some (.inr (2, [.ref 4, .ref 23, .ref 28, .int (nI run), .int (nI sta), .int (nI tri), .int (nI tg), .ref 29, .ref 32, .int (nI ms), .int (nI nx)]))
def dV (M : aM) (vs : Nat → List Int32) : Prop := (∃ g : Nat → Option Nat, M 4 = some (.inl (2, 7, .inr g)) ∧ ∀ v, v < 7 → g v = some (5 + 2 * v)) ∧ ∀ v, v < 7 → rowL M (5 + 2 * v) (6 + 2 * v) 40 (vs v)
def dR (M : aM) (sl : Nat → List Int32) : Prop := (∃ g : Nat → Option Nat, M 23 = some (.inl (2, 2, .inr g)) ∧ ∀ s, s < 2 → g s = some (24 + 2 * s)) ∧ ∀ s, s < 2 → rowL M (24 + 2 * s) (25 + 2 * s) 40 (sl s)
def dM (M : aM) (mr : Nat → Nat) : Prop := ∃ f : Nat → Int32, M 28 = some (.inl (0, 2, .inl f)) ∧ ∀ s, s < 2 → f s = nI (mr s)
def dP (M : aM) (ub : List Int32) (uc : Nat) : Prop := patL M 29 30 31 ub uc
def dT (M : aM) (th : Nat → Bool) : Prop := ∃ f : Nat → Int32, M 32 = some (.inl (1, 9, .inl f)) ∧ ∀ i, i < 9 → f i = if th i = true then 1 else 0
def devX (M : aM) (vs : Nat → List Int32) (run sta tri tg ms nx : Nat) (sl : Nat → List Int32) (mr : Nat → Nat) (ub : List Int32) (uc : Nat) (th : Nat → Bool) : Prop := dF M run sta tri tg ms nx ∧ dV M vs ∧ dR M sl ∧ dM M mr ∧ dP M ub uc ∧ dT M th
def agr (M M' : aM) (lo hi : Nat) : Prop := ∀ q, lo ≤ q → q ≤ hi → M' q = M q
theorem dV.frame {M M' : aM} {vs : Nat → List Int32} (h : dV M vs) (a : agr M M' 4 18) : dV M' vs := by
  obtain ⟨⟨g, h1, h2⟩, h3⟩ := h
  exact ⟨⟨g, (a 4 (by omega) (by omega)).trans h1, h2⟩, fun v hv => (h3 v hv).frame (a _ (by omega) (by omega)) (a _ (by omega) (by omega))⟩
theorem dR.frame {M M' : aM} {sl : Nat → List Int32} (h : dR M sl) (a : agr M M' 23 27) : dR M' sl := by
  obtain ⟨⟨g, h1, h2⟩, h3⟩ := h
  exact ⟨⟨g, (a 23 (by omega) (by omega)).trans h1, h2⟩, fun v hv => (h3 v hv).frame (a _ (by omega) (by omega)) (a _ (by omega) (by omega))⟩
theorem dM.frame {M M' : aM} {mr : Nat → Nat} (h : dM M mr) (a : agr M M' 28 28) : dM M' mr := by
  obtain ⟨f, h1, h2⟩ := h
  exact ⟨f, (a 28 (by omega) (by omega)).trans h1, h2⟩
theorem patL.frame {M M' : aM} {P R A cp : Nat} {bs : List Int32} (h : patL M P R A bs cp) (h1 : M' P = M P) (h2 : M' R = M R) (h3 : M' A = M A) : patL M' P R A bs cp := ⟨h1.trans h.1, h.2.1.frame h2 h3, h.2.2⟩
theorem dP.frame {M M' : aM} {ub : List Int32} {uc : Nat} (h : dP M ub uc) (a : agr M M' 29 31) : dP M' ub uc := patL.frame h (a _ (by omega) (by omega)) (a _ (by omega) (by omega)) (a _ (by omega) (by omega))
theorem dT.frame {M M' : aM} {th : Nat → Bool} (h : dT M th) (a : agr M M' 32 32) : dT M' th := by
  obtain ⟨f, h1, h2⟩ := h
  exact ⟨f, (a 32 (by omega) (by omega)).trans h1, h2⟩
/-- what the device leaves alone -/
def fD (M M' : aM) : Prop := ∀ q, q < 22 ∨ 33 ≤ q → M' q = M q
theorem fD.tr {M M' M'' : aM} (h : fD M M') (h' : fD M' M'') : fD M M'' := fun q hq => (h' q hq).trans (h q hq)
theorem fD.rf {M : aM} : fD M M := fun _ _ => rfl
def dQ (M : aM) (n : Nat) (v : Option Value) (vs : Nat → List Int32) (run sta tri tg ms nx : Nat) (sl : Nat → List Int32) (mr : Nat → Nat) (ub : List Int32) (uc : Nat) (th : Nat → Bool) : zQ := fun v' M' n' => v' = v ∧ n' = n ∧ fD M M' ∧ devX M' vs run sta tri tg ms nx sl mr ub uc th
/-- behind a write of a field of the device -/
theorem devX.fld {M : aM} {vs : Nat → List Int32} {run sta tri tg ms nx run' sta' tri' tg' ms' nx' : Nat} {sl : Nat → List Int32} {mr : Nat → Nat} {ub : List Int32} {uc : Nat} {th : Nat → Bool} {c : aC} (h : devX M vs run sta tri tg ms nx sl mr ub uc th) (hc : c = .inr (2, [.ref 4, .ref 23, .ref 28, .int (nI run'), .int (nI sta'), .int (nI tri'), .int (nI tg'), .ref 29, .ref 32, .int (nI ms'), .int (nI nx')])) : devX (hU M 22 c) vs run' sta' tri' tg' ms' nx' sl mr ub uc th ∧ fD M (hU M 22 c) := by
  obtain ⟨h1, h2, h3, h4, h5, h6⟩ := h
  have a : ∀ lo hi, (hi < 22 ∨ 22 < lo) → agr M (hU M 22 c) lo hi := fun lo hi hh q q1 q2 => hU_ne (by omega)
  refine ⟨⟨by subst hc; exact hU_eq _ _ _, h2.frame (a _ _ (by omega)), h3.frame (a _ _ (by omega)), h4.frame (a _ _ (by omega)), h5.frame (a _ _ (by omega)), h6.frame (a _ _ (by omega))⟩, fun q hq => hU_ne (by omega)⟩
abbrev sndP (vs sl : Nat → List Int32) (mr : Nat → Nat) (k : Nat) : Prop := (sl k).length = (vs (mr k)).length ∧ chk (sl k) = chk (vs (mr k))
abbrev uwP (sta : Nat) : Prop := sta = 1 ∨ sta = 2 ∨ sta = 3
def blk (bs : List Int32) : Nat := (bs.length + 4) / 5
section DEV
variable {G : wG} {M : aM} {n : Nat} {vs : Nat → List Int32} {run sta tri tg ms nx : Nat} {sl : Nat → List Int32} {mr : Nat → Nat} {ub : List Int32} {uc : Nat} {th : Nat → Bool}
theorem cD_isIn (h : devX M vs run sta tri tg ms nx sl mr ub uc th) (hs : sta ≤ 4) (k : Nat) (hk : k ≤ 4) : Mt G 0 mtD_isIn [.ref 22, .int (nI k)] M n 0 0 (rd M n (if sta = k then 1 else 0)) := by
  obtain ⟨h1, h2, h3, h4, h5, h6⟩ := id h
  refine Mt.of rfl rfl (Nat.le_of_ble_eq_true rfl) ?_
  refine V_aload_n dD_isIn_0 rfl ?_
  refine V_get dD_isIn_1 fD_31 (h1) rfl ?_
  refine V_iload_n dD_isIn_4 rfl ?_
  refine V_icmp_ne (tgt := 12) dD_isIn_5 (by decide) (fun c => ?_) (fun c => ?_)
  · refine V_iconst (v := 0) dD_isIn_12 (by decide) ?_
    refine V_zret dD_isIn_13 rfl rfl ⟨?_, rfl, rfl⟩
    rw [if_neg (fun q => c (by rw [q]))]
  · have c' := (nI_eq (by omega) (by omega)).mp c
    refine V_iconst (v := 1) dD_isIn_8 (by decide) ?_
    refine V_goto (tgt := 13) dD_isIn_9 (by decide) ?_
    refine V_zret dD_isIn_13 rfl rfl ⟨?_, rfl, rfl⟩
    rw [if_pos c']
theorem cD_stateNow (h : devX M vs run sta tri tg ms nx sl mr ub uc th) : Mt G 0 mtD_stateNow [.ref 22] M n 0 0 (rd M n (nI sta)) := by
  obtain ⟨h1, h2, h3, h4, h5, h6⟩ := id h
  refine Mt.of rfl rfl (Nat.le_of_ble_eq_true rfl) ?_
  refine V_aload_n dD_stateNow_0 rfl ?_
  refine V_get dD_stateNow_1 fD_31 (h1) rfl ?_
  exact V_iret dD_stateNow_4 rfl ⟨rfl, rfl, rfl⟩
theorem cD_runningSlot (h : devX M vs run sta tri tg ms nx sl mr ub uc th) : Mt G 0 mtD_runningSlot [.ref 22] M n 0 0 (rd M n (nI run)) := by
  obtain ⟨h1, h2, h3, h4, h5, h6⟩ := id h
  refine Mt.of rfl rfl (Nat.le_of_ble_eq_true rfl) ?_
  refine V_aload_n dD_runningSlot_0 rfl ?_
  refine V_get dD_runningSlot_1 fD_27 (h1) rfl ?_
  exact V_iret dD_runningSlot_4 rfl ⟨rfl, rfl, rfl⟩
theorem cD_triesNow (h : devX M vs run sta tri tg ms nx sl mr ub uc th) (hs : sta ≤ 4) : Mt G 0 mtD_triesNow [.ref 22] M n 0 0 (rd M n (if sta = 4 then nI tri else 0)) := by
  obtain ⟨h1, h2, h3, h4, h5, h6⟩ := id h
  refine Mt.of rfl rfl (Nat.le_of_ble_eq_true rfl) ?_
  refine V_aload_n dD_triesNow_0 rfl ?_
  refine V_get dD_triesNow_1 fD_31 (h1) rfl ?_
  refine V_iconst (v := 4) dD_triesNow_4 (by decide) ?_
  refine V_icmp_ne (tgt := 15) dD_triesNow_5 (by decide) (fun c => ?_) (fun c => ?_)
  · refine V_iconst (v := 0) dD_triesNow_15 (by decide) ?_
    refine V_iret dD_triesNow_16 rfl ⟨?_, rfl, rfl⟩
    rw [if_neg (fun q => c (by rw [q]; rfl))]
  · have c' : sta = 4 := (nI_eq (b := 4) (by omega) (by omega)).mp c
    refine V_aload_n dD_triesNow_8 rfl ?_
    refine V_get dD_triesNow_9 fD_34 (h1) rfl ?_
    refine V_goto (tgt := 16) dD_triesNow_12 (by decide) ?_
    refine V_iret dD_triesNow_16 rfl ⟨?_, rfl, rfl⟩
    rw [if_pos c']
theorem cD_mark (h : devX M vs run sta tri tg ms nx sl mr ub uc th) {k : Nat} (hk : k < 2) : Mt G 0 mtD_mark [.ref 22, .int (nI k)] M n 0 0 (rd M n (nI (mr k))) := by
  obtain ⟨h1, h2, h3, h4, h5, h6⟩ := id h
  obtain ⟨f, f1, f2⟩ := id h4
  refine Mt.of rfl rfl (Nat.le_of_ble_eq_true rfl) ?_
  refine V_aload_n dD_mark_0 rfl ?_
  refine V_get dD_mark_1 fD_23 (h1) rfl ?_
  refine V_iload_n dD_mark_4 rfl ?_
  refine V_kiald dD_mark_5 (f1) rfl (hk) (by decide) (f2 k hk) ?_
  exact V_iret dD_mark_6 rfl ⟨rfl, rfl, rfl⟩
theorem cD_row (h : devX M vs run sta tri tg ms nx sl mr ub uc th) {k : Nat} (hk : k < 2) : Mt G 0 mtD_row [.ref 22, .int (nI k)] M n 0 0 (fun v M' n' => v = some (.ref (24 + 2 * k)) ∧ M' = M ∧ n' = n) := by
  obtain ⟨h1, h2, h3, h4, h5, h6⟩ := id h
  obtain ⟨⟨g, g1, g2⟩, g3⟩ := id h3
  refine Mt.of rfl rfl (Nat.le_of_ble_eq_true rfl) ?_
  refine V_aload_n dD_row_0 rfl ?_
  refine V_get dD_row_1 fD_20 (h1) rfl ?_
  refine V_iload_n dD_row_4 rfl ?_
  refine V_kaald dD_row_5 (g1) rfl (hk) (by decide) (g2 k hk) ?_
  exact V_aret (r := some (24 + 2 * k)) dD_row_6 rfl (Or.inl ⟨_, rfl⟩) ⟨rfl, rfl, rfl⟩
theorem cD_isSound (h : devX M vs run sta tri tg ms nx sl mr ub uc th) {k : Nat} (hk : k < 2) (hm : mr k < 7) : Mt G 2 mtD_isSound [.ref 22, .int (nI k)] M n 0 0 (rd M n (if sndP vs sl mr k then 1 else 0)) := by
  obtain ⟨h1, h2, h3, h4, h5, h6⟩ := id h
  obtain ⟨⟨g, g1, g2⟩, g3⟩ := id h3
  obtain ⟨⟨gv, gv1, gv2⟩, gv3⟩ := id h2
  obtain ⟨f, f1, f2⟩ := id h4
  obtain ⟨fs, s1, -⟩ := id (g3 k hk)
  refine Mt.of rfl rfl (Nat.le_of_ble_eq_true rfl) ?_
  refine V_aload_n dD_isSound_0 rfl ?_
  refine V_get dD_isSound_1 fD_20 (h1) rfl ?_
  refine V_iload_n dD_isSound_4 rfl ?_
  refine V_kaald dD_isSound_5 (g1) rfl (hk) (by decide) (g2 k hk) ?_
  refine V_aload_n dD_isSound_6 rfl ?_
  refine V_get dD_isSound_7 fD_9 (h1) rfl ?_
  refine V_aload_n dD_isSound_10 rfl ?_
  refine V_get dD_isSound_11 fD_23 (h1) rfl ?_
  refine V_iload_n dD_isSound_14 rfl ?_
  refine V_kiald dD_isSound_15 (f1) rfl (hk) (by decide) (f2 k hk) ?_
  refine V_kaald dD_isSound_16 (gv1) rfl (hm) (by decide) (gv2 _ hm) ?_
  refine V_rV1 dD_isSound_17 clD_57 (Nat.le_of_ble_eq_true rfl) (s1) rfl (by decide) (cR_looksLike (g3 k hk) (gv3 _ hm)) ?_
  exact V_zret dD_isSound_20 rfl z01 ⟨rfl, rfl, rfl⟩
theorem cD_isUnderWay (h : devX M vs run sta tri tg ms nx sl mr ub uc th) (hs : sta ≤ 4) : Mt G 0 mtD_isUnderWay [.ref 22] M n 0 0 (rd M n (if uwP sta then 1 else 0)) := by
  obtain ⟨h1, h2, h3, h4, h5, h6⟩ := id h
  refine Mt.of rfl rfl (Nat.le_of_ble_eq_true rfl) ?_
  refine V_aload_n dD_isUnderWay_0 rfl ?_
  refine V_get dD_isUnderWay_1 fD_31 (h1) rfl ?_
  refine V_iconst (v := 1) dD_isUnderWay_4 (by decide) ?_
  refine V_icmp_eq (tgt := 24) dD_isUnderWay_5 (by decide) (fun c1 => ?_) (fun c1 => ?_)
  · have e : sta = 1 := (nI_eq (b := 1) (by omega) (by omega)).mp c1
    refine V_iconst (v := 1) dD_isUnderWay_24 (by decide) ?_
    refine V_goto (tgt := 29) dD_isUnderWay_25 (by decide) ?_
    refine V_zret dD_isUnderWay_29 rfl rfl ⟨?_, rfl, rfl⟩
    rw [if_pos (Or.inl e)]
  · have e1 : ¬ sta = 1 := fun q => c1 (by rw [q]; rfl)
    refine V_aload_n dD_isUnderWay_8 rfl ?_
    refine V_get dD_isUnderWay_9 fD_31 (h1) rfl ?_
    refine V_iconst (v := 2) dD_isUnderWay_12 (by decide) ?_
    refine V_icmp_eq (tgt := 24) dD_isUnderWay_13 (by decide) (fun c2 => ?_) (fun c2 => ?_)
    · have e : sta = 2 := (nI_eq (b := 2) (by omega) (by omega)).mp c2
      refine V_iconst (v := 1) dD_isUnderWay_24 (by decide) ?_
      refine V_goto (tgt := 29) dD_isUnderWay_25 (by decide) ?_
      refine V_zret dD_isUnderWay_29 rfl rfl ⟨?_, rfl, rfl⟩
      rw [if_pos (Or.inr (Or.inl e))]
    · have e2 : ¬ sta = 2 := fun q => c2 (by rw [q]; rfl)
      refine V_aload_n dD_isUnderWay_16 rfl ?_
      refine V_get dD_isUnderWay_17 fD_31 (h1) rfl ?_
      refine V_iconst (v := 3) dD_isUnderWay_20 (by decide) ?_
      refine V_icmp_ne (tgt := 28) dD_isUnderWay_21 (by decide) (fun c3 => ?_) (fun c3 => ?_)
      · refine V_iconst (v := 0) dD_isUnderWay_28 (by decide) ?_
        refine V_zret dD_isUnderWay_29 rfl rfl ⟨?_, rfl, rfl⟩
        have e3 : ¬ sta = 3 := fun q => c3 (by rw [q]; rfl)
        rw [if_neg (by omega)]
      · have e : sta = 3 := (nI_eq (b := 3) (by omega) (by omega)).mp c3
        refine V_iconst (v := 1) dD_isUnderWay_24 (by decide) ?_
        refine V_goto (tgt := 29) dD_isUnderWay_25 (by decide) ?_
        refine V_zret dD_isUnderWay_29 rfl rfl ⟨?_, rfl, rfl⟩
        rw [if_pos (Or.inr (Or.inr e))]
theorem if10 {p : Prop} [Decidable p] (h : ¬ (if p then (1 : Int32) else 0) = 0) : p := by
  by_cases q : p
  · exact q
  · rw [if_neg q] at h; exact absurd rfl h
theorem if00 {p : Prop} [Decidable p] (h : (if p then (1 : Int32) else 0) = 0) : ¬ p := by
  intro q
  rw [if_pos q] at h
  exact absurd h (by decide)
theorem cD_updateVersion (h : devX M vs run sta tri tg ms nx sl mr ub uc th) (hs : sta ≤ 4) : Mt G 1 mtD_updateVersion [.ref 22] M n 0 0 (rd M n (if uwP sta then nI tg else 0)) := by
  obtain ⟨h1, h2, h3, h4, h5, h6⟩ := id h
  refine Mt.of rfl rfl (Nat.le_of_ble_eq_true rfl) ?_
  refine V_aload_n dD_updateVersion_0 rfl ?_
  refine V_rV0 dD_updateVersion_1 clD_61 (Nat.le_of_ble_eq_true rfl) (h1) rfl (by decide) (cD_isUnderWay h hs) ?_
  refine V_if_eq (tgt := 14) dD_updateVersion_4 (by decide) (fun c => ?_) (fun c => ?_)
  · refine V_iconst (v := 0) dD_updateVersion_14 (by decide) ?_
    refine V_iret dD_updateVersion_15 rfl ⟨?_, rfl, rfl⟩
    rw [if_neg (if00 c)]
  · refine V_aload_n dD_updateVersion_7 rfl ?_
    refine V_get dD_updateVersion_8 fD_37 (h1) rfl ?_
    refine V_goto (tgt := 15) dD_updateVersion_11 (by decide) ?_
    refine V_iret dD_updateVersion_15 rfl ⟨?_, rfl, rfl⟩
    rw [if_pos (if10 c)]
theorem cD_blocksThere (h : devX M vs run sta tri tg ms nx sl mr ub uc th) (hs : sta ≤ 4) (hms : uwP sta → ms ≤ blk ub) : Mt G 2 mtD_blocksThere [.ref 22] M n 0 0 (rd M n (if uwP sta then nI (blk ub - ms) else 0)) := by
  obtain ⟨h1, h2, h3, h4, h5, h6⟩ := id h
  obtain ⟨p1, -⟩ := id h5
  refine Mt.of rfl rfl (Nat.le_of_ble_eq_true rfl) ?_
  refine V_aload_n dD_blocksThere_0 rfl ?_
  refine V_rV0 dD_blocksThere_1 clD_61 (Nat.le_of_ble_eq_true rfl) (h1) rfl (by decide) (cD_isUnderWay h hs) ?_
  refine V_if_eq (tgt := 22) dD_blocksThere_4 (by decide) (fun c => ?_) (fun c => ?_)
  · refine V_iconst (v := 0) dD_blocksThere_22 (by decide) ?_
    refine V_iret dD_blocksThere_23 rfl ⟨?_, rfl, rfl⟩
    rw [if_neg (if00 c)]
  · refine V_aload_n dD_blocksThere_7 rfl ?_
    refine V_get dD_blocksThere_8 fD_43 (h1) rfl ?_
    refine V_rV0 dD_blocksThere_11 clD_65 (Nat.le_of_ble_eq_true rfl) (p1) rfl (by decide) (cP_blocks h5) ?_
    refine V_aload_n dD_blocksThere_14 rfl ?_
    refine V_get dD_blocksThere_15 fD_51 (h1) rfl ?_
    refine V_isub dD_blocksThere_18 ?_
    refine V_goto (tgt := 23) dD_blocksThere_19 (by decide) ?_
    refine V_iret dD_blocksThere_23 rfl ⟨?_, rfl, rfl⟩
    rw [if_pos (if10 c)]
    exact congrArg (fun z => some (Value.int z)) (pk_sub (hms (if10 c)))
theorem cD_hasBlock (h : devX M vs run sta tri tg ms nx sl mr ub uc th) (hs : sta ≤ 4) (i : Int32) : Mt G 2 mtD_hasBlock [.ref 22, .int i] M n 0 0 (rd M n (if uwP sta ∧ ¬ i < 0 ∧ i < nI (blk ub) then 1 else 0)) := by
  obtain ⟨h1, h2, h3, h4, h5, h6⟩ := id h
  obtain ⟨p1, -⟩ := id h5
  refine Mt.of rfl rfl (Nat.le_of_ble_eq_true rfl) ?_
  refine V_aload_n dD_hasBlock_0 rfl ?_
  refine V_rV0 dD_hasBlock_1 clD_61 (Nat.le_of_ble_eq_true rfl) (h1) rfl (by decide) (cD_isUnderWay h hs) ?_
  refine V_if_eq (tgt := 26) dD_hasBlock_4 (by decide) (fun c => ?_) (fun c => ?_)
  · refine V_iconst (v := 0) dD_hasBlock_26 (by decide) ?_
    refine V_zret dD_hasBlock_27 rfl rfl ⟨?_, rfl, rfl⟩
    rw [if_neg (fun q => if00 c q.1)]
  · refine V_iload_n dD_hasBlock_7 rfl ?_
    refine V_if_lt (tgt := 26) dD_hasBlock_8 (by decide) (fun c2 => ?_) (fun c2 => ?_)
    · refine V_iconst (v := 0) dD_hasBlock_26 (by decide) ?_
      refine V_zret dD_hasBlock_27 rfl rfl ⟨?_, rfl, rfl⟩
      rw [if_neg (fun q => q.2.1 c2)]
    · refine V_iload_n dD_hasBlock_11 rfl ?_
      refine V_aload_n dD_hasBlock_12 rfl ?_
      refine V_get dD_hasBlock_13 fD_43 (h1) rfl ?_
      refine V_rV0 dD_hasBlock_16 clD_65 (Nat.le_of_ble_eq_true rfl) (p1) rfl (by decide) (cP_blocks h5) ?_
      refine V_icmp_ge (tgt := 26) dD_hasBlock_19 (by decide) (fun c3 => ?_) (fun c3 => ?_)
      · refine V_iconst (v := 0) dD_hasBlock_26 (by decide) ?_
        refine V_zret dD_hasBlock_27 rfl rfl ⟨?_, rfl, rfl⟩
        rw [if_neg (fun q => Int32.not_lt.mpr c3 q.2.2)]
      · refine V_iconst (v := 1) dD_hasBlock_22 (by decide) ?_
        refine V_goto (tgt := 27) dD_hasBlock_23 (by decide) ?_
        refine V_zret dD_hasBlock_27 rfl rfl ⟨?_, rfl, rfl⟩
        rw [if_pos ⟨if10 c, c2, Int32.not_le.mp c3⟩]
theorem cD_spare (h : devX M vs run sta tri tg ms nx sl mr ub uc th) (hr : run ≤ 1) : Mt G 0 mtD_spare [.ref 22] M n 0 0 (rd M n (nI (1 - run))) := by
  obtain ⟨h1, h2, h3, h4, h5, h6⟩ := id h
  refine Mt.of rfl rfl (Nat.le_of_ble_eq_true rfl) ?_
  refine V_iconst (v := 1) dD_spare_0 (by decide) ?_
  refine V_aload_n dD_spare_1 rfl ?_
  refine V_get dD_spare_2 fD_27 (h1) rfl ?_
  refine V_isub dD_spare_5 ?_
  refine V_iret dD_spare_6 rfl ⟨?_, rfl, rfl⟩
  exact congrArg (fun z => some (Value.int z)) (pk_sub (a := 1) hr)
theorem cD_keep (h : devX M vs run sta tri tg ms nx sl mr ub uc th) : Mt G 0 mtD_keep [.ref 22] M n 0 0 (dQ M n none vs run 0 tri tg ms nx sl mr ub uc th) := by
  obtain ⟨h1, h2, h3, h4, h5, h6⟩ := id h
  refine Mt.of rfl rfl (Nat.le_of_ble_eq_true rfl) ?_
  refine V_aload_n dD_keep_0 rfl ?_
  refine V_iconst (v := 0) dD_keep_1 (by decide) ?_
  refine V_put dD_keep_2 fD_31 (h1) rfl rfl (Nat.le_of_ble_eq_true rfl) ?_
  obtain ⟨e1, e2⟩ := h.fld (run' := run) (sta' := 0) (tri' := tri) (tg' := tg) (ms' := ms) (nx' := nx) rfl
  exact V_vret dD_keep_5 rfl ⟨rfl, rfl, e2, e1⟩
theorem cD_goBack (h : devX M vs run sta tri tg ms nx sl mr ub uc th) (hr : run ≤ 1) : Mt G 1 mtD_goBack [.ref 22] M n 0 0 (dQ M n none vs (1 - run) 0 tri tg ms nx sl mr ub uc th) := by
  obtain ⟨h1, h2, h3, h4, h5, h6⟩ := id h
  refine Mt.of rfl rfl (Nat.le_of_ble_eq_true rfl) ?_
  refine V_aload_n dD_goBack_0 rfl ?_
  refine V_aload_n dD_goBack_1 rfl ?_
  refine V_rV0 dD_goBack_2 clD_76 (Nat.le_of_ble_eq_true rfl) (h1) rfl (by decide) (cD_spare h hr) ?_
  refine V_put dD_goBack_5 fD_27 (h1) rfl rfl (Nat.le_of_ble_eq_true rfl) ?_
  obtain ⟨e1, e2⟩ := h.fld (run' := 1 - run) (sta' := sta) (tri' := tri) (tg' := tg) (ms' := ms) (nx' := nx) rfl
  refine V_aload_n dD_goBack_8 rfl ?_
  refine V_iconst (v := 0) dD_goBack_9 (by decide) ?_
  refine V_put dD_goBack_10 fD_31 (e1.1) rfl rfl (Nat.le_of_ble_eq_true rfl) ?_
  obtain ⟨e3, e4⟩ := e1.fld (run' := 1 - run) (sta' := 0) (tri' := tri) (tg' := tg) (ms' := ms) (nx' := nx) rfl
  exact V_vret dD_goBack_13 rfl ⟨rfl, rfl, e2.tr e4, e3⟩
end DEV
