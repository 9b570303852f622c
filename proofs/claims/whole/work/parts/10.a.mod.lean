/-! TwoSlotsModel: the object at 33, its arrays at 34 .. 41 -/
def mF (M : aM) (np dl sz cp run sta tri tg bl nx : Nat) : Prop := M 33 = some (.inr (4, [.ref 34, .ref 35, .int (nI np), .ref 36, .int (nI dl), .ref 37, .int (nI sz), .int (nI cp), .ref 38, .ref 39, .ref 40, .int (nI run), .int (nI sta), .int (nI tri), .int (nI tg), .ref 41, .int (nI bl), .int (nI nx)]))
def mV (M : aM) (vs : Nat → List Int32) : Prop := ∃ fv fl : Nat → Int32, M 34 = some (.inl (0, 280, .inl fv)) ∧ M 35 = some (.inl (0, 7, .inl fl)) ∧ (∀ v, v < 7 → ∀ i, i < (vs v).length → fv (40 * v + i) = (vs v).getD i 0) ∧ ∀ v, v < 7 → fl v = nI (vs v).length
def mD (M : aM) (dr : List Int32) : Prop := ∃ fd : Nat → Int32, M 36 = some (.inl (0, 40, .inl fd)) ∧ ∀ i, i < dr.length → fd i = dr.getD i 0
def mP (M : aM) (bs : List Int32) : Prop := ∃ fp : Nat → Int32, M 37 = some (.inl (0, 128, .inl fp)) ∧ ∀ i, i < bs.length → fp i = bs.getD i 0
def mR (M : aM) (sl : Nat → List Int32) : Prop := ∃ fr fL : Nat → Int32, M 38 = some (.inl (0, 80, .inl fr)) ∧ M 39 = some (.inl (0, 2, .inl fL)) ∧ (∀ s, s < 2 → ∀ i, i < (sl s).length → fr (40 * s + i) = (sl s).getD i 0) ∧ ∀ s, s < 2 → fL s = nI (sl s).length
def mM (M : aM) (mr : Nat → Nat) : Prop := ∃ f : Nat → Int32, M 40 = some (.inl (0, 2, .inl f)) ∧ ∀ s, s < 2 → f s = nI (mr s)
def mT' (M : aM) (th : Nat → Bool) : Prop := ∃ f : Nat → Int32, M 41 = some (.inl (1, 32, .inl f)) ∧ ∀ i, i < 32 → f i = if th i = true then 1 else 0
def modX (M : aM) (dr : List Int32) (np : Nat) (vs : Nat → List Int32) (run sta tri tg nx : Nat) (sl : Nat → List Int32) (mr : Nat → Nat) (th : Nat → Bool) (bs : List Int32) (cp bl : Nat) : Prop := mF M np dr.length bs.length cp run sta tri tg bl nx ∧ mV M vs ∧ mD M dr ∧ mP M bs ∧ mR M sl ∧ mM M mr ∧ mT' M th
/-- what the model leaves alone -/
def fM (M M' : aM) : Prop := ∀ q, q < 33 → M' q = M q
theorem fM.tr {M M' M'' : aM} (h : fM M M') (h' : fM M' M'') : fM M M'' := fun q hq => (h' q hq).trans (h q hq)
theorem fM.rf {M : aM} : fM M M := fun _ _ => rfl
theorem mV.frame {M M' : aM} {vs : Nat → List Int32} (h : mV M vs) (a : agr M M' 34 35) : mV M' vs := by
  obtain ⟨f, g, h1, h2, h3⟩ := h
  exact ⟨f, g, (a _ (by omega) (by omega)).trans h1, (a _ (by omega) (by omega)).trans h2, h3⟩
theorem mD.frame {M M' : aM} {dr : List Int32} (h : mD M dr) (a : agr M M' 36 36) : mD M' dr := by
  obtain ⟨f, h1, h2⟩ := h
  exact ⟨f, (a _ (by omega) (by omega)).trans h1, h2⟩
theorem mP.frame {M M' : aM} {bs : List Int32} (h : mP M bs) (a : agr M M' 37 37) : mP M' bs := by
  obtain ⟨f, h1, h2⟩ := h
  exact ⟨f, (a _ (by omega) (by omega)).trans h1, h2⟩
theorem mR.frame {M M' : aM} {sl : Nat → List Int32} (h : mR M sl) (a : agr M M' 38 39) : mR M' sl := by
  obtain ⟨f, g, h1, h2, h3⟩ := h
  exact ⟨f, g, (a _ (by omega) (by omega)).trans h1, (a _ (by omega) (by omega)).trans h2, h3⟩
theorem mM.frame {M M' : aM} {mr : Nat → Nat} (h : mM M mr) (a : agr M M' 40 40) : mM M' mr := by
  obtain ⟨f, h1, h2⟩ := h
  exact ⟨f, (a _ (by omega) (by omega)).trans h1, h2⟩
theorem mT'.frame {M M' : aM} {th : Nat → Bool} (h : mT' M th) (a : agr M M' 41 41) : mT' M' th := by
  obtain ⟨f, h1, h2⟩ := h
  exact ⟨f, (a _ (by omega) (by omega)).trans h1, h2⟩
theorem agr_hU {M : aM} {x lo hi : Nat} {c : aC} (h : x < lo ∨ hi < x) : agr M (hU M x c) lo hi := fun q q1 q2 => hU_ne (by omega)
theorem fM_hU {M : aM} {x : Nat} {c : aC} (h : 33 ≤ x) : fM M (hU M x c) := fun q hq => hU_ne (by omega)
theorem m40 (v : Nat) : (40 : Int32) * nI v = nI (40 * v) := pk_mul 40 v
section MOD
variable {G : wG} {M M' : aM} {n : Nat} {dr : List Int32} {np : Nat} {vs : Nat → List Int32} {run sta tri tg nx : Nat} {sl : Nat → List Int32} {mr : Nat → Nat} {th : Nat → Bool} {bs : List Int32} {cp bl : Nat}
/-- behind a write of a field -/
theorem modX.fld {np' run' sta' tri' tg' nx' cp' bl' : Nat} {c : aC} (h : modX M dr np vs run sta tri tg nx sl mr th bs cp bl) (hc : c = .inr (4, [.ref 34, .ref 35, .int (nI np'), .ref 36, .int (nI dr.length), .ref 37, .int (nI bs.length), .int (nI cp'), .ref 38, .ref 39, .ref 40, .int (nI run'), .int (nI sta'), .int (nI tri'), .int (nI tg'), .ref 41, .int (nI bl'), .int (nI nx')])) : modX (hU M 33 c) dr np' vs run' sta' tri' tg' nx' sl mr th bs cp' bl' ∧ fM M (hU M 33 c) := by
  obtain ⟨h1, h2, h3, h4, h5, h6, h7⟩ := h
  exact ⟨⟨by subst hc; exact hU_eq _ _ _, h2.frame (agr_hU (by omega)), h3.frame (agr_hU (by omega)), h4.frame (agr_hU (by omega)), h5.frame (agr_hU (by omega)), h6.frame (agr_hU (by omega)), h7.frame (agr_hU (by omega))⟩, fM_hU (by omega)⟩
theorem cM_in (v lo hi : Int32) : Mt G 0 mtM_in [.int v, .int lo, .int hi] M n 0 0 (rd M n (if lo ≤ v ∧ v ≤ hi then 1 else 0)) := by
  refine Mt.of rfl rfl (Nat.le_of_ble_eq_true rfl) ?_
  refine V_iload_n dM_in_0 rfl ?_
  refine V_iload_n dM_in_1 rfl ?_
  refine V_icmp_lt (tgt := 14) dM_in_2 (by decide) (fun c1 => ?_) (fun c1 => ?_)
  · refine V_iconst (v := 0) dM_in_14 (by decide) ?_
    refine V_zret dM_in_15 rfl rfl ⟨?_, rfl, rfl⟩
    rw [if_neg (fun q => Int32.not_lt.mpr q.1 c1)]
  · refine V_iload_n dM_in_5 rfl ?_
    refine V_iload_n dM_in_6 rfl ?_
    refine V_icmp_gt (tgt := 14) dM_in_7 (by decide) (fun c2 => ?_) (fun c2 => ?_)
    · refine V_iconst (v := 0) dM_in_14 (by decide) ?_
      refine V_zret dM_in_15 rfl rfl ⟨?_, rfl, rfl⟩
      rw [if_neg (fun q => Int32.not_lt.mpr q.2 c2)]
    · refine V_iconst (v := 1) dM_in_10 (by decide) ?_
      refine V_goto (tgt := 15) dM_in_11 (by decide) ?_
      refine V_zret dM_in_15 rfl rfl ⟨?_, rfl, rfl⟩
      rw [if_pos ⟨Int32.not_lt.mp c1, Int32.not_lt.mp c2⟩]
theorem lM_agree {v p o q : Nat} (h : modX M dr np vs run sta tri tg nx sl mr th bs cp bl) (hv : v < 7) (ho : o < 7) (hlv : (vs v).length ≤ 40) (hlo : (vs o).length ≤ 40) (hp : p ≤ (vs v).length) (hq : q ≤ (vs o).length) : ∀ (j i : Nat), i + j = 41 → i ≤ lcp ((vs v).drop p) ((vs o).drop q) → V G mtM_agree 0 (rd M n (nI (lcp ((vs v).drop p) ((vs o).drop q)))) 0 0 3 [some (.ref 33), some (.int (nI v)), some (.int (nI p)), some (.int (nI o)), some (.int (nI q)), some (.int (nI i))] [] M n := by
  obtain ⟨h1, ⟨fv, fl, v1, v2, v3, v4⟩, -⟩ := id h
  have hm := lcp_le ((vs v).drop p) ((vs o).drop q)
  rw [List.length_drop, List.length_drop] at hm
  intro j
  induction j with
  | zero => intro i e hi; omega
  | succ j ih =>
    intro i e hi
    refine V_iload_n dM_agree_3 rfl ?_
    refine V_iload dM_agree_4 rfl ?_
    refine V_iadd dM_agree_6 ?_
    refine V_aload_n dM_agree_7 rfl ?_
    refine V_get dM_agree_8 fM_13 (h1) rfl ?_
    refine V_iload_n dM_agree_11 rfl ?_
    refine V_kiald dM_agree_12 (v2) rfl (hv) (by decide) (v4 v hv) ?_
    rw [nI_add]
    refine V_icmp_ge (tgt := 68) dM_agree_13 (by decide) (fun c1 => ?_) (fun c1 => ?_)
    · have c1' : (vs v).length ≤ p + i := Nat.le_of_not_lt fun z => nI_ge z (by omega) c1
      refine V_iload dM_agree_68 rfl ?_
      exact V_iret dM_agree_70 rfl ⟨by rw [show i = lcp ((vs v).drop p) ((vs o).drop q) by omega], rfl, rfl⟩
    · have c1' : p + i < (vs v).length := Nat.lt_of_not_le fun z => c1 (nI_le z (by omega))
      refine V_iload dM_agree_16 rfl ?_
      refine V_iload dM_agree_18 rfl ?_
      refine V_iadd dM_agree_20 ?_
      refine V_aload_n dM_agree_21 rfl ?_
      refine V_get dM_agree_22 fM_13 (h1) rfl ?_
      refine V_iload_n dM_agree_25 rfl ?_
      refine V_kiald dM_agree_26 (v2) rfl (ho) (by decide) (v4 o ho) ?_
      rw [nI_add]
      refine V_icmp_ge (tgt := 68) dM_agree_27 (by decide) (fun c2 => ?_) (fun c2 => ?_)
      · have c2' : (vs o).length ≤ q + i := Nat.le_of_not_lt fun z => nI_ge z (by omega) c2
        refine V_iload dM_agree_68 rfl ?_
        exact V_iret dM_agree_70 rfl ⟨by rw [show i = lcp ((vs v).drop p) ((vs o).drop q) by omega], rfl, rfl⟩
      · have c2' : q + i < (vs o).length := Nat.lt_of_not_le fun z => c2 (nI_le z (by omega))
        refine V_aload_n dM_agree_30 rfl ?_
        refine V_get dM_agree_31 fM_7 (h1) rfl ?_
        refine V_bipush (v := 40) dM_agree_34 (by decide) ?_
        refine V_iload_n dM_agree_36 rfl ?_
        refine V_imul dM_agree_37 ?_
        refine V_iload_n dM_agree_38 rfl ?_
        refine V_iadd dM_agree_39 ?_
        refine V_iload dM_agree_40 rfl ?_
        refine V_iadd dM_agree_42 ?_
        rw [m40, nI_add, nI_add]
        refine V_kiald (x := (vs v).getD (p + i) 0) dM_agree_43 v1 rfl (show 40 * v + p + i < 280 by omega) (by decide) (by rw [show 40 * v + p + i = 40 * v + (p + i) by omega]; exact v3 v hv (p + i) c1') ?_
        refine V_aload_n dM_agree_44 rfl ?_
        refine V_get dM_agree_45 fM_7 (h1) rfl ?_
        refine V_bipush (v := 40) dM_agree_48 (by decide) ?_
        refine V_iload_n dM_agree_50 rfl ?_
        refine V_imul dM_agree_51 ?_
        refine V_iload dM_agree_52 rfl ?_
        refine V_iadd dM_agree_54 ?_
        refine V_iload dM_agree_55 rfl ?_
        refine V_iadd dM_agree_57 ?_
        rw [m40, nI_add, nI_add]
        refine V_kiald (x := (vs o).getD (q + i) 0) dM_agree_58 v1 rfl (show 40 * o + q + i < 280 by omega) (by decide) (by rw [show 40 * o + q + i = 40 * o + (q + i) by omega]; exact v3 o ho (q + i) c2') ?_
        rw [← drop_getD, ← drop_getD]
        refine V_icmp_ne (tgt := 68) dM_agree_59 (by decide) (fun c3 => ?_) (fun c3 => ?_)
        · refine V_iload dM_agree_68 rfl ?_
          exact V_iret dM_agree_70 rfl ⟨by rw [lcp_end hi c3], rfl, rfl⟩
        · refine V_iinc (v := _ + 1) dM_agree_62 (by decide) rfl rfl ?_
          refine V_goto (tgt := 3) dM_agree_65 (by decide) ?_
          rw [nI_1]
          exact ih (i + 1) (by omega) (lcp_more hi (by rw [List.length_drop]; omega) (by rw [List.length_drop]; omega) c3)
theorem cM_agree {v p o q : Nat} (h : modX M dr np vs run sta tri tg nx sl mr th bs cp bl) (hv : v < 7) (ho : o < 7) (hlv : (vs v).length ≤ 40) (hlo : (vs o).length ≤ 40) (hp : p ≤ (vs v).length) (hq : q ≤ (vs o).length) : Mt G 0 mtM_agree [.ref 33, .int (nI v), .int (nI p), .int (nI o), .int (nI q)] M n 0 0 (rd M n (nI (lcp ((vs v).drop p) ((vs o).drop q)))) := by
  refine Mt.of rfl rfl (Nat.le_of_ble_eq_true rfl) ?_
  refine V_iconst (v := 0) dM_agree_0 (by decide) ?_
  refine V_istore dM_agree_1 (by decide) ?_
  exact lM_agree h hv ho hlv hlo hp hq 41 0 (by omega) (Nat.zero_le _)
/-- the patch grows, or one of its bytes is set -/
theorem modX.put {bs' : List Int32} {fp' : Nat → Int32} {c : aC} (h : modX M dr np vs run sta tri tg nx sl mr th bs cp bl) (hf : ∀ i, i < bs'.length → fp' i = bs'.getD i 0) (hc : c = .inr (4, [.ref 34, .ref 35, .int (nI np), .ref 36, .int (nI dr.length), .ref 37, .int (nI bs'.length), .int (nI cp), .ref 38, .ref 39, .ref 40, .int (nI run), .int (nI sta), .int (nI tri), .int (nI tg), .ref 41, .int (nI bl), .int (nI nx)])) : modX (hU (hU M 37 (.inl (0, 128, .inl fp'))) 33 c) dr np vs run sta tri tg nx sl mr th bs' cp bl ∧ fM M (hU (hU M 37 (.inl (0, 128, .inl fp'))) 33 c) := by
  obtain ⟨h1, h2, h3, h4, h5, h6, h7⟩ := h
  have a : ∀ lo hi, (hi < 33 ∨ (33 < lo ∧ hi < 37) ∨ 37 < lo) → agr M (hU (hU M 37 (.inl (0, 128, .inl fp'))) 33 c) lo hi := fun lo hi hh q q1 q2 => by rw [hU_ne (by omega), hU_ne (by omega)]
  refine ⟨⟨by subst hc; exact hU_eq _ _ _, h2.frame (a _ _ (by omega)), h3.frame (a _ _ (by omega)), ⟨fp', ?_, hf⟩, h5.frame (a _ _ (by omega)), h6.frame (a _ _ (by omega)), h7.frame (a _ _ (by omega))⟩, fun q hq => by rw [hU_ne (by omega), hU_ne (by omega)]⟩
  rw [hU_ne (by decide)]
  exact hU_eq _ _ _
def mQ (M : aM) (n : Nat) (v : Option Value) (dr : List Int32) (np : Nat) (vs : Nat → List Int32) (run sta tri tg nx : Nat) (sl : Nat → List Int32) (mr : Nat → Nat) (th : Nat → Bool) (bs : List Int32) (cp bl : Nat) : zQ := fun v' M' n' => v' = v ∧ n' = n ∧ fM M M' ∧ modX M' dr np vs run sta tri tg nx sl mr th bs cp bl
theorem cM_put (h : modX M dr np vs run sta tri tg nx sl mr th bs cp bl) (b : Int32) (hl : bs.length < 128) : Mt G 0 mtM_put [.ref 33, .int b] M n 0 0 (mQ M n none dr np vs run sta tri tg nx sl mr th (bs ++ [b]) cp bl) := by
  obtain ⟨h1, h2, h3, ⟨fp, p1, p2⟩, -⟩ := id h
  refine Mt.of rfl rfl (Nat.le_of_ble_eq_true rfl) ?_
  refine V_aload_n dM_put_0 rfl ?_
  refine V_get dM_put_1 fM_19 (h1) rfl ?_
  refine V_aload_n dM_put_4 rfl ?_
  refine V_get dM_put_5 fM_46 (h1) rfl ?_
  refine V_iload_n dM_put_8 rfl ?_
  refine V_kiast dM_put_9 (p1) rfl (hl) (by decide) ?_
  refine V_aload_n dM_put_10 rfl ?_
  refine V_dup dM_put_11 rfl ?_
  refine V_get dM_put_12 fM_46 (hU_at (by decide) h1) rfl ?_
  refine V_iconst (v := 1) dM_put_15 (by decide) ?_
  refine V_iadd dM_put_16 ?_
  refine V_put dM_put_17 fM_46 (hU_at (by decide) h1) rfl rfl (Nat.le_of_ble_eq_true rfl) ?_
  obtain ⟨e1, a1⟩ := h.put (bs' := bs ++ [b]) (fp' := upd fp bs.length b) (c := .inr (4, [.ref 34, .ref 35, .int (nI np), .ref 36, .int (nI dr.length), .ref 37, .int (nI bs.length + 1), .int (nI cp), .ref 38, .ref 39, .ref 40, .int (nI run), .int (nI sta), .int (nI tri), .int (nI tg), .ref 41, .int (nI bl), .int (nI nx)])) (fun i hi => by
    rw [List.length_append, List.length_singleton] at hi
    by_cases e : i = bs.length
    · subst e
      rw [pk_us]
      simp [List.getD_eq_getElem?_getD]
    · rw [pk_un e, p2 i (by omega)]
      simp [List.getD_eq_getElem?_getD, List.getElem?_append_left (show i < bs.length by omega)]) (by rw [List.length_append, List.length_singleton, nI_1])
  exact V_vret dM_put_20 rfl ⟨rfl, rfl, a1, e1⟩
end MOD
