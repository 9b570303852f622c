/-! TwoSlots$Patch -/
def lWk : List (Option Value) → List (Option Value) → Prop
  | [], _ => True
  | none :: t, [] => lWk t []
  | none :: t, _ :: t' => lWk t t'
  | some _ :: _, [] => False
  | some v :: t, x :: t' => x = some v ∧ lWk t t'
theorem lWk_get : ∀ (L' L : List (Option Value)), lWk L' L → ∀ (k : Nat) (v : Value), L'[k]? = some (some v) → L[k]? = some (some v) := by
  intro L'
  induction L' with
  | nil => intro L _ k v h; simp at h
  | cons x t ih =>
    intro L h k v hk
    cases x with
    | none =>
      cases k with
      | zero => simp at hk
      | succ k =>
        cases L with
        | nil => exact absurd (ih [] h k v (by simpa using hk)) (by simp)
        | cons y t' => simpa using ih t' h k v (by simpa using hk)
    | some w =>
      cases L with
      | nil => exact h.elim
      | cons y t' =>
        obtain ⟨e, h⟩ := h
        cases k with
        | zero => simp at hk; subst hk; simpa using e
        | succ k => simpa using ih t' h k v (by simpa using hk)
theorem V_wk {G : wG} {mt : mT} {d : Nat} {Q : zQ} {rc rs pc : Nat} {L : List (Option Value)} {st : List Value} {M : aM} {n : Nat} {L' : List (Option Value)} (k : V G mt d Q rc rs pc L' st M n) (h : lWk L' L) : V G mt d Q rc rs pc L st M n := V_weak (lWk_get L' L h) k
def patL (M : aM) (P R A : Nat) (bs : List Int32) (cp : Nat) : Prop := M P = some (.inr (1, [.ref R, .int (nI cp)])) ∧ rowL M R A 42 bs ∧ P ≠ R ∧ P ≠ A
def wP (M : aM) (n P R A : Nat) (bs : List Int32) (cp : Nat) : zQ := fun v M' n' => v = none ∧ n' = n ∧ (∀ q, q ≠ P → q ≠ R → q ≠ A → M' q = M q) ∧ patL M' P R A bs cp
def ap3 (P R A x : Nat) : Prop := x ≠ P ∧ x ≠ R ∧ x ≠ A
theorem nI_min (a b : Nat) (ha : a < 2 ^ 31) (hb : b < 2 ^ 31) : (if nI b < nI a then nI b else nI a) = nI (min a b) := by
  by_cases h : b < a
  · rw [if_pos (nI_lt h ha), Nat.min_eq_right (by omega)]
  · rw [if_neg (nI_nlt (by omega) hb), Nat.min_eq_left (by omega)]
theorem mp_s (v o : List Int32) (p q : Nat) : mp v o p (q + 1) = if (mp v o p q).1 < lcp (v.drop p) (o.drop q) then (lcp (v.drop p) (o.drop q), q) else mp v o p q := rfl
def bN (x : Int32) : Nat := x.toNatClampNeg
def isB (bs : List Int32) : Prop := ∀ x ∈ bs, ∃ k, k < 256 ∧ x = nI k
/-- a piece: where the next one begins, and the spare's row behind it -/
def pcN (bs : List Int32) (pl : Nat) : Nat := if bN (bs.getD pl 0) ≤ 31 then pl + 1 + bN (bs.getD pl 0) else pl + 2
def pcY (bs run ys : List Int32) (pl : Nat) : List Int32 := if bN (bs.getD pl 0) ≤ 31 then apf ys bs 40 (pl + 1) (bN (bs.getD pl 0)) else apf ys run 40 (bN (bs.getD (pl + 1) 0)) (bN (bs.getD pl 0) - 28)
section PATCH
variable {G : wG} {M : aM} {n P R A : Nat} {bs : List Int32} {cp : Nat}
theorem cP_length (h : patL M P R A bs cp) : Mt G 1 mtP_length [.ref P] M n 0 0 (rd M n (nI bs.length)) := by
  obtain ⟨h1, h2, h3, h4⟩ := h
  obtain ⟨f, g1, -⟩ := id h2
  refine Mt.of rfl rfl (Nat.le_of_ble_eq_true rfl) ?_
  refine V_aload_n dP_length_0 rfl ?_
  refine V_get dP_length_1 fP_14 (h1) rfl ?_
  refine V_rV0 dP_length_4 clP_24 (Nat.le_of_ble_eq_true rfl) (g1) rfl (by decide) (cR_length h2) ?_
  exact V_iret dP_length_7 rfl ⟨rfl, rfl, rfl⟩
theorem z01 {p : Prop} [Decidable p] : narrow .boolean (.int (if p then 1 else 0)) = .int (if p then 1 else 0) := by
  by_cases h : p
  · rw [if_pos h]; rfl
  · rw [if_neg h]; rfl
theorem cP_has (h : patL M P R A bs cp) (i : Int32) : Mt G 1 mtP_has [.ref P, .int i] M n 0 0 (rd M n (if xIn bs i then 1 else 0)) := by
  obtain ⟨h1, h2, h3, h4⟩ := h
  obtain ⟨f, g1, -⟩ := id h2
  refine Mt.of rfl rfl (Nat.le_of_ble_eq_true rfl) ?_
  refine V_aload_n dP_has_0 rfl ?_
  refine V_get dP_has_1 fP_14 (h1) rfl ?_
  refine V_iload_n dP_has_4 rfl ?_
  refine V_rV1 dP_has_5 clP_28 (Nat.le_of_ble_eq_true rfl) (g1) rfl (by decide) (cR_has h2 i) ?_
  exact V_zret dP_has_8 rfl z01 ⟨rfl, rfl, rfl⟩
theorem cP_at (h : patL M P R A bs cp) (i : Int32) : Mt G 2 mtP_at [.ref P, .int i] M n 0 0 (rd M n (rAt bs i)) := by
  obtain ⟨h1, h2, h3, h4⟩ := h
  obtain ⟨f, g1, -⟩ := id h2
  refine Mt.of rfl rfl (Nat.le_of_ble_eq_true rfl) ?_
  refine V_aload_n dP_at_0 rfl ?_
  refine V_get dP_at_1 fP_14 (h1) rfl ?_
  refine V_iload_n dP_at_4 rfl ?_
  refine V_rV1 dP_at_5 clP_32 (Nat.le_of_ble_eq_true rfl) (g1) rfl (by decide) (cR_at h2 i) ?_
  exact V_iret dP_at_8 rfl ⟨rfl, rfl, rfl⟩
theorem cP_copied (h : patL M P R A bs cp) : Mt G 0 mtP_copied [.ref P] M n 0 0 (rd M n (nI cp)) := by
  obtain ⟨h1, h2, h3, h4⟩ := h
  refine Mt.of rfl rfl (Nat.le_of_ble_eq_true rfl) ?_
  refine V_aload_n dP_copied_0 rfl ?_
  refine V_get dP_copied_1 fP_20 (h1) rfl ?_
  exact V_iret dP_copied_4 rfl ⟨rfl, rfl, rfl⟩
theorem cP_blocks (h : patL M P R A bs cp) : Mt G 1 mtP_blocks [.ref P] M n 0 0 (rd M n (nI ((bs.length + 4) / 5))) := by
  obtain ⟨h1, h2, h3, h4⟩ := h
  obtain ⟨f, g1, g2, g3, g4, -⟩ := id h2
  refine Mt.of rfl rfl (Nat.le_of_ble_eq_true rfl) ?_
  refine V_aload_n dP_blocks_0 rfl ?_
  refine V_get dP_blocks_1 fP_14 (h1) rfl ?_
  refine V_rV0 dP_blocks_4 clP_24 (Nat.le_of_ble_eq_true rfl) (g1) rfl (by decide) (cR_length h2) ?_
  refine V_iconst (v := 5) dP_blocks_7 (by decide) ?_
  refine V_iadd dP_blocks_8 ?_
  refine V_iconst (v := 1) dP_blocks_9 (by decide) ?_
  refine V_isub dP_blocks_10 ?_
  refine V_iconst (v := 5) dP_blocks_11 (by decide) ?_
  refine V_idiv dP_blocks_12 (by decide) ?_
  refine V_iret dP_blocks_13 rfl ⟨?_, rfl, rfl⟩
  show some (Value.int ((nI bs.length + nI 5 - nI 1) / nI 5)) = _
  rw [nI_add, pk_sub (by omega), pk_div (by omega) (by omega) (by omega)]
  rfl
theorem cP_init (hr : P ≤ n) (h : M P = some (.inr (1, [.null, .int 0]))) : Mt G 2 mtP_init [.ref P] M n 2 44 (fun v M' n' => v = none ∧ n' = n + 2 ∧ (∀ q, q ≠ P → q ≠ n + 1 → q ≠ n + 2 → M' q = M q) ∧ patL M' P (n + 1) (n + 2) [] 0) := by
  have e1 : P ≠ n + 1 := by omega
  have e2 : P ≠ n + 2 := by omega
  refine Mt.of rfl rfl (Nat.le_of_ble_eq_true rfl) ?_
  refine V_aload_n dP_init_0 rfl ?_
  refine V_obj dP_init_1 obP_3 ob_w (by decide) (Nat.le_of_ble_eq_true rfl) ?_
  refine V_aload_n dP_init_4 rfl ?_
  refine V_new 1 42 dP_init_5 nwP_9 (by decide) (by decide) ?_
  refine V_dup dP_init_8 rfl ?_
  refine V_bipush (v := 42) dP_init_9 (by decide) ?_
  refine V_callI1 0 0 dP_init_11 clP_11 (Nat.le_of_ble_eq_true rfl) (by decide) (by decide) (by decide) (cR_init (G := G) (cap := 42) (Nat.le_refl (n + 1)) (hU_eq _ _ _) (by decide)) (fun v M' n' hQ => ?_)
  obtain ⟨q1, q2, q3, q4⟩ := hQ
  subst q1; subst q2
  have hP : M' P = some (.inr (1, [.null, .int 0])) := (q3 P e1 e2).trans (hU_at e1 h)
  refine V_putF dP_init_14 fP_14 rfl (hP) rfl rfl (Nat.le_of_ble_eq_true rfl) ?_
  refine V_aload_n dP_init_17 rfl ?_
  refine V_iconst (v := 0) dP_init_18 (by decide) ?_
  refine V_put dP_init_19 fP_20 (hU_eq _ _ _) rfl rfl (Nat.le_of_ble_eq_true rfl) ?_
  refine V_vret dP_init_22 rfl ⟨rfl, rfl, fun q r1 r2 r3 => ?_, hU_eq _ _ _, ?_, e1, e2⟩
  · rw [hU_ne r1, hU_ne r1, q3 q r2 r3, hU_ne r2]
  · exact q4.frame (by rw [hU_ne e1.symm, hU_ne e1.symm]) (by rw [hU_ne e2.symm, hU_ne e2.symm])
theorem cP_putCopy (h : patL M P R A bs cp) (q m : Nat) (hl : bs.length + 2 ≤ 42) : Mt G 1 mtP_putCopy [.ref P, .int (nI q), .int (nI m)] M n 0 0 (wP M n P R A (bs ++ [nI (28 + m), nI q]) (cp + m)) := by
  obtain ⟨h1, h2, h3, h4⟩ := h
  obtain ⟨f, g1, -⟩ := id h2
  refine Mt.of rfl rfl (Nat.le_of_ble_eq_true rfl) ?_
  refine V_aload_n dP_putCopy_0 rfl ?_
  refine V_get dP_putCopy_1 fP_14 (h1) rfl ?_
  refine V_bipush (v := 28) dP_putCopy_4 (by decide) ?_
  refine V_iload_n dP_putCopy_6 rfl ?_
  refine V_iadd dP_putCopy_7 ?_
  refine V_wV1 dP_putCopy_8 clP_61 (Nat.le_of_ble_eq_true rfl) (g1) rfl (by decide) (cR_append h2 _) (fun M1 F1 X1 => ?_)
  rw [if_pos (by omega)] at X1
  have k1 : M1 P = some (.inr (1, [.ref R, .int (nI cp)])) := (F1 P h3 h4).trans h1
  obtain ⟨f1, g2, -⟩ := id X1
  refine V_aload_n dP_putCopy_11 rfl ?_
  refine V_get dP_putCopy_12 fP_14 (k1) rfl ?_
  refine V_iload_n dP_putCopy_15 rfl ?_
  refine V_wV1 dP_putCopy_16 clP_61 (Nat.le_of_ble_eq_true rfl) (g2) rfl (by decide) (cR_append X1 _) (fun M2 F2 X2 => ?_)
  rw [if_pos (by rw [List.length_append, List.length_singleton]; omega)] at X2
  have k2 : M2 P = some (.inr (1, [.ref R, .int (nI cp)])) := (F2 P h3 h4).trans k1
  refine V_aload_n dP_putCopy_19 rfl ?_
  refine V_dup dP_putCopy_20 rfl ?_
  refine V_get dP_putCopy_21 fP_20 (k2) rfl ?_
  refine V_iload_n dP_putCopy_24 rfl ?_
  refine V_iadd dP_putCopy_25 ?_
  refine V_put dP_putCopy_26 fP_20 (k2) rfl rfl (Nat.le_of_ble_eq_true rfl) ?_
  refine V_vret dP_putCopy_29 rfl ⟨rfl, rfl, fun q r1 r2 r3 => ?_, (hU_eq _ _ _).trans ?_, ?_, h3, h4⟩
  · rw [hU_ne r1, F2 q r2 r3, F1 q r2 r3]
  · show some (Sum.inr (1, [Value.ref R, Value.int (nI cp + nI m)])) = _
    rw [nI_add]
  · have e : bs ++ [nI (28 + m), nI q] = bs ++ [28 + nI m] ++ [nI q] := by
      rw [← nI_add]
      simp
      rfl
    rw [e]
    exact X2.frame (hU_ne h3.symm) (hU_ne h4.symm)
theorem lP_common {r1 a1 c1 r2 a2 c2 p q : Nat} {v o : List Int32} (h1 : rowL M r1 a1 c1 v) (h2 : rowL M r2 a2 c2 o) (hp : p ≤ v.length) (hq : q ≤ o.length) : ∀ (j i : Nat), i + j = min (v.length - p) (o.length - q) → i ≤ lcp (v.drop p) (o.drop q) → V G mtP_common 2 (rd M n (nI (lcp (v.drop p) (o.drop q)))) 0 0 20 [some (.ref r1), some (.int (nI p)), some (.ref r2), some (.int (nI q)), some (.int (nI (min (v.length - p) (o.length - q)))), some (.int (nI i))] [] M n := by
  obtain ⟨f1, g1, g2, g3, g4, g5, g6⟩ := id h1
  obtain ⟨f2, k1, k2, k3, k4, k5, k6⟩ := id h2
  have hm := lcp_le (v.drop p) (o.drop q)
  rw [List.length_drop, List.length_drop] at hm
  intro j
  induction j with
  | zero =>
    intro i e hi
    refine V_iload dP_common_20 rfl ?_
    refine V_iload dP_common_22 rfl ?_
    refine V_icmp_ge (tgt := 52) dP_common_24 (by decide) (fun c => ?_) (fun c => ?_)
    · refine V_iload dP_common_52 rfl ?_
      refine V_iret dP_common_54 rfl ⟨?_, rfl, rfl⟩
      rw [show i = lcp (v.drop p) (o.drop q) by omega]
    · exact absurd (nI_le (by omega) (by omega)) c
  | succ j ih =>
    intro i e hi
    refine V_iload dP_common_20 rfl ?_
    refine V_iload dP_common_22 rfl ?_
    refine V_icmp_ge (tgt := 52) dP_common_24 (by decide) (fun c => ?_) (fun c => ?_)
    · exact absurd c (nI_ge (by omega) (by omega))
    · refine V_aload_n dP_common_27 rfl ?_
      refine V_iload_n dP_common_28 rfl ?_
      refine V_iload dP_common_29 rfl ?_
      refine V_iadd dP_common_31 ?_
      refine V_rV1 dP_common_32 clP_32 (Nat.le_of_ble_eq_true rfl) (g1) rfl (by decide) (cR_at h1 _) ?_
      refine V_aload_n dP_common_35 rfl ?_
      refine V_iload_n dP_common_36 rfl ?_
      refine V_iload dP_common_37 rfl ?_
      refine V_iadd dP_common_39 ?_
      refine V_rV1 dP_common_40 clP_32 (Nat.le_of_ble_eq_true rfl) (k1) rfl (by decide) (cR_at h2 _) ?_
      rw [nI_add, nI_add, rAt_nI (by omega) (by omega), rAt_nI (by omega) (by omega), ← drop_getD, ← drop_getD]
      refine V_icmp_ne (tgt := 52) dP_common_43 (by decide) (fun e2 => ?_) (fun e2 => ?_)
      · refine V_iload dP_common_52 rfl ?_
        refine V_iret dP_common_54 rfl ⟨?_, rfl, rfl⟩
        rw [lcp_end hi e2]
      · refine V_iinc (v := _ + 1) dP_common_46 (by decide) rfl rfl ?_
        refine V_goto (tgt := 20) dP_common_49 (by decide) ?_
        rw [nI_1]
        exact ih (i + 1) (by omega) (lcp_more hi (by rw [List.length_drop]; omega) (by rw [List.length_drop]; omega) e2)
theorem cP_common {r1 a1 c1 r2 a2 c2 p q : Nat} {v o : List Int32} (h1 : rowL M r1 a1 c1 v) (h2 : rowL M r2 a2 c2 o) (hp : p ≤ v.length) (hq : q ≤ o.length) : Mt G 2 mtP_common [.ref r1, .int (nI p), .ref r2, .int (nI q)] M n 0 0 (rd M n (nI (lcp (v.drop p) (o.drop q)))) := by
  obtain ⟨f1, g1, g2, g3, g4, g5, g6⟩ := id h1
  obtain ⟨f2, k1, k2, k3, k4, k5, k6⟩ := id h2
  refine Mt.of rfl rfl (Nat.le_of_ble_eq_true rfl) ?_
  refine V_aload_n dP_common_0 rfl ?_
  refine V_rV0 dP_common_1 clP_24 (Nat.le_of_ble_eq_true rfl) (g1) rfl (by decide) (cR_length h1) ?_
  refine V_iload_n dP_common_4 rfl ?_
  refine V_isub dP_common_5 ?_
  refine V_aload_n dP_common_6 rfl ?_
  refine V_rV0 dP_common_7 clP_24 (Nat.le_of_ble_eq_true rfl) (k1) rfl (by decide) (cR_length h2) ?_
  refine V_iload_n dP_common_10 rfl ?_
  refine V_isub dP_common_11 ?_
  refine V_min dP_common_12 maP_55 ma_min (by decide) (Nat.le_of_ble_eq_true rfl) ?_
  rw [pk_sub hp, pk_sub hq, nI_min _ _ (by omega) (by omega)]
  refine V_istore dP_common_15 (by decide) ?_
  refine V_iconst (v := 0) dP_common_17 (by decide) ?_
  refine V_istore dP_common_18 (by decide) ?_
  exact lP_common h1 h2 hp hq (min (v.length - p) (o.length - q)) 0 (by omega) (Nat.zero_le _)
theorem lP_matchPlace {r1 a1 c1 r2 a2 c2 p : Nat} {v o : List Int32} (h1 : rowL M r1 a1 c1 v) (h2 : rowL M r2 a2 c2 o) (hp : p ≤ v.length) : ∀ (j i : Nat), i + j = o.length → V G mtP_matchPlace 3 (rd M n (nI (mp v o p o.length).2)) 0 0 8 [some (.ref r1), some (.int (nI p)), some (.ref r2), some (.int (nI (mp v o p i).1)), some (.int (nI (mp v o p i).2)), some (.int (nI i)), none] [] M n := by
  obtain ⟨f1, g1, g2, g3, g4, g5, g6⟩ := id h1
  obtain ⟨f2, k1, k2, k3, k4, k5, k6⟩ := id h2
  have hb : ∀ i, (mp v o p i).1 ≤ v.length := by
    intro i
    induction i with
    | zero => exact Nat.zero_le _
    | succ i ih =>
      unfold mp
      have hm := (lcp_le (v.drop p) (o.drop i)).1
      rw [List.length_drop] at hm
      by_cases c : (mp v o p i).1 < lcp (v.drop p) (o.drop i)
      · rw [if_pos c]; show lcp (v.drop p) (o.drop i) ≤ _; omega
      · rw [if_neg c]; exact ih
  intro j
  induction j with
  | zero =>
    intro i e
    have e : i = o.length := by omega
    subst e
    refine V_iload dP_matchPlace_8 rfl ?_
    refine V_aload_n dP_matchPlace_10 rfl ?_
    refine V_rV0 dP_matchPlace_11 clP_24 (Nat.le_of_ble_eq_true rfl) (k1) rfl (by decide) (cR_length h2) ?_
    refine V_icmp_ge (tgt := 46) dP_matchPlace_14 (by decide) (fun c => ?_) (fun c => ?_)
    · refine V_iload dP_matchPlace_46 rfl ?_
      exact V_iret dP_matchPlace_48 rfl ⟨rfl, rfl, rfl⟩
    · exact absurd (nI_le (Nat.le_refl _) (by omega)) c
  | succ j ih =>
    intro i e
    have hm := (lcp_le (v.drop p) (o.drop i)).1
    rw [List.length_drop] at hm
    have hbi := hb i
    refine V_iload dP_matchPlace_8 rfl ?_
    refine V_aload_n dP_matchPlace_10 rfl ?_
    refine V_rV0 dP_matchPlace_11 clP_24 (Nat.le_of_ble_eq_true rfl) (k1) rfl (by decide) (cR_length h2) ?_
    refine V_icmp_ge (tgt := 46) dP_matchPlace_14 (by decide) (fun c => ?_) (fun c => ?_)
    · exact absurd c (nI_ge (by omega) (by omega))
    · refine V_aload_n dP_matchPlace_17 rfl ?_
      refine V_iload_n dP_matchPlace_18 rfl ?_
      refine V_aload_n dP_matchPlace_19 rfl ?_
      refine V_iload dP_matchPlace_20 rfl ?_
      refine V_rS4 dP_matchPlace_22 clP_43 (Nat.le_of_ble_eq_true rfl) (by decide) (cP_common h1 h2 hp (show i ≤ o.length by omega)) ?_
      refine V_istore dP_matchPlace_25 (by decide) ?_
      refine V_iload dP_matchPlace_27 rfl ?_
      refine V_iload_n dP_matchPlace_29 rfl ?_
      have ih' := ih (i + 1) (by omega)
      rw [mp_s] at ih'
      refine V_icmp_le (tgt := 40) dP_matchPlace_30 (by decide) (fun c2 => ?_) (fun c2 => ?_)
      · have c3 : ¬ (mp v o p i).1 < lcp (v.drop p) (o.drop i) := fun q => nI_ge q (by omega) c2
        rw [if_neg c3] at ih'
        refine V_iinc (v := _ + 1) dP_matchPlace_40 (by decide) rfl rfl ?_
        refine V_goto (tgt := 8) dP_matchPlace_43 (by decide) ?_
        rw [nI_1]
        exact V_wk ih' ⟨rfl, rfl, rfl, rfl, rfl, rfl, trivial⟩
      · have c3 : (mp v o p i).1 < lcp (v.drop p) (o.drop i) := Nat.lt_of_not_le fun q => c2 (nI_le q (by omega))
        rw [if_pos c3] at ih'
        refine V_iload dP_matchPlace_33 rfl ?_
        refine V_istore_n dP_matchPlace_35 (by decide) ?_
        refine V_iload dP_matchPlace_36 rfl ?_
        refine V_istore dP_matchPlace_38 (by decide) ?_
        refine V_iinc (v := _ + 1) dP_matchPlace_40 (by decide) rfl rfl ?_
        refine V_goto (tgt := 8) dP_matchPlace_43 (by decide) ?_
        rw [nI_1]
        exact V_wk ih' ⟨rfl, rfl, rfl, rfl, rfl, rfl, trivial⟩
theorem cP_matchPlace {r1 a1 c1 r2 a2 c2 p : Nat} {v o : List Int32} (h1 : rowL M r1 a1 c1 v) (h2 : rowL M r2 a2 c2 o) (hp : p ≤ v.length) : Mt G 3 mtP_matchPlace [.ref r1, .int (nI p), .ref r2] M n 0 0 (rd M n (nI (mp v o p o.length).2)) := by
  refine Mt.of rfl rfl (Nat.le_of_ble_eq_true rfl) ?_
  refine V_iconst (v := 0) dP_matchPlace_0 (by decide) ?_
  refine V_istore_n dP_matchPlace_1 (by decide) ?_
  refine V_iconst (v := 0) dP_matchPlace_2 (by decide) ?_
  refine V_istore dP_matchPlace_3 (by decide) ?_
  refine V_iconst (v := 0) dP_matchPlace_5 (by decide) ?_
  refine V_istore dP_matchPlace_6 (by decide) ?_
  exact lP_matchPlace h1 h2 hp o.length 0 (by omega)
theorem take_take' (v : List Int32) (p e : Nat) : ((v.drop p).take (e - p)).take 31 = (v.drop p).take (min 31 (e - p)) := by rw [List.take_take]
theorem drop_take' (v : List Int32) (p e : Nat) : ((v.drop p).take (e - p)).drop 31 = (v.drop (p + 31)).take (e - (p + 31)) := by
  rw [List.drop_take, List.drop_drop]
  congr 1
theorem apf_fit {xs zs : List Int32} {cap p k : Nat} (h : xs.length + k ≤ cap) (hz : p + k ≤ zs.length) : apf xs zs cap p k = xs ++ (zs.drop p).take k := by
  have e : (List.range k).map (fun i => zs.getD (p + i) 0) = (zs.drop p).take k := by
    apply List.ext_getElem
    · simp; omega
    · intro i h1 h2
      have hi : i < k := by simpa using h1
      simp [List.getD_eq_getElem?_getD, show p + i < zs.length by omega]
  unfold apf
  rw [e, List.take_of_length_le]
  rw [List.length_append, List.length_take, List.length_drop]
  omega
theorem lP_putLoose {r1 a1 c1 e : Nat} {v : List Int32} {M0 : aM} (h1 : rowL M0 r1 a1 c1 v) (he : e ≤ v.length) (hd1 : ap3 P R A r1) (hd2 : ap3 P R A a1) : ∀ (f p : Nat) (bs : List Int32) (M : aM), e - p ≤ 31 * f → p ≤ 1000 → bs.length + (lEnc f ((v.drop p).take (e - p))).length ≤ 42 → (∀ q, q ≠ P → q ≠ R → q ≠ A → M q = M0 q) → patL M P R A bs cp → V G mtP_putLoose 3 (wP M0 n P R A (bs ++ lEnc f ((v.drop p).take (e - p))) cp) 0 0 3 [some (.ref P), some (.ref r1), none, some (.int (nI e)), some (.int (nI p)), none] [] M n := by
  obtain ⟨fv, gv1, gv2, gv3, gv4, gv5, gv6⟩ := id h1
  intro f
  induction f with
  | zero =>
    intro p bs M hf hp hl hF h
    refine V_iload dP_putLoose_3 rfl ?_
    refine V_iload_n dP_putLoose_5 rfl ?_
    refine V_icmp_ge (tgt := 47) dP_putLoose_6 (by decide) (fun c => ?_) (fun c => ?_)
    · refine V_vret dP_putLoose_47 rfl ⟨rfl, rfl, hF, ?_⟩
      show patL M P R A (bs ++ []) cp
      rw [List.append_nil]
      exact h
    · exact absurd (nI_le (by omega) (by omega)) c
  | succ f ih =>
    intro p bs M hf hp hl hF h
    by_cases hpe : p < e
    · have hlen : ((v.drop p).take (e - p)).length = e - p := by rw [List.length_take, List.length_drop]; omega
      have henc : lEnc (f + 1) ((v.drop p).take (e - p)) = nI (min 31 (e - p)) :: ((v.drop p).take (min 31 (e - p)) ++ lEnc f ((v.drop (p + 31)).take (e - (p + 31)))) := by
        show (if _ then _ else _) = _
        rw [if_neg (by omega), hlen, take_take', drop_take']
      rw [henc] at hl ⊢
      have hl2 : ((v.drop p).take (min 31 (e - p))).length = min 31 (e - p) := by rw [List.length_take, List.length_drop]; omega
      rw [List.length_cons, List.length_append, hl2] at hl
      obtain ⟨h2, h3, h4, h5⟩ := h
      have hv : rowL M r1 a1 c1 v := h1.frame (hF _ hd1.1 hd1.2.1 hd1.2.2) (hF _ hd2.1 hd2.2.1 hd2.2.2)
      obtain ⟨fb, gb1, -⟩ := id h3
      refine V_iload dP_putLoose_3 rfl ?_
      refine V_iload_n dP_putLoose_5 rfl ?_
      refine V_icmp_ge (tgt := 47) dP_putLoose_6 (by decide) (fun c => ?_) (fun c => ?_)
      · exact absurd c (nI_ge hpe (by omega))
      · refine V_bipush (v := 31) dP_putLoose_9 (by decide) ?_
        refine V_iload_n dP_putLoose_11 rfl ?_
        refine V_iload dP_putLoose_12 rfl ?_
        refine V_isub dP_putLoose_14 ?_
        refine V_min dP_putLoose_15 maP_55 ma_min (by decide) (Nat.le_of_ble_eq_true rfl) ?_
        rw [pk_sub (by omega), show ((31 : Int32) = nI 31) from rfl, nI_min _ _ (by omega) (by omega)]
        refine V_istore dP_putLoose_18 (by decide) ?_
        refine V_aload_n dP_putLoose_20 rfl ?_
        refine V_get dP_putLoose_21 fP_14 (h2) rfl ?_
        refine V_iload dP_putLoose_24 rfl ?_
        refine V_wV1 dP_putLoose_26 clP_61 (Nat.le_of_ble_eq_true rfl) (gb1) rfl (by decide) (cR_append h3 _) (fun M1 F1 X1 => ?_)
        rw [if_pos (by omega)] at X1
        have k1 := (F1 P h4 h5).trans h2
        obtain ⟨fb1, gb2, -⟩ := id X1
        have hv1 : rowL M1 r1 a1 c1 v := hv.frame (F1 _ hd1.2.1 hd1.2.2) (F1 _ hd2.2.1 hd2.2.2)
        refine V_aload_n dP_putLoose_29 rfl ?_
        refine V_get dP_putLoose_30 fP_14 (k1) rfl ?_
        refine V_aload_n dP_putLoose_33 rfl ?_
        refine V_iload dP_putLoose_34 rfl ?_
        refine V_iload dP_putLoose_36 rfl ?_
        refine V_wV3 dP_putLoose_38 clP_64 (Nat.le_of_ble_eq_true rfl) (gb2) rfl (by decide) (cR_appendFrom X1 hv1 (p := p) (k := min 31 (e - p)) (by omega) hd1.2.1.symm hd2.2.1.symm hd1.2.2.symm hd2.2.2.symm) (fun M2 F2 X2 => ?_)
        rw [apf_fit (by rw [List.length_append, List.length_singleton]; omega) (by omega)] at X2
        have k2 := (F2 P h4 h5).trans k1
        refine V_iinc (v := _ + 31) dP_putLoose_41 (by decide) rfl rfl ?_
        refine V_goto (tgt := 3) dP_putLoose_44 (by decide) ?_
        have ih' := ih (p + 31) (bs ++ [nI (min 31 (e - p))] ++ (v.drop p).take (min 31 (e - p))) M2 (by omega) (by omega) (by rw [List.length_append, List.length_append, List.length_singleton, hl2]; omega) (fun q q1 q2 q3 => (F2 q q2 q3).trans ((F1 q q2 q3).trans (hF q q1 q2 q3))) ⟨k2, X2, h4, h5⟩
        rw [show nI p + 31 = nI (p + 31) from nI_add p 31]
        have e3 : bs ++ nI (min 31 (e - p)) :: ((v.drop p).take (min 31 (e - p)) ++ lEnc f ((v.drop (p + 31)).take (e - (p + 31)))) = bs ++ [nI (min 31 (e - p))] ++ (v.drop p).take (min 31 (e - p)) ++ lEnc f ((v.drop (p + 31)).take (e - (p + 31))) := by simp
        rw [e3]
        exact V_wk ih' ⟨rfl, rfl, rfl, rfl, trivial⟩
    · have henc : lEnc (f + 1) ((v.drop p).take (e - p)) = [] := by
        rw [show e - p = 0 by omega, List.take_zero]
        rfl
      rw [henc, List.append_nil]
      refine V_iload dP_putLoose_3 rfl ?_
      refine V_iload_n dP_putLoose_5 rfl ?_
      refine V_icmp_ge (tgt := 47) dP_putLoose_6 (by decide) (fun c => ?_) (fun c => ?_)
      · exact V_vret dP_putLoose_47 rfl ⟨rfl, rfl, hF, h⟩
      · exact absurd (nI_le (by omega) (by omega)) c
theorem cP_putLoose {r1 a1 c1 lf e : Nat} {v : List Int32} (h : patL M P R A bs cp) (h1 : rowL M r1 a1 c1 v) (he : e ≤ v.length) (hlf : lf ≤ e) (hv : v.length ≤ 40) (hl : bs.length + (lEnc 2 ((v.drop lf).take (e - lf))).length ≤ 42) (hd1 : ap3 P R A r1) (hd2 : ap3 P R A a1) : Mt G 3 mtP_putLoose [.ref P, .ref r1, .int (nI lf), .int (nI e)] M n 0 0 (wP M n P R A (bs ++ lEnc 2 ((v.drop lf).take (e - lf))) cp) := by
  refine Mt.of rfl rfl (Nat.le_of_ble_eq_true rfl) ?_
  refine V_iload_n dP_putLoose_0 rfl ?_
  refine V_istore dP_putLoose_1 (by decide) ?_
  exact V_wk (lP_putLoose h1 he hd1 hd2 2 lf bs M (by omega) (by omega) hl (fun q _ _ _ => rfl) h) ⟨rfl, rfl, rfl, rfl, trivial⟩
theorem lP_make {r1 a1 c1 r2 a2 c2 : Nat} {v o : List Int32} {M0 : aM} (h1 : rowL M0 r1 a1 c1 v) (h2 : rowL M0 r2 a2 c2 o) (hv : v.length ≤ 40) (hd1 : ap3 P R A r1) (hd2 : ap3 P R A a1) (hd3 : ap3 P R A r2) (hd4 : ap3 P R A a2) : ∀ (f p lf : Nat) (acc : List Int32) (cp : Nat) (M : aM) (st0 : Int32), v.length + 1 ≤ f + p → lf ≤ p → p ≤ v.length → acc.length ≤ lf → (∀ q, q ≠ P → q ≠ R → q ≠ A → M q = M0 q) → patL M P R A acc cp → V G mtP_make 4 (wP M0 n P R A (mkA v o f p lf acc cp).1 (mkA v o f p lf acc cp).2) 0 0 20 [some (.ref P), some (.ref r1), some (.ref r2), some (.int (nI lf)), some (.int st0), some (.int (nI p)), none, none] [] M n := by
  intro f
  induction f with
  | zero => intro p lf acc cp M st0 q1 q2 q3 q4; omega
  | succ f ih =>
    intro p lf acc cp M st0 q1 q2 q3 q4 hF h
    have hv1 : rowL M r1 a1 c1 v := h1.frame (hF _ hd1.1 hd1.2.1 hd1.2.2) (hF _ hd2.1 hd2.2.1 hd2.2.2)
    have ho1 : rowL M r2 a2 c2 o := h2.frame (hF _ hd3.1 hd3.2.1 hd3.2.2) (hF _ hd4.1 hd4.2.1 hd4.2.2)
    obtain ⟨fv, gv1, -⟩ := id hv1
    obtain ⟨k1, k2, k3, k4⟩ := id h
    have hlen : ((v.drop lf).take (p - lf)).length = p - lf := by rw [List.length_take, List.length_drop]; omega
    have henc := lEnc_len ((v.drop lf).take (p - lf)) (by omega)
    refine V_iload dP_make_20 rfl ?_
    refine V_aload_n dP_make_22 rfl ?_
    refine V_rV0 dP_make_23 clP_24 (Nat.le_of_ble_eq_true rfl) (gv1) rfl (by decide) (cR_length hv1) ?_
    refine V_icmp_ge (tgt := 94) dP_make_26 (by decide) (fun c => ?_) (fun c => ?_)
    · have hpe : p = v.length := by
        rcases Nat.lt_or_ge p v.length with z | z
        · exact absurd c (nI_ge z (by omega))
        · omega
      have e : mkA v o (f + 1) p lf acc cp = (acc ++ lEnc 2 ((v.drop lf).take (p - lf)), cp) := by
        unfold mkA
        rw [if_neg (by omega)]
      rw [e]
      refine V_aload_n dP_make_94 rfl ?_
      refine V_aload_n dP_make_95 rfl ?_
      refine V_iload_n dP_make_96 rfl ?_
      refine V_aload_n dP_make_97 rfl ?_
      refine V_rV0 dP_make_98 clP_24 (Nat.le_of_ble_eq_true rfl) (gv1) rfl (by decide) (cR_length hv1) ?_
      rw [← hpe]
      refine V_callV3 0 0 dP_make_101 clP_47 (Nat.le_of_ble_eq_true rfl) (k1) rfl (by decide) (by decide) (by decide) (cP_putLoose h hv1 q3 q2 hv (by omega) hd1 hd2) (fun w' M' n' hQ => ?_)
      obtain ⟨e1, e2, e3, e4⟩ := hQ
      subst e1; subst e2
      exact V_vret dP_make_104 rfl ⟨rfl, rfl, fun q z1 z2 z3 => (e3 q z1 z2 z3).trans (hF q z1 z2 z3), e4⟩
    · have hpe : p < v.length := Nat.lt_of_not_le fun z => c (nI_le z (by omega))
      have hm := lcp_le (v.drop p) (o.drop (mp v o p o.length).2)
      rw [List.length_drop] at hm
      have hmp : (mp v o p o.length).2 ≤ o.length := by
        have : ∀ k, (mp v o p k).2 ≤ k := by
          intro k
          induction k with
          | zero => exact Nat.le_refl _
          | succ k ihk =>
            rw [mp_s]
            by_cases z : (mp v o p k).1 < lcp (v.drop p) (o.drop k)
            · rw [if_pos z]; exact Nat.le_succ k
            · rw [if_neg z]; omega
        exact this _
      refine V_aload_n dP_make_29 rfl ?_
      refine V_iload dP_make_30 rfl ?_
      refine V_aload_n dP_make_32 rfl ?_
      refine V_rS3 dP_make_33 clP_39 (Nat.le_of_ble_eq_true rfl) (by decide) (cP_matchPlace hv1 ho1 q3) ?_
      refine V_istore dP_make_36 (by decide) ?_
      refine V_aload_n dP_make_38 rfl ?_
      refine V_iload dP_make_39 rfl ?_
      refine V_aload_n dP_make_41 rfl ?_
      refine V_iload dP_make_42 rfl ?_
      refine V_rS4 dP_make_44 clP_43 (Nat.le_of_ble_eq_true rfl) (by decide) (cP_common hv1 ho1 q3 hmp) ?_
      refine V_istore dP_make_47 (by decide) ?_
      refine V_iconst (v := 1) dP_make_49 (by decide) ?_
      refine V_istore dP_make_50 (by decide) ?_
      refine V_iload dP_make_52 rfl ?_
      refine V_iconst (v := 4) dP_make_54 (by decide) ?_
      generalize hmm : lcp (v.drop p) (o.drop (mp v o p o.length).2) = mm at hm ⊢
      refine V_icmp_lt (tgt := 84) dP_make_55 (by decide) (fun c4 => ?_) (fun c4 => ?_)
      · have hm4 : ¬ 4 ≤ mm := fun z => Int32.not_lt.mpr (nI_le (a := 4) (b := mm) z (by omega)) c4
        have e : mkA v o (f + 1) p lf acc cp = mkA v o f (p + 1) lf acc cp := by
          rw [mkA, if_pos hpe, hmm, if_neg hm4]
        rw [e]
        refine V_iload dP_make_84 rfl ?_
        refine V_iload dP_make_86 rfl ?_
        refine V_iadd dP_make_88 ?_
        refine V_istore dP_make_89 (by decide) ?_
        refine V_goto (tgt := 20) dP_make_91 (by decide) ?_
        rw [nI_1]
        exact V_wk (ih (p + 1) lf acc cp M 1 (by omega) (by omega) (by omega) q4 hF h) ⟨rfl, rfl, rfl, rfl, rfl, rfl, trivial⟩
      · have hm4 : 4 ≤ mm := Nat.le_of_not_lt fun z => c4 (nI_lt (a := mm) (b := 4) z (by omega))
        have e : mkA v o (f + 1) p lf acc cp = mkA v o f (p + mm) (p + mm) (acc ++ lEnc 2 ((v.drop lf).take (p - lf)) ++ [nI (28 + mm), nI (mp v o p o.length).2]) (cp + mm) := by
          rw [mkA, if_pos hpe, hmm, if_pos hm4]
        rw [e]
        refine V_aload_n dP_make_58 rfl ?_
        refine V_aload_n dP_make_59 rfl ?_
        refine V_iload_n dP_make_60 rfl ?_
        refine V_iload dP_make_61 rfl ?_
        refine V_callV3 0 0 dP_make_63 clP_47 (Nat.le_of_ble_eq_true rfl) (k1) rfl (by decide) (by decide) (by decide) (cP_putLoose h hv1 (Nat.le_of_lt hpe) q2 hv (by omega) hd1 hd2) (fun w' M' n' hQ => ?_)
        obtain ⟨e1, e2, e3, e4⟩ := hQ
        subst e1; subst e2
        obtain ⟨k1', k2', k3', k4'⟩ := id e4
        refine V_aload_n dP_make_66 rfl ?_
        refine V_iload dP_make_67 rfl ?_
        refine V_iload dP_make_69 rfl ?_
        refine V_callV2 0 0 dP_make_71 clP_51 (Nat.le_of_ble_eq_true rfl) (k1') rfl (by decide) (by decide) (by decide) (cP_putCopy e4 (mp v o p o.length).2 mm (by rw [List.length_append]; omega)) (fun w' M2 n' hQ => ?_)
        obtain ⟨f1, f2, f3, f4⟩ := hQ
        subst f1; subst f2
        refine V_iload dP_make_74 rfl ?_
        refine V_istore dP_make_76 (by decide) ?_
        refine V_iload dP_make_78 rfl ?_
        refine V_iload dP_make_80 rfl ?_
        refine V_iadd dP_make_82 ?_
        refine V_istore_n dP_make_83 (by decide) ?_
        refine V_iload dP_make_84 rfl ?_
        refine V_iload dP_make_86 rfl ?_
        refine V_iadd dP_make_88 ?_
        refine V_istore dP_make_89 (by decide) ?_
        refine V_goto (tgt := 20) dP_make_91 (by decide) ?_
        rw [nI_add]
        exact V_wk (ih (p + mm) (p + mm) _ (cp + mm) M2 (nI mm) (by omega) (Nat.le_refl _) (by omega) (by rw [List.length_append, List.length_append]; simp only [List.length_cons, List.length_nil]; omega) (fun q z1 z2 z3 => (f3 q z1 z2 z3).trans ((e3 q z1 z2 z3).trans (hF q z1 z2 z3))) f4) ⟨rfl, rfl, rfl, rfl, rfl, rfl, trivial⟩
theorem cP_make {r1 a1 c1 r2 a2 c2 : Nat} {v o : List Int32} (h : patL M P R A bs cp) (h1 : rowL M r1 a1 c1 v) (h2 : rowL M r2 a2 c2 o) (hv : v.length ≤ 40) (hd1 : ap3 P R A r1) (hd2 : ap3 P R A a1) (hd3 : ap3 P R A r2) (hd4 : ap3 P R A a2) : Mt G 4 mtP_make [.ref P, .ref r1, .ref r2] M n 0 0 (wP M n P R A (patchOf v o) (savedOf v o)) := by
  obtain ⟨k1, k2, k3, k4⟩ := id h
  obtain ⟨fb, gb1, -⟩ := id k2
  refine Mt.of rfl rfl (Nat.le_of_ble_eq_true rfl) ?_
  refine V_aload_n dP_make_0 rfl ?_
  refine V_get dP_make_1 fP_14 (k1) rfl ?_
  refine V_wV0 dP_make_4 clP_36 (Nat.le_of_ble_eq_true rfl) (gb1) rfl (by decide) (cR_empty k2) (fun M1 F1 X1 => ?_)
  have k1' := (F1 P k3 k4).trans k1
  refine V_aload_n dP_make_7 rfl ?_
  refine V_iconst (v := 0) dP_make_8 (by decide) ?_
  refine V_put dP_make_9 fP_20 (k1') rfl rfl (Nat.le_of_ble_eq_true rfl) ?_
  refine V_iconst (v := 0) dP_make_12 (by decide) ?_
  refine V_istore_n dP_make_13 (by decide) ?_
  refine V_iconst (v := 1) dP_make_14 (by decide) ?_
  refine V_istore dP_make_15 (by decide) ?_
  refine V_iconst (v := 0) dP_make_17 (by decide) ?_
  refine V_istore dP_make_18 (by decide) ?_
  have hF : ∀ q, q ≠ P → q ≠ R → q ≠ A → hU M1 P (.inr (1, [.ref R, .int 0])) q = M q := fun q z1 z2 z3 => by rw [hU_ne z1, F1 q z2 z3]
  exact lP_make h1 h2 hv hd1 hd2 hd3 hd4 (v.length + 1) 0 0 [] 0 _ 1 (by omega) (by omega) (by omega) (by simp) hF ⟨hU_eq _ _ _, X1.frame (hU_ne k3.symm) (hU_ne k4.symm), k3, k4⟩
theorem bN_nI {k : Nat} (h : k < 256) : bN (nI k) = k := nI_clamp (by omega)
theorem isB_at {bs : List Int32} (h : isB bs) (i : Nat) : bs.getD i 0 = nI (bN (bs.getD i 0)) ∧ bN (bs.getD i 0) < 256 := by
  by_cases hi : i < bs.length
  · have hm : bs.getD i 0 ∈ bs := by
      rw [List.getD_eq_getElem?_getD, List.getElem?_eq_getElem hi]
      exact List.getElem_mem hi
    obtain ⟨k, hk, e⟩ := h _ hm
    rw [e, bN_nI hk]
    exact ⟨rfl, hk⟩
  · have e : bs.getD i 0 = 0 := by simp [List.getD_eq_getElem?_getD, List.getElem?_eq_none (Nat.le_of_not_lt hi)]
    rw [e]
    exact ⟨rfl, by decide⟩
theorem cP_putPiece {rr ra sr sa pl : Nat} {xs ys : List Int32} (h : patL M P R A bs cp) (hB : isB bs) (h1 : rowL M rr ra 40 xs) (h2 : rowL M sr sa 40 ys) (hpl : pl ≤ 42) (hd1 : ap3 P R A sr) (hd2 : ap3 P R A sa) (e1 : sr ≠ rr) (e2 : sr ≠ ra) (e3 : sa ≠ rr) (e4 : sa ≠ ra) : Mt G 3 mtP_putPiece [.ref P, .int (nI pl), .ref rr, .ref sr] M n 0 0 (fun v M' n' => v = some (.int (nI (pcN bs pl))) ∧ n' = n ∧ (∀ q, q ≠ sr → q ≠ sa → M' q = M q) ∧ rowL M' sr sa 40 (pcY bs xs ys pl)) := by
  obtain ⟨k1, k2, k3, k4⟩ := id h
  obtain ⟨fb, gb1, gb2, gb3, gb4, gb5, -⟩ := id k2
  obtain ⟨fs, gs1, gs2, gs3, gs4, -⟩ := id h2
  obtain ⟨hh, hh2⟩ := isB_at hB pl
  obtain ⟨hq, hq2⟩ := isB_at hB (pl + 1)
  refine Mt.of rfl rfl (Nat.le_of_ble_eq_true rfl) ?_
  refine V_aload_n dP_putPiece_0 rfl ?_
  refine V_get dP_putPiece_1 fP_14 (k1) rfl ?_
  refine V_iload_n dP_putPiece_4 rfl ?_
  refine V_rV1 dP_putPiece_5 clP_32 (Nat.le_of_ble_eq_true rfl) (gb1) rfl (by decide) (cR_at k2 _) ?_
  rw [rAt_nI (by omega) (by omega), hh]
  refine V_istore dP_putPiece_8 (by decide) ?_
  refine V_iload dP_putPiece_10 rfl ?_
  refine V_bipush (v := 31) dP_putPiece_12 (by decide) ?_
  refine V_icmp_gt (tgt := 37) dP_putPiece_14 (by decide) (fun c => ?_) (fun c => ?_)
  · have hc : ¬ bN (bs.getD pl 0) ≤ 31 := fun z => Int32.not_lt.mpr (nI_le (a := bN (bs.getD pl 0)) (b := 31) z (by omega)) c
    refine V_aload_n dP_putPiece_37 rfl ?_
    refine V_aload_n dP_putPiece_38 rfl ?_
    refine V_aload_n dP_putPiece_39 rfl ?_
    refine V_get dP_putPiece_40 fP_14 (k1) rfl ?_
    refine V_iload_n dP_putPiece_43 rfl ?_
    refine V_iconst (v := 1) dP_putPiece_44 (by decide) ?_
    refine V_iadd dP_putPiece_45 ?_
    refine V_rV1 dP_putPiece_46 clP_32 (Nat.le_of_ble_eq_true rfl) (gb1) rfl (by decide) (cR_at k2 _) ?_
    rw [nI_1, rAt_nI (by omega) (by omega), hq]
    refine V_iload dP_putPiece_49 rfl ?_
    refine V_bipush (v := 28) dP_putPiece_51 (by decide) ?_
    refine V_isub dP_putPiece_53 ?_
    rw [show nI (bN (bs.getD pl 0)) - 28 = nI (bN (bs.getD pl 0) - 28) from pk_sub (b := 28) (by omega)]
    refine V_wV3 dP_putPiece_54 clP_64 (Nat.le_of_ble_eq_true rfl) (gs1) rfl (by decide) (cR_appendFrom h2 h1 (by omega) e1 e2 e3 e4) (fun M1 F1 X1 => ?_)
    refine V_iload_n dP_putPiece_57 rfl ?_
    refine V_iconst (v := 2) dP_putPiece_58 (by decide) ?_
    refine V_iadd dP_putPiece_59 ?_
    refine V_iret dP_putPiece_60 rfl ⟨?_, rfl, F1, ?_⟩
    · unfold pcN
      rw [if_neg hc]
      exact congrArg (fun z => some (Value.int z)) (nI_add pl 2)
    · unfold pcY
      rw [if_neg hc]
      exact X1
  · have hc : bN (bs.getD pl 0) ≤ 31 := Nat.le_of_not_lt fun z => c (nI_lt (a := 31) (b := bN (bs.getD pl 0)) z (by omega))
    refine V_aload_n dP_putPiece_17 rfl ?_
    refine V_aload_n dP_putPiece_18 rfl ?_
    refine V_get dP_putPiece_19 fP_14 (k1) rfl ?_
    refine V_iload_n dP_putPiece_22 rfl ?_
    refine V_iconst (v := 1) dP_putPiece_23 (by decide) ?_
    refine V_iadd dP_putPiece_24 ?_
    refine V_iload dP_putPiece_25 rfl ?_
    rw [nI_1]
    refine V_wV3 dP_putPiece_27 clP_64 (Nat.le_of_ble_eq_true rfl) (gs1) rfl (by decide) (cR_appendFrom h2 k2 (by omega) hd1.2.1 hd1.2.2 hd2.2.1 hd2.2.2) (fun M1 F1 X1 => ?_)
    refine V_iload_n dP_putPiece_30 rfl ?_
    refine V_iconst (v := 1) dP_putPiece_31 (by decide) ?_
    refine V_iadd dP_putPiece_32 ?_
    refine V_iload dP_putPiece_33 rfl ?_
    refine V_iadd dP_putPiece_35 ?_
    refine V_iret dP_putPiece_36 rfl ⟨?_, rfl, F1, ?_⟩
    · unfold pcN
      rw [if_pos hc, nI_1, nI_add]
    · unfold pcY
      rw [if_pos hc]
      exact X1
end PATCH
