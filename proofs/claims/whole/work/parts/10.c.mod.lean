/-! the model: what reads, and its patches -/
def refX (M : aM) (dr : List Int32) (np : Nat) (vs : Nat → List Int32) (run sta tri tg nx : Nat) (sl : Nat → List Int32) (mr : Nat → Nat) (th : Nat → Bool) : Prop :=
  ∃ (bs : List Int32) (cp bl : Nat), modX M dr np vs run sta tri tg nx sl mr th bs cp bl ∧ bl ≤ 9 ∧ (uwP sta → bl = blk (patchOf (vs tg) (vs (mr run))))
def rQ (M : aM) (n : Nat) (x : Int32) (dr : List Int32) (np : Nat) (vs : Nat → List Int32) (run sta tri tg nx : Nat) (sl : Nat → List Int32) (mr : Nat → Nat) (th : Nat → Bool) : zQ := fun v M' n' => v = some (.int x) ∧ n' = n ∧ fM M M' ∧ refX M' dr np vs run sta tri tg nx sl mr th
theorem in0 {v x : Int32} : (0 ≤ v ∧ v ≤ x) ↔ (¬ v < 0 ∧ v ≤ x) := ⟨fun h => ⟨Int32.not_lt.mpr h.1, h.2⟩, fun h => ⟨Int32.not_lt.mp h.1, h.2⟩⟩
theorem in1 {v x : Int32} : (1 ≤ v ∧ v ≤ x) ↔ (¬ v = 0 ∧ ¬ v < 0 ∧ v ≤ x) := by
  have e1 : (1 : Int32).toInt = 1 := by decide
  have e0 : (0 : Int32).toInt = 0 := by decide
  constructor
  · rintro ⟨h1, h2⟩
    rw [Int32.le_iff_toInt_le, e1] at h1
    refine ⟨fun z => ?_, fun z => ?_, h2⟩
    · subst z; omega
    · rw [Int32.lt_iff_toInt_lt, e0] at z; omega
  · rintro ⟨h1, h2, h3⟩
    refine ⟨?_, h3⟩
    rw [Int32.le_iff_toInt_le, e1]
    rw [Int32.lt_iff_toInt_lt, e0] at h2
    rcases Int.lt_or_eq_of_le (Int.not_lt.mp h2) with z | z
    · omega
    · exact absurd (Int32.toInt_inj.mp (by rw [e0]; exact z.symm)) h1
theorem in01 {s : Int32} : (0 ≤ s ∧ s ≤ 1) ↔ isS s := by
  have e1 : (1 : Int32).toInt = 1 := by decide
  have e0 : (0 : Int32).toInt = 0 := by decide
  constructor
  · rintro ⟨h1, h2⟩
    rw [Int32.le_iff_toInt_le, e0] at h1
    rw [Int32.le_iff_toInt_le, e1] at h2
    rcases (show s.toInt = 0 ∨ s.toInt = 1 by omega) with z | z
    · exact Or.inl (Int32.toInt_inj.mp (by rw [e0]; exact z))
    · exact Or.inr (Int32.toInt_inj.mp (by rw [e1]; exact z))
  · rintro (rfl | rfl) <;> decide
section MOC
variable {G : wG} {M M' : aM} {n : Nat} {dr : List Int32} {np : Nat} {vs : Nat → List Int32} {run sta tri tg nx : Nat} {sl : Nat → List Int32} {mr : Nat → Nat} {th : Nat → Bool} {bs : List Int32} {cp bl : Nat}
theorem cM_pair (h : modX M dr np vs run sta tri tg nx sl mr th bs cp bl) (v o : Int32) : Mt G 1 mtM_pair [.ref 33, .int v, .int o] M n 0 0 (rd M n (if okPair np v o then 1 else 0)) := by
  refine Mt.of rfl rfl (Nat.le_of_ble_eq_true rfl) ?_
  refine V_iload_n dM_pair_0 rfl ?_
  refine V_iconst (v := 1) dM_pair_1 (by decide) ?_
  refine V_aload_n dM_pair_2 rfl ?_
  refine V_get dM_pair_3 fM_43 (h.1) rfl ?_
  refine V_rS3 dM_pair_6 clM_35 (Nat.le_of_ble_eq_true rfl) (by decide) (cM_in v _ _) ?_
  refine V_if_eq (tgt := 28) dM_pair_9 (by decide) (fun c1 => ?_) (fun c1 => ?_)
  · refine V_iconst (v := 0) dM_pair_28 (by decide) ?_
    refine V_zret dM_pair_29 rfl rfl ⟨?_, rfl, rfl⟩
    rw [if_neg (fun q => if00 c1 (in1.mpr ⟨q.1, q.2.1⟩))]
  · refine V_iload_n dM_pair_12 rfl ?_
    refine V_iconst (v := 0) dM_pair_13 (by decide) ?_
    refine V_aload_n dM_pair_14 rfl ?_
    refine V_get dM_pair_15 fM_43 (h.1) rfl ?_
    refine V_rS3 dM_pair_18 clM_35 (Nat.le_of_ble_eq_true rfl) (by decide) (cM_in o _ _) ?_
    refine V_if_eq (tgt := 28) dM_pair_21 (by decide) (fun c2 => ?_) (fun c2 => ?_)
    · refine V_iconst (v := 0) dM_pair_28 (by decide) ?_
      refine V_zret dM_pair_29 rfl rfl ⟨?_, rfl, rfl⟩
      rw [if_neg (fun q => if00 c2 (in0.mpr q.2.2))]
    · refine V_iconst (v := 1) dM_pair_24 (by decide) ?_
      refine V_goto (tgt := 29) dM_pair_25 (by decide) ?_
      refine V_zret dM_pair_29 rfl rfl ⟨?_, rfl, rfl⟩
      have z1 := in1.mp (if10 c1)
      rw [if_pos ⟨z1.1, z1.2, in0.mp (if10 c2)⟩]
theorem cM_underWay (h : modX M dr np vs run sta tri tg nx sl mr th bs cp bl) (hs : sta ≤ 4) : Mt G 0 mtM_underWay [.ref 33] M n 0 0 (rd M n (if uwP sta then 1 else 0)) := by
  have h1 := h.1
  refine Mt.of rfl rfl (Nat.le_of_ble_eq_true rfl) ?_
  refine V_aload_n dM_underWay_0 rfl ?_
  refine V_get dM_underWay_1 fM_68 (h1) rfl ?_
  refine V_iconst (v := 1) dM_underWay_4 (by decide) ?_
  refine V_icmp_eq (tgt := 24) dM_underWay_5 (by decide) (fun c1 => ?_) (fun c1 => ?_)
  · have e : sta = 1 := (nI_eq (b := 1) (by omega) (by omega)).mp c1
    refine V_iconst (v := 1) dM_underWay_24 (by decide) ?_
    refine V_goto (tgt := 29) dM_underWay_25 (by decide) ?_
    refine V_zret dM_underWay_29 rfl rfl ⟨?_, rfl, rfl⟩
    rw [if_pos (Or.inl e)]
  · have e1 : ¬ sta = 1 := fun q => c1 (by rw [q]; rfl)
    refine V_aload_n dM_underWay_8 rfl ?_
    refine V_get dM_underWay_9 fM_68 (h1) rfl ?_
    refine V_iconst (v := 2) dM_underWay_12 (by decide) ?_
    refine V_icmp_eq (tgt := 24) dM_underWay_13 (by decide) (fun c2 => ?_) (fun c2 => ?_)
    · have e : sta = 2 := (nI_eq (b := 2) (by omega) (by omega)).mp c2
      refine V_iconst (v := 1) dM_underWay_24 (by decide) ?_
      refine V_goto (tgt := 29) dM_underWay_25 (by decide) ?_
      refine V_zret dM_underWay_29 rfl rfl ⟨?_, rfl, rfl⟩
      rw [if_pos (Or.inr (Or.inl e))]
    · have e2 : ¬ sta = 2 := fun q => c2 (by rw [q]; rfl)
      refine V_aload_n dM_underWay_16 rfl ?_
      refine V_get dM_underWay_17 fM_68 (h1) rfl ?_
      refine V_iconst (v := 3) dM_underWay_20 (by decide) ?_
      refine V_icmp_ne (tgt := 28) dM_underWay_21 (by decide) (fun c3 => ?_) (fun c3 => ?_)
      · refine V_iconst (v := 0) dM_underWay_28 (by decide) ?_
        refine V_zret dM_underWay_29 rfl rfl ⟨?_, rfl, rfl⟩
        have e3 : ¬ sta = 3 := fun q => c3 (by rw [q]; rfl)
        rw [if_neg (by omega)]
      · have e : sta = 3 := (nI_eq (b := 3) (by omega) (by omega)).mp c3
        refine V_iconst (v := 1) dM_underWay_24 (by decide) ?_
        refine V_goto (tgt := 29) dM_underWay_25 (by decide) ?_
        refine V_zret dM_underWay_29 rfl rfl ⟨?_, rfl, rfl⟩
        rw [if_pos (Or.inr (Or.inr e))]
theorem lM_missing (h : modX M dr np vs run sta tri tg nx sl mr th bs cp bl) (hb : bl ≤ 9) : ∀ (j i : Nat), i + j = bl → V G mtM_missing 0 (rd M n (nI (miss th bl))) 0 0 4 [some (.ref 33), some (.int (nI (miss th i))), some (.int (nI i))] [] M n := by
  obtain ⟨h1, h2, h3, h4, h5, h6, ⟨f, f1, f2⟩⟩ := id h
  intro j
  induction j with
  | zero =>
    intro i e
    have e : i = bl := by omega
    subst e
    refine V_iload_n dM_missing_4 rfl ?_
    refine V_aload_n dM_missing_5 rfl ?_
    refine V_get dM_missing_6 fM_77 (h1) rfl ?_
    refine V_icmp_ge (tgt := 30) dM_missing_9 (by decide) (fun c => ?_) (fun c => ?_)
    · refine V_iload_n dM_missing_30 rfl ?_
      exact V_iret dM_missing_31 rfl ⟨rfl, rfl, rfl⟩
    · exact absurd (nI_le (Nat.le_refl _) (by omega)) c
  | succ j ih =>
    intro i e
    have ih' := ih (i + 1) (by omega)
    have hs : miss th (i + 1) = if th i = true then miss th i else miss th i + 1 := rfl
    rw [hs] at ih'
    refine V_iload_n dM_missing_4 rfl ?_
    refine V_aload_n dM_missing_5 rfl ?_
    refine V_get dM_missing_6 fM_77 (h1) rfl ?_
    refine V_icmp_ge (tgt := 30) dM_missing_9 (by decide) (fun c => ?_) (fun c => ?_)
    · exact absurd c (nI_ge (by omega) (by omega))
    · refine V_aload_n dM_missing_12 rfl ?_
      refine V_get dM_missing_13 fM_31 (h1) rfl ?_
      refine V_iload_n dM_missing_16 rfl ?_
      refine V_kzald dM_missing_17 (f1) rfl (show i < 32 by omega) (by decide) (f2 i (by omega)) ?_
      refine V_if_ne (tgt := 24) dM_missing_18 (by decide) (fun c2 => ?_) (fun c2 => ?_)
      · rw [if_pos (if10 c2)] at ih'
        refine V_iinc (v := _ + 1) dM_missing_24 (by decide) rfl rfl ?_
        refine V_goto (tgt := 4) dM_missing_27 (by decide) ?_
        rw [nI_1]
        exact ih'
      · rw [if_neg (if00 c2)] at ih'
        refine V_iinc (v := _ + 1) dM_missing_21 (by decide) rfl rfl ?_
        refine V_iinc (v := _ + 1) dM_missing_24 (by decide) rfl rfl ?_
        refine V_goto (tgt := 4) dM_missing_27 (by decide) ?_
        rw [nI_1, nI_1]
        exact ih'
theorem cM_missing (h : modX M dr np vs run sta tri tg nx sl mr th bs cp bl) (hb : bl ≤ 9) : Mt G 0 mtM_missing [.ref 33] M n 0 0 (rd M n (nI (miss th bl))) := by
  refine Mt.of rfl rfl (Nat.le_of_ble_eq_true rfl) ?_
  refine V_iconst (v := 0) dM_missing_0 (by decide) ?_
  refine V_istore_n dM_missing_1 (by decide) ?_
  refine V_iconst (v := 0) dM_missing_2 (by decide) ?_
  refine V_istore_n dM_missing_3 (by decide) ?_
  exact lM_missing h hb bl 0 (by omega)
theorem lM_check1 {s : Nat} (h : modX M dr np vs run sta tri tg nx sl mr th bs cp bl) (hs : s < 2) (hl : (sl s).length ≤ 40) : ∀ (j i : Nat), i + j = (sl s).length → V G mtM_check 0 (rd M n (chk (sl s))) 0 0 7 [some (.ref 33), some (.int (nI (40 * s))), some (.int (nI (sl s).length)), some (.int 1), some (.int (chk ((sl s).take i))), some (.int (nI (40 * s + i)))] [] M n := by
  obtain ⟨h1, h2, h3, h4, ⟨fr, fL, r1, r2, r3, r4⟩, -⟩ := id h
  intro j
  induction j with
  | zero =>
    intro i e
    have e : i = (sl s).length := by omega
    subst e
    refine V_iload dM_check_7 rfl ?_
    refine V_iload_n dM_check_9 rfl ?_
    refine V_iload_n dM_check_10 rfl ?_
    refine V_iadd dM_check_11 ?_
    rw [nI_add]
    refine V_icmp_ge (tgt := 53) dM_check_12 (by decide) (fun c => ?_) (fun c => ?_)
    · refine V_iload dM_check_53 rfl ?_
      exact V_iret dM_check_55 rfl ⟨by rw [List.take_length], rfl, rfl⟩
    · exact absurd (nI_le (Nat.le_refl _) (by omega)) c
  | succ j ih =>
    intro i e
    refine V_iload dM_check_7 rfl ?_
    refine V_iload_n dM_check_9 rfl ?_
    refine V_iload_n dM_check_10 rfl ?_
    refine V_iadd dM_check_11 ?_
    rw [nI_add]
    refine V_icmp_ge (tgt := 53) dM_check_12 (by decide) (fun c => ?_) (fun c => ?_)
    · exact absurd c (nI_ge (by omega) (by omega))
    · refine V_iload dM_check_15 rfl ?_
      refine V_bipush (v := 31) dM_check_17 (by decide) ?_
      refine V_imul dM_check_19 ?_
      refine V_iload_n dM_check_20 rfl ?_
      refine V_if_eq (tgt := 34) dM_check_21 (by decide) (fun c2 => ?_) (fun c2 => ?_)
      · exact absurd c2 (by decide)
      · refine V_aload_n dM_check_24 rfl ?_
        refine V_get dM_check_25 fM_22 (h1) rfl ?_
        refine V_iload dM_check_28 rfl ?_
        refine V_kiald dM_check_30 (r1) rfl (show 40 * s + i < 80 by omega) (by decide) (r3 s hs i (by omega)) ?_
        refine V_goto (tgt := 41) dM_check_31 (by decide) ?_
        refine V_iadd dM_check_41 ?_
        refine V_ldc (v := 65535) dM_check_42 ldM_104 ?_
        refine V_iand dM_check_44 ?_
        refine V_istore dM_check_45 (by decide) ?_
        refine V_iinc (v := _ + 1) dM_check_47 (by decide) rfl rfl ?_
        refine V_goto (tgt := 7) dM_check_50 (by decide) ?_
        have := ih (i + 1) (by omega)
        rw [chk_s (by omega)] at this
        rw [nI_1]
        exact this
theorem lM_check0 {v : Nat} (h : modX M dr np vs run sta tri tg nx sl mr th bs cp bl) (hv : v < 7) (hl : (vs v).length ≤ 40) : ∀ (j i : Nat), i + j = (vs v).length → V G mtM_check 0 (rd M n (chk (vs v))) 0 0 7 [some (.ref 33), some (.int (nI (40 * v))), some (.int (nI (vs v).length)), some (.int 0), some (.int (chk ((vs v).take i))), some (.int (nI (40 * v + i)))] [] M n := by
  obtain ⟨h1, ⟨fv, fl, v1, v2, v3, v4⟩, -⟩ := id h
  intro j
  induction j with
  | zero =>
    intro i e
    have e : i = (vs v).length := by omega
    subst e
    refine V_iload dM_check_7 rfl ?_
    refine V_iload_n dM_check_9 rfl ?_
    refine V_iload_n dM_check_10 rfl ?_
    refine V_iadd dM_check_11 ?_
    rw [nI_add]
    refine V_icmp_ge (tgt := 53) dM_check_12 (by decide) (fun c => ?_) (fun c => ?_)
    · refine V_iload dM_check_53 rfl ?_
      exact V_iret dM_check_55 rfl ⟨by rw [List.take_length], rfl, rfl⟩
    · exact absurd (nI_le (Nat.le_refl _) (by omega)) c
  | succ j ih =>
    intro i e
    refine V_iload dM_check_7 rfl ?_
    refine V_iload_n dM_check_9 rfl ?_
    refine V_iload_n dM_check_10 rfl ?_
    refine V_iadd dM_check_11 ?_
    rw [nI_add]
    refine V_icmp_ge (tgt := 53) dM_check_12 (by decide) (fun c => ?_) (fun c => ?_)
    · exact absurd c (nI_ge (by omega) (by omega))
    · refine V_iload dM_check_15 rfl ?_
      refine V_bipush (v := 31) dM_check_17 (by decide) ?_
      refine V_imul dM_check_19 ?_
      refine V_iload_n dM_check_20 rfl ?_
      refine V_if_eq (tgt := 34) dM_check_21 (by decide) (fun c2 => ?_) (fun c2 => ?_)
      · refine V_aload_n dM_check_34 rfl ?_
        refine V_get dM_check_35 fM_7 (h1) rfl ?_
        refine V_iload dM_check_38 rfl ?_
        refine V_kiald dM_check_40 (v1) rfl (show 40 * v + i < 280 by omega) (by decide) (v3 v hv i (by omega)) ?_
        refine V_iadd dM_check_41 ?_
        refine V_ldc (v := 65535) dM_check_42 ldM_104 ?_
        refine V_iand dM_check_44 ?_
        refine V_istore dM_check_45 (by decide) ?_
        refine V_iinc (v := _ + 1) dM_check_47 (by decide) rfl rfl ?_
        refine V_goto (tgt := 7) dM_check_50 (by decide) ?_
        have := ih (i + 1) (by omega)
        rw [chk_s (by omega)] at this
        rw [nI_1]
        exact this
      · exact absurd rfl c2
theorem cM_check1 {s : Nat} (h : modX M dr np vs run sta tri tg nx sl mr th bs cp bl) (hs : s < 2) (hl : (sl s).length ≤ 40) : Mt G 0 mtM_check [.ref 33, .int (nI (40 * s)), .int (nI (sl s).length), .int 1] M n 0 0 (rd M n (chk (sl s))) := by
  refine Mt.of rfl rfl (Nat.le_of_ble_eq_true rfl) ?_
  refine V_bipush (v := 17) dM_check_0 (by decide) ?_
  refine V_istore dM_check_2 (by decide) ?_
  refine V_iload_n dM_check_4 rfl ?_
  refine V_istore dM_check_5 (by decide) ?_
  exact lM_check1 h hs hl (sl s).length 0 (by omega)
theorem cM_check0 {v : Nat} (h : modX M dr np vs run sta tri tg nx sl mr th bs cp bl) (hv : v < 7) (hl : (vs v).length ≤ 40) : Mt G 0 mtM_check [.ref 33, .int (nI (40 * v)), .int (nI (vs v).length), .int 0] M n 0 0 (rd M n (chk (vs v))) := by
  refine Mt.of rfl rfl (Nat.le_of_ble_eq_true rfl) ?_
  refine V_bipush (v := 17) dM_check_0 (by decide) ?_
  refine V_istore dM_check_2 (by decide) ?_
  refine V_iload_n dM_check_4 rfl ?_
  refine V_istore dM_check_5 (by decide) ?_
  exact lM_check0 h hv hl (vs v).length 0 (by omega)
theorem cM_sound (h : modX M dr np vs run sta tri tg nx sl mr th bs cp bl) (hm : ∀ k, k < 2 → mr k < 7) (hv : ∀ v, (vs v).length ≤ 40) (hsl : ∀ k, k < 2 → (sl k).length ≤ 40) (s : Int32) : Mt G 1 mtM_sound [.ref 33, .int s] M n 0 0 (rd M n (spSound vs sl mr s)) := by
  obtain ⟨h1, ⟨fv, fl, v1, v2, v3, v4⟩, h3, h4, ⟨fr, fL, r1, r2, r3, r4⟩, ⟨fm, m1, m2⟩, -⟩ := id h
  refine Mt.of rfl rfl (Nat.le_of_ble_eq_true rfl) ?_
  unfold spSound
  refine V_iload_n dM_sound_0 rfl ?_
  refine V_iconst (v := 0) dM_sound_1 (by decide) ?_
  refine V_iconst (v := 1) dM_sound_2 (by decide) ?_
  refine V_rS3 dM_sound_3 clM_35 (Nat.le_of_ble_eq_true rfl) (by decide) (cM_in s _ _) ?_
  refine V_if_eq (tgt := 29) dM_sound_6 (by decide) (fun c1 => ?_) (fun c1 => ?_)
  · rw [if_neg (fun q => if00 c1 (in01.mpr q.1))]
    refine V_iconst (v := 0) dM_sound_29 (by decide) ?_
    exact V_zret dM_sound_30 rfl rfl ⟨rfl, rfl, rfl⟩
  · have hS := in01.mp (if10 c1)
    obtain ⟨k, hk, e, eb⟩ := isS_of hS
    rw [eb]
    subst e
    have hmk := hm k hk
    have hlk := hsl k hk
    have hvk := hv (mr k)
    refine V_aload_n dM_sound_9 rfl ?_
    refine V_get dM_sound_10 fM_25 (h1) rfl ?_
    refine V_iload_n dM_sound_13 rfl ?_
    refine V_kiald dM_sound_14 (r2) rfl (hk) (by decide) (r4 k hk) ?_
    refine V_aload_n dM_sound_15 rfl ?_
    refine V_get dM_sound_16 fM_13 (h1) rfl ?_
    refine V_aload_n dM_sound_19 rfl ?_
    refine V_get dM_sound_20 fM_28 (h1) rfl ?_
    refine V_iload_n dM_sound_23 rfl ?_
    refine V_kiald dM_sound_24 (m1) rfl (hk) (by decide) (m2 k hk) ?_
    refine V_kiald dM_sound_25 (v2) rfl (hmk) (by decide) (v4 _ hmk) ?_
    refine V_icmp_eq (tgt := 31) dM_sound_26 (by decide) (fun c2 => ?_) (fun c2 => ?_)
    · have c2' := (nI_eq (by omega) (by omega)).mp c2
      refine V_aload_n dM_sound_31 rfl ?_
      refine V_bipush (v := 40) dM_sound_32 (by decide) ?_
      refine V_iload_n dM_sound_34 rfl ?_
      refine V_imul dM_sound_35 ?_
      refine V_aload_n dM_sound_36 rfl ?_
      refine V_get dM_sound_37 fM_25 (h1) rfl ?_
      refine V_iload_n dM_sound_40 rfl ?_
      refine V_kiald dM_sound_41 (r2) rfl (hk) (by decide) (r4 k hk) ?_
      refine V_iconst (v := 1) dM_sound_42 (by decide) ?_
      rw [m40]
      refine V_rV3 dM_sound_43 clM_108 (Nat.le_of_ble_eq_true rfl) (h1) rfl (by decide) (cM_check1 h hk hlk) ?_
      refine V_aload_n dM_sound_46 rfl ?_
      refine V_bipush (v := 40) dM_sound_47 (by decide) ?_
      refine V_aload_n dM_sound_49 rfl ?_
      refine V_get dM_sound_50 fM_28 (h1) rfl ?_
      refine V_iload_n dM_sound_53 rfl ?_
      refine V_kiald dM_sound_54 (m1) rfl (hk) (by decide) (m2 k hk) ?_
      refine V_imul dM_sound_55 ?_
      refine V_aload_n dM_sound_56 rfl ?_
      refine V_get dM_sound_57 fM_25 (h1) rfl ?_
      refine V_iload_n dM_sound_60 rfl ?_
      refine V_kiald dM_sound_61 (r2) rfl (hk) (by decide) (r4 k hk) ?_
      refine V_iconst (v := 0) dM_sound_62 (by decide) ?_
      rw [m40, c2]
      refine V_rV3 dM_sound_63 clM_108 (Nat.le_of_ble_eq_true rfl) (h1) rfl (by decide) (cM_check0 h hmk hvk) ?_
      refine V_icmp_ne (tgt := 73) dM_sound_66 (by decide) (fun c3 => ?_) (fun c3 => ?_)
      · rw [if_neg (fun q => c3 q.2.2)]
        refine V_iconst (v := 0) dM_sound_73 (by decide) ?_
        exact V_zret dM_sound_74 rfl rfl ⟨rfl, rfl, rfl⟩
      · rw [if_pos ⟨hS, c2', c3⟩]
        refine V_iconst (v := 1) dM_sound_69 (by decide) ?_
        refine V_goto (tgt := 74) dM_sound_70 (by decide) ?_
        exact V_zret dM_sound_74 rfl rfl ⟨rfl, rfl, rfl⟩
    · rw [if_neg (fun q => c2 (by rw [q.2.1]))]
      refine V_iconst (v := 0) dM_sound_29 (by decide) ?_
      exact V_zret dM_sound_30 rfl rfl ⟨rfl, rfl, rfl⟩
theorem cM_patch (h : refX M dr np vs run sta tri tg nx sl mr th) (hi : inv dr np vs run sta tri tg nx sl mr th) (v o : Int32) : Mt G 2 mtM_patch [.ref 33, .int v, .int o] M n 0 0 (rQ M n (spPatch np vs v o) dr np vs run sta tri tg nx sl mr th) := by
  obtain ⟨i1, i2, i3, i4, -⟩ := hi
  have h' := h
  obtain ⟨bs, cp, bl, hM, hb, hu⟩ := h
  refine Mt.of rfl rfl (Nat.le_of_ble_eq_true rfl) ?_
  unfold spPatch
  refine V_aload_n dM_patch_0 rfl ?_
  refine V_iload_n dM_patch_1 rfl ?_
  refine V_iload_n dM_patch_2 rfl ?_
  refine V_rV2 dM_patch_3 clM_60 (Nat.le_of_ble_eq_true rfl) (hM.1) rfl (by decide) (cM_pair hM v o) ?_
  refine V_if_ne (tgt := 11) dM_patch_6 (by decide) (fun c => ?_) (fun c => ?_)
  · have hp := if10 c
    obtain ⟨a, ha, e, eb⟩ := inV_of hp.2.1 i3
    obtain ⟨b, hb', e', eb'⟩ := inV_of hp.2.2 i3
    rw [if_pos hp, eb, eb']
    subst e; subst e'
    refine V_aload_n dM_patch_11 rfl ?_
    refine V_iload_n dM_patch_12 rfl ?_
    refine V_iload_n dM_patch_13 rfl ?_
    refine V_callV2 0 0 dM_patch_14 clM_64 (Nat.le_of_ble_eq_true rfl) (hM.1) rfl (by decide) (by decide) (by decide) (cM_make hM (show a < 7 by omega) (show b < 7 by omega) (i4 a) (i4 b)) (fun x M1 n' hQ => ?_)
    obtain ⟨q1, q2, q3, q4⟩ := hQ
    subst q1; subst q2
    refine V_aload_n dM_patch_17 rfl ?_
    refine V_get dM_patch_18 fM_46 (q4.1) rfl ?_
    exact V_iret dM_patch_21 rfl ⟨rfl, rfl, q3, _, _, _, q4, hb, hu⟩
  · rw [if_neg (if00 c)]
    refine V_iconst (v := (-1)) dM_patch_9 (by decide) ?_
    exact V_iret dM_patch_10 rfl ⟨rfl, rfl, fM.rf, h'⟩
theorem cM_saved (h : refX M dr np vs run sta tri tg nx sl mr th) (hi : inv dr np vs run sta tri tg nx sl mr th) (v o : Int32) : Mt G 2 mtM_saved [.ref 33, .int v, .int o] M n 0 0 (rQ M n (spSaved np vs v o) dr np vs run sta tri tg nx sl mr th) := by
  obtain ⟨i1, i2, i3, i4, -⟩ := hi
  have h' := h
  obtain ⟨bs, cp, bl, hM, hb, hu⟩ := h
  refine Mt.of rfl rfl (Nat.le_of_ble_eq_true rfl) ?_
  unfold spSaved
  refine V_aload_n dM_saved_0 rfl ?_
  refine V_iload_n dM_saved_1 rfl ?_
  refine V_iload_n dM_saved_2 rfl ?_
  refine V_rV2 dM_saved_3 clM_60 (Nat.le_of_ble_eq_true rfl) (hM.1) rfl (by decide) (cM_pair hM v o) ?_
  refine V_if_ne (tgt := 11) dM_saved_6 (by decide) (fun c => ?_) (fun c => ?_)
  · have hp := if10 c
    obtain ⟨a, ha, e, eb⟩ := inV_of hp.2.1 i3
    obtain ⟨b, hb', e', eb'⟩ := inV_of hp.2.2 i3
    rw [if_pos hp, eb, eb']
    subst e; subst e'
    refine V_aload_n dM_saved_11 rfl ?_
    refine V_iload_n dM_saved_12 rfl ?_
    refine V_iload_n dM_saved_13 rfl ?_
    refine V_callV2 0 0 dM_saved_14 clM_64 (Nat.le_of_ble_eq_true rfl) (hM.1) rfl (by decide) (by decide) (by decide) (cM_make hM (show a < 7 by omega) (show b < 7 by omega) (i4 a) (i4 b)) (fun x M1 n' hQ => ?_)
    obtain ⟨q1, q2, q3, q4⟩ := hQ
    subst q1; subst q2
    refine V_aload_n dM_saved_17 rfl ?_
    refine V_get dM_saved_18 fM_49 (q4.1) rfl ?_
    exact V_iret dM_saved_21 rfl ⟨rfl, rfl, q3, _, _, _, q4, hb, hu⟩
  · rw [if_neg (if00 c)]
    refine V_iconst (v := (-1)) dM_saved_9 (by decide) ?_
    exact V_iret dM_saved_10 rfl ⟨rfl, rfl, fM.rf, h'⟩
theorem cM_patchByte (h : refX M dr np vs run sta tri tg nx sl mr th) (hi : inv dr np vs run sta tri tg nx sl mr th) (v o i : Int32) : Mt G 2 mtM_patchByte [.ref 33, .int v, .int o, .int i] M n 0 0 (rQ M n (spByte np vs v o i) dr np vs run sta tri tg nx sl mr th) := by
  obtain ⟨i1, i2, i3, i4, -⟩ := hi
  have h' := h
  obtain ⟨bs, cp, bl, hM, hb, hu⟩ := h
  refine Mt.of rfl rfl (Nat.le_of_ble_eq_true rfl) ?_
  unfold spByte
  refine V_aload_n dM_patchByte_0 rfl ?_
  refine V_iload_n dM_patchByte_1 rfl ?_
  refine V_iload_n dM_patchByte_2 rfl ?_
  refine V_rV2 dM_patchByte_3 clM_60 (Nat.le_of_ble_eq_true rfl) (hM.1) rfl (by decide) (cM_pair hM v o) ?_
  refine V_if_ne (tgt := 11) dM_patchByte_6 (by decide) (fun c => ?_) (fun c => ?_)
  · have hp := if10 c
    obtain ⟨a, ha, e, eb⟩ := inV_of hp.2.1 i3
    obtain ⟨b, hb', e', eb'⟩ := inV_of hp.2.2 i3
    rw [if_pos hp, eb, eb']
    subst e; subst e'
    have hl := patchOf_len (vs a) (vs b) (i4 a)
    refine V_aload_n dM_patchByte_11 rfl ?_
    refine V_iload_n dM_patchByte_12 rfl ?_
    refine V_iload_n dM_patchByte_13 rfl ?_
    refine V_callV2 0 0 dM_patchByte_14 clM_64 (Nat.le_of_ble_eq_true rfl) (hM.1) rfl (by decide) (by decide) (by decide) (cM_make hM (show a < 7 by omega) (show b < 7 by omega) (i4 a) (i4 b)) (fun x M1 n' hQ => ?_)
    obtain ⟨q1, q2, q3, q4⟩ := hQ
    subst q1; subst q2
    refine V_iload_n dM_patchByte_17 rfl ?_
    refine V_if_lt (tgt := 38) dM_patchByte_18 (by decide) (fun c1 => ?_) (fun c1 => ?_)
    · rw [if_neg (fun q => q.1 c1)]
      refine V_iconst (v := (-1)) dM_patchByte_38 (by decide) ?_
      exact V_iret dM_patchByte_39 rfl ⟨rfl, rfl, q3, _, _, _, q4, hb, hu⟩
    · refine V_iload_n dM_patchByte_21 rfl ?_
      refine V_aload_n dM_patchByte_22 rfl ?_
      refine V_get dM_patchByte_23 fM_46 (q4.1) rfl ?_
      refine V_icmp_ge (tgt := 38) dM_patchByte_26 (by decide) (fun c2 => ?_) (fun c2 => ?_)
      · rw [if_neg (fun q => Int32.not_lt.mpr c2 q.2)]
        refine V_iconst (v := (-1)) dM_patchByte_38 (by decide) ?_
        exact V_iret dM_patchByte_39 rfl ⟨rfl, rfl, q3, _, _, _, q4, hb, hu⟩
      · have hx : xIn (patchOf (vs a) (vs b)) i := ⟨c1, Int32.not_le.mp c2⟩
        rw [if_pos hx]
        obtain ⟨k, hk, e⟩ := xIn_of (by omega) hx
        subst e
        obtain ⟨fp, p1, p2⟩ := id q4.2.2.2.1
        refine V_aload_n dM_patchByte_29 rfl ?_
        refine V_get dM_patchByte_30 fM_19 (q4.1) rfl ?_
        refine V_iload_n dM_patchByte_33 rfl ?_
        refine V_kiald dM_patchByte_34 (p1) rfl (show k < 128 by omega) (by decide) (p2 k hk) ?_
        refine V_goto (tgt := 39) dM_patchByte_35 (by decide) ?_
        refine V_iret dM_patchByte_39 rfl ⟨?_, rfl, q3, _, _, _, q4, hb, hu⟩
        rw [rAt_nI (by omega) (by omega)]
  · rw [if_neg (if00 c)]
    refine V_iconst (v := (-1)) dM_patchByte_9 (by decide) ?_
    exact V_iret dM_patchByte_10 rfl ⟨rfl, rfl, fM.rf, h'⟩
theorem cM_confirm (h : refX M dr np vs run sta tri tg nx sl mr th) (hs : sta ≤ 4) : Mt G 0 mtM_confirm [.ref 33] M n 0 0 (rQ M n (spConfirm sta).1 dr np vs run (spConfirm sta).2 tri tg nx sl mr th) := by
  have h' := h
  obtain ⟨bs, cp, bl, hM, hb, hu⟩ := h
  have h1 := hM.1
  refine Mt.of rfl rfl (Nat.le_of_ble_eq_true rfl) ?_
  unfold spConfirm
  refine V_aload_n dM_confirm_0 rfl ?_
  refine V_get dM_confirm_1 fM_68 (h1) rfl ?_
  refine V_iconst (v := 4) dM_confirm_4 (by decide) ?_
  refine V_icmp_eq (tgt := 11) dM_confirm_5 (by decide) (fun c => ?_) (fun c => ?_)
  · have e : sta = 4 := (nI_eq (b := 4) (by omega) (by omega)).mp c
    rw [if_pos e]
    refine V_aload_n dM_confirm_11 rfl ?_
    refine V_iconst (v := 0) dM_confirm_12 (by decide) ?_
    refine V_put dM_confirm_13 fM_68 (h1) rfl rfl (Nat.le_of_ble_eq_true rfl) ?_
    obtain ⟨e1, a1⟩ := hM.fld (np' := np) (run' := run) (sta' := 0) (tri' := tri) (tg' := tg) (nx' := nx) (cp' := cp) (bl' := bl) rfl
    refine V_iconst (v := 0) dM_confirm_16 (by decide) ?_
    exact V_iret dM_confirm_17 rfl ⟨rfl, rfl, a1, _, _, _, e1, hb, fun z => by have z : uwP 0 := z; omega⟩
  · have e : ¬ sta = 4 := fun q => c (by rw [q]; rfl)
    rw [if_neg e]
    refine V_bipush (v := (-4)) dM_confirm_8 (by decide) ?_
    exact V_iret dM_confirm_10 rfl ⟨rfl, rfl, fM.rf, h'⟩
end MOC
