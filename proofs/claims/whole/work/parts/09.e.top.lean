/-! TwoSlots.state -/
theorem w_of {w : Int32} {N : Nat} (hN : N < 2 ^ 31) (h1 : ¬ w.toInt < 0) (h2 : ¬ (N : Int) < w.toInt) : ∃ k : Nat, k ≤ N ∧ w = nI k := by
  have h0 : ¬ w < 0 := by
    rw [Int32.lt_iff_toInt_lt, show (0 : Int32).toInt = 0 from by decide]
    exact h1
  obtain ⟨k, hk, rfl⟩ := nI_of h0
  rw [nI_toInt hk] at h2
  exact ⟨k, by omega, rfl⟩
section TOPE
variable {G : wG} {M M' : aM} {n : Nat} {dr : List Int32} {np : Nat} {vs : Nat → List Int32} {run sta tri tg nx : Nat} {sl : Nat → List Int32} {mr : Nat → Nat} {th : Nat → Bool}
theorem cT_state (h : clsX M dr np vs run sta tri tg nx sl mr th) (hi : inv dr np vs run sta tri tg nx sl mr th) (w : Int32) : Mt G 3 mtT_state [.ref 1, .int w] M n 0 0 (rd M n (spState dr np vs run sta tri tg sl mr th w)) := by
  obtain ⟨i1, i2, i3, i4, i5, i6, i7, i8, i9, i10, i11, i12, i13, i14, -⟩ := hi
  obtain ⟨av, ao, ab, ac, ms, ub, uc, hT, hD, hA, hUu⟩ := h
  obtain ⟨t1, t2, t3⟩ := id hT
  obtain ⟨⟨g, g1, g2⟩, g3⟩ := id hD.2.2.1
  refine Mt.of rfl rfl (Nat.le_of_ble_eq_true rfl) ?_
  refine V_iload_n dT_state_0 rfl ?_
  unfold spState
  by_cases w0 : w = 0
  · subst w0
    rw [if_pos rfl]
    refine V_tableIn (tgt := 60) (off := 59) dT_state_1 (by decide) (by decide) rfl (by decide) ?_
    refine V_aload_n dT_state_60 rfl ?_
    refine V_get dT_state_61 fT_44 (t1) rfl ?_
    refine V_rV0 dT_state_64 clT_118 (Nat.le_of_ble_eq_true rfl) (hD.1) rfl (by decide) (cD_stateNow hD) ?_
    exact V_iret dT_state_67 rfl ⟨rfl, rfl, rfl⟩
  by_cases w1 : w = 1
  · subst w1
    rw [if_neg (show ¬ (1 : Int32) = 0 by decide), if_pos rfl]
    refine V_tableIn (tgt := 68) (off := 67) dT_state_1 (by decide) (by decide) rfl (by decide) ?_
    refine V_aload_n dT_state_68 rfl ?_
    refine V_get dT_state_69 fT_44 (t1) rfl ?_
    refine V_rV0 dT_state_72 clT_121 (Nat.le_of_ble_eq_true rfl) (hD.1) rfl (by decide) (cD_runningSlot hD) ?_
    exact V_iret dT_state_75 rfl ⟨rfl, rfl, rfl⟩
  by_cases w2 : w = 2
  · subst w2
    rw [if_neg (show ¬ (2 : Int32) = 0 by decide), if_neg (show ¬ (2 : Int32) = 1 by decide), if_pos rfl]
    refine V_tableIn (tgt := 76) (off := 75) dT_state_1 (by decide) (by decide) rfl (by decide) ?_
    refine V_aload_n dT_state_76 rfl ?_
    refine V_get dT_state_77 fT_44 (t1) rfl ?_
    refine V_rV0 dT_state_80 clT_124 (Nat.le_of_ble_eq_true rfl) (hD.1) rfl (by decide) (cD_triesNow hD i9) ?_
    exact V_iret dT_state_83 rfl ⟨rfl, rfl, rfl⟩
  by_cases w3 : w = 3
  · subst w3
    rw [if_neg (show ¬ (3 : Int32) = 0 by decide), if_neg (show ¬ (3 : Int32) = 1 by decide), if_neg (show ¬ (3 : Int32) = 2 by decide), if_pos rfl]
    refine V_tableIn (tgt := 84) (off := 83) dT_state_1 (by decide) (by decide) rfl (by decide) ?_
    refine V_aload_n dT_state_84 rfl ?_
    refine V_get dT_state_85 fT_44 (t1) rfl ?_
    refine V_iconst (v := 0) dT_state_88 (by decide) ?_
    refine V_rV1 dT_state_89 clT_127 (Nat.le_of_ble_eq_true rfl) (hD.1) rfl (by decide) (cD_mark hD (k := 0) (by decide)) ?_
    exact V_iret dT_state_92 rfl ⟨rfl, rfl, rfl⟩
  by_cases w4 : w = 4
  · subst w4
    rw [if_neg (show ¬ (4 : Int32) = 0 by decide), if_neg (show ¬ (4 : Int32) = 1 by decide), if_neg (show ¬ (4 : Int32) = 2 by decide), if_neg (show ¬ (4 : Int32) = 3 by decide), if_pos rfl]
    refine V_tableIn (tgt := 93) (off := 92) dT_state_1 (by decide) (by decide) rfl (by decide) ?_
    refine V_aload_n dT_state_93 rfl ?_
    refine V_get dT_state_94 fT_44 (t1) rfl ?_
    refine V_iconst (v := 1) dT_state_97 (by decide) ?_
    refine V_rV1 dT_state_98 clT_127 (Nat.le_of_ble_eq_true rfl) (hD.1) rfl (by decide) (cD_mark hD (k := 1) (by decide)) ?_
    exact V_iret dT_state_101 rfl ⟨rfl, rfl, rfl⟩
  by_cases w5 : w = 5
  · subst w5
    rw [if_neg (show ¬ (5 : Int32) = 0 by decide), if_neg (show ¬ (5 : Int32) = 1 by decide), if_neg (show ¬ (5 : Int32) = 2 by decide), if_neg (show ¬ (5 : Int32) = 3 by decide), if_neg (show ¬ (5 : Int32) = 4 by decide), if_pos rfl]
    refine V_tableIn (tgt := 102) (off := 101) dT_state_1 (by decide) (by decide) rfl (by decide) ?_
    obtain ⟨fs, s1, -⟩ := id (g3 0 (by decide))
    refine V_aload_n dT_state_102 rfl ?_
    refine V_get dT_state_103 fT_44 (t1) rfl ?_
    refine V_iconst (v := 0) dT_state_106 (by decide) ?_
    refine V_callV1 0 0 dT_state_107 clT_108 (Nat.le_of_ble_eq_true rfl) (hD.1) rfl (by decide) (by decide) (by decide) (cD_row hD (k := 0) (by decide)) (fun x M1 n' hQ => ?_)
    obtain ⟨q1, q2, q3⟩ := hQ
    rw [q1, q2, q3]
    refine V_rV0 dT_state_110 clT_52 (Nat.le_of_ble_eq_true rfl) (s1) rfl (by decide) (cR_length (g3 0 (by decide))) ?_
    exact V_iret dT_state_113 rfl ⟨rfl, rfl, rfl⟩
  by_cases w6 : w = 6
  · subst w6
    rw [if_neg (show ¬ (6 : Int32) = 0 by decide), if_neg (show ¬ (6 : Int32) = 1 by decide), if_neg (show ¬ (6 : Int32) = 2 by decide), if_neg (show ¬ (6 : Int32) = 3 by decide), if_neg (show ¬ (6 : Int32) = 4 by decide), if_neg (show ¬ (6 : Int32) = 5 by decide), if_pos rfl]
    refine V_tableIn (tgt := 114) (off := 113) dT_state_1 (by decide) (by decide) rfl (by decide) ?_
    obtain ⟨fs, s1, -⟩ := id (g3 1 (by decide))
    refine V_aload_n dT_state_114 rfl ?_
    refine V_get dT_state_115 fT_44 (t1) rfl ?_
    refine V_iconst (v := 1) dT_state_118 (by decide) ?_
    refine V_callV1 0 0 dT_state_119 clT_108 (Nat.le_of_ble_eq_true rfl) (hD.1) rfl (by decide) (by decide) (by decide) (cD_row hD (k := 1) (by decide)) (fun x M1 n' hQ => ?_)
    obtain ⟨q1, q2, q3⟩ := hQ
    rw [q1, q2, q3]
    refine V_rV0 dT_state_122 clT_52 (Nat.le_of_ble_eq_true rfl) (s1) rfl (by decide) (cR_length (g3 1 (by decide))) ?_
    exact V_iret dT_state_125 rfl ⟨rfl, rfl, rfl⟩
  by_cases w7 : w = 7
  · subst w7
    rw [if_neg (show ¬ (7 : Int32) = 0 by decide), if_neg (show ¬ (7 : Int32) = 1 by decide), if_neg (show ¬ (7 : Int32) = 2 by decide), if_neg (show ¬ (7 : Int32) = 3 by decide), if_neg (show ¬ (7 : Int32) = 4 by decide), if_neg (show ¬ (7 : Int32) = 5 by decide), if_neg (show ¬ (7 : Int32) = 6 by decide), if_pos rfl]
    refine V_tableIn (tgt := 126) (off := 125) dT_state_1 (by decide) (by decide) rfl (by decide) ?_
    refine V_aload_n dT_state_126 rfl ?_
    refine V_get dT_state_127 fT_44 (t1) rfl ?_
    refine V_rV0 dT_state_130 clT_130 (Nat.le_of_ble_eq_true rfl) (hD.1) rfl (by decide) (cD_updateVersion hD i9) ?_
    exact V_iret dT_state_133 rfl ⟨rfl, rfl, rfl⟩
  by_cases w8 : w = 8
  · subst w8
    rw [if_neg (show ¬ (8 : Int32) = 0 by decide), if_neg (show ¬ (8 : Int32) = 1 by decide), if_neg (show ¬ (8 : Int32) = 2 by decide), if_neg (show ¬ (8 : Int32) = 3 by decide), if_neg (show ¬ (8 : Int32) = 4 by decide), if_neg (show ¬ (8 : Int32) = 5 by decide), if_neg (show ¬ (8 : Int32) = 6 by decide), if_neg (show ¬ (8 : Int32) = 7 by decide), if_pos rfl]
    refine V_tableIn (tgt := 134) (off := 133) dT_state_1 (by decide) (by decide) rfl (by decide) ?_
    refine V_aload_n dT_state_134 rfl ?_
    refine V_get dT_state_135 fT_44 (t1) rfl ?_
    refine V_rV0 dT_state_138 clT_133 (Nat.le_of_ble_eq_true rfl) (hD.1) rfl (by decide) (cD_blocksThere hD i9 (fun z => by rw [(hUu z).2]; exact miss_le _ _)) ?_
    refine V_iret dT_state_141 rfl ⟨?_, rfl, rfl⟩
    by_cases z : uwP sta
    · rw [if_pos z, if_pos z, (hUu z).2, (hUu z).1]
    · rw [if_neg z, if_neg z]
  by_cases w9 : w = 9
  · subst w9
    rw [if_neg (show ¬ (9 : Int32) = 0 by decide), if_neg (show ¬ (9 : Int32) = 1 by decide), if_neg (show ¬ (9 : Int32) = 2 by decide), if_neg (show ¬ (9 : Int32) = 3 by decide), if_neg (show ¬ (9 : Int32) = 4 by decide), if_neg (show ¬ (9 : Int32) = 5 by decide), if_neg (show ¬ (9 : Int32) = 6 by decide), if_neg (show ¬ (9 : Int32) = 7 by decide), if_neg (show ¬ (9 : Int32) = 8 by decide), if_pos rfl]
    refine V_tableIn (tgt := 142) (off := 141) dT_state_1 (by decide) (by decide) rfl (by decide) ?_
    refine V_aload_n dT_state_142 rfl ?_
    refine V_get dT_state_143 fT_22 (t1) rfl ?_
    exact V_iret dT_state_146 rfl ⟨rfl, rfl, rfl⟩
  by_cases w10 : w = 10
  · subst w10
    rw [if_neg (show ¬ (10 : Int32) = 0 by decide), if_neg (show ¬ (10 : Int32) = 1 by decide), if_neg (show ¬ (10 : Int32) = 2 by decide), if_neg (show ¬ (10 : Int32) = 3 by decide), if_neg (show ¬ (10 : Int32) = 4 by decide), if_neg (show ¬ (10 : Int32) = 5 by decide), if_neg (show ¬ (10 : Int32) = 6 by decide), if_neg (show ¬ (10 : Int32) = 7 by decide), if_neg (show ¬ (10 : Int32) = 8 by decide), if_neg (show ¬ (10 : Int32) = 9 by decide), if_pos rfl]
    refine V_tableIn (tgt := 147) (off := 146) dT_state_1 (by decide) (by decide) rfl (by decide) ?_
    obtain ⟨fd, d1, -⟩ := id t2
    refine V_aload_n dT_state_147 rfl ?_
    refine V_get dT_state_148 fT_14 (t1) rfl ?_
    refine V_rV0 dT_state_151 clT_52 (Nat.le_of_ble_eq_true rfl) (d1) rfl (by decide) (cR_length t2) ?_
    exact V_iret dT_state_154 rfl ⟨rfl, rfl, rfl⟩
  rw [if_neg w0, if_neg w1, if_neg w2, if_neg w3, if_neg w4, if_neg w5, if_neg w6, if_neg w7, if_neg w8, if_neg w9, if_neg w10]
  refine V_tableOut (tgt := 155) dT_state_1 ?_ (by decide) ?_
  · by_cases q : w.toInt < 0
    · exact Or.inl q
    · by_cases r : 10 < w.toInt
      · exact Or.inr r
      · obtain ⟨k, hk, e⟩ := w_of (N := 10) (by omega) (by omega) (by omega)
        exfalso
        rcases (show k = 0 ∨ k = 1 ∨ k = 2 ∨ k = 3 ∨ k = 4 ∨ k = 5 ∨ k = 6 ∨ k = 7 ∨ k = 8 ∨ k = 9 ∨ k = 10 by omega) with q | q | q | q | q | q | q | q | q | q | q <;> subst q
        · exact w0 e
        · exact w1 e
        · exact w2 e
        · exact w3 e
        · exact w4 e
        · exact w5 e
        · exact w6 e
        · exact w7 e
        · exact w8 e
        · exact w9 e
        · exact w10 e
  · refine V_iconst (v := (-1)) dT_state_155 (by decide) ?_
    exact V_iret dT_state_156 rfl ⟨rfl, rfl, rfl⟩
end TOPE
