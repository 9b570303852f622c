/-! the law -/
theorem clsX.frame {M M' : aM} {dr : List Int32} {np : Nat} {vs : Nat → List Int32} {run sta tri tg nx : Nat} {sl : Nat → List Int32} {mr : Nat → Nat} {th : Nat → Bool} (h : clsX M dr np vs run sta tri tg nx sl mr th) (a : fM M M') : clsX M' dr np vs run sta tri tg nx sl mr th := by
  obtain ⟨av, ao, ab, ac, ms, ub, uc, hT, hD, hA, hUu⟩ := h
  exact ⟨av, ao, ab, ac, ms, ub, uc, hT.frame (fun q hq => a q (by omega)), hD.frame (fun q hq => a q (by omega)), hA, hUu⟩
theorem refX.frame {M M' : aM} {dr : List Int32} {np : Nat} {vs : Nat → List Int32} {run sta tri tg nx : Nat} {sl : Nat → List Int32} {mr : Nat → Nat} {th : Nat → Bool} (h : refX M dr np vs run sta tri tg nx sl mr th) (a : ∀ q, 33 ≤ q → M' q = M q) : refX M' dr np vs run sta tri tg nx sl mr th := by
  obtain ⟨bs, cp, bl, ⟨h1, h2, h3, h4, h5, h6, h7⟩, hb, hu⟩ := h
  have ag : ∀ lo hi, 33 ≤ lo → agr M M' lo hi := fun lo hi z q z1 z2 => a q (by omega)
  exact ⟨bs, cp, bl, ⟨(a 33 (by omega)).trans h1, h2.frame (ag _ _ (by omega)), h3.frame (ag _ _ (by omega)), h4.frame (ag _ _ (by omega)), h5.frame (ag _ _ (by omega)), h6.frame (ag _ _ (by omega)), h7.frame (ag _ _ (by omega))⟩, hb, hu⟩
theorem clsX.obj {M : aM} {dr : List Int32} {np : Nat} {vs : Nat → List Int32} {run sta tri tg nx : Nat} {sl : Nat → List Int32} {mr : Nat → Nat} {th : Nat → Bool} (h : clsX M dr np vs run sta tri tg nx sl mr th) : ∃ fs, M 1 = some (.inr (3, fs)) := by
  obtain ⟨av, ao, ab, ac, ms, ub, uc, hT, -⟩ := h
  exact ⟨_, hT.1⟩
theorem refX.obj {M : aM} {dr : List Int32} {np : Nat} {vs : Nat → List Int32} {run sta tri tg nx : Nat} {sl : Nat → List Int32} {mr : Nat → Nat} {th : Nat → Bool} (h : refX M dr np vs run sta tri tg nx sl mr th) : ∃ fs, M 33 = some (.inr (4, fs)) := by
  obtain ⟨bs, cp, bl, hM, -⟩ := h
  exact ⟨_, hM.1⟩
section LAW
variable {G : wG} {n : Nat}
theorem V_ks {mt : mT} {d : Nat} {Q : zQ} {rc rs pc : Nat} {L : List (Option Value)} {st : List Value} {M : aM} {k : Nat} {x : Int32} (hd : decode mt.2.1 pc = .ok (.iaload, 1)) (hx : x = nI k) (hk : k < gN G) (hN : gN G ≤ 2048) (kk : V G mt d Q rc rs (pc + 1) L (.int (gX G k) :: st) M n) : V G mt d Q rc rs pc L (.int x :: .ref 0 :: st) M n := by
  subst hx
  refine V_sld hd (vp_in_nI hk (by omega)) ?_
  rw [nI_clamp (by omega)]
  exact kk
def lawQ : zQ := fun v _ _ => v = some (.int 1)
theorem lL_feed {M : aM} {dr : List Int32} {np : Nat} {vs : Nat → List Int32} {run sta tri tg nx : Nat} {sl : Nat → List Int32} {mr : Nat → Nat} {th : Nat → Bool} {i : Nat} (hN : gN G ≤ 2048) (h4 : i + 4 ≤ gN G) (ih : ∀ {M : aM} {dr : List Int32} {np : Nat} {vs : Nat → List Int32} {run sta tri tg nx : Nat} {sl : Nat → List Int32} {mr : Nat → Nat} {th : Nat → Bool}, clsX M dr np vs run sta tri tg nx sl mr th → refX M dr np vs run sta tri tg nx sl mr th → INV dr np vs run sta tri tg nx sl mr th → V G mtL_law 7 lawQ 0 0 18 [some (.ref 0), some (.ref 1), some (.ref 33), some (.int (nI (i + 4)))] [] M n) (hc : clsX M dr np vs run sta tri tg nx sl mr th) (hm : refX M dr np vs run sta tri tg nx sl mr th) (hi : INV dr np vs run sta tri tg nx sl mr th) : V G mtL_law 7 lawQ 0 0 108 [some (.ref 0), some (.ref 1), some (.ref 33), some (.int (nI i))] [] M n := by
  obtain ⟨i1, i2, i3, i4, i5, i6, i7, i8, i9, i10, i11, i12, -⟩ := id hi.1
  obtain ⟨fs1, hx1⟩ := hc.obj
  refine V_aload_n dL_law_108 rfl ?_
  refine V_aload_n dL_law_109 rfl ?_
  refine V_iload_n dL_law_110 rfl ?_
  refine V_iconst (v := 1) dL_law_111 (by decide) ?_
  refine V_iadd dL_law_112 ?_
  refine V_ks (k := i + 1) dL_law_113 (nI_1 i) (by omega) hN ?_
  refine V_callV1 0 0 dL_law_114 clL_13 (Nat.le_of_ble_eq_true rfl) (hx1) rfl (by decide) (by decide) (by decide) (cT_feed hc _) (fun v M1 n' hQ => ?_)
  obtain ⟨q1, q2, q3, q4⟩ := hQ
  subst q1; subst q2
  have hm1 := hm.frame q3
  obtain ⟨fs33, hy1⟩ := hm1.obj
  refine V_aload_n dL_law_117 rfl ?_
  refine V_aload_n dL_law_118 rfl ?_
  refine V_iload_n dL_law_119 rfl ?_
  refine V_iconst (v := 1) dL_law_120 (by decide) ?_
  refine V_iadd dL_law_121 ?_
  refine V_ks (k := i + 1) dL_law_122 (nI_1 i) (by omega) hN ?_
  refine V_callV1 0 0 dL_law_123 clL_17 (Nat.le_of_ble_eq_true rfl) (hy1) rfl (by decide) (by decide) (by decide) (cM_feed hm1 i1 _) (fun v M2 n' hQ => ?_)
  obtain ⟨p1, p2, p3, p4⟩ := hQ
  subst p1; subst p2
  have hc1 := q4.frame p3
  refine V_icmp_eq (tgt := 523) dL_law_126 (by decide) (fun c => ?_) (fun c => ?_)
  · refine V_iinc (v := _ + 4) dL_law_523 (by decide) rfl rfl ?_
    refine V_goto (tgt := 18) dL_law_526 (by decide) ?_
    rw [show nI i + 4 = nI (i + 4) from nI_add i 4]
    exact ih hc1 p4 (INV_feed hi _)
  · exact absurd rfl c
theorem lL_reuse {M : aM} {dr : List Int32} {np : Nat} {vs : Nat → List Int32} {run sta tri tg nx : Nat} {sl : Nat → List Int32} {mr : Nat → Nat} {th : Nat → Bool} {i : Nat} (hN : gN G ≤ 2048) (h4 : i + 4 ≤ gN G) (ih : ∀ {M : aM} {dr : List Int32} {np : Nat} {vs : Nat → List Int32} {run sta tri tg nx : Nat} {sl : Nat → List Int32} {mr : Nat → Nat} {th : Nat → Bool}, clsX M dr np vs run sta tri tg nx sl mr th → refX M dr np vs run sta tri tg nx sl mr th → INV dr np vs run sta tri tg nx sl mr th → V G mtL_law 7 lawQ 0 0 18 [some (.ref 0), some (.ref 1), some (.ref 33), some (.int (nI (i + 4)))] [] M n) (hc : clsX M dr np vs run sta tri tg nx sl mr th) (hm : refX M dr np vs run sta tri tg nx sl mr th) (hi : INV dr np vs run sta tri tg nx sl mr th) : V G mtL_law 7 lawQ 0 0 131 [some (.ref 0), some (.ref 1), some (.ref 33), some (.int (nI i))] [] M n := by
  obtain ⟨i1, i2, i3, i4, i5, i6, i7, i8, i9, i10, i11, i12, -⟩ := id hi.1
  obtain ⟨fs1, hx1⟩ := hc.obj
  refine V_aload_n dL_law_131 rfl ?_
  refine V_aload_n dL_law_132 rfl ?_
  refine V_iload_n dL_law_133 rfl ?_
  refine V_iconst (v := 1) dL_law_134 (by decide) ?_
  refine V_iadd dL_law_135 ?_
  refine V_ks (k := i + 1) dL_law_136 (nI_1 i) (by omega) hN ?_
  refine V_aload_n dL_law_137 rfl ?_
  refine V_iload_n dL_law_138 rfl ?_
  refine V_iconst (v := 2) dL_law_139 (by decide) ?_
  refine V_iadd dL_law_140 ?_
  refine V_ks (k := i + 2) dL_law_141 (nI_add i 2) (by omega) hN ?_
  refine V_aload_n dL_law_142 rfl ?_
  refine V_iload_n dL_law_143 rfl ?_
  refine V_iconst (v := 3) dL_law_144 (by decide) ?_
  refine V_iadd dL_law_145 ?_
  refine V_ks (k := i + 3) dL_law_146 (nI_add i 3) (by omega) hN ?_
  refine V_callV3 0 0 dL_law_147 clL_18 (Nat.le_of_ble_eq_true rfl) (hx1) rfl (by decide) (by decide) (by decide) (cT_reuse hc hi.1 _ _ _) (fun v M1 n' hQ => ?_)
  obtain ⟨q1, q2, q3, q4⟩ := hQ
  subst q1; subst q2
  have hm1 := hm.frame q3
  obtain ⟨fs33, hy1⟩ := hm1.obj
  refine V_aload_n dL_law_150 rfl ?_
  refine V_aload_n dL_law_151 rfl ?_
  refine V_iload_n dL_law_152 rfl ?_
  refine V_iconst (v := 1) dL_law_153 (by decide) ?_
  refine V_iadd dL_law_154 ?_
  refine V_ks (k := i + 1) dL_law_155 (nI_1 i) (by omega) hN ?_
  refine V_aload_n dL_law_156 rfl ?_
  refine V_iload_n dL_law_157 rfl ?_
  refine V_iconst (v := 2) dL_law_158 (by decide) ?_
  refine V_iadd dL_law_159 ?_
  refine V_ks (k := i + 2) dL_law_160 (nI_add i 2) (by omega) hN ?_
  refine V_aload_n dL_law_161 rfl ?_
  refine V_iload_n dL_law_162 rfl ?_
  refine V_iconst (v := 3) dL_law_163 (by decide) ?_
  refine V_iadd dL_law_164 ?_
  refine V_ks (k := i + 3) dL_law_165 (nI_add i 3) (by omega) hN ?_
  refine V_callV3 0 0 dL_law_166 clL_22 (Nat.le_of_ble_eq_true rfl) (hy1) rfl (by decide) (by decide) (by decide) (cM_reuse hm1 hi.1 _ _ _) (fun v M2 n' hQ => ?_)
  obtain ⟨p1, p2, p3, p4⟩ := hQ
  subst p1; subst p2
  have hc1 := q4.frame p3
  refine V_icmp_eq (tgt := 523) dL_law_169 (by decide) (fun c => ?_) (fun c => ?_)
  · refine V_iinc (v := _ + 4) dL_law_523 (by decide) rfl rfl ?_
    refine V_goto (tgt := 18) dL_law_526 (by decide) ?_
    rw [show nI i + 4 = nI (i + 4) from nI_add i 4]
    exact ih hc1 p4 (INV_reuse hi _ _ _)
  · exact absurd rfl c
theorem lL_publish {M : aM} {dr : List Int32} {np : Nat} {vs : Nat → List Int32} {run sta tri tg nx : Nat} {sl : Nat → List Int32} {mr : Nat → Nat} {th : Nat → Bool} {i : Nat} (hN : gN G ≤ 2048) (h4 : i + 4 ≤ gN G) (ih : ∀ {M : aM} {dr : List Int32} {np : Nat} {vs : Nat → List Int32} {run sta tri tg nx : Nat} {sl : Nat → List Int32} {mr : Nat → Nat} {th : Nat → Bool}, clsX M dr np vs run sta tri tg nx sl mr th → refX M dr np vs run sta tri tg nx sl mr th → INV dr np vs run sta tri tg nx sl mr th → V G mtL_law 7 lawQ 0 0 18 [some (.ref 0), some (.ref 1), some (.ref 33), some (.int (nI (i + 4)))] [] M n) (hc : clsX M dr np vs run sta tri tg nx sl mr th) (hm : refX M dr np vs run sta tri tg nx sl mr th) (hi : INV dr np vs run sta tri tg nx sl mr th) : V G mtL_law 7 lawQ 0 0 174 [some (.ref 0), some (.ref 1), some (.ref 33), some (.int (nI i))] [] M n := by
  obtain ⟨i1, i2, i3, i4, i5, i6, i7, i8, i9, i10, i11, i12, -⟩ := id hi.1
  obtain ⟨fs1, hx1⟩ := hc.obj
  refine V_aload_n dL_law_174 rfl ?_
  refine V_callV0 0 0 dL_law_175 clL_23 (Nat.le_of_ble_eq_true rfl) (hx1) rfl (by decide) (by decide) (by decide) (cT_publish hc hi.1) (fun v M1 n' hQ => ?_)
  obtain ⟨q1, q2, q3, q4⟩ := hQ
  subst q1; subst q2
  have hm1 := hm.frame q3
  obtain ⟨fs33, hy1⟩ := hm1.obj
  refine V_aload_n dL_law_178 rfl ?_
  refine V_callV0 0 0 dL_law_179 clL_27 (Nat.le_of_ble_eq_true rfl) (hy1) rfl (by decide) (by decide) (by decide) (cM_publish hm1 hi.1) (fun v M2 n' hQ => ?_)
  obtain ⟨p1, p2, p3, p4⟩ := hQ
  subst p1; subst p2
  have hc1 := q4.frame p3
  refine V_icmp_eq (tgt := 523) dL_law_182 (by decide) (fun c => ?_) (fun c => ?_)
  · refine V_iinc (v := _ + 4) dL_law_523 (by decide) rfl rfl ?_
    refine V_goto (tgt := 18) dL_law_526 (by decide) ?_
    rw [show nI i + 4 = nI (i + 4) from nI_add i 4]
    exact ih hc1 p4 (INV_pub hi)
  · exact absurd rfl c
theorem lL_patch {M : aM} {dr : List Int32} {np : Nat} {vs : Nat → List Int32} {run sta tri tg nx : Nat} {sl : Nat → List Int32} {mr : Nat → Nat} {th : Nat → Bool} {i : Nat} (hN : gN G ≤ 2048) (h4 : i + 4 ≤ gN G) (ih : ∀ {M : aM} {dr : List Int32} {np : Nat} {vs : Nat → List Int32} {run sta tri tg nx : Nat} {sl : Nat → List Int32} {mr : Nat → Nat} {th : Nat → Bool}, clsX M dr np vs run sta tri tg nx sl mr th → refX M dr np vs run sta tri tg nx sl mr th → INV dr np vs run sta tri tg nx sl mr th → V G mtL_law 7 lawQ 0 0 18 [some (.ref 0), some (.ref 1), some (.ref 33), some (.int (nI (i + 4)))] [] M n) (hc : clsX M dr np vs run sta tri tg nx sl mr th) (hm : refX M dr np vs run sta tri tg nx sl mr th) (hi : INV dr np vs run sta tri tg nx sl mr th) : V G mtL_law 7 lawQ 0 0 187 [some (.ref 0), some (.ref 1), some (.ref 33), some (.int (nI i))] [] M n := by
  obtain ⟨i1, i2, i3, i4, i5, i6, i7, i8, i9, i10, i11, i12, -⟩ := id hi.1
  obtain ⟨fs1, hx1⟩ := hc.obj
  refine V_aload_n dL_law_187 rfl ?_
  refine V_aload_n dL_law_188 rfl ?_
  refine V_iload_n dL_law_189 rfl ?_
  refine V_iconst (v := 1) dL_law_190 (by decide) ?_
  refine V_iadd dL_law_191 ?_
  refine V_ks (k := i + 1) dL_law_192 (nI_1 i) (by omega) hN ?_
  refine V_aload_n dL_law_193 rfl ?_
  refine V_iload_n dL_law_194 rfl ?_
  refine V_iconst (v := 2) dL_law_195 (by decide) ?_
  refine V_iadd dL_law_196 ?_
  refine V_ks (k := i + 2) dL_law_197 (nI_add i 2) (by omega) hN ?_
  refine V_callV2 0 0 dL_law_198 clL_28 (Nat.le_of_ble_eq_true rfl) (hx1) rfl (by decide) (by decide) (by decide) (cT_patch hc hi.1 _ _) (fun v M1 n' hQ => ?_)
  obtain ⟨q1, q2, q3, q4⟩ := hQ
  subst q1; subst q2
  have hm1 := hm.frame q3
  obtain ⟨fs33, hy1⟩ := hm1.obj
  refine V_aload_n dL_law_201 rfl ?_
  refine V_aload_n dL_law_202 rfl ?_
  refine V_iload_n dL_law_203 rfl ?_
  refine V_iconst (v := 1) dL_law_204 (by decide) ?_
  refine V_iadd dL_law_205 ?_
  refine V_ks (k := i + 1) dL_law_206 (nI_1 i) (by omega) hN ?_
  refine V_aload_n dL_law_207 rfl ?_
  refine V_iload_n dL_law_208 rfl ?_
  refine V_iconst (v := 2) dL_law_209 (by decide) ?_
  refine V_iadd dL_law_210 ?_
  refine V_ks (k := i + 2) dL_law_211 (nI_add i 2) (by omega) hN ?_
  refine V_callV2 0 0 dL_law_212 clL_32 (Nat.le_of_ble_eq_true rfl) (hy1) rfl (by decide) (by decide) (by decide) (cM_patch hm1 hi.1 _ _) (fun v M2 n' hQ => ?_)
  obtain ⟨p1, p2, p3, p4⟩ := hQ
  subst p1; subst p2
  have hc1 := q4.frame p3
  refine V_icmp_eq (tgt := 523) dL_law_215 (by decide) (fun c => ?_) (fun c => ?_)
  · refine V_iinc (v := _ + 4) dL_law_523 (by decide) rfl rfl ?_
    refine V_goto (tgt := 18) dL_law_526 (by decide) ?_
    rw [show nI i + 4 = nI (i + 4) from nI_add i 4]
    exact ih hc1 p4 (hi)
  · exact absurd rfl c
theorem lL_patchByte {M : aM} {dr : List Int32} {np : Nat} {vs : Nat → List Int32} {run sta tri tg nx : Nat} {sl : Nat → List Int32} {mr : Nat → Nat} {th : Nat → Bool} {i : Nat} (hN : gN G ≤ 2048) (h4 : i + 4 ≤ gN G) (ih : ∀ {M : aM} {dr : List Int32} {np : Nat} {vs : Nat → List Int32} {run sta tri tg nx : Nat} {sl : Nat → List Int32} {mr : Nat → Nat} {th : Nat → Bool}, clsX M dr np vs run sta tri tg nx sl mr th → refX M dr np vs run sta tri tg nx sl mr th → INV dr np vs run sta tri tg nx sl mr th → V G mtL_law 7 lawQ 0 0 18 [some (.ref 0), some (.ref 1), some (.ref 33), some (.int (nI (i + 4)))] [] M n) (hc : clsX M dr np vs run sta tri tg nx sl mr th) (hm : refX M dr np vs run sta tri tg nx sl mr th) (hi : INV dr np vs run sta tri tg nx sl mr th) : V G mtL_law 7 lawQ 0 0 220 [some (.ref 0), some (.ref 1), some (.ref 33), some (.int (nI i))] [] M n := by
  obtain ⟨i1, i2, i3, i4, i5, i6, i7, i8, i9, i10, i11, i12, -⟩ := id hi.1
  obtain ⟨fs1, hx1⟩ := hc.obj
  refine V_aload_n dL_law_220 rfl ?_
  refine V_aload_n dL_law_221 rfl ?_
  refine V_iload_n dL_law_222 rfl ?_
  refine V_iconst (v := 1) dL_law_223 (by decide) ?_
  refine V_iadd dL_law_224 ?_
  refine V_ks (k := i + 1) dL_law_225 (nI_1 i) (by omega) hN ?_
  refine V_aload_n dL_law_226 rfl ?_
  refine V_iload_n dL_law_227 rfl ?_
  refine V_iconst (v := 2) dL_law_228 (by decide) ?_
  refine V_iadd dL_law_229 ?_
  refine V_ks (k := i + 2) dL_law_230 (nI_add i 2) (by omega) hN ?_
  refine V_aload_n dL_law_231 rfl ?_
  refine V_iload_n dL_law_232 rfl ?_
  refine V_iconst (v := 3) dL_law_233 (by decide) ?_
  refine V_iadd dL_law_234 ?_
  refine V_ks (k := i + 3) dL_law_235 (nI_add i 3) (by omega) hN ?_
  refine V_callV3 0 0 dL_law_236 clL_33 (Nat.le_of_ble_eq_true rfl) (hx1) rfl (by decide) (by decide) (by decide) (cT_patchByte hc hi.1 _ _ _) (fun v M1 n' hQ => ?_)
  obtain ⟨q1, q2, q3, q4⟩ := hQ
  subst q1; subst q2
  have hm1 := hm.frame q3
  obtain ⟨fs33, hy1⟩ := hm1.obj
  refine V_aload_n dL_law_239 rfl ?_
  refine V_aload_n dL_law_240 rfl ?_
  refine V_iload_n dL_law_241 rfl ?_
  refine V_iconst (v := 1) dL_law_242 (by decide) ?_
  refine V_iadd dL_law_243 ?_
  refine V_ks (k := i + 1) dL_law_244 (nI_1 i) (by omega) hN ?_
  refine V_aload_n dL_law_245 rfl ?_
  refine V_iload_n dL_law_246 rfl ?_
  refine V_iconst (v := 2) dL_law_247 (by decide) ?_
  refine V_iadd dL_law_248 ?_
  refine V_ks (k := i + 2) dL_law_249 (nI_add i 2) (by omega) hN ?_
  refine V_aload_n dL_law_250 rfl ?_
  refine V_iload_n dL_law_251 rfl ?_
  refine V_iconst (v := 3) dL_law_252 (by decide) ?_
  refine V_iadd dL_law_253 ?_
  refine V_ks (k := i + 3) dL_law_254 (nI_add i 3) (by omega) hN ?_
  refine V_callV3 0 0 dL_law_255 clL_36 (Nat.le_of_ble_eq_true rfl) (hy1) rfl (by decide) (by decide) (by decide) (cM_patchByte hm1 hi.1 _ _ _) (fun v M2 n' hQ => ?_)
  obtain ⟨p1, p2, p3, p4⟩ := hQ
  subst p1; subst p2
  have hc1 := q4.frame p3
  refine V_icmp_eq (tgt := 523) dL_law_258 (by decide) (fun c => ?_) (fun c => ?_)
  · refine V_iinc (v := _ + 4) dL_law_523 (by decide) rfl rfl ?_
    refine V_goto (tgt := 18) dL_law_526 (by decide) ?_
    rw [show nI i + 4 = nI (i + 4) from nI_add i 4]
    exact ih hc1 p4 (hi)
  · exact absurd rfl c
theorem lL_saved {M : aM} {dr : List Int32} {np : Nat} {vs : Nat → List Int32} {run sta tri tg nx : Nat} {sl : Nat → List Int32} {mr : Nat → Nat} {th : Nat → Bool} {i : Nat} (hN : gN G ≤ 2048) (h4 : i + 4 ≤ gN G) (ih : ∀ {M : aM} {dr : List Int32} {np : Nat} {vs : Nat → List Int32} {run sta tri tg nx : Nat} {sl : Nat → List Int32} {mr : Nat → Nat} {th : Nat → Bool}, clsX M dr np vs run sta tri tg nx sl mr th → refX M dr np vs run sta tri tg nx sl mr th → INV dr np vs run sta tri tg nx sl mr th → V G mtL_law 7 lawQ 0 0 18 [some (.ref 0), some (.ref 1), some (.ref 33), some (.int (nI (i + 4)))] [] M n) (hc : clsX M dr np vs run sta tri tg nx sl mr th) (hm : refX M dr np vs run sta tri tg nx sl mr th) (hi : INV dr np vs run sta tri tg nx sl mr th) : V G mtL_law 7 lawQ 0 0 263 [some (.ref 0), some (.ref 1), some (.ref 33), some (.int (nI i))] [] M n := by
  obtain ⟨i1, i2, i3, i4, i5, i6, i7, i8, i9, i10, i11, i12, -⟩ := id hi.1
  obtain ⟨fs1, hx1⟩ := hc.obj
  refine V_aload_n dL_law_263 rfl ?_
  refine V_aload_n dL_law_264 rfl ?_
  refine V_iload_n dL_law_265 rfl ?_
  refine V_iconst (v := 1) dL_law_266 (by decide) ?_
  refine V_iadd dL_law_267 ?_
  refine V_ks (k := i + 1) dL_law_268 (nI_1 i) (by omega) hN ?_
  refine V_aload_n dL_law_269 rfl ?_
  refine V_iload_n dL_law_270 rfl ?_
  refine V_iconst (v := 2) dL_law_271 (by decide) ?_
  refine V_iadd dL_law_272 ?_
  refine V_ks (k := i + 2) dL_law_273 (nI_add i 2) (by omega) hN ?_
  refine V_callV2 0 0 dL_law_274 clL_37 (Nat.le_of_ble_eq_true rfl) (hx1) rfl (by decide) (by decide) (by decide) (cT_saved hc hi.1 _ _) (fun v M1 n' hQ => ?_)
  obtain ⟨q1, q2, q3, q4⟩ := hQ
  subst q1; subst q2
  have hm1 := hm.frame q3
  obtain ⟨fs33, hy1⟩ := hm1.obj
  refine V_aload_n dL_law_277 rfl ?_
  refine V_aload_n dL_law_278 rfl ?_
  refine V_iload_n dL_law_279 rfl ?_
  refine V_iconst (v := 1) dL_law_280 (by decide) ?_
  refine V_iadd dL_law_281 ?_
  refine V_ks (k := i + 1) dL_law_282 (nI_1 i) (by omega) hN ?_
  refine V_aload_n dL_law_283 rfl ?_
  refine V_iload_n dL_law_284 rfl ?_
  refine V_iconst (v := 2) dL_law_285 (by decide) ?_
  refine V_iadd dL_law_286 ?_
  refine V_ks (k := i + 2) dL_law_287 (nI_add i 2) (by omega) hN ?_
  refine V_callV2 0 0 dL_law_288 clL_40 (Nat.le_of_ble_eq_true rfl) (hy1) rfl (by decide) (by decide) (by decide) (cM_saved hm1 hi.1 _ _) (fun v M2 n' hQ => ?_)
  obtain ⟨p1, p2, p3, p4⟩ := hQ
  subst p1; subst p2
  have hc1 := q4.frame p3
  refine V_icmp_eq (tgt := 523) dL_law_291 (by decide) (fun c => ?_) (fun c => ?_)
  · refine V_iinc (v := _ + 4) dL_law_523 (by decide) rfl rfl ?_
    refine V_goto (tgt := 18) dL_law_526 (by decide) ?_
    rw [show nI i + 4 = nI (i + 4) from nI_add i 4]
    exact ih hc1 p4 (hi)
  · exact absurd rfl c
theorem lL_offer {M : aM} {dr : List Int32} {np : Nat} {vs : Nat → List Int32} {run sta tri tg nx : Nat} {sl : Nat → List Int32} {mr : Nat → Nat} {th : Nat → Bool} {i : Nat} (hN : gN G ≤ 2048) (h4 : i + 4 ≤ gN G) (ih : ∀ {M : aM} {dr : List Int32} {np : Nat} {vs : Nat → List Int32} {run sta tri tg nx : Nat} {sl : Nat → List Int32} {mr : Nat → Nat} {th : Nat → Bool}, clsX M dr np vs run sta tri tg nx sl mr th → refX M dr np vs run sta tri tg nx sl mr th → INV dr np vs run sta tri tg nx sl mr th → V G mtL_law 7 lawQ 0 0 18 [some (.ref 0), some (.ref 1), some (.ref 33), some (.int (nI (i + 4)))] [] M n) (hc : clsX M dr np vs run sta tri tg nx sl mr th) (hm : refX M dr np vs run sta tri tg nx sl mr th) (hi : INV dr np vs run sta tri tg nx sl mr th) : V G mtL_law 7 lawQ 0 0 296 [some (.ref 0), some (.ref 1), some (.ref 33), some (.int (nI i))] [] M n := by
  obtain ⟨i1, i2, i3, i4, i5, i6, i7, i8, i9, i10, i11, i12, -⟩ := id hi.1
  obtain ⟨fs1, hx1⟩ := hc.obj
  refine V_aload_n dL_law_296 rfl ?_
  refine V_aload_n dL_law_297 rfl ?_
  refine V_iload_n dL_law_298 rfl ?_
  refine V_iconst (v := 1) dL_law_299 (by decide) ?_
  refine V_iadd dL_law_300 ?_
  refine V_ks (k := i + 1) dL_law_301 (nI_1 i) (by omega) hN ?_
  refine V_callV1 0 0 dL_law_302 clL_41 (Nat.le_of_ble_eq_true rfl) (hx1) rfl (by decide) (by decide) (by decide) (cT_offer hc hi.1 _) (fun v M1 n' hQ => ?_)
  obtain ⟨q1, q2, q3, q4⟩ := hQ
  subst q1; subst q2
  have hm1 := hm.frame q3
  obtain ⟨fs33, hy1⟩ := hm1.obj
  refine V_aload_n dL_law_305 rfl ?_
  refine V_aload_n dL_law_306 rfl ?_
  refine V_iload_n dL_law_307 rfl ?_
  refine V_iconst (v := 1) dL_law_308 (by decide) ?_
  refine V_iadd dL_law_309 ?_
  refine V_ks (k := i + 1) dL_law_310 (nI_1 i) (by omega) hN ?_
  refine V_callV1 0 0 dL_law_311 clL_44 (Nat.le_of_ble_eq_true rfl) (hy1) rfl (by decide) (by decide) (by decide) (cM_offer hm1 hi.1 _) (fun v M2 n' hQ => ?_)
  obtain ⟨p1, p2, p3, p4⟩ := hQ
  subst p1; subst p2
  have hc1 := q4.frame p3
  refine V_icmp_eq (tgt := 523) dL_law_314 (by decide) (fun c => ?_) (fun c => ?_)
  · refine V_iinc (v := _ + 4) dL_law_523 (by decide) rfl rfl ?_
    refine V_goto (tgt := 18) dL_law_526 (by decide) ?_
    rw [show nI i + 4 = nI (i + 4) from nI_add i 4]
    exact ih hc1 p4 (INV_offer hi _)
  · exact absurd rfl c
theorem lL_block {M : aM} {dr : List Int32} {np : Nat} {vs : Nat → List Int32} {run sta tri tg nx : Nat} {sl : Nat → List Int32} {mr : Nat → Nat} {th : Nat → Bool} {i : Nat} (hN : gN G ≤ 2048) (h4 : i + 4 ≤ gN G) (ih : ∀ {M : aM} {dr : List Int32} {np : Nat} {vs : Nat → List Int32} {run sta tri tg nx : Nat} {sl : Nat → List Int32} {mr : Nat → Nat} {th : Nat → Bool}, clsX M dr np vs run sta tri tg nx sl mr th → refX M dr np vs run sta tri tg nx sl mr th → INV dr np vs run sta tri tg nx sl mr th → V G mtL_law 7 lawQ 0 0 18 [some (.ref 0), some (.ref 1), some (.ref 33), some (.int (nI (i + 4)))] [] M n) (hc : clsX M dr np vs run sta tri tg nx sl mr th) (hm : refX M dr np vs run sta tri tg nx sl mr th) (hi : INV dr np vs run sta tri tg nx sl mr th) : V G mtL_law 7 lawQ 0 0 319 [some (.ref 0), some (.ref 1), some (.ref 33), some (.int (nI i))] [] M n := by
  obtain ⟨i1, i2, i3, i4, i5, i6, i7, i8, i9, i10, i11, i12, -⟩ := id hi.1
  obtain ⟨fs1, hx1⟩ := hc.obj
  refine V_aload_n dL_law_319 rfl ?_
  refine V_aload_n dL_law_320 rfl ?_
  refine V_iload_n dL_law_321 rfl ?_
  refine V_iconst (v := 1) dL_law_322 (by decide) ?_
  refine V_iadd dL_law_323 ?_
  refine V_ks (k := i + 1) dL_law_324 (nI_1 i) (by omega) hN ?_
  refine V_aload_n dL_law_325 rfl ?_
  refine V_iload_n dL_law_326 rfl ?_
  refine V_iconst (v := 2) dL_law_327 (by decide) ?_
  refine V_iadd dL_law_328 ?_
  refine V_ks (k := i + 2) dL_law_329 (nI_add i 2) (by omega) hN ?_
  refine V_callV2 0 0 dL_law_330 clL_45 (Nat.le_of_ble_eq_true rfl) (hx1) rfl (by decide) (by decide) (by decide) (cT_block hc hi.1 _ _) (fun v M1 n' hQ => ?_)
  obtain ⟨q1, q2, q3, q4⟩ := hQ
  subst q1; subst q2
  have hm1 := hm.frame q3
  obtain ⟨fs33, hy1⟩ := hm1.obj
  refine V_aload_n dL_law_333 rfl ?_
  refine V_aload_n dL_law_334 rfl ?_
  refine V_iload_n dL_law_335 rfl ?_
  refine V_iconst (v := 1) dL_law_336 (by decide) ?_
  refine V_iadd dL_law_337 ?_
  refine V_ks (k := i + 1) dL_law_338 (nI_1 i) (by omega) hN ?_
  refine V_aload_n dL_law_339 rfl ?_
  refine V_iload_n dL_law_340 rfl ?_
  refine V_iconst (v := 2) dL_law_341 (by decide) ?_
  refine V_iadd dL_law_342 ?_
  refine V_ks (k := i + 2) dL_law_343 (nI_add i 2) (by omega) hN ?_
  refine V_callV2 0 0 dL_law_344 clL_48 (Nat.le_of_ble_eq_true rfl) (hy1) rfl (by decide) (by decide) (by decide) (cM_block hm1 hi.1 _ _) (fun v M2 n' hQ => ?_)
  obtain ⟨p1, p2, p3, p4⟩ := hQ
  subst p1; subst p2
  have hc1 := q4.frame p3
  refine V_icmp_eq (tgt := 523) dL_law_347 (by decide) (fun c => ?_) (fun c => ?_)
  · refine V_iinc (v := _ + 4) dL_law_523 (by decide) rfl rfl ?_
    refine V_goto (tgt := 18) dL_law_526 (by decide) ?_
    rw [show nI i + 4 = nI (i + 4) from nI_add i 4]
    exact ih hc1 p4 (INV_block hi _ _)
  · exact absurd rfl c
theorem lL_install {M : aM} {dr : List Int32} {np : Nat} {vs : Nat → List Int32} {run sta tri tg nx : Nat} {sl : Nat → List Int32} {mr : Nat → Nat} {th : Nat → Bool} {i : Nat} (hN : gN G ≤ 2048) (h4 : i + 4 ≤ gN G) (ih : ∀ {M : aM} {dr : List Int32} {np : Nat} {vs : Nat → List Int32} {run sta tri tg nx : Nat} {sl : Nat → List Int32} {mr : Nat → Nat} {th : Nat → Bool}, clsX M dr np vs run sta tri tg nx sl mr th → refX M dr np vs run sta tri tg nx sl mr th → INV dr np vs run sta tri tg nx sl mr th → V G mtL_law 7 lawQ 0 0 18 [some (.ref 0), some (.ref 1), some (.ref 33), some (.int (nI (i + 4)))] [] M n) (hc : clsX M dr np vs run sta tri tg nx sl mr th) (hm : refX M dr np vs run sta tri tg nx sl mr th) (hi : INV dr np vs run sta tri tg nx sl mr th) : V G mtL_law 7 lawQ 0 0 352 [some (.ref 0), some (.ref 1), some (.ref 33), some (.int (nI i))] [] M n := by
  obtain ⟨i1, i2, i3, i4, i5, i6, i7, i8, i9, i10, i11, i12, -⟩ := id hi.1
  obtain ⟨fs1, hx1⟩ := hc.obj
  refine V_aload_n dL_law_352 rfl ?_
  refine V_aload_n dL_law_353 rfl ?_
  refine V_iload_n dL_law_354 rfl ?_
  refine V_iconst (v := 1) dL_law_355 (by decide) ?_
  refine V_iadd dL_law_356 ?_
  refine V_ks (k := i + 1) dL_law_357 (nI_1 i) (by omega) hN ?_
  refine V_callV1 0 0 dL_law_358 clL_49 (Nat.le_of_ble_eq_true rfl) (hx1) rfl (by decide) (by decide) (by decide) (cT_install hc hi.1 _) (fun v M1 n' hQ => ?_)
  obtain ⟨q1, q2, q3, q4⟩ := hQ
  subst q1; subst q2
  have hm1 := hm.frame q3
  obtain ⟨fs33, hy1⟩ := hm1.obj
  refine V_aload_n dL_law_361 rfl ?_
  refine V_aload_n dL_law_362 rfl ?_
  refine V_iload_n dL_law_363 rfl ?_
  refine V_iconst (v := 1) dL_law_364 (by decide) ?_
  refine V_iadd dL_law_365 ?_
  refine V_ks (k := i + 1) dL_law_366 (nI_1 i) (by omega) hN ?_
  refine V_callV1 0 0 dL_law_367 clL_52 (Nat.le_of_ble_eq_true rfl) (hy1) rfl (by decide) (by decide) (by decide) (cM_install hm1 hi.1 hi.2 _) (fun v M2 n' hQ => ?_)
  obtain ⟨p1, p2, p3, p4⟩ := hQ
  subst p1; subst p2
  have hc1 := q4.frame p3
  refine V_icmp_eq (tgt := 523) dL_law_370 (by decide) (fun c => ?_) (fun c => ?_)
  · refine V_iinc (v := _ + 4) dL_law_523 (by decide) rfl rfl ?_
    refine V_goto (tgt := 18) dL_law_526 (by decide) ?_
    rw [show nI i + 4 = nI (i + 4) from nI_add i 4]
    exact ih hc1 p4 (INV_install hi _)
  · exact absurd rfl c
theorem lL_boot {M : aM} {dr : List Int32} {np : Nat} {vs : Nat → List Int32} {run sta tri tg nx : Nat} {sl : Nat → List Int32} {mr : Nat → Nat} {th : Nat → Bool} {i : Nat} (hN : gN G ≤ 2048) (h4 : i + 4 ≤ gN G) (ih : ∀ {M : aM} {dr : List Int32} {np : Nat} {vs : Nat → List Int32} {run sta tri tg nx : Nat} {sl : Nat → List Int32} {mr : Nat → Nat} {th : Nat → Bool}, clsX M dr np vs run sta tri tg nx sl mr th → refX M dr np vs run sta tri tg nx sl mr th → INV dr np vs run sta tri tg nx sl mr th → V G mtL_law 7 lawQ 0 0 18 [some (.ref 0), some (.ref 1), some (.ref 33), some (.int (nI (i + 4)))] [] M n) (hc : clsX M dr np vs run sta tri tg nx sl mr th) (hm : refX M dr np vs run sta tri tg nx sl mr th) (hi : INV dr np vs run sta tri tg nx sl mr th) : V G mtL_law 7 lawQ 0 0 375 [some (.ref 0), some (.ref 1), some (.ref 33), some (.int (nI i))] [] M n := by
  obtain ⟨i1, i2, i3, i4, i5, i6, i7, i8, i9, i10, i11, i12, -⟩ := id hi.1
  obtain ⟨fs1, hx1⟩ := hc.obj
  refine V_aload_n dL_law_375 rfl ?_
  refine V_callV0 0 0 dL_law_376 clL_53 (Nat.le_of_ble_eq_true rfl) (hx1) rfl (by decide) (by decide) (by decide) (cT_boot hc hi.1) (fun v M1 n' hQ => ?_)
  obtain ⟨q1, q2, q3, q4⟩ := hQ
  subst q1; subst q2
  have hm1 := hm.frame q3
  obtain ⟨fs33, hy1⟩ := hm1.obj
  refine V_aload_n dL_law_379 rfl ?_
  refine V_callV0 0 0 dL_law_380 clL_56 (Nat.le_of_ble_eq_true rfl) (hy1) rfl (by decide) (by decide) (by decide) (cM_boot hm1 hi.1) (fun v M2 n' hQ => ?_)
  obtain ⟨p1, p2, p3, p4⟩ := hQ
  subst p1; subst p2
  have hc1 := q4.frame p3
  refine V_icmp_eq (tgt := 523) dL_law_383 (by decide) (fun c => ?_) (fun c => ?_)
  · refine V_iinc (v := _ + 4) dL_law_523 (by decide) rfl rfl ?_
    refine V_goto (tgt := 18) dL_law_526 (by decide) ?_
    rw [show nI i + 4 = nI (i + 4) from nI_add i 4]
    exact ih hc1 p4 (INV_boot hi)
  · exact absurd rfl c
theorem lL_confirm {M : aM} {dr : List Int32} {np : Nat} {vs : Nat → List Int32} {run sta tri tg nx : Nat} {sl : Nat → List Int32} {mr : Nat → Nat} {th : Nat → Bool} {i : Nat} (hN : gN G ≤ 2048) (h4 : i + 4 ≤ gN G) (ih : ∀ {M : aM} {dr : List Int32} {np : Nat} {vs : Nat → List Int32} {run sta tri tg nx : Nat} {sl : Nat → List Int32} {mr : Nat → Nat} {th : Nat → Bool}, clsX M dr np vs run sta tri tg nx sl mr th → refX M dr np vs run sta tri tg nx sl mr th → INV dr np vs run sta tri tg nx sl mr th → V G mtL_law 7 lawQ 0 0 18 [some (.ref 0), some (.ref 1), some (.ref 33), some (.int (nI (i + 4)))] [] M n) (hc : clsX M dr np vs run sta tri tg nx sl mr th) (hm : refX M dr np vs run sta tri tg nx sl mr th) (hi : INV dr np vs run sta tri tg nx sl mr th) : V G mtL_law 7 lawQ 0 0 388 [some (.ref 0), some (.ref 1), some (.ref 33), some (.int (nI i))] [] M n := by
  obtain ⟨i1, i2, i3, i4, i5, i6, i7, i8, i9, i10, i11, i12, -⟩ := id hi.1
  obtain ⟨fs1, hx1⟩ := hc.obj
  refine V_aload_n dL_law_388 rfl ?_
  refine V_callV0 0 0 dL_law_389 clL_57 (Nat.le_of_ble_eq_true rfl) (hx1) rfl (by decide) (by decide) (by decide) (cT_confirm hc i9) (fun v M1 n' hQ => ?_)
  obtain ⟨q1, q2, q3, q4⟩ := hQ
  subst q1; subst q2
  have hm1 := hm.frame q3
  obtain ⟨fs33, hy1⟩ := hm1.obj
  refine V_aload_n dL_law_392 rfl ?_
  refine V_callV0 0 0 dL_law_393 clL_60 (Nat.le_of_ble_eq_true rfl) (hy1) rfl (by decide) (by decide) (by decide) (cM_confirm hm1 i9) (fun v M2 n' hQ => ?_)
  obtain ⟨p1, p2, p3, p4⟩ := hQ
  subst p1; subst p2
  have hc1 := q4.frame p3
  refine V_icmp_eq (tgt := 523) dL_law_396 (by decide) (fun c => ?_) (fun c => ?_)
  · refine V_iinc (v := _ + 4) dL_law_523 (by decide) rfl rfl ?_
    refine V_goto (tgt := 18) dL_law_526 (by decide) ?_
    rw [show nI i + 4 = nI (i + 4) from nI_add i 4]
    exact ih hc1 p4 (INV_confirm hi)
  · exact absurd rfl c
theorem lL_damage {M : aM} {dr : List Int32} {np : Nat} {vs : Nat → List Int32} {run sta tri tg nx : Nat} {sl : Nat → List Int32} {mr : Nat → Nat} {th : Nat → Bool} {i : Nat} (hN : gN G ≤ 2048) (h4 : i + 4 ≤ gN G) (ih : ∀ {M : aM} {dr : List Int32} {np : Nat} {vs : Nat → List Int32} {run sta tri tg nx : Nat} {sl : Nat → List Int32} {mr : Nat → Nat} {th : Nat → Bool}, clsX M dr np vs run sta tri tg nx sl mr th → refX M dr np vs run sta tri tg nx sl mr th → INV dr np vs run sta tri tg nx sl mr th → V G mtL_law 7 lawQ 0 0 18 [some (.ref 0), some (.ref 1), some (.ref 33), some (.int (nI (i + 4)))] [] M n) (hc : clsX M dr np vs run sta tri tg nx sl mr th) (hm : refX M dr np vs run sta tri tg nx sl mr th) (hi : INV dr np vs run sta tri tg nx sl mr th) : V G mtL_law 7 lawQ 0 0 401 [some (.ref 0), some (.ref 1), some (.ref 33), some (.int (nI i))] [] M n := by
  obtain ⟨i1, i2, i3, i4, i5, i6, i7, i8, i9, i10, i11, i12, -⟩ := id hi.1
  obtain ⟨fs1, hx1⟩ := hc.obj
  refine V_aload_n dL_law_401 rfl ?_
  refine V_aload_n dL_law_402 rfl ?_
  refine V_iload_n dL_law_403 rfl ?_
  refine V_iconst (v := 1) dL_law_404 (by decide) ?_
  refine V_iadd dL_law_405 ?_
  refine V_ks (k := i + 1) dL_law_406 (nI_1 i) (by omega) hN ?_
  refine V_aload_n dL_law_407 rfl ?_
  refine V_iload_n dL_law_408 rfl ?_
  refine V_iconst (v := 2) dL_law_409 (by decide) ?_
  refine V_iadd dL_law_410 ?_
  refine V_ks (k := i + 2) dL_law_411 (nI_add i 2) (by omega) hN ?_
  refine V_aload_n dL_law_412 rfl ?_
  refine V_iload_n dL_law_413 rfl ?_
  refine V_iconst (v := 3) dL_law_414 (by decide) ?_
  refine V_iadd dL_law_415 ?_
  refine V_ks (k := i + 3) dL_law_416 (nI_add i 3) (by omega) hN ?_
  refine V_callV3 0 0 dL_law_417 clL_61 (Nat.le_of_ble_eq_true rfl) (hx1) rfl (by decide) (by decide) (by decide) (cT_damage hc _ _ _) (fun v M1 n' hQ => ?_)
  obtain ⟨q1, q2, q3, q4⟩ := hQ
  subst q1; subst q2
  have hm1 := hm.frame q3
  obtain ⟨fs33, hy1⟩ := hm1.obj
  refine V_aload_n dL_law_420 rfl ?_
  refine V_aload_n dL_law_421 rfl ?_
  refine V_iload_n dL_law_422 rfl ?_
  refine V_iconst (v := 1) dL_law_423 (by decide) ?_
  refine V_iadd dL_law_424 ?_
  refine V_ks (k := i + 1) dL_law_425 (nI_1 i) (by omega) hN ?_
  refine V_aload_n dL_law_426 rfl ?_
  refine V_iload_n dL_law_427 rfl ?_
  refine V_iconst (v := 2) dL_law_428 (by decide) ?_
  refine V_iadd dL_law_429 ?_
  refine V_ks (k := i + 2) dL_law_430 (nI_add i 2) (by omega) hN ?_
  refine V_aload_n dL_law_431 rfl ?_
  refine V_iload_n dL_law_432 rfl ?_
  refine V_iconst (v := 3) dL_law_433 (by decide) ?_
  refine V_iadd dL_law_434 ?_
  refine V_ks (k := i + 3) dL_law_435 (nI_add i 3) (by omega) hN ?_
  refine V_callV3 0 0 dL_law_436 clL_64 (Nat.le_of_ble_eq_true rfl) (hy1) rfl (by decide) (by decide) (by decide) (cM_damage hm1 i12 _ _ _) (fun v M2 n' hQ => ?_)
  obtain ⟨p1, p2, p3, p4⟩ := hQ
  subst p1; subst p2
  have hc1 := q4.frame p3
  refine V_icmp_eq (tgt := 523) dL_law_439 (by decide) (fun c => ?_) (fun c => ?_)
  · refine V_iinc (v := _ + 4) dL_law_523 (by decide) rfl rfl ?_
    refine V_goto (tgt := 18) dL_law_526 (by decide) ?_
    rw [show nI i + 4 = nI (i + 4) from nI_add i 4]
    exact ih hc1 p4 (INV_damage hi _ _ _)
  · exact absurd rfl c
theorem lL_slot {M : aM} {dr : List Int32} {np : Nat} {vs : Nat → List Int32} {run sta tri tg nx : Nat} {sl : Nat → List Int32} {mr : Nat → Nat} {th : Nat → Bool} {i : Nat} (hN : gN G ≤ 2048) (h4 : i + 4 ≤ gN G) (ih : ∀ {M : aM} {dr : List Int32} {np : Nat} {vs : Nat → List Int32} {run sta tri tg nx : Nat} {sl : Nat → List Int32} {mr : Nat → Nat} {th : Nat → Bool}, clsX M dr np vs run sta tri tg nx sl mr th → refX M dr np vs run sta tri tg nx sl mr th → INV dr np vs run sta tri tg nx sl mr th → V G mtL_law 7 lawQ 0 0 18 [some (.ref 0), some (.ref 1), some (.ref 33), some (.int (nI (i + 4)))] [] M n) (hc : clsX M dr np vs run sta tri tg nx sl mr th) (hm : refX M dr np vs run sta tri tg nx sl mr th) (hi : INV dr np vs run sta tri tg nx sl mr th) : V G mtL_law 7 lawQ 0 0 444 [some (.ref 0), some (.ref 1), some (.ref 33), some (.int (nI i))] [] M n := by
  obtain ⟨i1, i2, i3, i4, i5, i6, i7, i8, i9, i10, i11, i12, -⟩ := id hi.1
  obtain ⟨fs1, hx1⟩ := hc.obj
  refine V_aload_n dL_law_444 rfl ?_
  refine V_aload_n dL_law_445 rfl ?_
  refine V_iload_n dL_law_446 rfl ?_
  refine V_iconst (v := 1) dL_law_447 (by decide) ?_
  refine V_iadd dL_law_448 ?_
  refine V_ks (k := i + 1) dL_law_449 (nI_1 i) (by omega) hN ?_
  refine V_aload_n dL_law_450 rfl ?_
  refine V_iload_n dL_law_451 rfl ?_
  refine V_iconst (v := 2) dL_law_452 (by decide) ?_
  refine V_iadd dL_law_453 ?_
  refine V_ks (k := i + 2) dL_law_454 (nI_add i 2) (by omega) hN ?_
  obtain ⟨fs33, hy1⟩ := hm.obj
  refine V_rV2 dL_law_455 clL_65 (Nat.le_of_ble_eq_true rfl) (hx1) rfl (by decide) (cT_slot hc _ _) ?_
  refine V_aload_n dL_law_458 rfl ?_
  refine V_aload_n dL_law_459 rfl ?_
  refine V_iload_n dL_law_460 rfl ?_
  refine V_iconst (v := 1) dL_law_461 (by decide) ?_
  refine V_iadd dL_law_462 ?_
  refine V_ks (k := i + 1) dL_law_463 (nI_1 i) (by omega) hN ?_
  refine V_aload_n dL_law_464 rfl ?_
  refine V_iload_n dL_law_465 rfl ?_
  refine V_iconst (v := 2) dL_law_466 (by decide) ?_
  refine V_iadd dL_law_467 ?_
  refine V_ks (k := i + 2) dL_law_468 (nI_add i 2) (by omega) hN ?_
  refine V_rV2 dL_law_469 clL_68 (Nat.le_of_ble_eq_true rfl) (hy1) rfl (by decide) (cM_slot hm i12 _ _) ?_
  refine V_icmp_eq (tgt := 523) dL_law_472 (by decide) (fun c => ?_) (fun c => ?_)
  · refine V_iinc (v := _ + 4) dL_law_523 (by decide) rfl rfl ?_
    refine V_goto (tgt := 18) dL_law_526 (by decide) ?_
    rw [show nI i + 4 = nI (i + 4) from nI_add i 4]
    exact ih hc hm hi
  · exact absurd rfl c
theorem lL_state {M : aM} {dr : List Int32} {np : Nat} {vs : Nat → List Int32} {run sta tri tg nx : Nat} {sl : Nat → List Int32} {mr : Nat → Nat} {th : Nat → Bool} {i : Nat} (hN : gN G ≤ 2048) (h4 : i + 4 ≤ gN G) (ih : ∀ {M : aM} {dr : List Int32} {np : Nat} {vs : Nat → List Int32} {run sta tri tg nx : Nat} {sl : Nat → List Int32} {mr : Nat → Nat} {th : Nat → Bool}, clsX M dr np vs run sta tri tg nx sl mr th → refX M dr np vs run sta tri tg nx sl mr th → INV dr np vs run sta tri tg nx sl mr th → V G mtL_law 7 lawQ 0 0 18 [some (.ref 0), some (.ref 1), some (.ref 33), some (.int (nI (i + 4)))] [] M n) (hc : clsX M dr np vs run sta tri tg nx sl mr th) (hm : refX M dr np vs run sta tri tg nx sl mr th) (hi : INV dr np vs run sta tri tg nx sl mr th) : V G mtL_law 7 lawQ 0 0 477 [some (.ref 0), some (.ref 1), some (.ref 33), some (.int (nI i))] [] M n := by
  obtain ⟨i1, i2, i3, i4, i5, i6, i7, i8, i9, i10, i11, i12, -⟩ := id hi.1
  obtain ⟨fs1, hx1⟩ := hc.obj
  refine V_aload_n dL_law_477 rfl ?_
  refine V_aload_n dL_law_478 rfl ?_
  refine V_iload_n dL_law_479 rfl ?_
  refine V_iconst (v := 1) dL_law_480 (by decide) ?_
  refine V_iadd dL_law_481 ?_
  refine V_ks (k := i + 1) dL_law_482 (nI_1 i) (by omega) hN ?_
  obtain ⟨fs33, hy1⟩ := hm.obj
  refine V_rV1 dL_law_483 clL_69 (Nat.le_of_ble_eq_true rfl) (hx1) rfl (by decide) (cT_state hc hi.1 _) ?_
  refine V_aload_n dL_law_486 rfl ?_
  refine V_aload_n dL_law_487 rfl ?_
  refine V_iload_n dL_law_488 rfl ?_
  refine V_iconst (v := 1) dL_law_489 (by decide) ?_
  refine V_iadd dL_law_490 ?_
  refine V_ks (k := i + 1) dL_law_491 (nI_1 i) (by omega) hN ?_
  refine V_rV1 dL_law_492 clL_72 (Nat.le_of_ble_eq_true rfl) (hy1) rfl (by decide) (cM_state hm i9 _) ?_
  refine V_icmp_eq (tgt := 523) dL_law_495 (by decide) (fun c => ?_) (fun c => ?_)
  · refine V_iinc (v := _ + 4) dL_law_523 (by decide) rfl rfl ?_
    refine V_goto (tgt := 18) dL_law_526 (by decide) ?_
    rw [show nI i + 4 = nI (i + 4) from nI_add i 4]
    exact ih hc hm hi
  · exact absurd rfl c
theorem lL_sound {M : aM} {dr : List Int32} {np : Nat} {vs : Nat → List Int32} {run sta tri tg nx : Nat} {sl : Nat → List Int32} {mr : Nat → Nat} {th : Nat → Bool} {i : Nat} (hN : gN G ≤ 2048) (h4 : i + 4 ≤ gN G) (ih : ∀ {M : aM} {dr : List Int32} {np : Nat} {vs : Nat → List Int32} {run sta tri tg nx : Nat} {sl : Nat → List Int32} {mr : Nat → Nat} {th : Nat → Bool}, clsX M dr np vs run sta tri tg nx sl mr th → refX M dr np vs run sta tri tg nx sl mr th → INV dr np vs run sta tri tg nx sl mr th → V G mtL_law 7 lawQ 0 0 18 [some (.ref 0), some (.ref 1), some (.ref 33), some (.int (nI (i + 4)))] [] M n) (hc : clsX M dr np vs run sta tri tg nx sl mr th) (hm : refX M dr np vs run sta tri tg nx sl mr th) (hi : INV dr np vs run sta tri tg nx sl mr th) : V G mtL_law 7 lawQ 0 0 500 [some (.ref 0), some (.ref 1), some (.ref 33), some (.int (nI i))] [] M n := by
  obtain ⟨i1, i2, i3, i4, i5, i6, i7, i8, i9, i10, i11, i12, -⟩ := id hi.1
  obtain ⟨fs1, hx1⟩ := hc.obj
  refine V_aload_n dL_law_500 rfl ?_
  refine V_aload_n dL_law_501 rfl ?_
  refine V_iload_n dL_law_502 rfl ?_
  refine V_iconst (v := 1) dL_law_503 (by decide) ?_
  refine V_iadd dL_law_504 ?_
  refine V_ks (k := i + 1) dL_law_505 (nI_1 i) (by omega) hN ?_
  obtain ⟨fs33, hy1⟩ := hm.obj
  obtain ⟨bs, cp, bl, hMd, hb, hu⟩ := id hm
  refine V_rV1 dL_law_506 clL_73 (Nat.le_of_ble_eq_true rfl) (hx1) rfl (by decide) (cT_sound hc hi.1 _) ?_
  refine V_aload_n dL_law_509 rfl ?_
  refine V_aload_n dL_law_510 rfl ?_
  refine V_iload_n dL_law_511 rfl ?_
  refine V_iconst (v := 1) dL_law_512 (by decide) ?_
  refine V_iadd dL_law_513 ?_
  refine V_ks (k := i + 1) dL_law_514 (nI_1 i) (by omega) hN ?_
  refine V_rV1 dL_law_515 clL_77 (Nat.le_of_ble_eq_true rfl) (hy1) rfl (by decide) (cM_sound hMd (fun k hk => by have := i11 k hk; omega) i4 i12 _) ?_
  refine V_icmp_eq (tgt := 523) dL_law_518 (by decide) (fun c => ?_) (fun c => ?_)
  · refine V_iinc (v := _ + 4) dL_law_523 (by decide) rfl rfl ?_
    refine V_goto (tgt := 18) dL_law_526 (by decide) ?_
    rw [show nI i + 4 = nI (i + 4) from nI_add i 4]
    exact ih hc hm hi
  · exact absurd rfl c
theorem lL_body {M : aM} {dr : List Int32} {np : Nat} {vs : Nat → List Int32} {run sta tri tg nx : Nat} {sl : Nat → List Int32} {mr : Nat → Nat} {th : Nat → Bool} {i : Nat} (hN : gN G ≤ 2048) (h4 : i + 4 ≤ gN G) (ih : ∀ {M : aM} {dr : List Int32} {np : Nat} {vs : Nat → List Int32} {run sta tri tg nx : Nat} {sl : Nat → List Int32} {mr : Nat → Nat} {th : Nat → Bool}, clsX M dr np vs run sta tri tg nx sl mr th → refX M dr np vs run sta tri tg nx sl mr th → INV dr np vs run sta tri tg nx sl mr th → V G mtL_law 7 lawQ 0 0 18 [some (.ref 0), some (.ref 1), some (.ref 33), some (.int (nI (i + 4)))] [] M n) (hc : clsX M dr np vs run sta tri tg nx sl mr th) (hm : refX M dr np vs run sta tri tg nx sl mr th) (hi : INV dr np vs run sta tri tg nx sl mr th) : V G mtL_law 7 lawQ 0 0 26 [some (.ref 0), some (.ref 1), some (.ref 33), some (.int (nI i))] [] M n := by
  refine V_aload_n dL_law_26 rfl ?_
  refine V_iload_n dL_law_27 rfl ?_
  refine V_ks (k := i) dL_law_28 rfl (by omega) hN ?_
  refine V_bipush (v := 15) dL_law_29 (by decide) ?_
  refine V_iand dL_law_31 ?_
  obtain ⟨k, hk, e⟩ := pk_andE (gX G i) (m := 15) 4 (by decide)
  rw [e]
  have hk : k < 16 := hk
  rcases (show k = 0 ∨ k = 1 ∨ k = 2 ∨ k = 3 ∨ k = 4 ∨ k = 5 ∨ k = 6 ∨ k = 7 ∨ k = 8 ∨ k = 9 ∨ k = 10 ∨ k = 11 ∨ k = 12 ∨ k = 13 ∨ k = 14 ∨ k = 15 by omega) with q | q | q | q | q | q | q | q | q | q | q | q | q | q | q | q <;> subst q
  · exact V_tableIn (tgt := 108) (off := 76) dL_law_32 (by decide) (by decide) rfl (by decide) (lL_feed hN h4 ih hc hm hi)
  · exact V_tableIn (tgt := 131) (off := 99) dL_law_32 (by decide) (by decide) rfl (by decide) (lL_reuse hN h4 ih hc hm hi)
  · exact V_tableIn (tgt := 174) (off := 142) dL_law_32 (by decide) (by decide) rfl (by decide) (lL_publish hN h4 ih hc hm hi)
  · exact V_tableIn (tgt := 187) (off := 155) dL_law_32 (by decide) (by decide) rfl (by decide) (lL_patch hN h4 ih hc hm hi)
  · exact V_tableIn (tgt := 220) (off := 188) dL_law_32 (by decide) (by decide) rfl (by decide) (lL_patchByte hN h4 ih hc hm hi)
  · exact V_tableIn (tgt := 263) (off := 231) dL_law_32 (by decide) (by decide) rfl (by decide) (lL_saved hN h4 ih hc hm hi)
  · exact V_tableIn (tgt := 296) (off := 264) dL_law_32 (by decide) (by decide) rfl (by decide) (lL_offer hN h4 ih hc hm hi)
  · exact V_tableIn (tgt := 319) (off := 287) dL_law_32 (by decide) (by decide) rfl (by decide) (lL_block hN h4 ih hc hm hi)
  · exact V_tableIn (tgt := 352) (off := 320) dL_law_32 (by decide) (by decide) rfl (by decide) (lL_install hN h4 ih hc hm hi)
  · exact V_tableIn (tgt := 375) (off := 343) dL_law_32 (by decide) (by decide) rfl (by decide) (lL_boot hN h4 ih hc hm hi)
  · exact V_tableIn (tgt := 388) (off := 356) dL_law_32 (by decide) (by decide) rfl (by decide) (lL_confirm hN h4 ih hc hm hi)
  · exact V_tableIn (tgt := 401) (off := 369) dL_law_32 (by decide) (by decide) rfl (by decide) (lL_damage hN h4 ih hc hm hi)
  · exact V_tableIn (tgt := 444) (off := 412) dL_law_32 (by decide) (by decide) rfl (by decide) (lL_slot hN h4 ih hc hm hi)
  · exact V_tableIn (tgt := 477) (off := 445) dL_law_32 (by decide) (by decide) rfl (by decide) (lL_state hN h4 ih hc hm hi)
  · exact V_tableIn (tgt := 500) (off := 468) dL_law_32 (by decide) (by decide) rfl (by decide) (lL_sound hN h4 ih hc hm hi)
  · refine V_tableOut (tgt := 523) dL_law_32 (Or.inr (by decide)) (by decide) ?_
    refine V_iinc (v := _ + 4) dL_law_523 (by decide) rfl rfl ?_
    refine V_goto (tgt := 18) dL_law_526 (by decide) ?_
    rw [show nI i + 4 = nI (i + 4) from nI_add i 4]
    exact ih hc hm hi
theorem lL_loop (hN : gN G ≤ 2048) : ∀ (f i : Nat) {M : aM} {dr : List Int32} {np : Nat} {vs : Nat → List Int32} {run sta tri tg nx : Nat} {sl : Nat → List Int32} {mr : Nat → Nat} {th : Nat → Bool}, gN G ≤ i + f → i ≤ 4000 → clsX M dr np vs run sta tri tg nx sl mr th → refX M dr np vs run sta tri tg nx sl mr th → INV dr np vs run sta tri tg nx sl mr th → V G mtL_law 7 lawQ 0 0 18 [some (.ref 0), some (.ref 1), some (.ref 33), some (.int (nI i))] [] M n := by
  intro f
  induction f with
  | zero =>
    intro i M dr np vs run sta tri tg nx sl mr th hf h0 hc hm hi
    refine V_iload_n dL_law_18 rfl ?_
    refine V_aload_n dL_law_19 rfl ?_
    refine V_slen dL_law_20 ?_
    refine V_iconst (v := 4) dL_law_21 (by decide) ?_
    refine V_isub dL_law_22 ?_
    refine V_icmp_gt (tgt := 529) dL_law_23 (by decide) (fun c => ?_) (fun c => ?_)
    · refine V_iconst (v := 1) dL_law_529 (by decide) ?_
      exact V_zret dL_law_530 rfl rfl rfl
    · exfalso
      apply c
      rw [Int32.lt_iff_toInt_lt, show nI (gN G) - 4 = nI (gN G) - nI 4 from rfl, i32_sub (by omega) (by omega), nI_toInt (by omega)]
      omega
  | succ f ih =>
    intro i M dr np vs run sta tri tg nx sl mr th hf h0 hc hm hi
    refine V_iload_n dL_law_18 rfl ?_
    refine V_aload_n dL_law_19 rfl ?_
    refine V_slen dL_law_20 ?_
    refine V_iconst (v := 4) dL_law_21 (by decide) ?_
    refine V_isub dL_law_22 ?_
    refine V_icmp_gt (tgt := 529) dL_law_23 (by decide) (fun c => ?_) (fun c => ?_)
    · refine V_iconst (v := 1) dL_law_529 (by decide) ?_
      exact V_zret dL_law_530 rfl rfl rfl
    · have h4 : i + 4 ≤ gN G := by
        rw [Int32.lt_iff_toInt_lt, show nI (gN G) - 4 = nI (gN G) - nI 4 from rfl, i32_sub (by omega) (by omega), nI_toInt (by omega)] at c
        omega
      exact lL_body hN h4 (fun a b d => ih (i + 4) (by omega) (by omega) a b d) hc hm hi
theorem lL_law (hN : gN G ≤ 2048) : V G mtL_law 7 lawQ 41 1141 0 [some (.ref 0), none, none, none] [] (fun _ => none) 0 := by
  refine V_new 40 1134 dL_law_0 nwL_7 (by decide) (by decide) ?_
  refine V_dup dL_law_3 rfl ?_
  refine V_callI0 9 589 dL_law_4 clL_9 (Nat.le_of_ble_eq_true rfl) (by decide) (by decide) (by decide) (cT_init (G := G) (hU_eq _ _ _)) (fun v M1 n' hQ => ?_)
  obtain ⟨q1, q2, q3⟩ := hQ
  subst q1; subst q2
  refine V_astore_n dL_law_7 (by decide) ?_
  refine V_new 8 571 dL_law_8 nwL_10 (by decide) (by decide) ?_
  refine V_dup dL_law_11 rfl ?_
  have hc0 := q3.frame (M' := hU M1 33 (.inr (4, [.null, .null, .int 0, .null, .int 0, .null, .int 0, .int 0, .null, .null, .null, .int 0, .int 0, .int 0, .int 0, .null, .int 0, .int 0]))) (fun q hq => hU_ne (by omega))
  refine V_callI0 0 0 dL_law_12 clL_12 (Nat.le_of_ble_eq_true rfl) (by decide) (by decide) (by decide) (cM_init (G := G) (hU_eq _ _ _)) (fun v M2 n' hQ => ?_)
  obtain ⟨p1, p2, p3, p4⟩ := hQ
  subst p1; subst p2
  have hc1 := hc0.frame p3
  refine V_astore_n dL_law_15 (by decide) ?_
  refine V_iconst (v := 0) dL_law_16 (by decide) ?_
  refine V_istore_n dL_law_17 (by decide) ?_
  exact lL_loop hN (gN G) 0 (by omega) (by omega) hc1 p4 INV_0
end LAW
