/-! what every call keeps -/
def INV (dr : List Int32) (np : Nat) (vs : Nat → List Int32) (run sta tri tg nx : Nat) (sl : Nat → List Int32) (mr : Nat → Nat) (th : Nat → Bool) : Prop := inv dr np vs run sta tri tg nx sl mr th ∧ (sta = 2 → ∃ f, okL f ((patchOf (vs tg) (vs (mr run))).drop nx))
theorem isB_nil : isB [] := fun x hx => by cases hx
theorem inB_of {b : Int32} (h : inB b) : ∃ k, k < 256 ∧ b = nI k := by
  obtain ⟨k, hk, e⟩ := nI_of h.1
  subst e
  have := (nI_leI (b := 255) hk (by omega)).mp h.2
  exact ⟨k, by omega, rfl⟩
theorem mkA_pos {v o : List Int32} (hv : v.length ≤ 40) : ∀ (f p lf : Nat) (acc : List Int32) (cp : Nat), v.length + 1 ≤ f + p → lf ≤ p → p ≤ v.length → (lf < v.length ∨ 0 < acc.length) → 0 < (mkA v o f p lf acc cp).1.length := by
  intro f
  induction f with
  | zero => intro p lf acc cp q1 q2 q3; omega
  | succ f ih =>
    intro p lf acc cp q1 q2 q3 q4
    unfold mkA
    have hm := (lcp_le (v.drop p) (o.drop (mp v o p o.length).2)).1
    rw [List.length_drop] at hm
    by_cases c : p < v.length
    · rw [if_pos c]
      by_cases c4 : 4 ≤ lcp (v.drop p) (o.drop (mp v o p o.length).2)
      · rw [if_pos c4]
        refine ih _ _ _ _ (by omega) (Nat.le_refl _) (by omega) (Or.inr ?_)
        simp only [List.length_append, List.length_cons]
        omega
      · rw [if_neg c4]
        exact ih _ _ _ _ (by omega) (by omega) (by omega) q4
    · rw [if_neg c]
      show 0 < (acc ++ lEnc 2 ((v.drop lf).take (p - lf))).length
      rw [List.length_append]
      rcases q4 with z | z
      · have hl : ((v.drop lf).take (p - lf)).length = p - lf := by rw [List.length_take, List.length_drop]; omega
        by_cases y : p - lf ≤ 31
        · rw [lEnc_1 (by omega) (by omega)]; simp only [List.length_cons]; omega
        · rw [lEnc_2 (by omega) (by omega)]; simp only [List.length_cons]; omega
      · omega
theorem patchOf_pos {v o : List Int32} (hv : v.length ≤ 40) (h : v ≠ []) : 0 < (patchOf v o).length := by
  have h0 : 0 < v.length := List.length_pos_iff.mpr h
  exact mkA_pos hv _ 0 0 [] 0 (by omega) (by omega) (by omega) (Or.inl h0)
section INVS
variable {dr : List Int32} {np : Nat} {vs : Nat → List Int32} {run sta tri tg nx : Nat} {sl : Nat → List Int32} {mr : Nat → Nat} {th : Nat → Bool}
theorem INV_0 : INV [] 0 (fun _ => []) 0 0 0 0 0 (fun _ => []) (fun _ => 0) (fun _ => false) := by
  refine ⟨⟨by decide, isB_nil, by decide, (fun _ => Nat.zero_le _), (fun _ => isB_nil), (fun _ _ => rfl), (fun v h1 h2 => by omega), by decide, by decide, by decide, (fun _ _ => Nat.le_refl _), (fun _ _ => Nat.zero_le _), (fun z => by omega), (fun z => by omega), (fun _ _ => rfl), by decide, by decide⟩, fun z => by omega⟩
theorem INV_dr {dr' : List Int32} (h : INV dr np vs run sta tri tg nx sl mr th) (h1 : dr'.length ≤ 40) (h2 : isB dr') : INV dr' np vs run sta tri tg nx sl mr th := by
  obtain ⟨⟨i1, i2, i⟩, h⟩ := h
  exact ⟨⟨h1, h2, i⟩, h⟩
theorem INV_feed (h : INV dr np vs run sta tri tg nx sl mr th) (b : Int32) : INV (spFeed dr b).2 np vs run sta tri tg nx sl mr th := by
  obtain ⟨i1, i2, -⟩ := h.1
  unfold spFeed
  by_cases c : inB b
  · rw [if_pos c]
    by_cases c2 : dr.length < 40
    · rw [if_pos c2]
      refine INV_dr h (by show (dr ++ [b]).length ≤ 40; rw [List.length_append, List.length_singleton]; omega) (isB_app i2 (fun x hx => ?_))
      rw [List.mem_singleton.mp hx]
      exact inB_of c
    · rw [if_neg c2]; exact h
  · rw [if_neg c]; exact h
theorem INV_reuse (h : INV dr np vs run sta tri tg nx sl mr th) (v p k : Int32) : INV (spReuse dr np vs v p k).2 np vs run sta tri tg nx sl mr th := by
  obtain ⟨i1, i2, i3, i4, i5, -⟩ := h.1
  unfold spReuse
  by_cases c : inV np v ∧ ¬ p < 0 ∧ 1 ≤ k ∧ k ≤ nI (vs (bN v)).length - p
  · rw [if_pos c]
    by_cases c2 : k ≤ 40 - nI dr.length
    · rw [if_pos c2]
      obtain ⟨j, hj0, hj1, ej, ejb⟩ := one_le c.2.2.1
      rw [ej] at c2
      have := (le_sub_iff (len := 40) hj1 (by omega) (show dr.length < 2 ^ 31 by omega)).mp c2
      refine INV_dr h ?_ (isB_app i2 (isB_take (isB_drop (i5 _) _) _))
      show (dr ++ ((vs (bN v)).drop (bN p)).take (bN k)).length ≤ 40
      rw [List.length_append, List.length_take, ejb]
      omega
    · rw [if_neg c2]; exact h
  · rw [if_neg c]; exact h
theorem INV_pub (h : INV dr np vs run sta tri tg nx sl mr th) : INV (spPub dr np vs).2.1 (spPub dr np vs).2.2.1 (spPub dr np vs).2.2.2 run sta tri tg nx sl mr th := by
  obtain ⟨⟨i1, i2, i3, i4, i5, i6, i7, i8, i9, i10, i11, i12, i13, i14, i15, i16, i17⟩, hok⟩ := id h
  unfold spPub
  by_cases c : dr.length = 0
  · rw [if_pos c]; exact h
  · rw [if_neg c]
    by_cases c2 : np < 6
    · rw [if_pos c2]
      have e : uwP sta → patchOf (va_up vs (np + 1) dr tg) (va_up vs (np + 1) dr (mr run)) = patchOf (vs tg) (vs (mr run)) := fun z => by
        have z1 := i13 z
        have z2 := i11 run (by omega)
        rw [vu_ne (by omega), vu_ne (by omega)]
      refine ⟨⟨Nat.zero_le _, isB_nil, by show np + 1 ≤ 6; omega, fun v => ?_, fun v => ?_, fun v hv => ?_, fun v h1 h2 => ?_, i8, i9, i10, fun k hk => by have := i11 k hk; show mr k ≤ np + 1; omega, i12, fun z => by have := i13 z; exact ⟨this.1, by show tg ≤ np + 1; omega⟩, fun z => ?_, i15, i16, i17⟩, fun z => ?_⟩
      · show (va_up vs (np + 1) dr v).length ≤ 40
        by_cases y : v = np + 1
        · subst y; rw [vu_eq]; exact i1
        · rw [vu_ne y]; exact i4 v
      · show isB (va_up vs (np + 1) dr v)
        by_cases y : v = np + 1
        · subst y; rw [vu_eq]; exact i2
        · rw [vu_ne y]; exact i5 v
      · have hv : v = 0 ∨ np + 1 < v := hv
        show va_up vs (np + 1) dr v = []
        rw [vu_ne (by omega)]
        exact i6 v (by omega)
      · have h2 : v ≤ np + 1 := h2
        show va_up vs (np + 1) dr v ≠ []
        by_cases y : v = np + 1
        · subst y; rw [vu_eq]; intro q; rw [q] at c; exact c rfl
        · rw [vu_ne y]; exact i7 v h1 (by omega)
      · show nx < (patchOf (va_up vs (np + 1) dr tg) (va_up vs (np + 1) dr (mr run))).length
        rw [e (Or.inr (Or.inl z))]
        exact i14 z
      · show ∃ f, okL f ((patchOf (va_up vs (np + 1) dr tg) (va_up vs (np + 1) dr (mr run))).drop nx)
        rw [e (Or.inr (Or.inl z))]
        exact hok z
    · rw [if_neg c2]; exact h
theorem INV_offer (h : INV dr np vs run sta tri tg nx sl mr th) (v : Int32) : INV dr np vs run (spOffer np vs run sta tg mr th v).2.1 tri (spOffer np vs run sta tg mr th v).2.2.1 nx sl mr (spOffer np vs run sta tg mr th v).2.2.2 := by
  obtain ⟨⟨i1, i2, i3, i4, i5, i6, i7, i8, i9, i10, i11, i12, i13, i14, i15, i16, i17⟩, hok⟩ := id h
  unfold spOffer
  by_cases c : ¬ v = 0 ∧ inV np v
  · rw [if_pos c]
    by_cases c2 : sta = 3 ∨ sta = 4
    · rw [if_pos c2]; exact h
    · rw [if_neg c2]
      obtain ⟨a, ha, e, eb⟩ := inV_of c.2 i3
      rw [eb]
      have ha0 : a ≠ 0 := fun q => c.1 (by rw [e, q]; rfl)
      exact ⟨⟨i1, i2, i3, i4, i5, i6, i7, i8, Nat.le_of_ble_eq_true rfl, i10, i11, i12, fun _ => ⟨by show 0 < a; omega, ha⟩, fun z => by have z : 1 = 2 := z; omega, fun _ _ => rfl, by show a ≤ 6; omega, i17⟩, fun z => by have z : 1 = 2 := z; omega⟩
  · rw [if_neg c]; exact h
theorem INV_block (h : INV dr np vs run sta tri tg nx sl mr th) (i z : Int32) : INV dr np vs run (spBlock vs run sta tg nx sl mr th i z).2.1 tri tg (spBlock vs run sta tg nx sl mr th i z).2.2.1 (spBlock vs run sta tg nx sl mr th i z).2.2.2.1 (spBlock vs run sta tg nx sl mr th i z).2.2.2.2.1 (spBlock vs run sta tg nx sl mr th i z).2.2.2.2.2 := by
  obtain ⟨⟨i1, i2, i3, i4, i5, i6, i7, i8, i9, i10, i11, i12, i13, i14, i15, i16, i17⟩, hok⟩ := id h
  unfold spBlock
  by_cases c : inB z ∧ uwP sta ∧ ¬ i < 0 ∧ i < nI (blk (patchOf (vs tg) (vs (mr run))))
  · rw [if_pos c]
    by_cases c1 : sta = 1
    · rw [if_pos c1]
      by_cases c0 : z = 0
      · rw [if_pos c0]
        have htg := i13 c.2.1
        have hlen := patchOf_len (vs tg) (vs (mr run)) (i4 tg)
        have hb9 : blk (patchOf (vs tg) (vs (mr run))) ≤ 9 := by unfold blk; omega
        obtain ⟨k, hk31, ek⟩ := nI_of c.2.2.1
        have hk : k < 9 := by
          have := c.2.2.2
          rw [ek] at this
          have := (nI_ltI hk31 (by omega)).mp this
          omega
        have hth : ∀ j, 9 ≤ j → va_up th (bN i) true j = false := fun j hj => by
          rw [show bN i = k by rw [ek]; exact nI_clamp hk31, vu_ne (by omega)]
          exact i15 j hj
        have er : va_up mr (1 - run) tg run = mr run := vu_ne (by omega)
        by_cases cm : miss (va_up th (bN i) true) (blk (patchOf (vs tg) (vs (mr run)))) = 0
        · rw [if_pos cm]
          refine ⟨⟨i1, i2, i3, i4, i5, i6, i7, i8, Nat.le_of_ble_eq_true rfl, i10, fun j hj => ?_, fun j hj => ?_, fun _ => htg, fun _ => ?_, hth, i16, Nat.le_of_ble_eq_true rfl⟩, fun _ => ?_⟩
          · show va_up mr (1 - run) tg j ≤ np
            by_cases y : j = 1 - run
            · subst y; rw [vu_eq]; exact htg.2
            · rw [vu_ne y]; exact i11 j hj
          · show (va_up sl (1 - run) [] j).length ≤ 40
            by_cases y : j = 1 - run
            · subst y; rw [vu_eq]; simp
            · rw [vu_ne y]; exact i12 j hj
          · show 0 < (patchOf (vs tg) (vs (va_up mr (1 - run) tg run))).length
            exact patchOf_pos (i4 _) (i7 tg htg.1 htg.2)
          · show ∃ f, okL f ((patchOf (vs tg) (vs (va_up mr (1 - run) tg run))).drop 0)
            rw [List.drop_zero]
            exact okL_patchOf _ _ (i4 _)
        · rw [if_neg cm]
          exact ⟨⟨i1, i2, i3, i4, i5, i6, i7, i8, i9, i10, i11, i12, i13, i14, hth, i16, i17⟩, hok⟩
      · rw [if_neg c0]; exact h
    · rw [if_neg c1]; exact h
  · rw [if_neg c]; exact h
theorem insN_keeps {ub : List Int32} (hl : ub.length ≤ 42) : ∀ (j : Nat) (x : Nat × Nat × (Nat → List Int32)), x.1 = 0 ∨ x.1 = 2 ∨ x.1 = 3 → (∀ s, s < 2 → (x.2.2 s).length ≤ 40) → x.2.1 ≤ 42 → (x.1 = 2 → x.2.1 < ub.length ∧ ∃ f, okL f (ub.drop x.2.1)) → ((insN vs mr ub run j x).1 = 0 ∨ (insN vs mr ub run j x).1 = 2 ∨ (insN vs mr ub run j x).1 = 3) ∧ (∀ s, s < 2 → ((insN vs mr ub run j x).2.2 s).length ≤ 40) ∧ (insN vs mr ub run j x).2.1 ≤ 42 ∧ ((insN vs mr ub run j x).1 = 2 → (insN vs mr ub run j x).2.1 < ub.length ∧ ∃ f, okL f (ub.drop (insN vs mr ub run j x).2.1)) := by
  intro j
  induction j with
  | zero => intro x h1 h2 h3 h4; exact ⟨h1, h2, h3, h4⟩
  | succ j ih =>
    intro x h1 h2 h3 h4
    unfold insN
    by_cases c : x.1 = 2
    · rw [if_pos c]
      obtain ⟨hn, f, hf⟩ := h4 c
      obtain ⟨o1, o2, o3, o4⟩ := okL_at hf hn
      refine ih _ ?_ (fun s hs => ?_) (by show pcN ub x.2.1 ≤ 42; omega) (fun z => ?_)
      · unfold ins1
        by_cases z : ub.length ≤ pcN ub x.2.1
        · rw [if_pos z]
          by_cases y : sndP vs (va_up x.2.2 (1 - run) (pcY ub (x.2.2 run) (x.2.2 (1 - run)) x.2.1)) mr (1 - run)
          · rw [if_pos y]; exact Or.inr (Or.inr rfl)
          · rw [if_neg y]; exact Or.inl rfl
        · rw [if_neg z]; exact Or.inr (Or.inl c)
      · show (va_up x.2.2 (1 - run) (pcY ub (x.2.2 run) (x.2.2 (1 - run)) x.2.1) s).length ≤ 40
        by_cases z : s = 1 - run
        · subst z
          rw [vu_eq]
          unfold pcY
          by_cases y : bN (ub.getD x.2.1 0) ≤ 31
          · rw [if_pos y]; unfold apf; rw [List.length_take]; omega
          · rw [if_neg y]; unfold apf; rw [List.length_take]; omega
        · rw [vu_ne z]; exact h2 s hs
      · show pcN ub x.2.1 < ub.length ∧ ∃ f, okL f (ub.drop (pcN ub x.2.1))
        refine ⟨?_, o4⟩
        by_cases y : ub.length ≤ pcN ub x.2.1
        · unfold ins1 at z
          rw [if_pos y] at z
          by_cases w : sndP vs (va_up x.2.2 (1 - run) (pcY ub (x.2.2 run) (x.2.2 (1 - run)) x.2.1)) mr (1 - run)
          · rw [if_pos w] at z; have z : 3 = 2 := z; omega
          · rw [if_neg w] at z; have z : 0 = 2 := z; omega
        · omega
    · rw [if_neg c]; exact ⟨h1, h2, h3, h4⟩
theorem INV_install (h : INV dr np vs run sta tri tg nx sl mr th) (k : Int32) : INV dr np vs run (spInstall vs run sta tg nx sl mr k).2.1 tri tg (spInstall vs run sta tg nx sl mr k).2.2.1 (spInstall vs run sta tg nx sl mr k).2.2.2 mr th := by
  obtain ⟨⟨i1, i2, i3, i4, i5, i6, i7, i8, i9, i10, i11, i12, i13, i14, i15, i16, i17⟩, hok⟩ := id h
  unfold spInstall
  by_cases c : 1 ≤ k ∧ k ≤ 20
  · rw [if_pos c]
    by_cases c2 : sta = 2
    · rw [if_pos c2]
      have hlen := patchOf_len (vs tg) (vs (mr run)) (i4 tg)
      have hn := i14 c2
      obtain ⟨k1, k2, k3, k4⟩ := insN_keeps (vs := vs) (mr := mr) (run := run) hlen (bN k) (sta, nx, sl) (Or.inr (Or.inl c2)) i12 (by show nx ≤ 42; omega) (fun z => ⟨i14 z, hok z⟩)
      exact ⟨⟨i1, i2, i3, i4, i5, i6, i7, i8, by show (insN _ _ _ _ _ _).1 ≤ 4; omega, i10, i11, k2, fun _ => i13 (Or.inr (Or.inl c2)), fun z => (k4 z).1, i15, i16, by show (insN _ _ _ _ _ _).2.1 ≤ 1000; omega⟩, fun z => (k4 z).2⟩
    · rw [if_neg c2]; exact h
  · rw [if_neg c]; exact h
theorem INV_confirm (h : INV dr np vs run sta tri tg nx sl mr th) : INV dr np vs run (spConfirm sta).2 tri tg nx sl mr th := by
  obtain ⟨⟨i1, i2, i3, i4, i5, i6, i7, i8, i9, i10, i11, i12, i13, i14, i15, i16, i17⟩, hok⟩ := id h
  unfold spConfirm
  by_cases c : sta = 4
  · rw [if_pos c]
    exact ⟨⟨i1, i2, i3, i4, i5, i6, i7, i8, Nat.le_of_ble_eq_true rfl, i10, i11, i12, fun z => by have z : uwP 0 := z; omega, fun z => by have z : 0 = 2 := z; omega, i15, i16, i17⟩, fun z => by have z : 0 = 2 := z; omega⟩
  · rw [if_neg c]; exact h
theorem INV_damage (h : INV dr np vs run sta tri tg nx sl mr th) (s i b : Int32) : INV dr np vs run sta tri tg nx (spDamage sl s i b).2 mr th := by
  obtain ⟨⟨i1, i2, i3, i4, i5, i6, i7, i8, i9, i10, i11, i12, i13, i14, i15, i16, i17⟩, hok⟩ := id h
  unfold spDamage
  by_cases c : isS s ∧ xIn (sl (bN s)) i ∧ inB b
  · rw [if_pos c]
    refine ⟨⟨i1, i2, i3, i4, i5, i6, i7, i8, i9, i10, i11, fun k hk => ?_, i13, i14, i15, i16, i17⟩, hok⟩
    show (va_up sl (bN s) ((sl (bN s)).set (bN i) b) k).length ≤ 40
    by_cases y : k = bN s
    · subst y; rw [vu_eq, List.length_set]; exact i12 _ hk
    · rw [vu_ne y]; exact i12 k hk
  · rw [if_neg c]; exact h
theorem INV_boot (h : INV dr np vs run sta tri tg nx sl mr th) : INV dr np vs (spBoot vs tg (run, sta, tri, nx, sl, mr)).2.1 (spBoot vs tg (run, sta, tri, nx, sl, mr)).2.2.1 (spBoot vs tg (run, sta, tri, nx, sl, mr)).2.2.2.1 tg (spBoot vs tg (run, sta, tri, nx, sl, mr)).2.2.2.2.1 (spBoot vs tg (run, sta, tri, nx, sl, mr)).2.2.2.2.2.1 (spBoot vs tg (run, sta, tri, nx, sl, mr)).2.2.2.2.2.2 th := by
  have fin : ∀ x : bX, INV dr np vs x.1 x.2.1 x.2.2.1 tg x.2.2.2.1 x.2.2.2.2.1 x.2.2.2.2.2 th → INV dr np vs (bFin vs x).2.1 (bFin vs x).2.2.1 (bFin vs x).2.2.2.1 tg (bFin vs x).2.2.2.2.1 (bFin vs x).2.2.2.2.2.1 (bFin vs x).2.2.2.2.2.2 th := by
    intro x hx
    unfold bFin
    by_cases c1 : sndP vs x.2.2.2.2.1 x.2.2.2.2.2 x.1
    · rw [if_pos c1]; exact hx
    · rw [if_neg c1]
      by_cases c2 : sndP vs x.2.2.2.2.1 x.2.2.2.2.2 (1 - x.1)
      · rw [if_pos c2]
        obtain ⟨⟨i1, i2, i3, i4, i5, i6, i7, i8, i9, i10, i11, i12, i13, i14, i15, i16, i17⟩, hok⟩ := hx
        exact ⟨⟨i1, i2, i3, i4, i5, i6, i7, by show 1 - x.1 ≤ 1; omega, Nat.le_of_ble_eq_true rfl, i10, i11, i12, fun z => by have z : uwP 0 := z; omega, fun z => by have z : 0 = 2 := z; omega, i15, i16, i17⟩, fun z => by have z : 0 = 2 := z; omega⟩
      · rw [if_neg c2]; exact hx
  unfold spBoot
  refine fin _ ?_
  obtain ⟨⟨i1, i2, i3, i4, i5, i6, i7, i8, i9, i10, i11, i12, i13, i14, i15, i16, i17⟩, hok⟩ := id h
  unfold bStep
  by_cases c3 : sta = 3
  · rw [if_pos c3]
    exact ⟨⟨i1, i2, i3, i4, i5, i6, i7, by show 1 - run ≤ 1; omega, Nat.le_of_ble_eq_true rfl, Nat.le_of_ble_eq_true rfl, i11, i12, fun z => by have z : uwP 4 := z; omega, fun z => by have z : 4 = 2 := z; omega, i15, i16, i17⟩, fun z => by have z : 4 = 2 := z; omega⟩
  · rw [if_neg c3]
    by_cases c4 : sta = 4
    · rw [if_pos c4]
      by_cases c : 0 < tri
      · rw [if_pos c]
        exact ⟨⟨i1, i2, i3, i4, i5, i6, i7, i8, Nat.le_of_ble_eq_true rfl, by show tri - 1 ≤ 2; omega, i11, i12, fun z => by have z : uwP 4 := z; omega, fun z => by have z : 4 = 2 := z; omega, i15, i16, i17⟩, fun z => by have z : 4 = 2 := z; omega⟩
      · rw [if_neg c]
        exact ⟨⟨i1, i2, i3, i4, i5, i6, i7, by show 1 - run ≤ 1; omega, Nat.le_of_ble_eq_true rfl, i10, i11, i12, fun z => by have z : uwP 0 := z; omega, fun z => by have z : 0 = 2 := z; omega, i15, i16, i17⟩, fun z => by have z : 0 = 2 := z; omega⟩
    · rw [if_neg c4]
      by_cases c2 : sta = 2
      · rw [if_pos c2]
        have htg := i13 (Or.inr (Or.inl c2))
        refine ⟨⟨i1, i2, i3, i4, i5, i6, i7, i8, Nat.le_of_ble_eq_true rfl, i10, fun j hj => ?_, fun j hj => ?_, fun _ => htg, fun _ => ?_, i15, i16, Nat.le_of_ble_eq_true rfl⟩, fun _ => ?_⟩
        · show va_up mr (1 - run) tg j ≤ np
          by_cases y : j = 1 - run
          · subst y; rw [vu_eq]; exact htg.2
          · rw [vu_ne y]; exact i11 j hj
        · show (va_up sl (1 - run) [] j).length ≤ 40
          by_cases y : j = 1 - run
          · subst y; rw [vu_eq]; simp
          · rw [vu_ne y]; exact i12 j hj
        · show 0 < (patchOf (vs tg) (vs (va_up mr (1 - run) tg run))).length
          exact patchOf_pos (i4 _) (i7 tg htg.1 htg.2)
        · show ∃ f, okL f ((patchOf (vs tg) (vs (va_up mr (1 - run) tg run))).drop 0)
          rw [List.drop_zero]
          exact okL_patchOf _ _ (i4 _)
      · rw [if_neg c2]; exact h
end INVS
