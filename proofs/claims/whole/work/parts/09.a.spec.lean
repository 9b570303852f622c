/-! what every call answers, and what it leaves: one text for both sides -/
abbrev inB (b : Int32) : Prop := ¬ b < 0 ∧ b ≤ 255
abbrev inV (np : Nat) (v : Int32) : Prop := ¬ v < 0 ∧ v ≤ nI np
abbrev isS (s : Int32) : Prop := s = 0 ∨ s = 1
abbrev okPair (np : Nat) (v o : Int32) : Prop := ¬ v = 0 ∧ inV np v ∧ inV np o
def miss (th : Nat → Bool) : Nat → Nat
  | 0 => 0
  | k + 1 => if th k = true then miss th k else miss th k + 1
def spFeed (dr : List Int32) (b : Int32) : Int32 × List Int32 := if inB b then (if dr.length < 40 then (nI (dr.length + 1), dr ++ [b]) else (-2, dr)) else (-1, dr)
def spReuse (dr : List Int32) (np : Nat) (vs : Nat → List Int32) (v p k : Int32) : Int32 × List Int32 := if inV np v ∧ ¬ p < 0 ∧ 1 ≤ k ∧ k ≤ nI (vs (bN v)).length - p then (if k ≤ 40 - nI dr.length then (nI (dr.length + bN k), dr ++ ((vs (bN v)).drop (bN p)).take (bN k)) else (-2, dr)) else (-1, dr)
def spPub (dr : List Int32) (np : Nat) (vs : Nat → List Int32) : Int32 × List Int32 × Nat × (Nat → List Int32) := if dr.length = 0 then (-1, dr, np, vs) else if np < 6 then (nI (np + 1), [], np + 1, va_up vs (np + 1) dr) else (-2, dr, np, vs)
def spPatch (np : Nat) (vs : Nat → List Int32) (v o : Int32) : Int32 := if okPair np v o then nI (patchOf (vs (bN v)) (vs (bN o))).length else -1
def spSaved (np : Nat) (vs : Nat → List Int32) (v o : Int32) : Int32 := if okPair np v o then nI (savedOf (vs (bN v)) (vs (bN o))) else -1
def spByte (np : Nat) (vs : Nat → List Int32) (v o i : Int32) : Int32 := if okPair np v o then (if xIn (patchOf (vs (bN v)) (vs (bN o))) i then rAt (patchOf (vs (bN v)) (vs (bN o))) i else -1) else -1
def spOffer (np : Nat) (vs : Nat → List Int32) (run sta tg : Nat) (mr : Nat → Nat) (th : Nat → Bool) (v : Int32) : Int32 × Nat × Nat × (Nat → Bool) := if ¬ v = 0 ∧ inV np v then (if sta = 3 ∨ sta = 4 then (-4, sta, tg, th) else (nI (blk (patchOf (vs (bN v)) (vs (mr run)))), 1, bN v, fun _ => false)) else (-1, sta, tg, th)
def spBlock (vs : Nat → List Int32) (run sta tg nx : Nat) (sl : Nat → List Int32) (mr : Nat → Nat) (th : Nat → Bool) (i z : Int32) : Int32 × Nat × Nat × (Nat → List Int32) × (Nat → Nat) × (Nat → Bool) :=
  if inB z ∧ uwP sta ∧ ¬ i < 0 ∧ i < nI (blk (patchOf (vs tg) (vs (mr run)))) then
    (if sta = 1 then (if z = 0 then (if miss (va_up th (bN i) true) (blk (patchOf (vs tg) (vs (mr run)))) = 0 then (0, 2, 0, va_up sl (1 - run) [], va_up mr (1 - run) tg, va_up th (bN i) true) else (nI (miss (va_up th (bN i) true) (blk (patchOf (vs tg) (vs (mr run))))), sta, nx, sl, mr, va_up th (bN i) true)) else (-3, sta, nx, sl, mr, th)) else (-4, sta, nx, sl, mr, th))
  else (-1, sta, nx, sl, mr, th)
def spInstall (vs : Nat → List Int32) (run sta tg nx : Nat) (sl : Nat → List Int32) (mr : Nat → Nat) (k : Int32) : Int32 × Nat × Nat × (Nat → List Int32) := if 1 ≤ k ∧ k ≤ 20 then (if sta = 2 then (nI (insN vs mr (patchOf (vs tg) (vs (mr run))) run (bN k) (sta, nx, sl)).1, insN vs mr (patchOf (vs tg) (vs (mr run))) run (bN k) (sta, nx, sl)) else (-4, sta, nx, sl)) else (-1, sta, nx, sl)
def spBoot (vs : Nat → List Int32) (tg : Nat) (x : bX) : Int32 × bX := bFin vs (bStep tg x)
def spConfirm (sta : Nat) : Int32 × Nat := if sta = 4 then (0, 0) else (-4, sta)
def spDamage (sl : Nat → List Int32) (s i b : Int32) : Int32 × (Nat → List Int32) := if isS s ∧ xIn (sl (bN s)) i ∧ inB b then (0, va_up sl (bN s) ((sl (bN s)).set (bN i) b)) else (-1, sl)
def spSlot (sl : Nat → List Int32) (s i : Int32) : Int32 := if isS s ∧ xIn (sl (bN s)) i then rAt (sl (bN s)) i else -1
def spSound (vs sl : Nat → List Int32) (mr : Nat → Nat) (s : Int32) : Int32 := if isS s ∧ sndP vs sl mr (bN s) then 1 else 0
def spState (dr : List Int32) (np : Nat) (vs : Nat → List Int32) (run sta tri tg : Nat) (sl : Nat → List Int32) (mr : Nat → Nat) (th : Nat → Bool) (w : Int32) : Int32 :=
  if w = 0 then nI sta else if w = 1 then nI run else if w = 2 then (if sta = 4 then nI tri else 0) else if w = 3 then nI (mr 0) else if w = 4 then nI (mr 1) else if w = 5 then nI (sl 0).length else if w = 6 then nI (sl 1).length else if w = 7 then (if uwP sta then nI tg else 0) else if w = 8 then (if uwP sta then nI (blk (patchOf (vs tg) (vs (mr run))) - miss th (blk (patchOf (vs tg) (vs (mr run))))) else 0) else if w = 9 then nI np else if w = 10 then nI dr.length else -1
theorem inV_of {np : Nat} {v : Int32} (h : inV np v) (hn : np ≤ 6) : ∃ k, k ≤ np ∧ v = nI k ∧ bN v = k := by
  obtain ⟨k, hk, e⟩ := nI_of h.1
  subst e
  have := (nI_leI hk (by omega)).mp h.2
  exact ⟨k, this, rfl, nI_clamp hk⟩
theorem isS_of {s : Int32} (h : isS s) : ∃ k, k < 2 ∧ s = nI k ∧ bN s = k := by
  rcases h with rfl | rfl
  · exact ⟨0, by omega, rfl, rfl⟩
  · exact ⟨1, by omega, rfl, rfl⟩
theorem miss_le (th : Nat → Bool) : ∀ k, miss th k ≤ k := by
  intro k
  induction k with
  | zero => exact Nat.le_refl _
  | succ k ih =>
    unfold miss
    by_cases h : th k = true
    · rw [if_pos h]; omega
    · rw [if_neg h]; omega
theorem miss_far {th : Nat → Bool} {j : Nat} : ∀ k, k ≤ j → miss (va_up th j true) k = miss th k := by
  intro k
  induction k with
  | zero => intro _; rfl
  | succ k ih =>
    intro h
    unfold miss
    rw [ih (by omega), vu_ne (by omega)]
theorem miss_pos {th : Nat → Bool} {j : Nat} (hj : th j = false) : ∀ k, j < k → 0 < miss th k := by
  intro k
  induction k with
  | zero => intro h; omega
  | succ k ih =>
    intro h
    unfold miss
    by_cases e : j = k
    · subst e
      rw [if_neg (by rw [hj]; decide)]; omega
    · have := ih (by omega)
      by_cases q : th k = true
      · rw [if_pos q]; exact this
      · rw [if_neg q]; omega
theorem miss_up {th : Nat → Bool} {j : Nat} : ∀ k, j < k → miss (va_up th j true) k = if th j = true then miss th k else miss th k - 1 := by
  intro k
  induction k with
  | zero => intro h; omega
  | succ k ih =>
    intro h
    by_cases e : j = k
    · subst e
      show (if va_up th j true j = true then miss (va_up th j true) j else miss (va_up th j true) j + 1) = if th j = true then (if th j = true then miss th j else miss th j + 1) else (if th j = true then miss th j else miss th j + 1) - 1
      rw [vu_eq, if_pos rfl, miss_far j (Nat.le_refl j)]
      by_cases q : th j = true
      · rw [if_pos q, if_pos q]
      · rw [if_neg q, if_neg q]; omega
    · have e2 : k ≠ j := fun q => e q.symm
      show (if va_up th j true k = true then miss (va_up th j true) k else miss (va_up th j true) k + 1) = if th j = true then (if th k = true then miss th k else miss th k + 1) else (if th k = true then miss th k else miss th k + 1) - 1
      rw [vu_ne e2, ih (by omega)]
      by_cases q : th j = true
      · rw [if_pos q, if_pos q]
      · rw [if_neg q, if_neg q]
        have hp := miss_pos (th := th) (j := j) (by simpa using q) k (by omega)
        by_cases r : th k = true
        · rw [if_pos r, if_pos r]
        · rw [if_neg r, if_neg r]; omega
/-- the bytes of a patch are bytes -/
theorem isB_app {a b : List Int32} (ha : isB a) (hb : isB b) : isB (a ++ b) := fun x hx => (List.mem_append.mp hx).elim (ha x) (hb x)
theorem isB_take {a : List Int32} (ha : isB a) (k : Nat) : isB (a.take k) := fun x hx => ha x (List.mem_of_mem_take hx)
theorem isB_drop {a : List Int32} (ha : isB a) (k : Nat) : isB (a.drop k) := fun x hx => ha x (List.mem_of_mem_drop hx)
theorem isB_lEnc : ∀ (f : Nat) (xs : List Int32), isB xs → isB (lEnc f xs) := by
  intro f
  induction f with
  | zero => intro xs _ x hx; cases hx
  | succ f ih =>
    intro xs h
    unfold lEnc
    by_cases e : xs.length = 0
    · rw [if_pos e]; intro x hx; cases hx
    · rw [if_neg e]
      intro x hx
      rcases List.mem_cons.mp hx with rfl | hx
      · exact ⟨_, by omega, rfl⟩
      · exact isB_app (isB_take h 31) (ih _ (isB_drop h 31)) x hx
theorem mp_lt (v o : List Int32) (p : Nat) : ∀ k, (mp v o p k).2 ≤ k := by
  intro k
  induction k with
  | zero => exact Nat.le_refl _
  | succ k ih =>
    rw [mp_s]
    by_cases c : (mp v o p k).1 < lcp (v.drop p) (o.drop k)
    · rw [if_pos c]; exact Nat.le_succ k
    · rw [if_neg c]; omega
theorem isB_mkA {v o : List Int32} (hv : isB v) (hl : v.length ≤ 40) (ho : o.length ≤ 40) : ∀ (f p lf : Nat) (acc : List Int32) (cp : Nat), isB acc → isB (mkA v o f p lf acc cp).1 := by
  intro f
  induction f with
  | zero => intro p lf acc cp h; exact h
  | succ f ih =>
    intro p lf acc cp h
    unfold mkA
    have h1 := isB_lEnc 2 _ (isB_take (isB_drop hv lf) (p - lf))
    have hm := (lcp_le (v.drop p) (o.drop (mp v o p o.length).2)).1
    rw [List.length_drop] at hm
    have hq := mp_lt v o p o.length
    by_cases c : p < v.length
    · rw [if_pos c]
      by_cases c4 : 4 ≤ lcp (v.drop p) (o.drop (mp v o p o.length).2)
      · rw [if_pos c4]
        refine ih _ _ _ _ (isB_app (isB_app h h1) ?_)
        intro x hx
        rcases List.mem_cons.mp hx with rfl | hx
        · exact ⟨_, by omega, rfl⟩
        · rw [List.mem_singleton.mp hx]
          exact ⟨_, by omega, rfl⟩
      · rw [if_neg c4]
        exact ih _ _ _ _ h
    · rw [if_neg c]
      exact isB_app h h1
theorem isB_patchOf {v o : List Int32} (hv : isB v) (hl : v.length ≤ 40) (ho : o.length ≤ 40) : isB (patchOf v o) := isB_mkA hv hl ho _ _ _ _ _ (fun x hx => by cases hx)
