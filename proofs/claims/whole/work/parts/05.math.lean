/-! pure: rows of bytes as lists -/
def lcp : List Int32 → List Int32 → Nat
  | a :: as, b :: bs => if a = b then lcp as bs + 1 else 0
  | _, _ => 0
theorem lcp_le : ∀ a b : List Int32, lcp a b ≤ a.length ∧ lcp a b ≤ b.length := by
  intro a
  induction a with
  | nil => intro b; exact ⟨Nat.zero_le _, Nat.zero_le _⟩
  | cons x as ih =>
    intro b
    cases b with
    | nil => exact ⟨Nat.zero_le _, Nat.zero_le _⟩
    | cons y bs =>
      unfold lcp
      by_cases h : x = y
      · rw [if_pos h]
        have := ih bs
        simp only [List.length_cons]
        omega
      · rw [if_neg h]
        exact ⟨Nat.zero_le _, Nat.zero_le _⟩
theorem lcp_get : ∀ (a b : List Int32) (i : Nat), i < lcp a b → a.getD i 0 = b.getD i 0 := by
  intro a
  induction a with
  | nil => intro b i h; unfold lcp at h; omega
  | cons x as ih =>
    intro b i h
    cases b with
    | nil => unfold lcp at h; omega
    | cons y bs =>
      unfold lcp at h
      by_cases e : x = y
      · rw [if_pos e] at h
        cases i with
        | zero => simpa using e
        | succ i =>
          have := ih bs i (by omega)
          simpa using this
      · rw [if_neg e] at h; omega
theorem lcp_stop : ∀ a b : List Int32, lcp a b < a.length → lcp a b < b.length → a.getD (lcp a b) 0 ≠ b.getD (lcp a b) 0 := by
  intro a
  induction a with
  | nil => intro b h; simp at h
  | cons x as ih =>
    intro b h1 h2
    cases b with
    | nil => simp at h2
    | cons y bs =>
      unfold lcp at h1 h2 ⊢
      by_cases e : x = y
      · rw [if_pos e] at h1 h2 ⊢
        have := ih bs (by simpa using h1) (by simpa using h2)
        simpa using this
      · rw [if_neg e]
        simpa using e
theorem lcp_more {a b : List Int32} {k : Nat} (h : k ≤ lcp a b) (h1 : k < a.length) (h2 : k < b.length) (e : a.getD k 0 = b.getD k 0) : k + 1 ≤ lcp a b := by
  rcases Nat.lt_or_ge k (lcp a b) with q | q
  · exact q
  · have hk : k = lcp a b := by omega
    subst hk
    exact absurd e (lcp_stop a b h1 h2)
theorem lcp_end {a b : List Int32} {k : Nat} (h : k ≤ lcp a b) (e : ¬ a.getD k 0 = b.getD k 0) : k = lcp a b := by
  rcases Nat.lt_or_ge k (lcp a b) with q | q
  · exact absurd (lcp_get a b k q) e
  · omega
theorem drop_getD (l : List Int32) (p k : Nat) : (l.drop p).getD k 0 = l.getD (p + k) 0 := by
  simp [List.getD_eq_getElem?_getD]
/-- the longest match at p with places below q in the old one: how long, and its least place -/
def mp (v o : List Int32) (p : Nat) : Nat → Nat × Nat
  | 0 => (0, 0)
  | q + 1 => if (mp v o p q).1 < lcp (v.drop p) (o.drop q) then (lcp (v.drop p) (o.drop q), q) else mp v o p q
def chk (xs : List Int32) : Int32 := xs.foldl (fun c b => (c * 31 + b) &&& 65535) 17
/-- loose bytes with their counts -/
def lEnc : Nat → List Int32 → List Int32
  | 0, _ => []
  | f + 1, xs => if xs.length = 0 then [] else nI (min 31 xs.length) :: (xs.take 31 ++ lEnc f (xs.drop 31))
theorem lEnc_len : ∀ (xs : List Int32), xs.length ≤ 62 → (lEnc 2 xs).length ≤ xs.length + 2 := by
  intro xs h
  simp only [lEnc]
  by_cases h0 : xs.length = 0
  · rw [if_pos h0]; simp
  · rw [if_neg h0]
    by_cases h1 : (xs.drop 31).length = 0
    · rw [if_pos h1]; simp; omega
    · rw [if_neg h1]; simp; omega
/-- the walk over the version: place p, loose from lf, what is written, what came out of copies -/
def mkA (v o : List Int32) : Nat → Nat → Nat → List Int32 → Nat → List Int32 × Nat
  | 0, _, _, acc, cp => (acc, cp)
  | f + 1, p, lf, acc, cp =>
    if p < v.length then
      if 4 ≤ lcp (v.drop p) (o.drop (mp v o p o.length).2) then
        mkA v o f (p + lcp (v.drop p) (o.drop (mp v o p o.length).2)) (p + lcp (v.drop p) (o.drop (mp v o p o.length).2)) (acc ++ lEnc 2 ((v.drop lf).take (p - lf)) ++ [nI (28 + lcp (v.drop p) (o.drop (mp v o p o.length).2)), nI (mp v o p o.length).2]) (cp + lcp (v.drop p) (o.drop (mp v o p o.length).2))
      else mkA v o f (p + 1) lf acc cp
    else (acc ++ lEnc 2 ((v.drop lf).take (p - lf)), cp)
def patchOf (v o : List Int32) : List Int32 := (mkA v o (v.length + 1) 0 0 [] 0).1
def savedOf (v o : List Int32) : Nat := (mkA v o (v.length + 1) 0 0 [] 0).2
theorem mkA_len (v o : List Int32) (hv : v.length ≤ 40) : ∀ (f p lf : Nat) (acc : List Int32) (cp : Nat), v.length + 1 ≤ f + p → lf ≤ p → p ≤ v.length → acc.length ≤ lf → (mkA v o f p lf acc cp).1.length ≤ v.length + 2 := by
  intro f
  induction f with
  | zero => intro p lf acc cp h1 h2 h3 h4; omega
  | succ f ih =>
    intro p lf acc cp h1 h2 h3 h4
    unfold mkA
    have hl : ((v.drop lf).take (p - lf)).length = p - lf := by simp; omega
    have he := lEnc_len ((v.drop lf).take (p - lf)) (by omega)
    by_cases hp : p < v.length
    · rw [if_pos hp]
      have hm := (lcp_le (v.drop p) (o.drop (mp v o p o.length).2)).1
      rw [List.length_drop] at hm
      by_cases h : 4 ≤ lcp (v.drop p) (o.drop (mp v o p o.length).2)
      · rw [if_pos h]
        refine ih _ _ _ _ (by omega) (Nat.le_refl _) (by omega) ?_
        simp only [List.length_append, List.length_cons, List.length_nil]
        omega
      · rw [if_neg h]
        exact ih _ _ _ _ (by omega) (by omega) (by omega) h4
    · rw [if_neg hp]
      simp only [List.length_append]
      omega
theorem patchOf_len (v o : List Int32) (hv : v.length ≤ 40) : (patchOf v o).length ≤ 42 := by
  have := mkA_len v o hv (v.length + 1) 0 0 [] 0 (by omega) (by omega) (by omega) (by simp)
  unfold patchOf
  omega
