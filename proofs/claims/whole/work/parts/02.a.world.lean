/-! MY WORLD: addresses are counted from the law's start (1, 2, 3 ..), 0 is the script; the heap is a function M; a walk is V, a method's contract Mt. -/
abbrev wG : Type := va_G × (Nat → ClassId) × Nat × Nat × Nat × (Nat → Int32) × Heap × Launch
def gD (G : wG) : va_G := G.1
def gA (G : wG) : Nat → ClassId := G.2.1
def gB (G : wG) : Nat := G.2.2.1
def gS (G : wG) : Nat := G.2.2.2.1
def gN (G : wG) : Nat := G.2.2.2.2.1
def gX (G : wG) : Nat → Int32 := G.2.2.2.2.2.1
def gH (G : wG) : Heap := G.2.2.2.2.2.2.1
def gl (G : wG) : Launch := G.2.2.2.2.2.2.2
def ph (G : wG) (a : Nat) : Nat := if a = 0 then gS G else gB G + (a - 1)
def pv (G : wG) (v : Value) : Value := match v with
  | .ref a => .ref (ph G a)
  | v => v
abbrev aC : Type := (Nat × Nat × ((Nat → Int32) ⊕ (Nat → Option Nat))) ⊕ (Nat × List Value)
abbrev aM : Type := Nat → Option aC
def cE (G : wG) (c : aC) : va_E := match c with
  | .inl (t, n, .inl f) => .inl (gA G t, n, .inl f)
  | .inl (t, n, .inr f) => .inl (gA G t, n, .inr (.inr (.inr (.inr (fun j => (f j).map (ph G))))))
  | .inr (ci, fs) => .inr (ci, fs.map (pv G))
def hU (M : aM) (a : Nat) (c : aC) : aM := fun q => if q = a then some c else M q
def Rp (G : wG) (M : aM) (n : Nat) (H : Heap) : Prop := H.size = gB G + n ∧ (∀ q : Nat, q < gB G → H[q]? = (gH G)[q]?) ∧ ∀ (a : Nat) (c : aC), M a = some c → 0 < a ∧ a ≤ n ∧ va_at (gD G) vwCl (ph G a, cE G c) H
def Kw (G : wG) (s : State) : Prop := (∀ (c : Nat) (q : vw_C), vwCl[c]? = some q → u_Kn s q.1 q.2.1 q.2.2 ((gD G).1 c) ((gD G).2 c)) ∧ (∀ (t : Nat) (ty : FieldType), vwTy[t]? = some ty → ArrOfT s (gA G t) ty ∧ va_RA s (gA G t) ty) ∧ va_X (gS G) (gN G) (gX G) s (gH G) ∧ gS G < gB G ∧ (gH G).size = gB G ∧ ∀ (t : Nat) (Cn : String), vwTy[t]? = some (.object Cn) → va_AO Cn s
theorem Kw.moved {G : wG} {u U : State} (hvm : u.vm.Alike U.vm) (h : Kw G u) : Kw G U :=
  ⟨fun c q hq => u_Kn_moved hvm (h.1 c q hq), fun t ty ht => ⟨arrOfT_moved hvm (h.2.1 t ty ht).1, (h.2.1 t ty ht).2.moved hvm⟩, h.2.2.1.moved hvm, h.2.2.2.1, h.2.2.2.2.1, fun t Cn ht => (h.2.2.2.2.2 t Cn ht).moved hvm⟩
theorem Kw.K {G : wG} {s : State} (h : Kw G s) : va_K (gD G) vwCl [] s := ⟨h.1, fun k q hk => by simp at hk⟩
theorem Kw.Kt {G : wG} {s : State} (h : Kw G s) {t : Nat} {ty : FieldType} (ht : vwTy[t]? = some ty) : va_K (gD G) vwCl [(gA G t, ty)] s := ⟨h.1, fun k q hk => by
  cases k with
  | zero => cases hk; exact h.2.1 t ty ht
  | succ k => simp at hk⟩
theorem pv_cat (G : wG) (v : Value) : (pv G v).category = v.category := by cases v <;> rfl
theorem pv_rf (G : wG) (r : Option Nat) : pv G (va_rf r) = va_rf (r.map (ph G)) := by cases r <;> rfl
theorem pv_cats (G : wG) (l : List Value) : ((l.map (pv G)).map fun v => v.category) = l.map fun v => v.category := by
  rw [List.map_map]
  exact List.map_congr_left fun v _ => pv_cat G v
theorem ph_pos {G : wG} {a : Nat} (h : 0 < a) : ph G a = gB G + (a - 1) := by unfold ph; rw [if_neg (by omega)]
theorem Rp.at {G : wG} {M : aM} {n : Nat} {H : Heap} (h : Rp G M n H) {a : Nat} {c : aC} (hM : M a = some c) : va_at (gD G) vwCl (ph G a, cE G c) H := (h.2.2 a c hM).2.2
theorem Rp.P {G : wG} {M : aM} {n : Nat} {H : Heap} (h : Rp G M n H) {a : Nat} {c : aC} (hM : M a = some c) : va_P (gD G) vwCl [(ph G a, cE G c)] H := fun k q hk => by
  cases k with
  | zero => cases hk; exact h.at hM
  | succ k => simp at hk
theorem Rp.put {G : wG} {M : aM} {n a : Nat} {H H1 : Heap} {c c' : aC} (hR : Rp G M n H) (hM : M a = some c) (z : H1.size = H.size) (oq : ∀ q : Nat, q ≠ ph G a → H1[q]? = H[q]?) (hn : va_at (gD G) vwCl (ph G a, cE G c') H1) : Rp G (hU M a c') n H1 := by
  obtain ⟨h1, h2, h3⟩ := hR
  obtain ⟨p1, p2, -⟩ := h3 a c hM
  have hpa := ph_pos (G := G) p1
  refine ⟨z.trans h1, fun q hq => ?_, fun x y hx => ?_⟩
  · rw [oq q (by omega)]; exact h2 q hq
  · unfold hU at hx
    by_cases e : x = a
    · subst e
      rw [if_pos rfl] at hx
      cases hx
      exact ⟨p1, p2, hn⟩
    · rw [if_neg e] at hx
      obtain ⟨g1, g2, g3⟩ := h3 x y hx
      have hpx := ph_pos (G := G) g1
      exact ⟨g1, g2, g3.kept (oq _ (by show ph G x ≠ ph G a; omega))⟩
theorem Rp.new {G : wG} {M : aM} {n : Nat} {H H1 : Heap} {c : aC} (hR : Rp G M n H) (z : H1.size = H.size + 1) (oq : ∀ q : Nat, q < H.size → H1[q]? = H[q]?) (hn : va_at (gD G) vwCl (H.size, cE G c) H1) : Rp G (hU M (n + 1) c) (n + 1) H1 := by
  obtain ⟨h1, h2, h3⟩ := hR
  refine ⟨by omega, fun q hq => ?_, fun x y hx => ?_⟩
  · rw [oq q (by omega)]; exact h2 q hq
  · unfold hU at hx
    by_cases e : x = n + 1
    · subst e
      rw [if_pos rfl] at hx
      cases hx
      refine ⟨by omega, by omega, ?_⟩
      rw [ph_pos (by omega), show gB G + (n + 1 - 1) = H.size by omega]
      exact hn
    · rw [if_neg e] at hx
      obtain ⟨g1, g2, g3⟩ := h3 x y hx
      exact ⟨g1, by omega, g3.kept (oq _ g3.lt)⟩
theorem ph_new {G : wG} {M : aM} {n : Nat} {H : Heap} (hR : Rp G M n H) : H.size = ph G (n + 1) := by
  rw [ph_pos (by omega)]
  have := hR.1
  omega
/-! the locals: a list of what is known of each place -/
def lA (G : wG) : Nat → List (Option Value) → List (Nat × Value)
  | _, [] => []
  | i, none :: t => lA G (i + 1) t
  | i, some v :: t => (i, pv G v) :: lA G (i + 1) t
theorem lA_in {G : wG} : ∀ (L : List (Option Value)) (i k : Nat) (v : Value), L[k]? = some (some v) → (i + k, pv G v) ∈ lA G i L := by
  intro L
  induction L with
  | nil => intro i k v h; simp at h
  | cons x t ih =>
    intro i k v h
    cases k with
    | zero =>
      simp at h
      subst h
      exact List.mem_cons_self
    | succ k =>
      have h1 := ih (i + 1) k v (by simpa using h)
      rw [show i + (k + 1) = i + 1 + k by omega]
      cases x with
      | none => exact h1
      | some w => exact List.mem_cons_of_mem _ h1
theorem lA_out {G : wG} : ∀ (L : List (Option Value)) (i : Nat) (q : Nat × Value), q ∈ lA G i L → ∃ (k : Nat) (v : Value), q = (i + k, pv G v) ∧ L[k]? = some (some v) := by
  intro L
  induction L with
  | nil => intro i q h; cases h
  | cons x t ih =>
    intro i q h
    have tail : q ∈ lA G (i + 1) t → ∃ (k : Nat) (v : Value), q = (i + k, pv G v) ∧ (x :: t)[k]? = some (some v) := by
      intro h
      obtain ⟨k, v, e, hk⟩ := ih (i + 1) q h
      exact ⟨k + 1, v, by rw [e, show i + 1 + k = i + (k + 1) by omega], by simpa using hk⟩
    cases x with
    | none => exact tail h
    | some w =>
      rcases List.mem_cons.mp h with rfl | h
      · exact ⟨0, w, rfl, rfl⟩
      · exact tail h
def lvr (G : wG) (ls : Array Slot) (nL : Nat) (L : List (Option Value)) : Prop := lv_has ls nL (lA G 0 L) ∧ ∀ (k : Nat) (v : Value), L[k]? = some (some v) → v.category = 1
theorem lvr.get {G : wG} {ls : Array Slot} {nL : Nat} {L : List (Option Value)} (h : lvr G ls nL L) {i : Nat} {v : Value} (hi : L[i]? = some (some v)) : ls[i]? = some (.val (pv G v)) := by
  have h1 := lA_in (G := G) L 0 i v hi
  rw [Nat.zero_add] at h1
  exact h.1.2.2 _ h1
theorem lvr.set {G : wG} {ls ls' : Array Slot} {nL i : Nat} {L : List (Option Value)} {v : Value} (h : lvr G ls nL L) (hc : v.category = 1) (h' : lv_has ls' nL ((i, pv G v) :: (lA G 0 L).filter (fun q => !(q.1 == i) && !(q.1 + 1 == i && q.2.category == 2)))) : lvr G ls' nL (L.set i (some v)) := by
  refine ⟨⟨h'.1, h'.2.1, fun q hq => ?_⟩, fun k w hk => ?_⟩
  · obtain ⟨k, w, rfl, hk⟩ := lA_out _ 0 q hq
    rw [List.getElem?_set] at hk
    refine h'.2.2 _ ?_
    rw [Nat.zero_add]
    by_cases e : i = k
    · subst e
      rw [if_pos rfl] at hk
      by_cases hl : i < L.length
      · rw [if_pos hl] at hk
        cases hk
        exact List.mem_cons_self
      · rw [if_neg hl] at hk
        cases hk
    · rw [if_neg e] at hk
      refine List.mem_cons_of_mem _ (List.mem_filter.mpr ⟨?_, ?_⟩)
      · have h1 := lA_in (G := G) L 0 k w hk
        rw [Nat.zero_add] at h1
        exact h1
      · have hw := h.2 k w hk
        have e2 : ¬ k = i := fun x => e x.symm
        simp [pv_cat, hw, e2]
  · rw [List.getElem?_set] at hk
    by_cases e : i = k
    · rw [if_pos e] at hk
      by_cases hl : i < L.length
      · rw [if_pos hl] at hk
        cases hk
        exact hc
      · rw [if_neg hl] at hk
        cases hk
    · rw [if_neg e] at hk
      exact h.2 k w hk
theorem lvr.weak {G : wG} {ls : Array Slot} {nL : Nat} {L L' : List (Option Value)} (h : lvr G ls nL L) (hw : ∀ (k : Nat) (v : Value), L'[k]? = some (some v) → L[k]? = some (some v)) : lvr G ls nL L' := by
  refine ⟨⟨h.1.1, h.1.2.1, fun q hq => ?_⟩, fun k v hk => h.2 k v (hw k v hk)⟩
  obtain ⟨k, v, rfl, hk⟩ := lA_out _ 0 q hq
  rw [Nat.zero_add]
  exact h.get (hw k v hk)
theorem lv_args_1 : ∀ (vs : List Value) (i k : Nat) (v : Value), (∀ w ∈ vs, w.category = 1) → vs[k]? = some v → (i + k, v) ∈ lv_args i vs := by
  intro vs
  induction vs with
  | nil => intro i k v _ h; simp at h
  | cons x t ih =>
    intro i k v hc h
    have hx : ¬ x.category = 2 := by rw [hc x List.mem_cons_self]; decide
    unfold lv_args
    rw [if_neg hx]
    cases k with
    | zero =>
      simp at h
      subst h
      exact List.mem_cons_self
    | succ k =>
      rw [show i + (k + 1) = i + 1 + k by omega]
      exact List.mem_cons_of_mem _ (ih (i + 1) k v (fun w hw => hc w (List.mem_cons_of_mem _ hw)) (by simpa using h))
theorem lg_sl_1 (vs : List Value) (hc : ∀ w ∈ vs, w.category = 1) : (lg_sl vs).length = vs.length := by
  induction vs with
  | nil => rfl
  | cons x t ih =>
    have hx : ¬ x.category = 2 := by rw [hc x List.mem_cons_self]; decide
    have h1 := ih (fun w hw => hc w (List.mem_cons_of_mem _ hw))
    simp only [lg_sl, List.flatMap_cons, hx, if_false, List.length_append, List.length_cons, List.length_nil] at h1 ⊢
    omega
def lE (av : List Value) (n : Nat) : List (Option Value) := av.map some ++ List.replicate (n - av.length) none
theorem lvr_entry (G : wG) {av : List Value} {n : Nat} (hc : ∀ w ∈ av, w.category = 1) (hn : av.length ≤ n) : lvr G ((lg_sl (av.map (pv G)) ++ List.replicate (n - (lg_sl (av.map (pv G))).length) Slot.unset).toArray) n (lE av n) := by
  have hc' : ∀ w ∈ av.map (pv G), w.category = 1 := by
    intro w hw
    obtain ⟨v, hv, rfl⟩ := List.mem_map.mp hw
    rw [pv_cat]
    exact hc v hv
  have hl : (lg_sl (av.map (pv G))).length ≤ n := by rw [lg_sl_1 _ hc', List.length_map]; exact hn
  have h := lv_entry (av.map (pv G)) hl
  have key : ∀ (k : Nat) (v : Value), (lE av n)[k]? = some (some v) → av[k]? = some v := by
    intro k v hk
    unfold lE at hk
    by_cases hk2 : k < av.length
    · rw [List.getElem?_append_left (by simpa using hk2), List.getElem?_map] at hk
      cases ha : av[k]? with
      | none => rw [ha] at hk; cases hk
      | some w => rw [ha] at hk; cases hk; rfl
    · rw [List.getElem?_append_right (by simp; omega)] at hk
      have := List.eq_of_mem_replicate (List.mem_of_getElem? hk)
      cases this
  refine ⟨⟨h.1, h.2.1, fun q hq => ?_⟩, fun k v hk => hc v (List.mem_of_getElem? (key k v hk))⟩
  obtain ⟨k, v, rfl, hk⟩ := lA_out _ 0 q hq
  refine h.2.2 _ (lv_args_1 _ 0 k (pv G v) hc' ?_)
  rw [List.getElem?_map, key k v hk]
  rfl
/-! the walk and the contract -/
def Cf (G : wG) (mt : mT) (d : Nat) (p : Program) (R : Room) (s : State) (m : MethodId) (args : Array Value) (meth : Method) (c : Code) (mc ms : Nat) : Prop :=
  p.tables.exec = Jvm.exec ∧ c.code = mt.2.1 ∧ c.maxLocals = mt.2.2.1 ∧ meth.sig.returnType = mt.2.2.2 ∧ meth.locks = false ∧ (mt.1.name = "<init>" → meth.name = "<init>") ∧ s.vm.findClass mt.1.cls = some m.cls ∧ (∀ w ∈ lw_tg, w.before args s = true) ∧ Kw G s ∧ d ≤ R.frames ∧ 32 * d ≤ R.locals ∧ mc ≤ R.cells ∧ ms ≤ R.slots
abbrev zQ : Type := Option Value → aM → Nat → Prop
def Qz (G : wG) (Q : zQ) : Array Value → State → Outcome → State → Prop := fun _ _ o t => ∃ (v : Option Value) (M : aM) (n : Nat), o = .returned (v.map (pv G)) ∧ Q v M n ∧ Rp G M n t.heap
def V (G : wG) (mt : mT) (d : Nat) (Q : zQ) (rc rs pc : Nat) (L : List (Option Value)) (st : List Value) (M : aM) (n : Nat) : Prop :=
  ∀ (p : Program) (e : Env) (R : Room) (s : State) (m : MethodId) (args : Array Value) (below : List Frame) (meth : Method) (c : Code) (H : Heap) (locs : List Loc) (cells slots mc ms : Nat) (ls : Array Slot),
    Cf G mt d p R s m args meth c mc ms → Rp G M n H → lvr G ls mt.2.2.1 L → (∀ q ∈ locs, gB G ≤ q.base) → cells + rc ≤ mc → slots + rs ≤ ms →
    W p (gl G) e R s m args below meth c H locs cells slots (MQ below (Qz G Q) args s mc ms (fun q => gB G ≤ q)) (F0 m pc ls (st.map (pv G)))
def mw (mt : mT) : List Cond := .code mt.1 mt.2.1 mt.2.2.1 mt.2.2.2 :: lw_tg
def Pz (G : wG) (av : List Value) (M : aM) (n : Nat) : Array Value → State → Prop := fun v U => v = (av.map (pv G)).toArray ∧ Rp G M n U.heap ∧ Kw G U
def Mt (G : wG) (d : Nat) (mt : mT) (av : List Value) (M : aM) (n mc ms : Nat) (Q : zQ) : Prop :=
  Met (gl G) mt.1 (mw mt) { frames := d, cells := mc, slots := ms, locals := 32 * d } (Pz G av M n) (Qz G Q) mc ms (fun q => gB G ≤ q)
theorem Mt.of {G : wG} {d : Nat} {mt : mT} {av : List Value} {M : aM} {n mc ms : Nat} {Q : zQ} (hp : plainName mt.1.cls = true) (hc : av.all (fun w => w.category == 1) = true) (hn : av.length ≤ mt.2.2.1) (k : V G mt d Q mc ms 0 (lE av mt.2.2.1) [] M n) : Mt G d mt av M n mc ms Q := by
  refine Met.ofW (cc := mt.2.1) (maxL := mt.2.2.1) (ret := mt.2.2.2) (ws' := lw_tg) hp rfl ?_
  intro p e s m args below meth c s₁ B hml hv
  obtain ⟨rfl, hR, hK⟩ := hv
  have hc : ∀ w ∈ av, w.category = 1 := fun w hw => by simpa using List.all_eq_true.mp hc w hw
  have hts := atoms_spec (ws := mw mt) B.pre
  rw [lg_entry_eq]
  exact k p e _ s m _ below meth c s.heap [] 0 0 mc ms _ ⟨B.exec, B.bytes, hml, B.returns, B.notSynchronized, fun h => (name_of_methodNamed B.named B.method).1.trans h, findClass_of_methodNamed B.named, fun w hw => hts w (List.mem_cons_of_mem _ hw), hK, Nat.le_refl _, Nat.le_refl _, Nat.le_refl _, Nat.le_refl _⟩ hR (lvr_entry G hc hn) (fun q h => by cases h) (by omega) (by omega)
theorem Pz_blind {G : wG} {av : List Value} {M : aM} {n : Nat} : FrameBlind (Pz G av M n) := by
  intro a U g mk ⟨h1, h2, h3⟩
  exact ⟨h1, h2, Kw.moved (u := U) (U := U.calling g mk a) (Vm.Alike.refl U.vm) h3⟩
