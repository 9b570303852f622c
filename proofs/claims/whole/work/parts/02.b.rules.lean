section VR
variable {G : wG} {mt : mT} {d : Nat} {Q : zQ} {rc rs pc : Nat} {L : List (Option Value)} {st : List Value} {M : aM} {n : Nat}
theorem V_iconst {z : Int} {v : Int32} (hd : decode mt.2.1 pc = .ok (.iconst z, 1)) (hv : Int32.ofInt z = v) (k : V G mt d Q rc rs (pc + 1) L (.int v :: st) M n) : V G mt d Q rc rs pc L (st) M n :=
  fun p e R s m args below meth c H locs cells slots mc ms ls C hR hl hq hc hs => lv_iconst C.1 C.2.1 hd hv (k p e R s m args below meth c H locs cells slots mc ms ls C hR hl hq hc hs)
theorem V_bipush {z : Int} {v : Int32} (hd : decode mt.2.1 pc = .ok (.bipush z, 2)) (hv : (Int8.ofInt z).toInt32 = v) (k : V G mt d Q rc rs (pc + 2) L (.int v :: st) M n) : V G mt d Q rc rs pc L (st) M n :=
  fun p e R s m args below meth c H locs cells slots mc ms ls C hR hl hq hc hs => lv_bipush C.1 C.2.1 hd hv (k p e R s m args below meth c H locs cells slots mc ms ls C hR hl hq hc hs)
theorem V_sipush {z : Int} {v : Int32} (hd : decode mt.2.1 pc = .ok (.sipush z, 3)) (hv : (Int16.ofInt z).toInt32 = v) (k : V G mt d Q rc rs (pc + 3) L (.int v :: st) M n) : V G mt d Q rc rs pc L (st) M n :=
  fun p e R s m args below meth c H locs cells slots mc ms ls C hR hl hq hc hs => lv_sipush C.1 C.2.1 hd hv (k p e R s m args below meth c H locs cells slots mc ms ls C hR hl hq hc hs)
theorem V_null  (hd : decode mt.2.1 pc = .ok (.aconst_null, 1))  (k : V G mt d Q rc rs (pc + 1) L (.null :: st) M n) : V G mt d Q rc rs pc L (st) M n :=
  fun p e R s m args below meth c H locs cells slots mc ms ls C hR hl hq hc hs => lv_null C.1 C.2.1 hd  (k p e R s m args below meth c H locs cells slots mc ms ls C hR hl hq hc hs)
theorem V_iload_n {i : Fin 4} {x : Int32} (hd : decode mt.2.1 pc = .ok (.iload_n i, 1)) (hi : L[(i : Nat)]? = some (some (.int x))) (k : V G mt d Q rc rs (pc + 1) L (.int x :: st) M n) : V G mt d Q rc rs pc L (st) M n :=
  fun p e R s m args below meth c H locs cells slots mc ms ls C hR hl hq hc hs => lv_iload_n C.1 C.2.1 hd rfl (hl.get hi) (k p e R s m args below meth c H locs cells slots mc ms ls C hR hl hq hc hs)
theorem V_iload {i : Nat} {x : Int32} (hd : decode mt.2.1 pc = .ok (.iload i, 2)) (hi : L[i]? = some (some (.int x))) (k : V G mt d Q rc rs (pc + 2) L (.int x :: st) M n) : V G mt d Q rc rs pc L (st) M n :=
  fun p e R s m args below meth c H locs cells slots mc ms ls C hR hl hq hc hs => lv_iload C.1 C.2.1 hd (hl.get hi) (k p e R s m args below meth c H locs cells slots mc ms ls C hR hl hq hc hs)
theorem V_aload_n {i : Fin 4} {x : Nat} (hd : decode mt.2.1 pc = .ok (.aload_n i, 1)) (hi : L[(i : Nat)]? = some (some (.ref x))) (k : V G mt d Q rc rs (pc + 1) L (.ref x :: st) M n) : V G mt d Q rc rs pc L (st) M n :=
  fun p e R s m args below meth c H locs cells slots mc ms ls C hR hl hq hc hs => lv_aload_n C.1 C.2.1 hd rfl (hl.get hi) (k p e R s m args below meth c H locs cells slots mc ms ls C hR hl hq hc hs)
theorem V_aload {i : Nat} {x : Nat} (hd : decode mt.2.1 pc = .ok (.aload i, 2)) (hi : L[i]? = some (some (.ref x))) (k : V G mt d Q rc rs (pc + 2) L (.ref x :: st) M n) : V G mt d Q rc rs pc L (st) M n :=
  fun p e R s m args below meth c H locs cells slots mc ms ls C hR hl hq hc hs => lv_aload C.1 C.2.1 hd (hl.get hi) (k p e R s m args below meth c H locs cells slots mc ms ls C hR hl hq hc hs)
theorem V_iadd {x y : Int32} (hd : decode mt.2.1 pc = .ok (.iadd, 1))  (k : V G mt d Q rc rs (pc + 1) L (.int (x + y) :: st) M n) : V G mt d Q rc rs pc L (.int y :: .int x :: st) M n :=
  fun p e R s m args below meth c H locs cells slots mc ms ls C hR hl hq hc hs => lv_iadd C.1 C.2.1 hd  (k p e R s m args below meth c H locs cells slots mc ms ls C hR hl hq hc hs)
theorem V_isub {x y : Int32} (hd : decode mt.2.1 pc = .ok (.isub, 1))  (k : V G mt d Q rc rs (pc + 1) L (.int (x - y) :: st) M n) : V G mt d Q rc rs pc L (.int y :: .int x :: st) M n :=
  fun p e R s m args below meth c H locs cells slots mc ms ls C hR hl hq hc hs => lv_isub C.1 C.2.1 hd  (k p e R s m args below meth c H locs cells slots mc ms ls C hR hl hq hc hs)
theorem V_imul {x y : Int32} (hd : decode mt.2.1 pc = .ok (.imul, 1))  (k : V G mt d Q rc rs (pc + 1) L (.int (x * y) :: st) M n) : V G mt d Q rc rs pc L (.int y :: .int x :: st) M n :=
  fun p e R s m args below meth c H locs cells slots mc ms ls C hR hl hq hc hs => lv_imul C.1 C.2.1 hd  (k p e R s m args below meth c H locs cells slots mc ms ls C hR hl hq hc hs)
theorem V_iand {x y : Int32} (hd : decode mt.2.1 pc = .ok (.iand, 1))  (k : V G mt d Q rc rs (pc + 1) L (.int (x &&& y) :: st) M n) : V G mt d Q rc rs pc L (.int y :: .int x :: st) M n :=
  fun p e R s m args below meth c H locs cells slots mc ms ls C hR hl hq hc hs => lv_iand C.1 C.2.1 hd  (k p e R s m args below meth c H locs cells slots mc ms ls C hR hl hq hc hs)
theorem V_ior {x y : Int32} (hd : decode mt.2.1 pc = .ok (.ior, 1))  (k : V G mt d Q rc rs (pc + 1) L (.int (x ||| y) :: st) M n) : V G mt d Q rc rs pc L (.int y :: .int x :: st) M n :=
  fun p e R s m args below meth c H locs cells slots mc ms ls C hR hl hq hc hs => lv_ior C.1 C.2.1 hd  (k p e R s m args below meth c H locs cells slots mc ms ls C hR hl hq hc hs)
theorem V_ixor {x y : Int32} (hd : decode mt.2.1 pc = .ok (.ixor, 1))  (k : V G mt d Q rc rs (pc + 1) L (.int (x ^^^ y) :: st) M n) : V G mt d Q rc rs pc L (.int y :: .int x :: st) M n :=
  fun p e R s m args below meth c H locs cells slots mc ms ls C hR hl hq hc hs => lv_ixor C.1 C.2.1 hd  (k p e R s m args below meth c H locs cells slots mc ms ls C hR hl hq hc hs)
theorem V_ishl {x y : Int32} (hd : decode mt.2.1 pc = .ok (.ishl, 1))  (k : V G mt d Q rc rs (pc + 1) L (.int (x <<< (y &&& 31)) :: st) M n) : V G mt d Q rc rs pc L (.int y :: .int x :: st) M n :=
  fun p e R s m args below meth c H locs cells slots mc ms ls C hR hl hq hc hs => lv_ishl C.1 C.2.1 hd  (k p e R s m args below meth c H locs cells slots mc ms ls C hR hl hq hc hs)
theorem V_ishr {x y : Int32} (hd : decode mt.2.1 pc = .ok (.ishr, 1))  (k : V G mt d Q rc rs (pc + 1) L (.int (x >>> (y &&& 31)) :: st) M n) : V G mt d Q rc rs pc L (.int y :: .int x :: st) M n :=
  fun p e R s m args below meth c H locs cells slots mc ms ls C hR hl hq hc hs => lv_ishr C.1 C.2.1 hd  (k p e R s m args below meth c H locs cells slots mc ms ls C hR hl hq hc hs)
theorem V_idiv {x y : Int32} (hd : decode mt.2.1 pc = .ok (.idiv, 1)) (hne : ¬ y = 0) (k : V G mt d Q rc rs (pc + 1) L (.int (x / y) :: st) M n) : V G mt d Q rc rs pc L (.int y :: .int x :: st) M n :=
  fun p e R s m args below meth c H locs cells slots mc ms ls C hR hl hq hc hs => lv_idiv C.1 C.2.1 hd hne (k p e R s m args below meth c H locs cells slots mc ms ls C hR hl hq hc hs)
theorem V_irem {x y : Int32} (hd : decode mt.2.1 pc = .ok (.irem, 1)) (hne : ¬ y = 0) (k : V G mt d Q rc rs (pc + 1) L (.int (x - x / y * y) :: st) M n) : V G mt d Q rc rs pc L (.int y :: .int x :: st) M n :=
  fun p e R s m args below meth c H locs cells slots mc ms ls C hR hl hq hc hs => lv_irem C.1 C.2.1 hd hne (k p e R s m args below meth c H locs cells slots mc ms ls C hR hl hq hc hs)
theorem V_ineg {x : Int32} (hd : decode mt.2.1 pc = .ok (.ineg, 1))  (k : V G mt d Q rc rs (pc + 1) L (.int (-x) :: st) M n) : V G mt d Q rc rs pc L (.int x :: st) M n :=
  fun p e R s m args below meth c H locs cells slots mc ms ls C hR hl hq hc hs => lv_ineg C.1 C.2.1 hd  (k p e R s m args below meth c H locs cells slots mc ms ls C hR hl hq hc hs)
theorem V_dup {v : Value} (hd : decode mt.2.1 pc = .ok (.dup, 1)) (hv : v.category = 1) (k : V G mt d Q rc rs (pc + 1) L (v :: v :: st) M n) : V G mt d Q rc rs pc L (v :: st) M n :=
  fun p e R s m args below meth c H locs cells slots mc ms ls C hR hl hq hc hs => lv_dup C.1 C.2.1 hd ((pv_cat G v).trans hv) (k p e R s m args below meth c H locs cells slots mc ms ls C hR hl hq hc hs)
theorem V_pop {v : Value} (hd : decode mt.2.1 pc = .ok (.pop, 1)) (hv : v.category = 1) (k : V G mt d Q rc rs (pc + 1) L (st) M n) : V G mt d Q rc rs pc L (v :: st) M n :=
  fun p e R s m args below meth c H locs cells slots mc ms ls C hR hl hq hc hs => lv_pop C.1 C.2.1 hd ((pv_cat G v).trans hv) (k p e R s m args below meth c H locs cells slots mc ms ls C hR hl hq hc hs)
theorem V_dup_x1 {v w : Value} (hd : decode mt.2.1 pc = .ok (.dup_x1, 1)) (hv : v.category = 1) (hw : w.category = 1) (k : V G mt d Q rc rs (pc + 1) L (v :: w :: v :: st) M n) : V G mt d Q rc rs pc L (v :: w :: st) M n :=
  fun p e R s m args below meth c H locs cells slots mc ms ls C hR hl hq hc hs => lv_dup_x1 C.1 C.2.1 hd ((pv_cat G v).trans hv) ((pv_cat G w).trans hw) (k p e R s m args below meth c H locs cells slots mc ms ls C hR hl hq hc hs)
theorem V_dup_x2 {v w z : Value} (hd : decode mt.2.1 pc = .ok (.dup_x2, 1)) (hv : v.category = 1) (hw : w.category = 1) (hz : z.category = 1) (k : V G mt d Q rc rs (pc + 1) L (v :: w :: z :: v :: st) M n) : V G mt d Q rc rs pc L (v :: w :: z :: st) M n :=
  fun p e R s m args below meth c H locs cells slots mc ms ls C hR hl hq hc hs => lv_dup_x2 C.1 C.2.1 hd ((pv_cat G v).trans hv) ((pv_cat G w).trans hw) ((pv_cat G z).trans hz) (k p e R s m args below meth c H locs cells slots mc ms ls C hR hl hq hc hs)
theorem V_dup2 {v w : Value} (hd : decode mt.2.1 pc = .ok (.dup2, 1)) (hv : v.category = 1) (hw : w.category = 1) (k : V G mt d Q rc rs (pc + 1) L (v :: w :: v :: w :: st) M n) : V G mt d Q rc rs pc L (v :: w :: st) M n :=
  fun p e R s m args below meth c H locs cells slots mc ms ls C hR hl hq hc hs => lv_dup2_11 C.1 C.2.1 hd ((pv_cat G v).trans hv) ((pv_cat G w).trans hw) (k p e R s m args below meth c H locs cells slots mc ms ls C hR hl hq hc hs)
theorem V_ldc {idx : Nat} {v : Int32} (hd : decode mt.2.1 pc = .ok (.ldc idx, 2)) (hw : Cond.constant mt.1.cls idx v ∈ lw_tg) (k : V G mt d Q rc rs (pc + 2) L (.int v :: st) M n) : V G mt d Q rc rs pc L st M n :=
  fun p e R s m args below meth c H locs cells slots mc ms ls C hR hl hq hc hs => lv_ldc C.1 C.2.1 C.2.2.2.2.2.2.1 (C.2.2.2.2.2.2.2.1 _ hw) hd (k p e R s m args below meth c H locs cells slots mc ms ls C hR hl hq hc hs)
theorem V_istore_n {i : Fin 4} {x : Int32} (hd : decode mt.2.1 pc = .ok (.istore_n i, 1)) (hi : (i : Nat) < mt.2.2.1) (k : V G mt d Q rc rs (pc + 1) (L.set (i : Nat) (some (.int x))) st M n) : V G mt d Q rc rs pc L (.int x :: st) M n :=
  fun p e R s m args below meth c H locs cells slots mc ms ls C hR hl hq hc hs => lv_istore_n C.1 C.2.1 hd rfl hl.1 hi rfl (fun ls' h' => k p e R s m args below meth c H locs cells slots mc ms ls' C hR (hl.set (v := .int x) rfl h') hq hc hs)
theorem V_istore {i : Nat} {x : Int32} (hd : decode mt.2.1 pc = .ok (.istore i, 2)) (hi : i < mt.2.2.1) (k : V G mt d Q rc rs (pc + 2) (L.set i (some (.int x))) st M n) : V G mt d Q rc rs pc L (.int x :: st) M n :=
  fun p e R s m args below meth c H locs cells slots mc ms ls C hR hl hq hc hs => lv_istore C.1 C.2.1 hd  hl.1 hi rfl (fun ls' h' => k p e R s m args below meth c H locs cells slots mc ms ls' C hR (hl.set (v := .int x) rfl h') hq hc hs)
theorem V_astore_n {i : Fin 4} {x : Nat} (hd : decode mt.2.1 pc = .ok (.astore_n i, 1)) (hi : (i : Nat) < mt.2.2.1) (k : V G mt d Q rc rs (pc + 1) (L.set (i : Nat) (some (.ref x))) st M n) : V G mt d Q rc rs pc L (.ref x :: st) M n :=
  fun p e R s m args below meth c H locs cells slots mc ms ls C hR hl hq hc hs => lv_astore_n C.1 C.2.1 hd rfl hl.1 hi rfl (fun ls' h' => k p e R s m args below meth c H locs cells slots mc ms ls' C hR (hl.set (v := .ref x) rfl h') hq hc hs)
theorem V_astore {i : Nat} {x : Nat} (hd : decode mt.2.1 pc = .ok (.astore i, 2)) (hi : i < mt.2.2.1) (k : V G mt d Q rc rs (pc + 2) (L.set i (some (.ref x))) st M n) : V G mt d Q rc rs pc L (.ref x :: st) M n :=
  fun p e R s m args below meth c H locs cells slots mc ms ls C hR hl hq hc hs => lv_astore C.1 C.2.1 hd  hl.1 hi rfl (fun ls' h' => k p e R s m args below meth c H locs cells slots mc ms ls' C hR (hl.set (v := .ref x) rfl h') hq hc hs)
theorem V_iinc {i : Nat} {z : Int} {x v : Int32} (hd : decode mt.2.1 pc = .ok (.iinc i z, 3)) (hi : i < mt.2.2.1) (hx : L[i]? = some (some (.int x))) (hv : x + Int32.ofInt z = v) (k : V G mt d Q rc rs (pc + 3) (L.set i (some (.int v))) st M n) : V G mt d Q rc rs pc L st M n := by
  intro p e R s m args below meth c H locs cells slots mc ms ls C hR hl hq hc hs
  have h1 := lA_in (G := G) L 0 i (.int x) hx
  rw [Nat.zero_add] at h1
  obtain ⟨kk, hk⟩ := List.getElem?_of_mem h1
  exact lv_iinc C.1 C.2.1 hd hl.1 hk hv hi rfl (fun ls' h' => k p e R s m args below meth c H locs cells slots mc ms ls' C hR (hl.set (v := .int v) rfl h') hq hc hs)
theorem V_goto {off : Int} {tgt : Nat} (hd : decode mt.2.1 pc = .ok (.goto off, 3)) (ht : (pc : Int) + off = (tgt : Int)) (k : V G mt d Q rc rs tgt L st M n) : V G mt d Q rc rs pc L st M n :=
  fun p e R s m args below meth c H locs cells slots mc ms ls C hR hl hq hc hs => lv_goto C.1 C.2.1 hd ht (k p e R s m args below meth c H locs cells slots mc ms ls C hR hl hq hc hs)
theorem V_if_eq {x : Int32} {off : Int} {tgt : Nat} (hd : decode mt.2.1 pc = .ok (.ifCond .eq off, 3)) (ht : (pc : Int) + off = (tgt : Int)) (kt : x = 0 → V G mt d Q rc rs tgt L st M n) (kf : ¬ x = 0 → V G mt d Q rc rs (pc + 3) L st M n) : V G mt d Q rc rs pc L (.int x :: st) M n :=
  fun p e R s m args below meth c H locs cells slots mc ms ls C hR hl hq hc hs => lv_if_eq C.1 C.2.1 hd ht (fun h => kt h p e R s m args below meth c H locs cells slots mc ms ls C hR hl hq hc hs) (fun h => kf h p e R s m args below meth c H locs cells slots mc ms ls C hR hl hq hc hs)
theorem V_if_ne {x : Int32} {off : Int} {tgt : Nat} (hd : decode mt.2.1 pc = .ok (.ifCond .ne off, 3)) (ht : (pc : Int) + off = (tgt : Int)) (kt : ¬ x = 0 → V G mt d Q rc rs tgt L st M n) (kf : x = 0 → V G mt d Q rc rs (pc + 3) L st M n) : V G mt d Q rc rs pc L (.int x :: st) M n :=
  fun p e R s m args below meth c H locs cells slots mc ms ls C hR hl hq hc hs => lv_if_ne C.1 C.2.1 hd ht (fun h => kt h p e R s m args below meth c H locs cells slots mc ms ls C hR hl hq hc hs) (fun h => kf h p e R s m args below meth c H locs cells slots mc ms ls C hR hl hq hc hs)
theorem V_if_lt {x : Int32} {off : Int} {tgt : Nat} (hd : decode mt.2.1 pc = .ok (.ifCond .lt off, 3)) (ht : (pc : Int) + off = (tgt : Int)) (kt : x < 0 → V G mt d Q rc rs tgt L st M n) (kf : ¬ x < 0 → V G mt d Q rc rs (pc + 3) L st M n) : V G mt d Q rc rs pc L (.int x :: st) M n :=
  fun p e R s m args below meth c H locs cells slots mc ms ls C hR hl hq hc hs => lv_if_lt C.1 C.2.1 hd ht (fun h => kt h p e R s m args below meth c H locs cells slots mc ms ls C hR hl hq hc hs) (fun h => kf h p e R s m args below meth c H locs cells slots mc ms ls C hR hl hq hc hs)
theorem V_if_ge {x : Int32} {off : Int} {tgt : Nat} (hd : decode mt.2.1 pc = .ok (.ifCond .ge off, 3)) (ht : (pc : Int) + off = (tgt : Int)) (kt : 0 ≤ x → V G mt d Q rc rs tgt L st M n) (kf : ¬ 0 ≤ x → V G mt d Q rc rs (pc + 3) L st M n) : V G mt d Q rc rs pc L (.int x :: st) M n :=
  fun p e R s m args below meth c H locs cells slots mc ms ls C hR hl hq hc hs => lv_if_ge C.1 C.2.1 hd ht (fun h => kt h p e R s m args below meth c H locs cells slots mc ms ls C hR hl hq hc hs) (fun h => kf h p e R s m args below meth c H locs cells slots mc ms ls C hR hl hq hc hs)
theorem V_if_gt {x : Int32} {off : Int} {tgt : Nat} (hd : decode mt.2.1 pc = .ok (.ifCond .gt off, 3)) (ht : (pc : Int) + off = (tgt : Int)) (kt : 0 < x → V G mt d Q rc rs tgt L st M n) (kf : ¬ 0 < x → V G mt d Q rc rs (pc + 3) L st M n) : V G mt d Q rc rs pc L (.int x :: st) M n :=
  fun p e R s m args below meth c H locs cells slots mc ms ls C hR hl hq hc hs => lv_if_gt C.1 C.2.1 hd ht (fun h => kt h p e R s m args below meth c H locs cells slots mc ms ls C hR hl hq hc hs) (fun h => kf h p e R s m args below meth c H locs cells slots mc ms ls C hR hl hq hc hs)
theorem V_if_le {x : Int32} {off : Int} {tgt : Nat} (hd : decode mt.2.1 pc = .ok (.ifCond .le off, 3)) (ht : (pc : Int) + off = (tgt : Int)) (kt : x ≤ 0 → V G mt d Q rc rs tgt L st M n) (kf : ¬ x ≤ 0 → V G mt d Q rc rs (pc + 3) L st M n) : V G mt d Q rc rs pc L (.int x :: st) M n :=
  fun p e R s m args below meth c H locs cells slots mc ms ls C hR hl hq hc hs => lv_if_le C.1 C.2.1 hd ht (fun h => kt h p e R s m args below meth c H locs cells slots mc ms ls C hR hl hq hc hs) (fun h => kf h p e R s m args below meth c H locs cells slots mc ms ls C hR hl hq hc hs)
theorem V_icmp_eq {x y : Int32} {off : Int} {tgt : Nat} (hd : decode mt.2.1 pc = .ok (.if_icmp .eq off, 3)) (ht : (pc : Int) + off = (tgt : Int)) (kt : x = y → V G mt d Q rc rs tgt L st M n) (kf : ¬ x = y → V G mt d Q rc rs (pc + 3) L st M n) : V G mt d Q rc rs pc L (.int y :: .int x :: st) M n :=
  fun p e R s m args below meth c H locs cells slots mc ms ls C hR hl hq hc hs => lv_icmp_eq C.1 C.2.1 hd ht (fun h => kt h p e R s m args below meth c H locs cells slots mc ms ls C hR hl hq hc hs) (fun h => kf h p e R s m args below meth c H locs cells slots mc ms ls C hR hl hq hc hs)
theorem V_icmp_ne {x y : Int32} {off : Int} {tgt : Nat} (hd : decode mt.2.1 pc = .ok (.if_icmp .ne off, 3)) (ht : (pc : Int) + off = (tgt : Int)) (kt : ¬ x = y → V G mt d Q rc rs tgt L st M n) (kf : x = y → V G mt d Q rc rs (pc + 3) L st M n) : V G mt d Q rc rs pc L (.int y :: .int x :: st) M n :=
  fun p e R s m args below meth c H locs cells slots mc ms ls C hR hl hq hc hs => lv_icmp_ne C.1 C.2.1 hd ht (fun h => kt h p e R s m args below meth c H locs cells slots mc ms ls C hR hl hq hc hs) (fun h => kf h p e R s m args below meth c H locs cells slots mc ms ls C hR hl hq hc hs)
theorem V_icmp_lt {x y : Int32} {off : Int} {tgt : Nat} (hd : decode mt.2.1 pc = .ok (.if_icmp .lt off, 3)) (ht : (pc : Int) + off = (tgt : Int)) (kt : x < y → V G mt d Q rc rs tgt L st M n) (kf : ¬ x < y → V G mt d Q rc rs (pc + 3) L st M n) : V G mt d Q rc rs pc L (.int y :: .int x :: st) M n :=
  fun p e R s m args below meth c H locs cells slots mc ms ls C hR hl hq hc hs => lv_icmp_lt C.1 C.2.1 hd ht (fun h => kt h p e R s m args below meth c H locs cells slots mc ms ls C hR hl hq hc hs) (fun h => kf h p e R s m args below meth c H locs cells slots mc ms ls C hR hl hq hc hs)
theorem V_icmp_ge {x y : Int32} {off : Int} {tgt : Nat} (hd : decode mt.2.1 pc = .ok (.if_icmp .ge off, 3)) (ht : (pc : Int) + off = (tgt : Int)) (kt : y ≤ x → V G mt d Q rc rs tgt L st M n) (kf : ¬ y ≤ x → V G mt d Q rc rs (pc + 3) L st M n) : V G mt d Q rc rs pc L (.int y :: .int x :: st) M n :=
  fun p e R s m args below meth c H locs cells slots mc ms ls C hR hl hq hc hs => lv_icmp_ge C.1 C.2.1 hd ht (fun h => kt h p e R s m args below meth c H locs cells slots mc ms ls C hR hl hq hc hs) (fun h => kf h p e R s m args below meth c H locs cells slots mc ms ls C hR hl hq hc hs)
theorem V_icmp_gt {x y : Int32} {off : Int} {tgt : Nat} (hd : decode mt.2.1 pc = .ok (.if_icmp .gt off, 3)) (ht : (pc : Int) + off = (tgt : Int)) (kt : y < x → V G mt d Q rc rs tgt L st M n) (kf : ¬ y < x → V G mt d Q rc rs (pc + 3) L st M n) : V G mt d Q rc rs pc L (.int y :: .int x :: st) M n :=
  fun p e R s m args below meth c H locs cells slots mc ms ls C hR hl hq hc hs => lv_icmp_gt C.1 C.2.1 hd ht (fun h => kt h p e R s m args below meth c H locs cells slots mc ms ls C hR hl hq hc hs) (fun h => kf h p e R s m args below meth c H locs cells slots mc ms ls C hR hl hq hc hs)
theorem V_icmp_le {x y : Int32} {off : Int} {tgt : Nat} (hd : decode mt.2.1 pc = .ok (.if_icmp .le off, 3)) (ht : (pc : Int) + off = (tgt : Int)) (kt : x ≤ y → V G mt d Q rc rs tgt L st M n) (kf : ¬ x ≤ y → V G mt d Q rc rs (pc + 3) L st M n) : V G mt d Q rc rs pc L (.int y :: .int x :: st) M n :=
  fun p e R s m args below meth c H locs cells slots mc ms ls C hR hl hq hc hs => lv_icmp_le C.1 C.2.1 hd ht (fun h => kt h p e R s m args below meth c H locs cells slots mc ms ls C hR hl hq hc hs) (fun h => kf h p e R s m args below meth c H locs cells slots mc ms ls C hR hl hq hc hs)
theorem V_tableOut {dflt lo hi : Int} {offs : Array Int} {len : Nat} {x : Int32} {tgt : Nat} (hd : decode mt.2.1 pc = .ok (.tableswitch dflt lo hi offs, len)) (h : x.toInt < lo ∨ hi < x.toInt) (ht : (pc : Int) + dflt = (tgt : Int)) (k : V G mt d Q rc rs tgt L st M n) : V G mt d Q rc rs pc L (.int x :: st) M n :=
  fun p e R s m args below meth c H locs cells slots mc ms ls C hR hl hq hc hs => lv_tableOut C.1 C.2.1 hd h ht (k p e R s m args below meth c H locs cells slots mc ms ls C hR hl hq hc hs)
theorem V_tableIn {dflt lo hi : Int} {offs : Array Int} {len : Nat} {x : Int32} {off : Int} {tgt : Nat} (hd : decode mt.2.1 pc = .ok (.tableswitch dflt lo hi offs, len)) (h1 : ¬ x.toInt < lo) (h2 : ¬ hi < x.toInt) (ho : offs[(x.toInt - lo).toNat]? = some off) (ht : (pc : Int) + off = (tgt : Int)) (k : V G mt d Q rc rs tgt L st M n) : V G mt d Q rc rs pc L (.int x :: st) M n :=
  fun p e R s m args below meth c H locs cells slots mc ms ls C hR hl hq hc hs => lv_tableIn C.1 C.2.1 hd h1 h2 ho ht (k p e R s m args below meth c H locs cells slots mc ms ls C hR hl hq hc hs)
theorem V_lookup {dflt : Int} {ps : Array (Int × Int)} {len : Nat} {x : Int32} {off : Int} {tgt : Nat} (hd : decode mt.2.1 pc = .ok (.lookupswitch dflt ps, len)) (hp : (ps.toList.zip (ps.toList.drop 1)).all (fun (a, next) => a.1 < next.1) = true) (ho : Op.lookupswitch.offset ps.toList dflt x.toInt = off) (ht : (pc : Int) + off = (tgt : Int)) (k : V G mt d Q rc rs tgt L st M n) : V G mt d Q rc rs pc L (.int x :: st) M n :=
  fun p e R s m args below meth c H locs cells slots mc ms ls C hR hl hq hc hs => lv_lookup C.1 C.2.1 hd hp ho ht (k p e R s m args below meth c H locs cells slots mc ms ls C hR hl hq hc hs)
theorem V_weak {L' : List (Option Value)} (hw : ∀ (k : Nat) (v : Value), L'[k]? = some (some v) → L[k]? = some (some v)) (k : V G mt d Q rc rs pc L' st M n) : V G mt d Q rc rs pc L st M n :=
  fun p e R s m args below meth c H locs cells slots mc ms ls C hR hl hq hc hs => k p e R s m args below meth c H locs cells slots mc ms ls C hR (hl.weak hw) hq hc hs
theorem V_less {rc' rs' : Nat} (h1 : rc' ≤ rc) (h2 : rs' ≤ rs) (k : V G mt d Q rc' rs' pc L st M n) : V G mt d Q rc rs pc L st M n :=
  fun p e R s m args below meth c H locs cells slots mc ms ls C hR hl hq hc hs => k p e R s m args below meth c H locs cells slots mc ms ls C hR hl hq (by omega) (by omega)
theorem V_post {Q' : zQ} (h : ∀ v M n, Q' v M n → Q v M n) (k : V G mt d Q' rc rs pc L st M n) : V G mt d Q rc rs pc L st M n := by
  intro p e R s m args below meth c H locs cells slots mc ms ls C hR hl hq hc hs T hT X
  obtain ⟨t, a, o, b1, b2, ⟨v, M', n', e1, e2, e3⟩, b4⟩ := k p e R s m args below meth c H locs cells slots mc ms ls C hR hl hq hc hs T hT X
  exact ⟨t, a, o, b1, b2, ⟨v, M', n', e1, h _ _ _ e2, e3⟩, b4⟩
theorem V_eqM {M' : aM} (h : M = M') (k : V G mt d Q rc rs pc L st M' n) : V G mt d Q rc rs pc L st M n := h ▸ k
theorem V_iret {x : Int32} (hd : decode mt.2.1 pc = .ok (.ireturn, 1)) (hr : mt.2.2.2 = some .int) (hQ : Q (some (.int x)) M n) : V G mt d Q rc rs pc L [.int x] M n :=
  fun p e R s m args below meth c H locs cells slots mc ms ls C hR hl hq hc hs => W.widen (k := mc) (n := ms) (by omega) (by omega) (W.iret C.1 C.2.1 (C.2.2.2.1.trans hr) (fun t ht _ => ⟨some (.int x), M, n, rfl, hQ, by rw [ht]; exact hR⟩) hq hd C.2.2.2.2.1)
theorem V_zret {x : Int32} (hd : decode mt.2.1 pc = .ok (.ireturn, 1)) (hr : mt.2.2.2 = some .boolean) (hz : narrow .boolean (.int x) = .int x) (hQ : Q (some (.int x)) M n) : V G mt d Q rc rs pc L [.int x] M n :=
  fun p e R s m args below meth c H locs cells slots mc ms ls C hR hl hq hc hs => W.widen (k := mc) (n := ms) (by omega) (by omega) (W.zret C.1 C.2.1 (C.2.2.2.1.trans hr) hz (fun t ht _ => ⟨some (.int x), M, n, rfl, hQ, by rw [ht]; exact hR⟩) hq hd C.2.2.2.2.1)
theorem V_vret (hd : decode mt.2.1 pc = .ok (.return_, 1)) (hr : mt.2.2.2 = none) (hQ : Q none M n) : V G mt d Q rc rs pc L [] M n :=
  fun p e R s m args below meth c H locs cells slots mc ms ls C hR hl hq hc hs => W.widen (k := mc) (n := ms) (by omega) (by omega) (W.vret C.1 C.2.1 (C.2.2.2.1.trans hr) (fun t ht _ => ⟨none, M, n, rfl, hQ, by rw [ht]; exact hR⟩) hq hd C.2.2.2.2.1)
theorem V_aret {r : Option Nat} {rt : FieldType} (hd : decode mt.2.1 pc = .ok (.areturn, 1)) (hr : mt.2.2.2 = some rt) (hrt : (∃ n, rt = .object n) ∨ ∃ t, rt = .array t) (hQ : Q (some (va_rf r)) M n) : V G mt d Q rc rs pc L [va_rf r] M n :=
  fun p e R s m args below meth c H locs cells slots mc ms ls C hR hl hq hc hs => W.widen (k := mc) (n := ms) (by omega) (by omega) (W.aret C.1 C.2.1 (C.2.2.2.1.trans hr) hrt (by cases r; exact Or.inl rfl; exact Or.inr ⟨_, rfl⟩) (fun t ht _ => ⟨some (va_rf r), M, n, rfl, hQ, by rw [ht]; exact hR⟩) hq hd C.2.2.2.2.1)
theorem V_sld {i : Int32} (hd : decode mt.2.1 pc = .ok (.iaload, 1)) (hin : vp_in i (gN G)) (k : V G mt d Q rc rs (pc + 1) L (.int (gX G i.toNatClampNeg) :: st) M n) : V G mt d Q rc rs pc L (.int i :: .ref 0 :: st) M n := by
  intro p e R s m args below meth c H locs cells slots mc ms ls C hR hl hq hc hs
  obtain ⟨-, -, ⟨scr, h1, h2, h3, h4, h5⟩, hb1, hb2⟩ := C.2.2.2.2.2.2.2.2.1
  have hlt : i.toNatClampNeg < gN G := Nat.not_le.mp fun q => hin (Or.inr q)
  exact W.iald (v := .int (gX G i.toNatClampNeg)) C.1 C.2.1 (a := gS G) (by rw [hR.2.1 _ hb1]; exact h1) h2 h3 (by rw [h4]; exact hin) (h5 _ hlt) rfl rfl hd (k p e R s m args below meth c H locs cells slots mc ms ls C hR hl hq hc hs)
theorem V_slen (hd : decode mt.2.1 pc = .ok (.arraylength, 1)) (k : V G mt d Q rc rs (pc + 1) L (.int (nI (gN G)) :: st) M n) : V G mt d Q rc rs pc L (.ref 0 :: st) M n := by
  intro p e R s m args below meth c H locs cells slots mc ms ls C hR hl hq hc hs
  obtain ⟨-, -, ⟨scr, h1, h2, h3, h4, h5⟩, hb1, hb2⟩ := C.2.2.2.2.2.2.2.2.1
  exact W.alen (n := nI (gN G)) C.1 C.2.1 (a := gS G) (by rw [hR.2.1 _ hb1]; exact h1) h2 (by rw [h4]; rfl) rfl rfl hd (k p e R s m args below meth c H locs cells slots mc ms ls C hR hl hq hc hs)
theorem V_iald {a t ln : Nat} {f : Nat → Int32} {i : Int32} (hd : decode mt.2.1 pc = .ok (.iaload, 1)) (hM : M a = some (.inl (t, ln, .inl f))) (ht : vwTy[t]? = some .int) (hin : vp_in i ln) (k : V G mt d Q rc rs (pc + 1) L (.int (f i.toNatClampNeg) :: st) M n) : V G mt d Q rc rs pc L (.int i :: .ref a :: st) M n :=
  fun p e R s m args below meth c H locs cells slots mc ms ls C hR hl hq hc hs => va_iald C.1 C.2.1 (C.2.2.2.2.2.2.2.2.1.Kt ht) (hR.P hM) 0 0 rfl rfl hin hd (k p e R s m args below meth c H locs cells slots mc ms ls C hR hl hq hc hs)
theorem V_zald {a t ln : Nat} {f : Nat → Int32} {i : Int32} (hd : decode mt.2.1 pc = .ok (.baload, 1)) (hM : M a = some (.inl (t, ln, .inl f))) (ht : vwTy[t]? = some .boolean) (hin : vp_in i ln) (k : V G mt d Q rc rs (pc + 1) L (.int (f i.toNatClampNeg) :: st) M n) : V G mt d Q rc rs pc L (.int i :: .ref a :: st) M n :=
  fun p e R s m args below meth c H locs cells slots mc ms ls C hR hl hq hc hs => va_zald C.1 C.2.1 (C.2.2.2.2.2.2.2.2.1.Kt ht) (hR.P hM) 0 0 rfl rfl hin hd (k p e R s m args below meth c H locs cells slots mc ms ls C hR hl hq hc hs)
theorem V_aald {a t ln : Nat} {f : Nat → Option Nat} {Cn : String} {i : Int32} (hd : decode mt.2.1 pc = .ok (.aaload, 1)) (hM : M a = some (.inl (t, ln, .inr f))) (ht : vwTy[t]? = some (.object Cn)) (hin : vp_in i ln) (k : V G mt d Q rc rs (pc + 1) L (va_rf (f i.toNatClampNeg) :: st) M n) : V G mt d Q rc rs pc L (.int i :: .ref a :: st) M n := by
  intro p e R s m args below meth c H locs cells slots mc ms ls C hR hl hq hc hs
  refine va_aldq C.1 C.2.1 (C.2.2.2.2.2.2.2.2.1.Kt ht) (hR.P hM) 0 0 rfl rfl hin hd ?_
  have h := k p e R s m args below meth c H locs cells slots mc ms ls C hR hl hq hc hs
  rw [List.map_cons, pv_rf] at h
  exact h
theorem V_alen {a t ln : Nat} {x : (Nat → Int32) ⊕ (Nat → Option Nat)} {ty : FieldType} (hd : decode mt.2.1 pc = .ok (.arraylength, 1)) (hM : M a = some (.inl (t, ln, x))) (ht : vwTy[t]? = some ty) (k : V G mt d Q rc rs (pc + 1) L (.int (nI ln) :: st) M n) : V G mt d Q rc rs pc L (.ref a :: st) M n := by
  intro p e R s m args below meth c H locs cells slots mc ms ls C hR hl hq hc hs
  cases x with
  | inl f => exact va_alen C.1 C.2.1 (C.2.2.2.2.2.2.2.2.1.Kt ht) (hR.P hM) 0 0 rfl rfl rfl hd (k p e R s m args below meth c H locs cells slots mc ms ls C hR hl hq hc hs)
  | inr f => exact va_alen C.1 C.2.1 (C.2.2.2.2.2.2.2.2.1.Kt ht) (hR.P hM) 0 0 rfl rfl rfl hd (k p e R s m args below meth c H locs cells slots mc ms ls C hR hl hq hc hs)
theorem V_iast {a t ln : Nat} {f : Nat → Int32} {i x : Int32} (hd : decode mt.2.1 pc = .ok (.iastore, 1)) (hM : M a = some (.inl (t, ln, .inl f))) (ht : vwTy[t]? = some .int) (hin : vp_in i ln) (k : V G mt d Q rc rs (pc + 1) L st (hU M a (.inl (t, ln, .inl (upd f i.toNatClampNeg x)))) n) : V G mt d Q rc rs pc L (.int x :: .int i :: .ref a :: st) M n := by
  intro p e R s m args below meth c H locs cells slots mc ms ls C hR hl hq hc hs
  have hpa := ph_pos (G := G) (hR.2.2 a _ hM).1
  refine W.iast C.1 C.2.1 (hR.at hM) ((C.2.2.2.2.2.2.2.2.1.2.1 t _ ht).1 ln (fun j => .int (f j))) (fun q => by cases q) (by show ¬ (i < 0 ∨ (arrV _ _ _).slots.size ≤ _); rw [arrV_size]; exact hin) rfl rfl hd fun H1 e1 z oq => ?_
  refine k p e R s m args below meth c H1 _ cells slots mc ms ls C (hR.put hM z oq ?_) hl (fun q h => ?_) hc hs
  · show H1[ph G a]? = some (vp_cell _ _)
    rw [e1]
    show some ((vp_cell (gA G t) (ln, .inl f)).setSlot _ _) = some (vp_cell (gA G t) (ln, .inl (upd f i.toNatClampNeg x)))
    rw [vp_cell_i, vp_cell_i, arrV_store]
    congr 2
    funext q
    by_cases hq : q = i.toNatClampNeg
    · subst hq
      simp [updV, upd]
      try rfl
    · simp [updV, upd, hq]
  · rcases List.mem_append.mp h with h | h
    · exact hq q h
    · rw [List.mem_singleton.mp h]
      show gB G ≤ ph G a
      omega
theorem V_zast {a t ln : Nat} {f : Nat → Int32} {i x : Int32} (hd : decode mt.2.1 pc = .ok (.bastore, 1)) (hM : M a = some (.inl (t, ln, .inl f))) (ht : vwTy[t]? = some .boolean) (hin : vp_in i ln) (k : V G mt d Q rc rs (pc + 1) L st (hU M a (.inl (t, ln, .inl (upd f i.toNatClampNeg (vp_nar .boolean x))))) n) : V G mt d Q rc rs pc L (.int x :: .int i :: .ref a :: st) M n := by
  intro p e R s m args below meth c H locs cells slots mc ms ls C hR hl hq hc hs
  have hpa := ph_pos (G := G) (hR.2.2 a _ hM).1
  refine W.zast C.1 C.2.1 (hR.at hM) ((C.2.2.2.2.2.2.2.2.1.2.1 t _ ht).1 ln (fun j => .int (f j))) (fun q => by cases q) (by show ¬ (i < 0 ∨ (arrV _ _ _).slots.size ≤ _); rw [arrV_size]; exact hin) rfl rfl hd fun H1 e1 z oq => ?_
  refine k p e R s m args below meth c H1 _ cells slots mc ms ls C (hR.put hM z oq ?_) hl (fun q h => ?_) hc hs
  · show H1[ph G a]? = some (vp_cell _ _)
    rw [e1]
    show some ((vp_cell (gA G t) (ln, .inl f)).setSlot _ _) = some (vp_cell (gA G t) (ln, .inl (upd f i.toNatClampNeg (vp_nar .boolean x))))
    rw [vp_cell_i, vp_cell_i, arrV_store]
    congr 2
    funext q
    by_cases hq : q = i.toNatClampNeg
    · subst hq
      simp [updV, upd, vp_nar]
      try rfl
    · simp [updV, upd, hq]
  · rcases List.mem_append.mp h with h | h
    · exact hq q h
    · rw [List.mem_singleton.mp h]
      show gB G ≤ ph G a
      omega
theorem V_aast {a t ln v ci : Nat} {vs : List Value} {f : Nat → Option Nat} {r : vw_C} {i : Int32} (hd : decode mt.2.1 pc = .ok (.aastore, 1)) (hM : M a = some (.inl (t, ln, .inr f))) (hr : vwCl[ci]? = some r) (ht : vwTy[t]? = some (.object r.1)) (hv : M v = some (.inr (ci, vs))) (hin : vp_in i ln) (k : V G mt d Q rc rs (pc + 1) L st (hU M a (.inl (t, ln, .inr (va_up f i.toNatClampNeg (some v))))) n) : V G mt d Q rc rs pc L (.ref v :: .int i :: .ref a :: st) M n := by
  intro p e R s m args below meth c H locs cells slots mc ms ls C hR hl hq hc hs
  have hpa := ph_pos (G := G) (hR.2.2 a _ hM).1
  have hK := C.2.2.2.2.2.2.2.2.1
  have hlt : i.toNatClampNeg < ln := Nat.not_le.mp fun q => hin (Or.inr q)
  have h0 : ¬ i < 0 := fun q => hin (Or.inl q)
  obtain ⟨r', hr', cellV, g1, g2, g3, -⟩ := hR.at hv
  have hcls := (hK.1 ci r hr).2
  obtain ⟨kA, comp, k1, k2, k3, -⟩ := (hK.2.1 t _ ht).2
  have hcomp : comp = (gD G).1 ci := Option.some.inj (k3.symm.trans hcls.1)
  subst hcomp
  obtain ⟨kC, hkC, -⟩ := hcls.2
  refine W.aast C.1 C.2.1 (hR.at hM) (fun q h => by cases h) (fun h => by cases h) k1 k2 rfl hkC ⟨h0, by show _ < (arrV _ _ _).slots.size; rw [arrV_size]; exact hlt⟩ g1 (fun q h => by rw [g3] at h; cases h) (by rw [g2]; exact hkC) (by rw [g2]; exact va_assign hcls) rfl rfl hd fun H1 e1 z oq => ?_
  refine k p e R s m args below meth c H1 _ cells slots mc ms ls C (hR.put hM z oq ?_) hl (fun q h => ?_) hc hs
  · show H1[ph G a]? = some (vp_cell _ _)
    rw [e1]
    show some ((vp_cell (gA G t) (ln, .inr (.inr (.inr (.inr (fun j => (f j).map (ph G))))))).setSlot _ _) = some (vp_cell (gA G t) (ln, .inr (.inr (.inr (.inr (fun j => ((va_up f i.toNatClampNeg (some v)) j).map (ph G)))))))
    rw [vp_cell_q, vp_cell_q, arrV_store]
    congr 2
    funext q
    by_cases hq : q = i.toNatClampNeg
    · subst hq
      simp [updV, va_up, va_rf]
    · simp [updV, va_up, hq]
  · rcases List.mem_append.mp h with h | h
    · exact hq q h
    · rw [List.mem_singleton.mp h]
      show gB G ≤ ph G a
      omega
def Fok (own : String) (idx ci k : Nat) (ty : FieldType) (fin : Bool) : Prop := ∃ (Cn : String) (T : u_T) (N : Nat), vwCl[ci]? = some (Cn, T, N) ∧ k < N ∧ Cond.fieldLink own idx (T k).1 (T k).2.1 (T k).2.2.1 ∈ lw_tg ∧ parseFieldDescriptor (T k).2.2.1 = some ty ∧ (T k).2.2.2 = fin ∧ (fin = true → (T k).1 = own)
theorem okV_pv {G : wG} {ty : FieldType} {v : Value} (h1 : narrow ty v = v) (h2 : fits ty v = true) : narrow ty (pv G v) = pv G v ∧ fits ty (pv G v) = true := by
  cases v with
  | ref a => cases ty <;> first | exact ⟨rfl, rfl⟩ | (simp [narrow, fits, pv] at h1 h2 ⊢)
  | _ => exact ⟨h1, h2⟩
theorem V_get {a ci kf idx : Nat} {ty : FieldType} {fin : Bool} {fs : List Value} {v : Value} (hd : decode mt.2.1 pc = .ok (.getfield idx, 3)) (hf : Fok mt.1.cls idx ci kf ty fin) (hM : M a = some (.inr (ci, fs))) (hv : fs[kf]? = some v) (k : V G mt d Q rc rs (pc + 3) L (v :: st) M n) : V G mt d Q rc rs pc L (.ref a :: st) M n := by
  intro p e R s m args below meth c H locs cells slots mc ms ls C hR hl hq hc hs
  obtain ⟨Cn, T, N, h1, h2, h3, -⟩ := hf
  exact va_get C.1 C.2.1 C.2.2.2.2.2.2.2.1 (vw_in h1) C.2.2.2.2.2.2.1 C.2.2.2.2.2.2.2.2.1.K (hR.P hM) 0 rfl h1 kf h2 (C.2.2.2.2.2.2.2.1 _ h3) (fun _ h => h) (v := pv G v) (by rw [List.getElem?_map, hv]; rfl) hd (k p e R s m args below meth c H locs cells slots mc ms ls C hR hl hq hc hs)
theorem V_put {a ci kf idx : Nat} {ty : FieldType} {fs : List Value} {v : Value} (hd : decode mt.2.1 pc = .ok (.putfield idx, 3)) (hf : Fok mt.1.cls idx ci kf ty false) (hM : M a = some (.inr (ci, fs))) (hn : narrow ty v = v) (hfit : fits ty v = true) (hlen : kf < fs.length) (k : V G mt d Q rc rs (pc + 3) L st (hU M a (.inr (ci, fs.set kf v))) n) : V G mt d Q rc rs pc L (v :: .ref a :: st) M n := by
  intro p e R s m args below meth c H locs cells slots mc ms ls C hR hl hq hc hs
  obtain ⟨Cn, T, N, h1, h2, h3, hty, hfin, -⟩ := hf
  have hpa := ph_pos (G := G) (hR.2.2 a _ hM).1
  have hts := C.2.2.2.2.2.2.2.1
  have hK := C.2.2.2.2.2.2.2.2.1
  obtain ⟨ty0, hty0⟩ := vw_ty h1
  have hap := va_apart (own := Cn) hts (vw_in h1) ty0 hty0 (vw_nm h1) hK.K h1
  obtain ⟨r, h4, cell, q1, q2, q3, q4⟩ := hR.at hM
  have hr : r = (Cn, T, N) := Option.some.inj (h4.symm.trans h1)
  subst hr
  obtain ⟨hS, hfc, kC, hkC, hkind⟩ := hK.1 ci _ h1
  obtain ⟨cf, kk, fi, f, hi, hsl⟩ := hS kf h2
  have hlay := hts _ (vw_in h1 _ (u_in_lay h2))
  unfold u_lay at hlay
  rw [if_neg (by rw [hfin]; decide)] at hlay
  have hst := (u_facts hfc hkC (u_lays hts (vw_in h1) h2) hi).1
  obtain ⟨o1, o2⟩ := okV_pv (G := G) hn hfit
  have h6 := u_store hfc hkC hkind hlay hi hty o1 o2
  refine W.putK C.1 C.2.1 (f := f) ⟨C.2.2.2.2.2.2.1, hts _ h3, ⟨_, _, _, hi⟩, hst⟩ (by rw [q2]; exact h6) q1 q3 (by rw [hsl]; exact k2_hasslot (q4 kf h2)) rfl rfl hd fun H' e1 e2 e3 => ?_
  rw [hsl] at e1 ⊢
  refine k p e R s m args below meth c H' _ cells slots mc ms ls C (hR.put hM e2 e3 ?_) hl (fun q h => ?_) hc hs
  · exact ⟨_, h1, t_OB.to (V := updV (vp_V (fs.map (pv G))) kf (pv G v)) ⟨_, e1, q2, q3, t_set q4 hap h2 (pv G v)⟩ (fun j _ => by rw [vp_updV_set (by rw [List.length_map]; exact hlen)]; show vp_V _ j = vp_V ((fs.set kf v).map (pv G)) j; rw [List.map_set])⟩
  · rcases List.mem_append.mp h with h | h
    · exact hq q h
    · rw [List.mem_singleton.mp h]
      show gB G ≤ ph G a
      omega
theorem V_putF {a ci kf idx : Nat} {ty : FieldType} {fs : List Value} {v : Value} (hd : decode mt.2.1 pc = .ok (.putfield idx, 3)) (hf : Fok mt.1.cls idx ci kf ty true) (hin : mt.1.name = "<init>") (hM : M a = some (.inr (ci, fs))) (hn : narrow ty v = v) (hfit : fits ty v = true) (hlen : kf < fs.length) (k : V G mt d Q rc rs (pc + 3) L st (hU M a (.inr (ci, fs.set kf v))) n) : V G mt d Q rc rs pc L (v :: .ref a :: st) M n := by
  intro p e R s m args below meth c H locs cells slots mc ms ls C hR hl hq hc hs
  obtain ⟨Cn, T, N, h1, h2, h3, hty, hfin, hdecl⟩ := hf
  have hdecl := hdecl rfl
  have hpa := ph_pos (G := G) (hR.2.2 a _ hM).1
  have hts := C.2.2.2.2.2.2.2.1
  have hK := C.2.2.2.2.2.2.2.2.1
  have hown := C.2.2.2.2.2.2.1
  obtain ⟨ty0, hty0⟩ := vw_ty h1
  have hap := va_apart (own := Cn) hts (vw_in h1) ty0 hty0 (vw_nm h1) hK.K h1
  obtain ⟨r, h4, cell, q1, q2, q3, q4⟩ := hR.at hM
  have hr : r = (Cn, T, N) := Option.some.inj (h4.symm.trans h1)
  subst hr
  obtain ⟨hS, hfc, kC, hkC, hkind⟩ := hK.1 ci _ h1
  obtain ⟨cf, kk, fi, f, hi, hsl⟩ := hS kf h2
  have hlay := hts _ (vw_in h1 _ (u_in_lay h2))
  unfold u_lay at hlay
  rw [if_pos hfin] at hlay
  have hst := (u_facts hfc hkC (u_lays hts (vw_in h1) h2) hi).1
  have hcf : m.cls = cf := by
    obtain ⟨_, _, c', _, _, _, -, -, hf', -, -, -, hown2, -⟩ := Cond.laysFinal_spec hlay
    have e1 : c' = cf := by have := hi.symm.trans hf'; simp at this; exact this.1.symm
    rw [hdecl] at hown2
    rw [← e1]; exact Option.some.inj (hown.symm.trans hown2)
  obtain ⟨o1, o2⟩ := okV_pv (G := G) hn hfit
  have h6 := u_fits hfc hkC hkind (Or.inr hlay) hi hty o1 o2
  refine W.putFinK C.1 C.2.1 hown (hts _ h3) hi hst hcf (C.2.2.2.2.2.1 hin) (by rw [q2]; exact h6) q1 q3 (by rw [hsl]; exact k2_hasslot (q4 kf h2)) rfl rfl hd fun H' e1 e2 e3 => ?_
  rw [hsl] at e1 ⊢
  refine k p e R s m args below meth c H' _ cells slots mc ms ls C (hR.put hM e2 e3 ?_) hl (fun q h => ?_) hc hs
  · exact ⟨_, h1, t_OB.to (V := updV (vp_V (fs.map (pv G))) kf (pv G v)) ⟨_, e1, q2, q3, t_set q4 hap h2 (pv G v)⟩ (fun j _ => by rw [vp_updV_set (by rw [List.length_map]; exact hlen)]; show vp_V _ j = vp_V ((fs.set kf v).map (pv G)) j; rw [List.map_set])⟩
  · rcases List.mem_append.mp h with h | h
    · exact hq q h
    · rw [List.mem_singleton.mp h]
      show gB G ≤ ph G a
      omega
def Nok (own : String) (idx ci : Nat) (fs : List Value) : Prop := ∃ (Cn : String) (T : u_T) (N : Nat) (ty : Nat → FieldType), vwCl[ci]? = some (Cn, T, N) ∧ Cond.classLink own idx Cn ∈ lw_tg ∧ Cond.instantiable Cn N ∈ lw_tg ∧ Cond.initialized Cn ∈ lw_tg ∧ (∀ k, k < N → parseFieldDescriptor (T k).2.2.1 = some (ty k)) ∧ (∀ k, k < N → fs[k]? = some (defaultValue (ty k))) ∧ fs.length = N
theorem pv_default (G : wG) (ty : FieldType) : pv G (defaultValue ty) = defaultValue ty := by cases ty <;> rfl
theorem V_new {idx ci : Nat} {fs : List Value} (rc' rs' : Nat) (hd : decode mt.2.1 pc = .ok (.new idx, 3)) (hw : Nok mt.1.cls idx ci fs) (hb1 : rc' + 1 ≤ rc) (hb2 : rs' + fs.length ≤ rs) (k : V G mt d Q rc' rs' (pc + 3) L (.ref (n + 1) :: st) (hU M (n + 1) (.inr (ci, fs))) (n + 1)) : V G mt d Q rc rs pc L st M n := by
  intro p e R s m args below meth c H locs cells slots mc ms ls C hR hl hq hc hs
  obtain ⟨Cn, T, N, ty, h1, h2, h3, h4, h5, h6, h7⟩ := hw
  have hts := C.2.2.2.2.2.2.2.1
  have hK := C.2.2.2.2.2.2.2.2.1
  have hKn := hK.1 ci _ h1
  have hrc := C.2.2.2.2.2.2.2.2.2.2.2.1
  have hrs := C.2.2.2.2.2.2.2.2.2.2.2.2
  refine W.newcK C.1 C.2.1 C.2.2.2.2.2.2.1 (hts _ h2) (hts _ h3) (hts _ h4) rfl hd (by omega) (by omega) hKn.2.1 rfl fun H1 kC hkC e1 z1 o1 => ?_
  have hk := k p e R s m args below meth c H1 locs (cells + 1) (slots + N) mc ms ls C (hR.new z1 o1 ?_) hl hq (by omega) (by omega)
  · rw [List.map_cons] at hk
    show W p (gl G) e R s m args below meth c H1 locs (cells + 1) (slots + N) _ (F0 m (pc + 3) ls (.ref H.size :: st.map (pv G)))
    rw [ph_new hR]
    exact hk
  · refine ⟨_, h1, (u_born ty hts (vw_in h1) hKn hkC e1 h5).to (fun j hj => ?_)⟩
    show defaultValue (ty j) = vp_V (fs.map (pv G)) j
    simp only [vp_V, List.getD_eq_getElem?_getD, List.getElem?_map, h6 j hj, Option.map_some, Option.getD_some, pv_default]
theorem V_newa {t : Nat} {at0 : ArrayType} {i : Int32} {N : Nat} (rc' rs' : Nat) (hb1 : rc' + 1 ≤ rc) (hb2 : rs' + N ≤ rs) (hd : decode mt.2.1 pc = .ok (.newarray at0, 2)) (ht : vwTy[t]? = some (newarray.typeOf at0)) (hw : Cond.arrayClass (newarray.typeOf at0) ∈ lw_tg) (hdf : defaultValue (newarray.typeOf at0) = .int 0) (hra : ∀ Cn, newarray.typeOf at0 ≠ .object Cn) (hn : ¬ i < 0) (hN : i.toNatClampNeg = N) (hb : N * componentBytes (newarray.typeOf at0) ≤ 536870912) (k : V G mt d Q rc' rs' (pc + 2) L (.ref (n + 1) :: st) (hU M (n + 1) (.inl (t, N, .inl (fun _ => 0)))) (n + 1)) : V G mt d Q rc rs pc L (.int i :: st) M n := by
  intro p e R s m args below meth c H locs cells slots mc ms ls C hR hl hq hc hs
  have hts := C.2.2.2.2.2.2.2.1
  have hK := C.2.2.2.2.2.2.2.2.1
  have hrc := C.2.2.2.2.2.2.2.2.2.2.2.1
  have hrs := C.2.2.2.2.2.2.2.2.2.2.2.2
  refine va_newaK C.1 C.2.1 (hts _ hw) rfl hd rfl hn hN hb (by omega) (by omega) rfl fun H1 cA e1 z1 o1 hAr hNm => ?_
  have hcA : cA = gA G t := by
    have h1 := (hK.2.1 t _ ht).2
    have h2 : s.vm.findClass ("[" ++ (newarray.typeOf at0).toString) = some (gA G t) := by
      cases hty : newarray.typeOf at0 with
      | object Cn => exact absurd hty (hra Cn)
      | _ => rw [hty] at h1; exact h1
    exact Option.some.inj (hNm.symm.trans h2)
  subst hcA
  have hk := k p e R s m args below meth c H1 locs (cells + 1) (slots + N) mc ms ls C (hR.new z1 o1 ?_) hl hq (by omega) (by omega)
  · rw [List.map_cons] at hk
    show W p (gl G) e R s m args below meth c H1 locs (cells + 1) (slots + N) _ (F0 m (pc + 2) ls (.ref H.size :: st.map (pv G)))
    rw [ph_new hR]
    exact hk
  · show H1[H.size]? = some (vp_cell (gA G t) (N, .inl (fun _ => 0)))
    rw [vp_cell_i, e1, hdf]
theorem V_anew {t idx : Nat} {Cn : String} {i : Int32} {N : Nat} (rc' rs' : Nat) (hb1 : rc' + 1 ≤ rc) (hb2 : rs' + N ≤ rs) (hd : decode mt.2.1 pc = .ok (.anewarray idx, 3)) (ht : vwTy[t]? = some (.object Cn)) (hw : Cond.classLink mt.1.cls idx Cn ∈ lw_tg) (hn : ¬ i < 0) (hN : i.toNatClampNeg = N) (hb : N * 4 ≤ 536870912) (k : V G mt d Q rc' rs' (pc + 3) L (.ref (n + 1) :: st) (hU M (n + 1) (.inl (t, N, .inr (fun _ => none)))) (n + 1)) : V G mt d Q rc rs pc L (.int i :: st) M n := by
  intro p e R s m args below meth c H locs cells slots mc ms ls C hR hl hq hc hs
  have hts := C.2.2.2.2.2.2.2.1
  have hK := C.2.2.2.2.2.2.2.2.1
  have hrc := C.2.2.2.2.2.2.2.2.2.2.2.1
  have hrs := C.2.2.2.2.2.2.2.2.2.2.2.2
  subst hN
  refine W.anew C.1 C.2.1 C.2.2.2.2.2.2.1 (hts _ hw) (va_AO.use (hK.2.2.2.2.2 t Cn ht)) rfl hd rfl hn hb (by omega) (by omega) fun cA kA comp f1 f2 f3 f4 => ?_
  have hcA : cA = gA G t := by
    obtain ⟨_, _, -, -, -, h1⟩ := (hK.2.1 t _ ht).2
    exact Option.some.inj (f1.symm.trans h1)
  subst hcA
  generalize hH1 : H.push ({ cls := gA G t, slots := Array.replicate i.toNatClampNeg .null, vm := .none } : Cell) = H1
  have z1 : H1.size = H.size + 1 := by rw [← hH1, Array.size_push]
  have e1 : H1[H.size]? = some (arrV (gA G t) i.toNatClampNeg (fun _ => .null)) := by rw [← hH1, Array.getElem?_push_size, ← arrV_new]
  have o1 : ∀ q : Nat, q < H.size → H1[q]? = H[q]? := fun q hq => by rw [← hH1, Array.getElem?_push, if_neg (Nat.ne_of_lt hq)]
  have hk := k p e R s m args below meth c H1 locs (cells + 1) (slots + i.toNatClampNeg) mc ms ls C (hR.new z1 o1 ?_) hl hq (by omega) (by omega)
  · rw [List.map_cons] at hk
    show W p (gl G) e R s m args below meth c H1 locs (cells + 1) (slots + i.toNatClampNeg) _ (F0 m (pc + 3) ls (.ref H.size :: st.map (pv G)))
    rw [ph_new hR]
    exact hk
  · show H1[H.size]? = some (vp_cell (gA G t) (i.toNatClampNeg, .inr (.inr (.inr (.inr (fun _ => none))))))
    rw [vp_cell_q, e1]
    rfl
theorem V_obj {idx a : Nat} (hd : decode mt.2.1 pc = .ok (.invokespecial idx, 3)) (hw : Cond.methodLink mt.1.cls idx Lib.objectInit ∈ lw_tg) (hw2 : Cond.instanceMethod Lib.objectInit ∈ lw_tg ∧ Cond.code Lib.objectInit ⟨#[0xb1]⟩ 1 none ∈ lw_tg) (hd0 : 1 ≤ d) (hst : (st.map fun v => v.category).sum ≤ 8) (k : V G mt d Q rc rs (pc + 3) L st M n) : V G mt d Q rc rs pc L (.ref a :: st) M n := by
  intro p e R s m args below meth c H locs cells slots mc ms ls C hR hl hq hc hs
  have hts := C.2.2.2.2.2.2.2.1
  have hfr := C.2.2.2.2.2.2.2.2.2.1
  have hlo := C.2.2.2.2.2.2.2.2.2.2.1
  refine W.objInit C.1 C.2.1 C.2.2.2.2.2.2.1 (hts _ hw) (hts _ hw2.1) (hts _ hw2.2) rfl (hl.1.1.trans C.2.2.1.symm) rfl hd (by omega) ?_ (k p e R s m args below meth c H locs cells slots mc ms ls C hR hl hq hc hs)
  show 2 * 0 + ((st.map (pv G)).map fun v => v.category).sum + 12 ≤ _
  rw [pv_cats]
  omega
theorem V_min {idx : Nat} {x y : Int32} (hd : decode mt.2.1 pc = .ok (.invokestatic idx, 3)) (hw : Cond.methodLink mt.1.cls idx Lib.Math.min.name ∈ lw_tg) (hw2 : Cond.static Lib.Math.min.name ∈ lw_tg ∧ Cond.initialized "java/lang/Math" ∈ lw_tg ∧ Cond.code Lib.Math.min.name Lib.Math.min.code 2 (some .int) ∈ lw_tg) (hd0 : 1 ≤ d) (hst : (st.map fun v => v.category).sum ≤ 8) (k : V G mt d Q rc rs (pc + 3) L (.int (if y < x then y else x) :: st) M n) : V G mt d Q rc rs pc L (.int y :: .int x :: st) M n := by
  intro p e R s m args below meth c H locs cells slots mc ms ls C hR hl hq hc hs
  have hts := C.2.2.2.2.2.2.2.1
  have hfr := C.2.2.2.2.2.2.2.2.2.1
  have hlo := C.2.2.2.2.2.2.2.2.2.2.1
  have hrc := C.2.2.2.2.2.2.2.2.2.2.2.1
  have hrs := C.2.2.2.2.2.2.2.2.2.2.2.2
  refine va_mmin C.1 C.2.1 (C.2.2.1.trans hl.1.1.symm) C.2.2.2.2.2.2.1 (hts _ hw) (hts _ hw2.1) (hts _ hw2.2.1) (hts _ hw2.2.2) (by omega) ?_ (by omega) (by omega) hd (k p e R s m args below meth c H locs cells slots mc ms ls C hR hl hq hc hs)
  rw [pv_cats]
  omega
theorem V_max {idx : Nat} {x y : Int32} (hd : decode mt.2.1 pc = .ok (.invokestatic idx, 3)) (hw : Cond.methodLink mt.1.cls idx Lib.Math.max.name ∈ lw_tg) (hw2 : Cond.static Lib.Math.max.name ∈ lw_tg ∧ Cond.initialized "java/lang/Math" ∈ lw_tg ∧ Cond.code Lib.Math.max.name Lib.Math.max.code 2 (some .int) ∈ lw_tg) (hd0 : 1 ≤ d) (hst : (st.map fun v => v.category).sum ≤ 8) (k : V G mt d Q rc rs (pc + 3) L (.int (if x < y then y else x) :: st) M n) : V G mt d Q rc rs pc L (.int y :: .int x :: st) M n := by
  intro p e R s m args below meth c H locs cells slots mc ms ls C hR hl hq hc hs
  have hts := C.2.2.2.2.2.2.2.1
  have hfr := C.2.2.2.2.2.2.2.2.2.1
  have hlo := C.2.2.2.2.2.2.2.2.2.2.1
  have hrc := C.2.2.2.2.2.2.2.2.2.2.2.1
  have hrs := C.2.2.2.2.2.2.2.2.2.2.2.2
  refine va_mmax C.1 C.2.1 (C.2.2.1.trans hl.1.1.symm) C.2.2.2.2.2.2.1 (hts _ hw) (hts _ hw2.1) (hts _ hw2.2.1) (hts _ hw2.2.2) (by omega) ?_ (by omega) (by omega) hd (k p e R s m args below meth c H locs cells slots mc ms ls C hR hl hq hc hs)
  rw [pv_cats]
  omega
def CokB (own : String) (idx : Nat) (y : mT) (na : Nat) : Prop := Cond.methodLink own idx y.1 ∈ lw_tg ∧ Cond.initialized y.1.cls ∈ lw_tg ∧ Cond.code y.1 y.2.1 y.2.2.1 y.2.2.2 ∈ lw_tg ∧ (y.1.cls ≠ "java/lang/invoke/MethodHandle" ∧ y.1.cls ≠ "java/lang/invoke/VarHandle" ∧ (parseMethodDescriptor y.1.desc).map (fun d => d.parameters.length) = some na) ∧ y.2.2.1 + 19 ≤ 32
def CokV (own : String) (idx : Nat) (y : mT) (na : Nat) : Prop := CokB own idx y na ∧ Cond.instanceMethod y.1 ∈ lw_tg ∧ Cond.selects y.1.cls y.1 y.1 ∈ lw_tg
def CokS (own : String) (idx : Nat) (y : mT) (na : Nat) : Prop := CokB own idx y na ∧ Cond.static y.1 ∈ lw_tg
def CokI (own : String) (idx : Nat) (y : mT) (na : Nat) : Prop := CokB own idx y na ∧ y.2.2.2 = none ∧ y.1.name = "<init>" ∧ Cond.instanceMethod y.1 ∈ lw_tg
theorem mw_good {y : mT} (h : Cond.code y.1 y.2.1 y.2.2.1 y.2.2.2 ∈ lw_tg) : GoodIn lw_tg (mw y) := by
  intro w hw
  have h1 : w ∈ lw_tg := by
    rcases List.mem_cons.mp hw with rfl | hw
    · exact h
    · exact hw
  exact ⟨h1, lw_good w h1⟩
theorem Cok_B {own : String} {idx na : Nat} {y : mT} {R : Room} {s : State} {args : Array Value} {d d2 mc2 ms2 : Nat} (h : CokB own idx y na) (hts : ∀ w ∈ lw_tg, w.before args s = true) (hfr : d ≤ R.frames) (hlo : 32 * d ≤ R.locals) (hdd : d2 + 1 ≤ d) : CallB R s args own idx y.1 y.2.1 y.2.2.1 y.2.2.2 (mw y) { frames := d2, cells := mc2, slots := ms2, locals := 32 * d2 } mc2 ms2 na := by
  obtain ⟨h1, h2, h3, h4, h5⟩ := h
  exact callB_of (ws' := lw_tg) na hts (mw_good h3) rfl rfl rfl (hts _ h2) (hts _ h1) h4 ⟨by show d2 + 1 ≤ _; omega, by show 8 + (_ + 11) + 32 * d2 ≤ _; omega⟩
theorem V_back {mc2 ms2 : Nat} {Q2 : zQ} {rest : List Value} {p : Program} {e : Env} {R : Room} {s : State} {m : MethodId} {args : Array Value} {below : List Frame} {meth : Method} {c : Code} {H : Heap} {locs : List Loc} {cells slots mc ms : Nat} {ls : Array Slot} {st0 : List Value} {a : Array Value} {rc' rs' : Nat}
    (hr : va_Run p (gl G) e R s m args below meth c H locs cells slots mc2 ms2 (F0 m pc ls st0) (rest.map (pv G)) (Qz G Q2 a) (fun q => gB G ≤ q))
    (C : Cf G mt d p R s m args meth c mc ms) (hl : lvr G ls mt.2.2.1 L) (hq : ∀ q ∈ locs, gB G ≤ q.base) (hc : cells + rc ≤ mc) (hs : slots + rs ≤ ms) (h1 : rc' + mc2 ≤ rc) (h2 : rs' + ms2 ≤ rs)
    (k : ∀ v M' n', Q2 v M' n' → V G mt d Q rc' rs' (pc + 3) L (v.toList ++ rest) M' n') : W p (gl G) e R s m args below meth c H locs cells slots (MQ below (Qz G Q) args s mc ms (fun q => gB G ≤ q)) (F0 m pc ls st0) := by
  intro T hT X
  obtain ⟨v, st₀, t, T', L', h0, X', hL, e1, e2, ⟨v', M', n', hv, hQ, hR'⟩, stp⟩ := hr T hT X
  have hv2 : v = v'.map (pv G) := Outcome.returned.inj hv
  subst hv2
  have h := k v' M' n' hQ p e R s m args below meth c t.heap (locs ++ L') (cells + mc2) (slots + ms2) mc ms ls C hR' hl (fun q hq' => by
    rcases List.mem_append.mp hq' with h | h
    · exact hq q h
    · exact hL q h) (by omega) (by omega) T' e1 X'
  obtain ⟨t2, a1, b1⟩ := h
  refine ⟨t2, stp t2 ?_, b1⟩
  have hst : (v'.toList ++ rest).map (pv G) = (v'.map (pv G)).toList ++ rest.map (pv G) := by cases v' <;> rfl
  rw [hst] at a1
  exact a1
theorem V_callV {idx na a ci : Nat} {y : mT} {fs As rest : List Value} {d2 mc2 ms2 rc' rs' : Nat} {Q2 : zQ} (hd : decode mt.2.1 pc = .ok (.invokevirtual idx, 3)) (hw : CokV mt.1.cls idx y na) (hn : As.length = na) (hrm : (rest.map fun v => v.category).sum ≤ 8) (hM : M a = some (.inr (ci, fs))) (hci : (vwCl[ci]?).map (fun q => q.1) = some y.1.cls) (hdd : d2 + 1 ≤ d) (h1 : rc' + mc2 ≤ rc) (h2 : rs' + ms2 ≤ rs) (hMt : Mt G d2 y (.ref a :: As) M n mc2 ms2 Q2)
    (k : ∀ v M' n', Q2 v M' n' → V G mt d Q rc' rs' (pc + 3) L (v.toList ++ rest) M' n') : V G mt d Q rc rs pc L (As.reverse ++ .ref a :: rest) M n := by
  intro p e R s m args below meth c H locs cells slots mc ms ls C hR hl hq hc hs
  have hts := C.2.2.2.2.2.2.2.1
  have hK := C.2.2.2.2.2.2.2.2.1
  have hfr := C.2.2.2.2.2.2.2.2.2.1
  have hlo := C.2.2.2.2.2.2.2.2.2.2.1
  have hrc := C.2.2.2.2.2.2.2.2.2.2.2.1
  have hrs := C.2.2.2.2.2.2.2.2.2.2.2.2
  cases hcc : vwCl[ci]? with
  | none => rw [hcc] at hci; cases hci
  | some q =>
    rw [hcc] at hci
    have hcn : q.1 = y.1.cls := Option.some.inj hci
    obtain ⟨r', hr', cell, g1, g2, g3, -⟩ := hR.at hM
    refine V_back (rest := rest) (va_runV (As := As.map (pv G)) (b := ph G a) (C := y.1.cls) ⟨C.1, C.2.1, C.2.2.1, C.2.2.2.2.2.2.1, hts⟩ hMt ⟨Cok_B hw.1 hts hfr hlo hdd, hts _ hw.2.1, hts _ hw.2.2⟩ ⟨Pz_blind, ⟨cell, g1, by rw [g3]; rfl, by rw [g2, ← hcn]; exact (hK.1 ci q hcc).2.1⟩, fun U hU hW => ⟨rfl, by rw [hU]; exact hR, hK.moved hW.alike⟩⟩ rfl (by rw [List.length_map]; exact hn) hl.1.1 (by simp [pv]) (by show 2 * 0 + _ ≤ _; rw [pv_cats]; omega) hd ⟨by omega, by omega⟩) C hl hq hc hs h1 h2 k
theorem V_callS {idx na : Nat} {y : mT} {As rest : List Value} {d2 mc2 ms2 rc' rs' : Nat} {Q2 : zQ} (hd : decode mt.2.1 pc = .ok (.invokestatic idx, 3)) (hw : CokS mt.1.cls idx y na) (hn : As.length = na) (hrm : (rest.map fun v => v.category).sum ≤ 8) (hdd : d2 + 1 ≤ d) (h1 : rc' + mc2 ≤ rc) (h2 : rs' + ms2 ≤ rs) (hMt : Mt G d2 y As M n mc2 ms2 Q2)
    (k : ∀ v M' n', Q2 v M' n' → V G mt d Q rc' rs' (pc + 3) L (v.toList ++ rest) M' n') : V G mt d Q rc rs pc L (As.reverse ++ rest) M n := by
  intro p e R s m args below meth c H locs cells slots mc ms ls C hR hl hq hc hs
  have hts := C.2.2.2.2.2.2.2.1
  have hK := C.2.2.2.2.2.2.2.2.1
  have hfr := C.2.2.2.2.2.2.2.2.2.1
  have hlo := C.2.2.2.2.2.2.2.2.2.2.1
  have hrc := C.2.2.2.2.2.2.2.2.2.2.2.1
  have hrs := C.2.2.2.2.2.2.2.2.2.2.2.2
  refine V_back (rest := rest) (va_runS (As := As.map (pv G)) ⟨C.1, C.2.1, C.2.2.1, C.2.2.2.2.2.2.1, hts⟩ hMt ⟨Cok_B hw.1 hts hfr hlo hdd, hts _ hw.2⟩ ⟨Pz_blind, fun U hU hW => ⟨rfl, by rw [hU]; exact hR, hK.moved hW.alike⟩⟩ rfl (by rw [List.length_map]; exact hn) hl.1.1 (by simp) (by show 2 * 0 + _ ≤ _; rw [pv_cats]; omega) hd ⟨by omega, by omega⟩) C hl hq hc hs h1 h2 k
theorem V_callI {idx na a : Nat} {y : mT} {As rest : List Value} {d2 mc2 ms2 rc' rs' : Nat} {Q2 : zQ} (hd : decode mt.2.1 pc = .ok (.invokespecial idx, 3)) (hw : CokI mt.1.cls idx y na) (hn : As.length = na) (hrm : (rest.map fun v => v.category).sum ≤ 8) (hdd : d2 + 1 ≤ d) (h1 : rc' + mc2 ≤ rc) (h2 : rs' + ms2 ≤ rs) (hMt : Mt G d2 y (.ref a :: As) M n mc2 ms2 Q2)
    (k : ∀ v M' n', Q2 v M' n' → V G mt d Q rc' rs' (pc + 3) L (v.toList ++ rest) M' n') : V G mt d Q rc rs pc L (As.reverse ++ .ref a :: rest) M n := by
  intro p e R s m args below meth c H locs cells slots mc ms ls C hR hl hq hc hs
  have hts := C.2.2.2.2.2.2.2.1
  have hK := C.2.2.2.2.2.2.2.2.1
  have hfr := C.2.2.2.2.2.2.2.2.2.1
  have hlo := C.2.2.2.2.2.2.2.2.2.2.1
  have hrc := C.2.2.2.2.2.2.2.2.2.2.2.1
  have hrs := C.2.2.2.2.2.2.2.2.2.2.2.2
  have hB := Cok_B (mc2 := mc2) (ms2 := ms2) hw.1 hts hfr hlo hdd
  rw [hw.2.1] at hB
  refine V_back (rest := rest) (va_runI (As := As.map (pv G)) (b := ph G a) ⟨C.1, C.2.1, C.2.2.1, C.2.2.2.2.2.2.1, hts⟩ hMt ⟨hB, hw.2.2.1, hts _ hw.2.2.2⟩ ⟨Pz_blind, fun U hU hW => ⟨rfl, by rw [hU]; exact hR, hK.moved hW.alike⟩⟩ rfl (by rw [List.length_map]; exact hn) hl.1.1 (by simp [pv]) (by show 2 * 0 + _ ≤ _; rw [pv_cats]; omega) hd ⟨by omega, by omega⟩) C hl hq hc hs h1 h2 k
theorem V_callV0 {idx a ci : Nat} {y : mT} {fs rest : List Value} {d2 mc2 ms2 : Nat} {Q2 : zQ} (rc' rs' : Nat) (hd : decode mt.2.1 pc = .ok (.invokevirtual idx, 3)) (hw : CokV mt.1.cls idx y 0) (hrm : (rest.map fun v => v.category).sum ≤ 8) (hM : M a = some (.inr (ci, fs))) (hci : (vwCl[ci]?).map (fun q => q.1) = some y.1.cls) (hdd : d2 + 1 ≤ d) (h1 : rc' + mc2 ≤ rc) (h2 : rs' + ms2 ≤ rs) (hMt : Mt G d2 y (.ref a :: []) M n mc2 ms2 Q2) (k : ∀ v M' n', Q2 v M' n' → V G mt d Q rc' rs' (pc + 3) L (v.toList ++ rest) M' n') : V G mt d Q rc rs pc L (.ref a :: rest) M n :=
  V_callV (As := []) hd hw rfl hrm hM hci hdd h1 h2 hMt k
theorem V_callV1 {idx a ci : Nat} {y : mT} {fs rest : List Value} {x1 : Value} {d2 mc2 ms2 : Nat} {Q2 : zQ} (rc' rs' : Nat) (hd : decode mt.2.1 pc = .ok (.invokevirtual idx, 3)) (hw : CokV mt.1.cls idx y 1) (hrm : (rest.map fun v => v.category).sum ≤ 8) (hM : M a = some (.inr (ci, fs))) (hci : (vwCl[ci]?).map (fun q => q.1) = some y.1.cls) (hdd : d2 + 1 ≤ d) (h1 : rc' + mc2 ≤ rc) (h2 : rs' + ms2 ≤ rs) (hMt : Mt G d2 y (.ref a :: [x1]) M n mc2 ms2 Q2) (k : ∀ v M' n', Q2 v M' n' → V G mt d Q rc' rs' (pc + 3) L (v.toList ++ rest) M' n') : V G mt d Q rc rs pc L (x1 :: .ref a :: rest) M n :=
  V_callV (As := [x1]) hd hw rfl hrm hM hci hdd h1 h2 hMt k
theorem V_callV2 {idx a ci : Nat} {y : mT} {fs rest : List Value} {x1 x2 : Value} {d2 mc2 ms2 : Nat} {Q2 : zQ} (rc' rs' : Nat) (hd : decode mt.2.1 pc = .ok (.invokevirtual idx, 3)) (hw : CokV mt.1.cls idx y 2) (hrm : (rest.map fun v => v.category).sum ≤ 8) (hM : M a = some (.inr (ci, fs))) (hci : (vwCl[ci]?).map (fun q => q.1) = some y.1.cls) (hdd : d2 + 1 ≤ d) (h1 : rc' + mc2 ≤ rc) (h2 : rs' + ms2 ≤ rs) (hMt : Mt G d2 y (.ref a :: [x1, x2]) M n mc2 ms2 Q2) (k : ∀ v M' n', Q2 v M' n' → V G mt d Q rc' rs' (pc + 3) L (v.toList ++ rest) M' n') : V G mt d Q rc rs pc L (x2 :: x1 :: .ref a :: rest) M n :=
  V_callV (As := [x1, x2]) hd hw rfl hrm hM hci hdd h1 h2 hMt k
theorem V_callV3 {idx a ci : Nat} {y : mT} {fs rest : List Value} {x1 x2 x3 : Value} {d2 mc2 ms2 : Nat} {Q2 : zQ} (rc' rs' : Nat) (hd : decode mt.2.1 pc = .ok (.invokevirtual idx, 3)) (hw : CokV mt.1.cls idx y 3) (hrm : (rest.map fun v => v.category).sum ≤ 8) (hM : M a = some (.inr (ci, fs))) (hci : (vwCl[ci]?).map (fun q => q.1) = some y.1.cls) (hdd : d2 + 1 ≤ d) (h1 : rc' + mc2 ≤ rc) (h2 : rs' + ms2 ≤ rs) (hMt : Mt G d2 y (.ref a :: [x1, x2, x3]) M n mc2 ms2 Q2) (k : ∀ v M' n', Q2 v M' n' → V G mt d Q rc' rs' (pc + 3) L (v.toList ++ rest) M' n') : V G mt d Q rc rs pc L (x3 :: x2 :: x1 :: .ref a :: rest) M n :=
  V_callV (As := [x1, x2, x3]) hd hw rfl hrm hM hci hdd h1 h2 hMt k
theorem V_callV4 {idx a ci : Nat} {y : mT} {fs rest : List Value} {x1 x2 x3 x4 : Value} {d2 mc2 ms2 : Nat} {Q2 : zQ} (rc' rs' : Nat) (hd : decode mt.2.1 pc = .ok (.invokevirtual idx, 3)) (hw : CokV mt.1.cls idx y 4) (hrm : (rest.map fun v => v.category).sum ≤ 8) (hM : M a = some (.inr (ci, fs))) (hci : (vwCl[ci]?).map (fun q => q.1) = some y.1.cls) (hdd : d2 + 1 ≤ d) (h1 : rc' + mc2 ≤ rc) (h2 : rs' + ms2 ≤ rs) (hMt : Mt G d2 y (.ref a :: [x1, x2, x3, x4]) M n mc2 ms2 Q2) (k : ∀ v M' n', Q2 v M' n' → V G mt d Q rc' rs' (pc + 3) L (v.toList ++ rest) M' n') : V G mt d Q rc rs pc L (x4 :: x3 :: x2 :: x1 :: .ref a :: rest) M n :=
  V_callV (As := [x1, x2, x3, x4]) hd hw rfl hrm hM hci hdd h1 h2 hMt k
theorem V_callS0 {idx : Nat} {y : mT} {rest : List Value} {d2 mc2 ms2 : Nat} {Q2 : zQ} (rc' rs' : Nat) (hd : decode mt.2.1 pc = .ok (.invokestatic idx, 3)) (hw : CokS mt.1.cls idx y 0) (hrm : (rest.map fun v => v.category).sum ≤ 8) (hdd : d2 + 1 ≤ d) (h1 : rc' + mc2 ≤ rc) (h2 : rs' + ms2 ≤ rs) (hMt : Mt G d2 y [] M n mc2 ms2 Q2) (k : ∀ v M' n', Q2 v M' n' → V G mt d Q rc' rs' (pc + 3) L (v.toList ++ rest) M' n') : V G mt d Q rc rs pc L (rest) M n :=
  V_callS (As := []) hd hw rfl hrm hdd h1 h2 hMt k
theorem V_callS1 {idx : Nat} {y : mT} {rest : List Value} {x1 : Value} {d2 mc2 ms2 : Nat} {Q2 : zQ} (rc' rs' : Nat) (hd : decode mt.2.1 pc = .ok (.invokestatic idx, 3)) (hw : CokS mt.1.cls idx y 1) (hrm : (rest.map fun v => v.category).sum ≤ 8) (hdd : d2 + 1 ≤ d) (h1 : rc' + mc2 ≤ rc) (h2 : rs' + ms2 ≤ rs) (hMt : Mt G d2 y [x1] M n mc2 ms2 Q2) (k : ∀ v M' n', Q2 v M' n' → V G mt d Q rc' rs' (pc + 3) L (v.toList ++ rest) M' n') : V G mt d Q rc rs pc L (x1 :: rest) M n :=
  V_callS (As := [x1]) hd hw rfl hrm hdd h1 h2 hMt k
theorem V_callS2 {idx : Nat} {y : mT} {rest : List Value} {x1 x2 : Value} {d2 mc2 ms2 : Nat} {Q2 : zQ} (rc' rs' : Nat) (hd : decode mt.2.1 pc = .ok (.invokestatic idx, 3)) (hw : CokS mt.1.cls idx y 2) (hrm : (rest.map fun v => v.category).sum ≤ 8) (hdd : d2 + 1 ≤ d) (h1 : rc' + mc2 ≤ rc) (h2 : rs' + ms2 ≤ rs) (hMt : Mt G d2 y [x1, x2] M n mc2 ms2 Q2) (k : ∀ v M' n', Q2 v M' n' → V G mt d Q rc' rs' (pc + 3) L (v.toList ++ rest) M' n') : V G mt d Q rc rs pc L (x2 :: x1 :: rest) M n :=
  V_callS (As := [x1, x2]) hd hw rfl hrm hdd h1 h2 hMt k
theorem V_callS3 {idx : Nat} {y : mT} {rest : List Value} {x1 x2 x3 : Value} {d2 mc2 ms2 : Nat} {Q2 : zQ} (rc' rs' : Nat) (hd : decode mt.2.1 pc = .ok (.invokestatic idx, 3)) (hw : CokS mt.1.cls idx y 3) (hrm : (rest.map fun v => v.category).sum ≤ 8) (hdd : d2 + 1 ≤ d) (h1 : rc' + mc2 ≤ rc) (h2 : rs' + ms2 ≤ rs) (hMt : Mt G d2 y [x1, x2, x3] M n mc2 ms2 Q2) (k : ∀ v M' n', Q2 v M' n' → V G mt d Q rc' rs' (pc + 3) L (v.toList ++ rest) M' n') : V G mt d Q rc rs pc L (x3 :: x2 :: x1 :: rest) M n :=
  V_callS (As := [x1, x2, x3]) hd hw rfl hrm hdd h1 h2 hMt k
theorem V_callS4 {idx : Nat} {y : mT} {rest : List Value} {x1 x2 x3 x4 : Value} {d2 mc2 ms2 : Nat} {Q2 : zQ} (rc' rs' : Nat) (hd : decode mt.2.1 pc = .ok (.invokestatic idx, 3)) (hw : CokS mt.1.cls idx y 4) (hrm : (rest.map fun v => v.category).sum ≤ 8) (hdd : d2 + 1 ≤ d) (h1 : rc' + mc2 ≤ rc) (h2 : rs' + ms2 ≤ rs) (hMt : Mt G d2 y [x1, x2, x3, x4] M n mc2 ms2 Q2) (k : ∀ v M' n', Q2 v M' n' → V G mt d Q rc' rs' (pc + 3) L (v.toList ++ rest) M' n') : V G mt d Q rc rs pc L (x4 :: x3 :: x2 :: x1 :: rest) M n :=
  V_callS (As := [x1, x2, x3, x4]) hd hw rfl hrm hdd h1 h2 hMt k
theorem V_callI0 {idx a : Nat} {y : mT} {rest : List Value} {d2 mc2 ms2 : Nat} {Q2 : zQ} (rc' rs' : Nat) (hd : decode mt.2.1 pc = .ok (.invokespecial idx, 3)) (hw : CokI mt.1.cls idx y 0) (hrm : (rest.map fun v => v.category).sum ≤ 8) (hdd : d2 + 1 ≤ d) (h1 : rc' + mc2 ≤ rc) (h2 : rs' + ms2 ≤ rs) (hMt : Mt G d2 y (.ref a :: []) M n mc2 ms2 Q2) (k : ∀ v M' n', Q2 v M' n' → V G mt d Q rc' rs' (pc + 3) L (v.toList ++ rest) M' n') : V G mt d Q rc rs pc L (.ref a :: rest) M n :=
  V_callI (As := []) hd hw rfl hrm hdd h1 h2 hMt k
theorem V_callI1 {idx a : Nat} {y : mT} {rest : List Value} {x1 : Value} {d2 mc2 ms2 : Nat} {Q2 : zQ} (rc' rs' : Nat) (hd : decode mt.2.1 pc = .ok (.invokespecial idx, 3)) (hw : CokI mt.1.cls idx y 1) (hrm : (rest.map fun v => v.category).sum ≤ 8) (hdd : d2 + 1 ≤ d) (h1 : rc' + mc2 ≤ rc) (h2 : rs' + ms2 ≤ rs) (hMt : Mt G d2 y (.ref a :: [x1]) M n mc2 ms2 Q2) (k : ∀ v M' n', Q2 v M' n' → V G mt d Q rc' rs' (pc + 3) L (v.toList ++ rest) M' n') : V G mt d Q rc rs pc L (x1 :: .ref a :: rest) M n :=
  V_callI (As := [x1]) hd hw rfl hrm hdd h1 h2 hMt k
theorem V_callI2 {idx a : Nat} {y : mT} {rest : List Value} {x1 x2 : Value} {d2 mc2 ms2 : Nat} {Q2 : zQ} (rc' rs' : Nat) (hd : decode mt.2.1 pc = .ok (.invokespecial idx, 3)) (hw : CokI mt.1.cls idx y 2) (hrm : (rest.map fun v => v.category).sum ≤ 8) (hdd : d2 + 1 ≤ d) (h1 : rc' + mc2 ≤ rc) (h2 : rs' + ms2 ≤ rs) (hMt : Mt G d2 y (.ref a :: [x1, x2]) M n mc2 ms2 Q2) (k : ∀ v M' n', Q2 v M' n' → V G mt d Q rc' rs' (pc + 3) L (v.toList ++ rest) M' n') : V G mt d Q rc rs pc L (x2 :: x1 :: .ref a :: rest) M n :=
  V_callI (As := [x1, x2]) hd hw rfl hrm hdd h1 h2 hMt k
theorem V_callI3 {idx a : Nat} {y : mT} {rest : List Value} {x1 x2 x3 : Value} {d2 mc2 ms2 : Nat} {Q2 : zQ} (rc' rs' : Nat) (hd : decode mt.2.1 pc = .ok (.invokespecial idx, 3)) (hw : CokI mt.1.cls idx y 3) (hrm : (rest.map fun v => v.category).sum ≤ 8) (hdd : d2 + 1 ≤ d) (h1 : rc' + mc2 ≤ rc) (h2 : rs' + ms2 ≤ rs) (hMt : Mt G d2 y (.ref a :: [x1, x2, x3]) M n mc2 ms2 Q2) (k : ∀ v M' n', Q2 v M' n' → V G mt d Q rc' rs' (pc + 3) L (v.toList ++ rest) M' n') : V G mt d Q rc rs pc L (x3 :: x2 :: x1 :: .ref a :: rest) M n :=
  V_callI (As := [x1, x2, x3]) hd hw rfl hrm hdd h1 h2 hMt k
theorem V_callI4 {idx a : Nat} {y : mT} {rest : List Value} {x1 x2 x3 x4 : Value} {d2 mc2 ms2 : Nat} {Q2 : zQ} (rc' rs' : Nat) (hd : decode mt.2.1 pc = .ok (.invokespecial idx, 3)) (hw : CokI mt.1.cls idx y 4) (hrm : (rest.map fun v => v.category).sum ≤ 8) (hdd : d2 + 1 ≤ d) (h1 : rc' + mc2 ≤ rc) (h2 : rs' + ms2 ≤ rs) (hMt : Mt G d2 y (.ref a :: [x1, x2, x3, x4]) M n mc2 ms2 Q2) (k : ∀ v M' n', Q2 v M' n' → V G mt d Q rc' rs' (pc + 3) L (v.toList ++ rest) M' n') : V G mt d Q rc rs pc L (x4 :: x3 :: x2 :: x1 :: .ref a :: rest) M n :=
  V_callI (As := [x1, x2, x3, x4]) hd hw rfl hrm hdd h1 h2 hMt k
end VR
