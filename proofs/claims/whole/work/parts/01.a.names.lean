def lw_okq (q : MethodName × Nat) : Prop := (q.1.cls ≠ "java/lang/invoke/MethodHandle" ∧ q.1.cls ≠ "java/lang/invoke/VarHandle") ∧ Cond.instantiable q.1.cls q.2 ∈ tables_1 ∧ Cond.privateMethod q.1 ∈ tables_1 ∧ Cond.instanceMethod q.1 ∈ tables_1
theorem lw_p0 : lw_okq (⟨"TwoSlots", "isVersion", "(I)Z"⟩, 7) := ⟨⟨by decide +kernel, by decide +kernel⟩, List.mem_of_getElem? (i := 8) (by decide +kernel), List.mem_of_getElem? (i := 132) (by decide +kernel), List.mem_of_getElem? (i := 133) (by decide +kernel)⟩
theorem lw_p1 : lw_okq (⟨"TwoSlots", "findPatch", "(II)Z"⟩, 7) := ⟨⟨by decide +kernel, by decide +kernel⟩, List.mem_of_getElem? (i := 8) (by decide +kernel), List.mem_of_getElem? (i := 161) (by decide +kernel), List.mem_of_getElem? (i := 162) (by decide +kernel)⟩
theorem lw_p2 : lw_okq (⟨"TwoSlots$Patch", "putLoose", "(LTwoSlots$Row;II)V"⟩, 2) := ⟨⟨by decide +kernel, by decide +kernel⟩, List.mem_of_getElem? (i := 31) (by decide +kernel), List.mem_of_getElem? (i := 181) (by decide +kernel), List.mem_of_getElem? (i := 182) (by decide +kernel)⟩
theorem lw_p3 : lw_okq (⟨"TwoSlots$Patch", "putCopy", "(II)V"⟩, 2) := ⟨⟨by decide +kernel, by decide +kernel⟩, List.mem_of_getElem? (i := 31) (by decide +kernel), List.mem_of_getElem? (i := 187) (by decide +kernel), List.mem_of_getElem? (i := 188) (by decide +kernel)⟩
theorem lw_p4 : lw_okq (⟨"TwoSlots$Device", "isUnderWay", "()Z"⟩, 11) := ⟨⟨by decide +kernel, by decide +kernel⟩, List.mem_of_getElem? (i := 46) (by decide +kernel), List.mem_of_getElem? (i := 241) (by decide +kernel), List.mem_of_getElem? (i := 242) (by decide +kernel)⟩
theorem lw_p5 : lw_okq (⟨"TwoSlots$Device", "beginInstalling", "()V"⟩, 11) := ⟨⟨by decide +kernel, by decide +kernel⟩, List.mem_of_getElem? (i := 46) (by decide +kernel), List.mem_of_getElem? (i := 249) (by decide +kernel), List.mem_of_getElem? (i := 250) (by decide +kernel)⟩
theorem lw_p6 : lw_okq (⟨"TwoSlots$Device", "spare", "()I"⟩, 11) := ⟨⟨by decide +kernel, by decide +kernel⟩, List.mem_of_getElem? (i := 46) (by decide +kernel), List.mem_of_getElem? (i := 253) (by decide +kernel), List.mem_of_getElem? (i := 254) (by decide +kernel)⟩
theorem lw_p7 : lw_okq (⟨"TwoSlots$Device", "stepAtBoot", "()V"⟩, 11) := ⟨⟨by decide +kernel, by decide +kernel⟩, List.mem_of_getElem? (i := 46) (by decide +kernel), List.mem_of_getElem? (i := 292) (by decide +kernel), List.mem_of_getElem? (i := 293) (by decide +kernel)⟩
theorem lw_p8 : lw_okq (⟨"TwoSlots$Device", "useTry", "()V"⟩, 11) := ⟨⟨by decide +kernel, by decide +kernel⟩, List.mem_of_getElem? (i := 46) (by decide +kernel), List.mem_of_getElem? (i := 296) (by decide +kernel), List.mem_of_getElem? (i := 297) (by decide +kernel)⟩
theorem lw_p9 : lw_okq (⟨"TwoSlots$Device", "goBack", "()V"⟩, 11) := ⟨⟨by decide +kernel, by decide +kernel⟩, List.mem_of_getElem? (i := 46) (by decide +kernel), List.mem_of_getElem? (i := 300) (by decide +kernel), List.mem_of_getElem? (i := 301) (by decide +kernel)⟩
theorem lw_p10 : lw_okq (⟨"TwoSlotsModel", "pair", "(II)Z"⟩, 18) := ⟨⟨by decide +kernel, by decide +kernel⟩, List.mem_of_getElem? (i := 366) (by decide +kernel), List.mem_of_getElem? (i := 446) (by decide +kernel), List.mem_of_getElem? (i := 447) (by decide +kernel)⟩
theorem lw_p11 : lw_okq (⟨"TwoSlotsModel", "make", "(II)V"⟩, 18) := ⟨⟨by decide +kernel, by decide +kernel⟩, List.mem_of_getElem? (i := 366) (by decide +kernel), List.mem_of_getElem? (i := 450) (by decide +kernel), List.mem_of_getElem? (i := 451) (by decide +kernel)⟩
theorem lw_p12 : lw_okq (⟨"TwoSlotsModel", "agree", "(IIII)I"⟩, 18) := ⟨⟨by decide +kernel, by decide +kernel⟩, List.mem_of_getElem? (i := 366) (by decide +kernel), List.mem_of_getElem? (i := 454) (by decide +kernel), List.mem_of_getElem? (i := 455) (by decide +kernel)⟩
theorem lw_p13 : lw_okq (⟨"TwoSlotsModel", "put", "(I)V"⟩, 18) := ⟨⟨by decide +kernel, by decide +kernel⟩, List.mem_of_getElem? (i := 366) (by decide +kernel), List.mem_of_getElem? (i := 458) (by decide +kernel), List.mem_of_getElem? (i := 459) (by decide +kernel)⟩
theorem lw_p14 : lw_okq (⟨"TwoSlotsModel", "underWay", "()Z"⟩, 18) := ⟨⟨by decide +kernel, by decide +kernel⟩, List.mem_of_getElem? (i := 366) (by decide +kernel), List.mem_of_getElem? (i := 478) (by decide +kernel), List.mem_of_getElem? (i := 479) (by decide +kernel)⟩
theorem lw_p15 : lw_okq (⟨"TwoSlotsModel", "missing", "()I"⟩, 18) := ⟨⟨by decide +kernel, by decide +kernel⟩, List.mem_of_getElem? (i := 366) (by decide +kernel), List.mem_of_getElem? (i := 482) (by decide +kernel), List.mem_of_getElem? (i := 483) (by decide +kernel)⟩
def lw_privs_1 : List (MethodName × Nat) := [(⟨"TwoSlots", "isVersion", "(I)Z"⟩, 7), (⟨"TwoSlots", "findPatch", "(II)Z"⟩, 7), (⟨"TwoSlots$Patch", "putLoose", "(LTwoSlots$Row;II)V"⟩, 2), (⟨"TwoSlots$Patch", "putCopy", "(II)V"⟩, 2), (⟨"TwoSlots$Device", "isUnderWay", "()Z"⟩, 11), (⟨"TwoSlots$Device", "beginInstalling", "()V"⟩, 11), (⟨"TwoSlots$Device", "spare", "()I"⟩, 11), (⟨"TwoSlots$Device", "stepAtBoot", "()V"⟩, 11), (⟨"TwoSlots$Device", "useTry", "()V"⟩, 11), (⟨"TwoSlots$Device", "goBack", "()V"⟩, 11), (⟨"TwoSlotsModel", "pair", "(II)Z"⟩, 18), (⟨"TwoSlotsModel", "make", "(II)V"⟩, 18), (⟨"TwoSlotsModel", "agree", "(IIII)I"⟩, 18), (⟨"TwoSlotsModel", "put", "(I)V"⟩, 18), (⟨"TwoSlotsModel", "underWay", "()Z"⟩, 18), (⟨"TwoSlotsModel", "missing", "()I"⟩, 18)]
theorem lw_r1 : ∀ q ∈ lw_privs_1, lw_okq q := List.forall_mem_cons.mpr ⟨lw_p0, List.forall_mem_cons.mpr ⟨lw_p1, List.forall_mem_cons.mpr ⟨lw_p2, List.forall_mem_cons.mpr ⟨lw_p3, List.forall_mem_cons.mpr ⟨lw_p4, List.forall_mem_cons.mpr ⟨lw_p5, List.forall_mem_cons.mpr ⟨lw_p6, List.forall_mem_cons.mpr ⟨lw_p7, List.forall_mem_cons.mpr ⟨lw_p8, List.forall_mem_cons.mpr ⟨lw_p9, List.forall_mem_cons.mpr ⟨lw_p10, List.forall_mem_cons.mpr ⟨lw_p11, List.forall_mem_cons.mpr ⟨lw_p12, List.forall_mem_cons.mpr ⟨lw_p13, List.forall_mem_cons.mpr ⟨lw_p14, List.forall_mem_cons.mpr ⟨lw_p15, fun _ h => absurd h List.not_mem_nil⟩⟩⟩⟩⟩⟩⟩⟩⟩⟩⟩⟩⟩⟩⟩⟩
theorem lw_p16 : lw_okq (⟨"TwoSlotsModel", "beginInstall", "()V"⟩, 18) := ⟨⟨by decide +kernel, by decide +kernel⟩, List.mem_of_getElem? (i := 366) (by decide +kernel), List.mem_of_getElem? (i := 486) (by decide +kernel), List.mem_of_getElem? (i := 487) (by decide +kernel)⟩
theorem lw_p17 : lw_okq (⟨"TwoSlotsModel", "piece", "()V"⟩, 18) := ⟨⟨by decide +kernel, by decide +kernel⟩, List.mem_of_getElem? (i := 366) (by decide +kernel), List.mem_of_getElem? (i := 494) (by decide +kernel), List.mem_of_getElem? (i := 495) (by decide +kernel)⟩
theorem lw_p18 : lw_okq (⟨"TwoSlotsModel", "grow", "(I)V"⟩, 18) := ⟨⟨by decide +kernel, by decide +kernel⟩, List.mem_of_getElem? (i := 366) (by decide +kernel), List.mem_of_getElem? (i := 498) (by decide +kernel), List.mem_of_getElem? (i := 499) (by decide +kernel)⟩
theorem lw_p19 : lw_okq (⟨"TwoSlotsModel", "check", "(IIZ)I"⟩, 18) := ⟨⟨by decide +kernel, by decide +kernel⟩, List.mem_of_getElem? (i := 366) (by decide +kernel), List.mem_of_getElem? (i := 506) (by decide +kernel), List.mem_of_getElem? (i := 507) (by decide +kernel)⟩
def lw_privs_2 : List (MethodName × Nat) := [(⟨"TwoSlotsModel", "beginInstall", "()V"⟩, 18), (⟨"TwoSlotsModel", "piece", "()V"⟩, 18), (⟨"TwoSlotsModel", "grow", "(I)V"⟩, 18), (⟨"TwoSlotsModel", "check", "(IIZ)I"⟩, 18)]
theorem lw_r2 : ∀ q ∈ lw_privs_2, lw_okq q := List.forall_mem_cons.mpr ⟨lw_p16, List.forall_mem_cons.mpr ⟨lw_p17, List.forall_mem_cons.mpr ⟨lw_p18, List.forall_mem_cons.mpr ⟨lw_p19, fun _ h => absurd h List.not_mem_nil⟩⟩⟩⟩
def lw_privs : List (MethodName × Nat) := lw_privs_1 ++ (lw_privs_2)
def lw_tbl : List Cond := k2_sels lw_privs ++ tables_1
theorem lw_privs_ok : ∀ q ∈ lw_privs, lw_okq q := by
  show ∀ q ∈ lw_privs_1 ++ (lw_privs_2), lw_okq q
  exact List.forall_mem_append.mpr ⟨lw_r1, lw_r2⟩

def lw_tg : List Cond := lw_tbl.filter goodWord
theorem lw_tg_in {w : Cond} (h : w ∈ lw_tbl) (hg : goodWord w = true) : w ∈ lw_tg := List.mem_filter.mpr ⟨h, hg⟩
def RR : String := "TwoSlots$Row"
def FR : u_T := fun k => match k with
  | 0 => ("TwoSlots$Row", "bytes", "[I", true)
  | _ => ("TwoSlots$Row", "length", "I", false)
def tR : Nat → FieldType := fun k => match k with
  | 0 => .array .int
  | _ => .int
theorem nmR : ∀ a, a < 2 → ∀ b, b < 2 → a ≠ b → (FR a).2.1 ≠ (FR b).2.1 := by decide +kernel
theorem tyR : ∀ k, k < 2 → parseFieldDescriptor (FR k).2.2.1 = some (tR k) := by decide +kernel
theorem inR : ∀ w ∈ u_ws RR FR 2, w ∈ lw_tg := by decide +kernel
def RP : String := "TwoSlots$Patch"
def FP : u_T := fun k => match k with
  | 0 => ("TwoSlots$Patch", "bytes", "LTwoSlots$Row;", true)
  | _ => ("TwoSlots$Patch", "copied", "I", false)
def tP : Nat → FieldType := fun k => match k with
  | 0 => .object "TwoSlots$Row"
  | _ => .int
theorem nmP : ∀ a, a < 2 → ∀ b, b < 2 → a ≠ b → (FP a).2.1 ≠ (FP b).2.1 := by decide +kernel
theorem tyP : ∀ k, k < 2 → parseFieldDescriptor (FP k).2.2.1 = some (tP k) := by decide +kernel
theorem inP : ∀ w ∈ u_ws RP FP 2, w ∈ lw_tg := by decide +kernel
def RD : String := "TwoSlots$Device"
def FD : u_T := fun k => match k with
  | 0 => ("TwoSlots$Device", "versions", "[LTwoSlots$Row;", true)
  | 1 => ("TwoSlots$Device", "rows", "[LTwoSlots$Row;", true)
  | 2 => ("TwoSlots$Device", "marks", "[I", true)
  | 3 => ("TwoSlots$Device", "running", "I", false)
  | 4 => ("TwoSlots$Device", "state", "I", false)
  | 5 => ("TwoSlots$Device", "tries", "I", false)
  | 6 => ("TwoSlots$Device", "target", "I", false)
  | 7 => ("TwoSlots$Device", "update", "LTwoSlots$Patch;", true)
  | 8 => ("TwoSlots$Device", "there", "[Z", true)
  | 9 => ("TwoSlots$Device", "missing", "I", false)
  | _ => ("TwoSlots$Device", "next", "I", false)
def tD : Nat → FieldType := fun k => match k with
  | 0 => .array (.object "TwoSlots$Row")
  | 1 => .array (.object "TwoSlots$Row")
  | 2 => .array .int
  | 3 => .int
  | 4 => .int
  | 5 => .int
  | 6 => .int
  | 7 => .object "TwoSlots$Patch"
  | 8 => .array .boolean
  | 9 => .int
  | _ => .int
theorem nmD : ∀ a, a < 11 → ∀ b, b < 11 → a ≠ b → (FD a).2.1 ≠ (FD b).2.1 := by decide +kernel
theorem tyD : ∀ k, k < 11 → parseFieldDescriptor (FD k).2.2.1 = some (tD k) := by decide +kernel
theorem inD : ∀ w ∈ u_ws RD FD 11, w ∈ lw_tg := by decide +kernel
def RT : String := "TwoSlots"
def FT : u_T := fun k => match k with
  | 0 => ("TwoSlots", "draft", "LTwoSlots$Row;", true)
  | 1 => ("TwoSlots", "versions", "[LTwoSlots$Row;", true)
  | 2 => ("TwoSlots", "published", "I", false)
  | 3 => ("TwoSlots", "asked", "LTwoSlots$Patch;", true)
  | 4 => ("TwoSlots", "askedVersion", "I", false)
  | 5 => ("TwoSlots", "askedOld", "I", false)
  | _ => ("TwoSlots", "device", "LTwoSlots$Device;", true)
def tT : Nat → FieldType := fun k => match k with
  | 0 => .object "TwoSlots$Row"
  | 1 => .array (.object "TwoSlots$Row")
  | 2 => .int
  | 3 => .object "TwoSlots$Patch"
  | 4 => .int
  | 5 => .int
  | _ => .object "TwoSlots$Device"
theorem nmT : ∀ a, a < 7 → ∀ b, b < 7 → a ≠ b → (FT a).2.1 ≠ (FT b).2.1 := by decide +kernel
theorem tyT : ∀ k, k < 7 → parseFieldDescriptor (FT k).2.2.1 = some (tT k) := by decide +kernel
theorem inT : ∀ w ∈ u_ws RT FT 7, w ∈ lw_tg := by decide +kernel
def RM : String := "TwoSlotsModel"
def FM : u_T := fun k => match k with
  | 0 => ("TwoSlotsModel", "version", "[I", true)
  | 1 => ("TwoSlotsModel", "length", "[I", true)
  | 2 => ("TwoSlotsModel", "versions", "I", false)
  | 3 => ("TwoSlotsModel", "draft", "[I", true)
  | 4 => ("TwoSlotsModel", "drafted", "I", false)
  | 5 => ("TwoSlotsModel", "patch", "[I", true)
  | 6 => ("TwoSlotsModel", "size", "I", false)
  | 7 => ("TwoSlotsModel", "copied", "I", false)
  | 8 => ("TwoSlotsModel", "row", "[I", true)
  | 9 => ("TwoSlotsModel", "rowLength", "[I", true)
  | 10 => ("TwoSlotsModel", "mark", "[I", true)
  | 11 => ("TwoSlotsModel", "runs", "I", false)
  | 12 => ("TwoSlotsModel", "state", "I", false)
  | 13 => ("TwoSlotsModel", "tries", "I", false)
  | 14 => ("TwoSlotsModel", "update", "I", false)
  | 15 => ("TwoSlotsModel", "there", "[Z", true)
  | 16 => ("TwoSlotsModel", "blocks", "I", false)
  | _ => ("TwoSlotsModel", "next", "I", false)
def tM : Nat → FieldType := fun k => match k with
  | 0 => .array .int
  | 1 => .array .int
  | 2 => .int
  | 3 => .array .int
  | 4 => .int
  | 5 => .array .int
  | 6 => .int
  | 7 => .int
  | 8 => .array .int
  | 9 => .array .int
  | 10 => .array .int
  | 11 => .int
  | 12 => .int
  | 13 => .int
  | 14 => .int
  | 15 => .array .boolean
  | 16 => .int
  | _ => .int
theorem nmM : ∀ a, a < 18 → ∀ b, b < 18 → a ≠ b → (FM a).2.1 ≠ (FM b).2.1 := by decide +kernel
theorem tyM : ∀ k, k < 18 → parseFieldDescriptor (FM k).2.2.1 = some (tM k) := by decide +kernel
theorem inM : ∀ w ∈ u_ws RM FM 18, w ∈ lw_tg := by decide +kernel
abbrev vwCl : List vw_C := [(RR, FR, 2), (RP, FP, 2), (RD, FD, 11), (RT, FT, 7), (RM, FM, 18)]
abbrev vwTy : List FieldType := [.int, .boolean, .object "TwoSlots$Row"]
theorem vw_in {ci : Nat} {Cn : String} {T : u_T} {N : Nat} (h : vwCl[ci]? = some (Cn, T, N)) : ∀ w ∈ u_ws Cn T N, w ∈ lw_tg :=
  match ci, h with
  | 0, h => by cases h; exact inR
  | 1, h => by cases h; exact inP
  | 2, h => by cases h; exact inD
  | 3, h => by cases h; exact inT
  | 4, h => by cases h; exact inM
  | k + 5, h => by simp [vwCl] at h
theorem vw_ty {ci : Nat} {Cn : String} {T : u_T} {N : Nat} (h : vwCl[ci]? = some (Cn, T, N)) : ∃ ty : Nat → FieldType, ∀ k, k < N → parseFieldDescriptor (T k).2.2.1 = some (ty k) :=
  match ci, h with
  | 0, h => by cases h; exact ⟨_, tyR⟩
  | 1, h => by cases h; exact ⟨_, tyP⟩
  | 2, h => by cases h; exact ⟨_, tyD⟩
  | 3, h => by cases h; exact ⟨_, tyT⟩
  | 4, h => by cases h; exact ⟨_, tyM⟩
  | k + 5, h => by simp [vwCl] at h
theorem vw_nm {ci : Nat} {Cn : String} {T : u_T} {N : Nat} (h : vwCl[ci]? = some (Cn, T, N)) : ∀ a, a < N → ∀ b, b < N → a ≠ b → (T a).2.1 ≠ (T b).2.1 :=
  match ci, h with
  | 0, h => by cases h; exact nmR
  | 1, h => by cases h; exact nmP
  | 2, h => by cases h; exact nmD
  | 3, h => by cases h; exact nmT
  | 4, h => by cases h; exact nmM
  | k + 5, h => by simp [vwCl] at h
theorem lw_good : ∀ w ∈ lw_tg, ((w.onTables && w.keeps) = true ∨ ∃ ty, w = .arrayClass ty) := fun w h => good_of_word (List.mem_filter.mp h).2
abbrev mT : Type := MethodName × ByteArray × Nat × Option FieldType
abbrev mtT_init : mT := (⟨"TwoSlots", "<init>", "()V"⟩, prog_1_method_1_code, 2, none)
abbrev mtT_feed : mT := (⟨"TwoSlots", "feed", "(I)I"⟩, prog_1_method_2_code, 2, some .int)
abbrev mtT_reuse : mT := (⟨"TwoSlots", "reuse", "(III)I"⟩, prog_1_method_3_code, 4, some .int)
abbrev mtT_publish : mT := (⟨"TwoSlots", "publish", "()I"⟩, prog_1_method_4_code, 1, some .int)
abbrev mtT_patch : mT := (⟨"TwoSlots", "patch", "(II)I"⟩, prog_1_method_5_code, 3, some .int)
abbrev mtT_patchByte : mT := (⟨"TwoSlots", "patchByte", "(III)I"⟩, prog_1_method_6_code, 4, some .int)
abbrev mtT_saved : mT := (⟨"TwoSlots", "saved", "(II)I"⟩, prog_1_method_7_code, 3, some .int)
abbrev mtT_offer : mT := (⟨"TwoSlots", "offer", "(I)I"⟩, prog_1_method_8_code, 2, some .int)
abbrev mtT_block : mT := (⟨"TwoSlots", "block", "(II)I"⟩, prog_1_method_9_code, 3, some .int)
abbrev mtT_install : mT := (⟨"TwoSlots", "install", "(I)I"⟩, prog_1_method_10_code, 2, some .int)
abbrev mtT_boot : mT := (⟨"TwoSlots", "boot", "()I"⟩, prog_1_method_11_code, 1, some .int)
abbrev mtT_confirm : mT := (⟨"TwoSlots", "confirm", "()I"⟩, prog_1_method_12_code, 1, some .int)
abbrev mtT_damage : mT := (⟨"TwoSlots", "damage", "(III)I"⟩, prog_1_method_13_code, 4, some .int)
abbrev mtT_slot : mT := (⟨"TwoSlots", "slot", "(II)I"⟩, prog_1_method_14_code, 3, some .int)
abbrev mtT_state : mT := (⟨"TwoSlots", "state", "(I)I"⟩, prog_1_method_15_code, 2, some .int)
abbrev mtT_sound : mT := (⟨"TwoSlots", "sound", "(I)Z"⟩, prog_1_method_16_code, 2, some .boolean)
abbrev mtT_isByte : mT := (⟨"TwoSlots", "isByte", "(I)Z"⟩, prog_1_method_17_code, 1, some .boolean)
abbrev mtT_isSlot : mT := (⟨"TwoSlots", "isSlot", "(I)Z"⟩, prog_1_method_18_code, 1, some .boolean)
abbrev mtT_isVersion : mT := (⟨"TwoSlots", "isVersion", "(I)Z"⟩, prog_1_method_19_code, 2, some .boolean)
abbrev mtT_findPatch : mT := (⟨"TwoSlots", "findPatch", "(II)Z"⟩, prog_1_method_20_code, 3, some .boolean)
abbrev mtM_init : mT := (⟨"TwoSlotsModel", "<init>", "()V"⟩, prog_6_method_1_code, 1, none)
abbrev mtM_in : mT := (⟨"TwoSlotsModel", "in", "(III)Z"⟩, prog_6_method_2_code, 3, some .boolean)
abbrev mtM_feed : mT := (⟨"TwoSlotsModel", "feed", "(I)I"⟩, prog_6_method_3_code, 2, some .int)
abbrev mtM_reuse : mT := (⟨"TwoSlotsModel", "reuse", "(III)I"⟩, prog_6_method_4_code, 5, some .int)
abbrev mtM_publish : mT := (⟨"TwoSlotsModel", "publish", "()I"⟩, prog_6_method_5_code, 2, some .int)
abbrev mtM_agree : mT := (⟨"TwoSlotsModel", "agree", "(IIII)I"⟩, prog_6_method_6_code, 6, some .int)
abbrev mtM_put : mT := (⟨"TwoSlotsModel", "put", "(I)V"⟩, prog_6_method_7_code, 2, none)
abbrev mtM_make : mT := (⟨"TwoSlotsModel", "make", "(II)V"⟩, prog_6_method_8_code, 9, none)
abbrev mtM_pair : mT := (⟨"TwoSlotsModel", "pair", "(II)Z"⟩, prog_6_method_9_code, 3, some .boolean)
abbrev mtM_patch : mT := (⟨"TwoSlotsModel", "patch", "(II)I"⟩, prog_6_method_10_code, 3, some .int)
abbrev mtM_patchByte : mT := (⟨"TwoSlotsModel", "patchByte", "(III)I"⟩, prog_6_method_11_code, 4, some .int)
abbrev mtM_saved : mT := (⟨"TwoSlotsModel", "saved", "(II)I"⟩, prog_6_method_12_code, 3, some .int)
abbrev mtM_underWay : mT := (⟨"TwoSlotsModel", "underWay", "()Z"⟩, prog_6_method_13_code, 1, some .boolean)
abbrev mtM_offer : mT := (⟨"TwoSlotsModel", "offer", "(I)I"⟩, prog_6_method_14_code, 3, some .int)
abbrev mtM_missing : mT := (⟨"TwoSlotsModel", "missing", "()I"⟩, prog_6_method_15_code, 3, some .int)
abbrev mtM_beginInstall : mT := (⟨"TwoSlotsModel", "beginInstall", "()V"⟩, prog_6_method_16_code, 1, none)
abbrev mtM_block : mT := (⟨"TwoSlotsModel", "block", "(II)I"⟩, prog_6_method_17_code, 4, some .int)
abbrev mtM_grow : mT := (⟨"TwoSlotsModel", "grow", "(I)V"⟩, prog_6_method_18_code, 3, none)
abbrev mtM_piece : mT := (⟨"TwoSlotsModel", "piece", "()V"⟩, prog_6_method_19_code, 4, none)
abbrev mtM_install : mT := (⟨"TwoSlotsModel", "install", "(I)I"⟩, prog_6_method_20_code, 3, some .int)
abbrev mtM_check : mT := (⟨"TwoSlotsModel", "check", "(IIZ)I"⟩, prog_6_method_21_code, 6, some .int)
abbrev mtM_boot : mT := (⟨"TwoSlotsModel", "boot", "()I"⟩, prog_6_method_22_code, 1, some .int)
abbrev mtM_confirm : mT := (⟨"TwoSlotsModel", "confirm", "()I"⟩, prog_6_method_23_code, 1, some .int)
abbrev mtM_damage : mT := (⟨"TwoSlotsModel", "damage", "(III)I"⟩, prog_6_method_24_code, 4, some .int)
abbrev mtM_slot : mT := (⟨"TwoSlotsModel", "slot", "(II)I"⟩, prog_6_method_25_code, 3, some .int)
abbrev mtM_state : mT := (⟨"TwoSlotsModel", "state", "(I)I"⟩, prog_6_method_26_code, 2, some .int)
abbrev mtM_sound : mT := (⟨"TwoSlotsModel", "sound", "(I)Z"⟩, prog_6_method_27_code, 2, some .boolean)
abbrev mtD_init : mT := (⟨"TwoSlots$Device", "<init>", "([LTwoSlots$Row;)V"⟩, prog_2_method_1_code, 2, none)
abbrev mtD_isIn : mT := (⟨"TwoSlots$Device", "isIn", "(I)Z"⟩, prog_2_method_2_code, 2, some .boolean)
abbrev mtD_stateNow : mT := (⟨"TwoSlots$Device", "stateNow", "()I"⟩, prog_2_method_3_code, 1, some .int)
abbrev mtD_runningSlot : mT := (⟨"TwoSlots$Device", "runningSlot", "()I"⟩, prog_2_method_4_code, 1, some .int)
abbrev mtD_triesNow : mT := (⟨"TwoSlots$Device", "triesNow", "()I"⟩, prog_2_method_5_code, 1, some .int)
abbrev mtD_mark : mT := (⟨"TwoSlots$Device", "mark", "(I)I"⟩, prog_2_method_6_code, 2, some .int)
abbrev mtD_row : mT := (⟨"TwoSlots$Device", "row", "(I)LTwoSlots$Row;"⟩, prog_2_method_7_code, 2, some (.object "TwoSlots$Row"))
abbrev mtD_isSound : mT := (⟨"TwoSlots$Device", "isSound", "(I)Z"⟩, prog_2_method_8_code, 2, some .boolean)
abbrev mtD_updateVersion : mT := (⟨"TwoSlots$Device", "updateVersion", "()I"⟩, prog_2_method_9_code, 1, some .int)
abbrev mtD_blocksThere : mT := (⟨"TwoSlots$Device", "blocksThere", "()I"⟩, prog_2_method_10_code, 1, some .int)
abbrev mtD_hasBlock : mT := (⟨"TwoSlots$Device", "hasBlock", "(I)Z"⟩, prog_2_method_11_code, 2, some .boolean)
abbrev mtD_beginUpdate : mT := (⟨"TwoSlots$Device", "beginUpdate", "(I)I"⟩, prog_2_method_12_code, 3, some .int)
abbrev mtD_takeBlock : mT := (⟨"TwoSlots$Device", "takeBlock", "(I)I"⟩, prog_2_method_13_code, 2, some .int)
abbrev mtD_installPieces : mT := (⟨"TwoSlots$Device", "installPieces", "(I)I"⟩, prog_2_method_14_code, 3, some .int)
abbrev mtD_start : mT := (⟨"TwoSlots$Device", "start", "()I"⟩, prog_2_method_15_code, 1, some .int)
abbrev mtD_keep : mT := (⟨"TwoSlots$Device", "keep", "()V"⟩, prog_2_method_16_code, 1, none)
abbrev mtD_isUnderWay : mT := (⟨"TwoSlots$Device", "isUnderWay", "()Z"⟩, prog_2_method_17_code, 1, some .boolean)
abbrev mtD_spare : mT := (⟨"TwoSlots$Device", "spare", "()I"⟩, prog_2_method_18_code, 1, some .int)
abbrev mtD_beginInstalling : mT := (⟨"TwoSlots$Device", "beginInstalling", "()V"⟩, prog_2_method_19_code, 1, none)
abbrev mtD_stepAtBoot : mT := (⟨"TwoSlots$Device", "stepAtBoot", "()V"⟩, prog_2_method_20_code, 1, none)
abbrev mtD_useTry : mT := (⟨"TwoSlots$Device", "useTry", "()V"⟩, prog_2_method_21_code, 1, none)
abbrev mtD_goBack : mT := (⟨"TwoSlots$Device", "goBack", "()V"⟩, prog_2_method_22_code, 1, none)
abbrev mtP_init : mT := (⟨"TwoSlots$Patch", "<init>", "()V"⟩, prog_3_method_1_code, 1, none)
abbrev mtP_length : mT := (⟨"TwoSlots$Patch", "length", "()I"⟩, prog_3_method_2_code, 1, some .int)
abbrev mtP_has : mT := (⟨"TwoSlots$Patch", "has", "(I)Z"⟩, prog_3_method_3_code, 2, some .boolean)
abbrev mtP_at : mT := (⟨"TwoSlots$Patch", "at", "(I)I"⟩, prog_3_method_4_code, 2, some .int)
abbrev mtP_copied : mT := (⟨"TwoSlots$Patch", "copied", "()I"⟩, prog_3_method_5_code, 1, some .int)
abbrev mtP_make : mT := (⟨"TwoSlots$Patch", "make", "(LTwoSlots$Row;LTwoSlots$Row;)V"⟩, prog_3_method_6_code, 8, none)
abbrev mtP_matchPlace : mT := (⟨"TwoSlots$Patch", "matchPlace", "(LTwoSlots$Row;ILTwoSlots$Row;)I"⟩, prog_3_method_7_code, 7, some .int)
abbrev mtP_common : mT := (⟨"TwoSlots$Patch", "common", "(LTwoSlots$Row;ILTwoSlots$Row;I)I"⟩, prog_3_method_8_code, 6, some .int)
abbrev mtP_putCopy : mT := (⟨"TwoSlots$Patch", "putCopy", "(II)V"⟩, prog_3_method_9_code, 3, none)
abbrev mtP_putLoose : mT := (⟨"TwoSlots$Patch", "putLoose", "(LTwoSlots$Row;II)V"⟩, prog_3_method_10_code, 6, none)
abbrev mtP_blocks : mT := (⟨"TwoSlots$Patch", "blocks", "()I"⟩, prog_3_method_11_code, 1, some .int)
abbrev mtP_putPiece : mT := (⟨"TwoSlots$Patch", "putPiece", "(ILTwoSlots$Row;LTwoSlots$Row;)I"⟩, prog_3_method_12_code, 5, some .int)
abbrev mtR_init : mT := (⟨"TwoSlots$Row", "<init>", "(I)V"⟩, prog_4_method_1_code, 2, none)
abbrev mtR_length : mT := (⟨"TwoSlots$Row", "length", "()I"⟩, prog_4_method_2_code, 1, some .int)
abbrev mtR_has : mT := (⟨"TwoSlots$Row", "has", "(I)Z"⟩, prog_4_method_3_code, 2, some .boolean)
abbrev mtR_at : mT := (⟨"TwoSlots$Row", "at", "(I)I"⟩, prog_4_method_4_code, 2, some .int)
abbrev mtR_empty : mT := (⟨"TwoSlots$Row", "empty", "()V"⟩, prog_4_method_5_code, 1, none)
abbrev mtR_append : mT := (⟨"TwoSlots$Row", "append", "(I)V"⟩, prog_4_method_6_code, 2, none)
abbrev mtR_appendFrom : mT := (⟨"TwoSlots$Row", "appendFrom", "(LTwoSlots$Row;II)V"⟩, prog_4_method_7_code, 5, none)
abbrev mtR_change : mT := (⟨"TwoSlots$Row", "change", "(II)V"⟩, prog_4_method_8_code, 3, none)
abbrev mtR_check : mT := (⟨"TwoSlots$Row", "check", "()I"⟩, prog_4_method_9_code, 3, some .int)
abbrev mtR_looksLike : mT := (⟨"TwoSlots$Row", "looksLike", "(LTwoSlots$Row;)Z"⟩, prog_4_method_10_code, 2, some .boolean)
abbrev mtL_law : mT := (⟨"TwoSlotsLaw", "law", "([I)Z"⟩, code, 4, some .boolean)
