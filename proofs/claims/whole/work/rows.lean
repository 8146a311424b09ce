section
-- ===== PART A: goes FIRST, ahead of the names: the tables' words, and 'selects' of the private methods out of them =====
/-- a private method of a class that the tables say can be made, by its rows of tables_1 -/
def lw_okq (q : MethodName × Nat) : Prop := (q.1.cls ≠ "java/lang/invoke/MethodHandle" ∧ q.1.cls ≠ "java/lang/invoke/VarHandle") ∧ Cond.instantiable q.1.cls q.2 ∈ tables_1 ∧ Cond.privateMethod q.1 ∈ tables_1 ∧ Cond.instanceMethod q.1 ∈ tables_1
theorem lw_p0 : lw_okq (⟨"WornFlash", "put", "(III)I"⟩, 4) := ⟨⟨by decide +kernel, by decide +kernel⟩, List.mem_of_getElem? (i := 7) (by decide +kernel), List.mem_of_getElem? (i := 109) (by decide +kernel), List.mem_of_getElem? (i := 110) (by decide +kernel)⟩
theorem lw_p1 : lw_okq (⟨"WornFlash", "isSector", "(I)Z"⟩, 4) := ⟨⟨by decide +kernel, by decide +kernel⟩, List.mem_of_getElem? (i := 7) (by decide +kernel), List.mem_of_getElem? (i := 113) (by decide +kernel), List.mem_of_getElem? (i := 114) (by decide +kernel)⟩
theorem lw_p2 : lw_okq (⟨"WornFlash", "storeFirst", "()Z"⟩, 4) := ⟨⟨by decide +kernel, by decide +kernel⟩, List.mem_of_getElem? (i := 7) (by decide +kernel), List.mem_of_getElem? (i := 129) (by decide +kernel), List.mem_of_getElem? (i := 130) (by decide +kernel)⟩
theorem lw_p3 : lw_okq (⟨"WornFlash", "makeRoom", "()Z"⟩, 4) := ⟨⟨by decide +kernel, by decide +kernel⟩, List.mem_of_getElem? (i := 7) (by decide +kernel), List.mem_of_getElem? (i := 133) (by decide +kernel), List.mem_of_getElem? (i := 134) (by decide +kernel)⟩
theorem lw_p4 : lw_okq (⟨"WornFlash", "collect", "(I)Z"⟩, 4) := ⟨⟨by decide +kernel, by decide +kernel⟩, List.mem_of_getElem? (i := 7) (by decide +kernel), List.mem_of_getElem? (i := 171) (by decide +kernel), List.mem_of_getElem? (i := 172) (by decide +kernel)⟩
theorem lw_p5 : lw_okq (⟨"WornFlash$Flash", "beginOperation", "()Z"⟩, 11) := ⟨⟨by decide +kernel, by decide +kernel⟩, List.mem_of_getElem? (i := 15) (by decide +kernel), List.mem_of_getElem? (i := 181) (by decide +kernel), List.mem_of_getElem? (i := 182) (by decide +kernel)⟩
theorem lw_p6 : lw_okq (⟨"WornFlash", "losePower", "()V"⟩, 4) := ⟨⟨by decide +kernel, by decide +kernel⟩, List.mem_of_getElem? (i := 7) (by decide +kernel), List.mem_of_getElem? (i := 193) (by decide +kernel), List.mem_of_getElem? (i := 194) (by decide +kernel)⟩
theorem lw_p7 : lw_okq (⟨"WornFlash", "startAgain", "()Z"⟩, 4) := ⟨⟨by decide +kernel, by decide +kernel⟩, List.mem_of_getElem? (i := 7) (by decide +kernel), List.mem_of_getElem? (i := 197) (by decide +kernel), List.mem_of_getElem? (i := 198) (by decide +kernel)⟩
theorem lw_p8 : lw_okq (⟨"WornFlashModel", "programmed", "(I)I"⟩, 16) := ⟨⟨by decide +kernel, by decide +kernel⟩, List.mem_of_getElem? (i := 288) (by decide +kernel), List.mem_of_getElem? (i := 351) (by decide +kernel), List.mem_of_getElem? (i := 352) (by decide +kernel)⟩
theorem lw_p9 : lw_okq (⟨"WornFlashModel", "freeBlocks", "()I"⟩, 16) := ⟨⟨by decide +kernel, by decide +kernel⟩, List.mem_of_getElem? (i := 288) (by decide +kernel), List.mem_of_getElem? (i := 355) (by decide +kernel), List.mem_of_getElem? (i := 356) (by decide +kernel)⟩
theorem lw_p10 : lw_okq (⟨"WornFlashModel", "pick", "(IZ)I"⟩, 16) := ⟨⟨by decide +kernel, by decide +kernel⟩, List.mem_of_getElem? (i := 288) (by decide +kernel), List.mem_of_getElem? (i := 359) (by decide +kernel), List.mem_of_getElem? (i := 360) (by decide +kernel)⟩
theorem lw_p11 : lw_okq (⟨"WornFlashModel", "validIn", "(I)I"⟩, 16) := ⟨⟨by decide +kernel, by decide +kernel⟩, List.mem_of_getElem? (i := 288) (by decide +kernel), List.mem_of_getElem? (i := 364) (by decide +kernel), List.mem_of_getElem? (i := 365) (by decide +kernel)⟩
theorem lw_p12 : lw_okq (⟨"WornFlashModel", "isValid", "(I)Z"⟩, 16) := ⟨⟨by decide +kernel, by decide +kernel⟩, List.mem_of_getElem? (i := 288) (by decide +kernel), List.mem_of_getElem? (i := 368) (by decide +kernel), List.mem_of_getElem? (i := 369) (by decide +kernel)⟩
theorem lw_p13 : lw_okq (⟨"WornFlashModel", "newest", "(I)I"⟩, 16) := ⟨⟨by decide +kernel, by decide +kernel⟩, List.mem_of_getElem? (i := 288) (by decide +kernel), List.mem_of_getElem? (i := 372) (by decide +kernel), List.mem_of_getElem? (i := 373) (by decide +kernel)⟩
theorem lw_p14 : lw_okq (⟨"WornFlashModel", "collect", "(I)Z"⟩, 16) := ⟨⟨by decide +kernel, by decide +kernel⟩, List.mem_of_getElem? (i := 288) (by decide +kernel), List.mem_of_getElem? (i := 376) (by decide +kernel), List.mem_of_getElem? (i := 377) (by decide +kernel)⟩
theorem lw_p15 : lw_okq (⟨"WornFlashModel", "put", "(III)Z"⟩, 16) := ⟨⟨by decide +kernel, by decide +kernel⟩, List.mem_of_getElem? (i := 288) (by decide +kernel), List.mem_of_getElem? (i := 380) (by decide +kernel), List.mem_of_getElem? (i := 381) (by decide +kernel)⟩
def lw_privs_1 : List (MethodName × Nat) := [(⟨"WornFlash", "put", "(III)I"⟩, 4), (⟨"WornFlash", "isSector", "(I)Z"⟩, 4), (⟨"WornFlash", "storeFirst", "()Z"⟩, 4), (⟨"WornFlash", "makeRoom", "()Z"⟩, 4), (⟨"WornFlash", "collect", "(I)Z"⟩, 4), (⟨"WornFlash$Flash", "beginOperation", "()Z"⟩, 11), (⟨"WornFlash", "losePower", "()V"⟩, 4), (⟨"WornFlash", "startAgain", "()Z"⟩, 4), (⟨"WornFlashModel", "programmed", "(I)I"⟩, 16), (⟨"WornFlashModel", "freeBlocks", "()I"⟩, 16), (⟨"WornFlashModel", "pick", "(IZ)I"⟩, 16), (⟨"WornFlashModel", "validIn", "(I)I"⟩, 16), (⟨"WornFlashModel", "isValid", "(I)Z"⟩, 16), (⟨"WornFlashModel", "newest", "(I)I"⟩, 16), (⟨"WornFlashModel", "collect", "(I)Z"⟩, 16), (⟨"WornFlashModel", "put", "(III)Z"⟩, 16)]
theorem lw_r1 : ∀ q ∈ lw_privs_1, lw_okq q := List.forall_mem_cons.mpr ⟨lw_p0, List.forall_mem_cons.mpr ⟨lw_p1, List.forall_mem_cons.mpr ⟨lw_p2, List.forall_mem_cons.mpr ⟨lw_p3, List.forall_mem_cons.mpr ⟨lw_p4, List.forall_mem_cons.mpr ⟨lw_p5, List.forall_mem_cons.mpr ⟨lw_p6, List.forall_mem_cons.mpr ⟨lw_p7, List.forall_mem_cons.mpr ⟨lw_p8, List.forall_mem_cons.mpr ⟨lw_p9, List.forall_mem_cons.mpr ⟨lw_p10, List.forall_mem_cons.mpr ⟨lw_p11, List.forall_mem_cons.mpr ⟨lw_p12, List.forall_mem_cons.mpr ⟨lw_p13, List.forall_mem_cons.mpr ⟨lw_p14, List.forall_mem_cons.mpr ⟨lw_p15, fun _ h => absurd h List.not_mem_nil⟩⟩⟩⟩⟩⟩⟩⟩⟩⟩⟩⟩⟩⟩⟩⟩
theorem lw_p16 : lw_okq (⟨"WornFlashModel", "operates", "()Z"⟩, 16) := ⟨⟨by decide +kernel, by decide +kernel⟩, List.mem_of_getElem? (i := 288) (by decide +kernel), List.mem_of_getElem? (i := 384) (by decide +kernel), List.mem_of_getElem? (i := 385) (by decide +kernel)⟩
theorem lw_p17 : lw_okq (⟨"WornFlashModel", "change", "(III)I"⟩, 16) := ⟨⟨by decide +kernel, by decide +kernel⟩, List.mem_of_getElem? (i := 288) (by decide +kernel), List.mem_of_getElem? (i := 392) (by decide +kernel), List.mem_of_getElem? (i := 393) (by decide +kernel)⟩
theorem lw_p18 : lw_okq (⟨"WornFlashModel", "isSector", "(I)Z"⟩, 16) := ⟨⟨by decide +kernel, by decide +kernel⟩, List.mem_of_getElem? (i := 288) (by decide +kernel), List.mem_of_getElem? (i := 396) (by decide +kernel), List.mem_of_getElem? (i := 397) (by decide +kernel)⟩
theorem lw_p19 : lw_okq (⟨"WornFlashModel", "find", "(I)I"⟩, 16) := ⟨⟨by decide +kernel, by decide +kernel⟩, List.mem_of_getElem? (i := 288) (by decide +kernel), List.mem_of_getElem? (i := 401) (by decide +kernel), List.mem_of_getElem? (i := 402) (by decide +kernel)⟩
theorem lw_p20 : lw_okq (⟨"WornFlashModel", "store", "()Z"⟩, 16) := ⟨⟨by decide +kernel, by decide +kernel⟩, List.mem_of_getElem? (i := 288) (by decide +kernel), List.mem_of_getElem? (i := 405) (by decide +kernel), List.mem_of_getElem? (i := 406) (by decide +kernel)⟩
theorem lw_p21 : lw_okq (⟨"WornFlashModel", "room", "()Z"⟩, 16) := ⟨⟨by decide +kernel, by decide +kernel⟩, List.mem_of_getElem? (i := 288) (by decide +kernel), List.mem_of_getElem? (i := 409) (by decide +kernel), List.mem_of_getElem? (i := 410) (by decide +kernel)⟩
theorem lw_p22 : lw_okq (⟨"WornFlashModel", "uneven", "()Z"⟩, 16) := ⟨⟨by decide +kernel, by decide +kernel⟩, List.mem_of_getElem? (i := 288) (by decide +kernel), List.mem_of_getElem? (i := 413) (by decide +kernel), List.mem_of_getElem? (i := 414) (by decide +kernel)⟩
theorem lw_p23 : lw_okq (⟨"WornFlashModel", "isPlace", "(I)Z"⟩, 16) := ⟨⟨by decide +kernel, by decide +kernel⟩, List.mem_of_getElem? (i := 288) (by decide +kernel), List.mem_of_getElem? (i := 450) (by decide +kernel), List.mem_of_getElem? (i := 451) (by decide +kernel)⟩
theorem lw_p24 : lw_okq (⟨"WornFlashModel", "isBlock", "(I)Z"⟩, 16) := ⟨⟨by decide +kernel, by decide +kernel⟩, List.mem_of_getElem? (i := 288) (by decide +kernel), List.mem_of_getElem? (i := 462) (by decide +kernel), List.mem_of_getElem? (i := 463) (by decide +kernel)⟩
def lw_privs_2 : List (MethodName × Nat) := [(⟨"WornFlashModel", "operates", "()Z"⟩, 16), (⟨"WornFlashModel", "change", "(III)I"⟩, 16), (⟨"WornFlashModel", "isSector", "(I)Z"⟩, 16), (⟨"WornFlashModel", "find", "(I)I"⟩, 16), (⟨"WornFlashModel", "store", "()Z"⟩, 16), (⟨"WornFlashModel", "room", "()Z"⟩, 16), (⟨"WornFlashModel", "uneven", "()Z"⟩, 16), (⟨"WornFlashModel", "isPlace", "(I)Z"⟩, 16), (⟨"WornFlashModel", "isBlock", "(I)Z"⟩, 16)]
theorem lw_r2 : ∀ q ∈ lw_privs_2, lw_okq q := List.forall_mem_cons.mpr ⟨lw_p16, List.forall_mem_cons.mpr ⟨lw_p17, List.forall_mem_cons.mpr ⟨lw_p18, List.forall_mem_cons.mpr ⟨lw_p19, List.forall_mem_cons.mpr ⟨lw_p20, List.forall_mem_cons.mpr ⟨lw_p21, List.forall_mem_cons.mpr ⟨lw_p22, List.forall_mem_cons.mpr ⟨lw_p23, List.forall_mem_cons.mpr ⟨lw_p24, fun _ h => absurd h List.not_mem_nil⟩⟩⟩⟩⟩⟩⟩⟩⟩
def lw_privs : List (MethodName × Nat) := lw_privs_1 ++ (lw_privs_2)
def lw_tbl : List Cond := k2_sels lw_privs ++ tables_1
theorem lw_privs_ok : ∀ q ∈ lw_privs, lw_okq q := by
  show ∀ q ∈ lw_privs_1 ++ (lw_privs_2), lw_okq q
  exact List.forall_mem_append.mpr ⟨lw_r1, lw_r2⟩
end
section
/-! ===== BEGIN words of one list among another's, by their places ===== -/
theorem goodIn_r {big : List Cond} (ws : List Cond) (ps : List Nat) (hp : ws = ps.filterMap (fun i => big[i]?)) (h : ws.all goodWord = true) : GoodIn big ws := by
  intro w hw
  have h1 := List.all_eq_true.mp h w hw
  rw [hp] at hw
  obtain ⟨i, -, hi⟩ := List.mem_filterMap.mp hw
  have hm : w ∈ big := by first | exact List.mem_of_getElem? hi | exact List.getElem?_mem hi
  exact ⟨hm, good_of_word h1⟩
theorem goodIn_app {big a b : List Cond} (ha : GoodIn big a) (hb : GoodIn big b) : GoodIn big (a ++ b) := fun w h => (List.mem_append.mp h).elim (ha w) (hb w)
theorem goodIn_ca {big a b : List Cond} {c : Cond} (ha : GoodIn big (c :: a)) (hb : GoodIn big b) : GoodIn big (c :: (a ++ b)) := fun w h => (List.mem_cons.mp h).elim (fun e => ha w (List.mem_cons.mpr (Or.inl e))) (fun h => (List.mem_append.mp h).elim (fun h => ha w (List.mem_cons.mpr (Or.inr h))) (hb w))
theorem goodIn_sub {big ws : List Cond} (hm : ∀ w ∈ ws, w ∈ big) (h : ws.all goodWord = true) : GoodIn big ws := fun w hw => ⟨hm w hw, good_of_word (List.all_eq_true.mp h w hw)⟩
/-! ===== END ===== -/

/-! ===== BEGIN printed: names, fields, word lists, decode rows ===== -/
def RX0 : String := "WornFlash$Buffer"
def TX0 : u_T := fun k => match k with
  | 0 => ("WornFlash$Buffer", "sectors", "[I", true)
  | 1 => ("WornFlash$Buffer", "values", "[I", true)
  | 2 => ("WornFlash$Buffer", "kinds", "[I", true)
  | _ => ("WornFlash$Buffer", "count", "I", false)
def tyX0 : Nat → FieldType := fun k => match k with
  | 0 => .array .int
  | 1 => .array .int
  | 2 => .array .int
  | _ => .int
abbrev wsX00 : List Cond := u_ws RX0 TX0 4
theorem nmX0 : ∀ a, a < 4 → ∀ b, b < 4 → a ≠ b → (TX0 a).2.1 ≠ (TX0 b).2.1 := by decide +kernel
theorem tyX0_ok : ∀ k, k < 4 → parseFieldDescriptor (TX0 k).2.2.1 = some (tyX0 k) := by decide +kernel
abbrev cX0_init : ByteArray := prog_2_method_1_code
def yX0_init : MethodName := ⟨RX0, "<init>", "()V"⟩
abbrev cX0_isFull : ByteArray := prog_2_method_2_code
def yX0_isFull : MethodName := ⟨RX0, "isFull", "()Z"⟩
abbrev cX0_find : ByteArray := prog_2_method_3_code
def yX0_find : MethodName := ⟨RX0, "find", "(I)I"⟩
abbrev cX0_change : ByteArray := prog_2_method_4_code
def yX0_change : MethodName := ⟨RX0, "change", "(III)V"⟩
abbrev cX0_add : ByteArray := prog_2_method_5_code
def yX0_add : MethodName := ⟨RX0, "add", "(III)V"⟩
abbrev cX0_dropFirst : ByteArray := prog_2_method_6_code
def yX0_dropFirst : MethodName := ⟨RX0, "dropFirst", "()V"⟩
def RX1 : String := "WornFlash$Flash"
def TX1 : u_T := fun k => match k with
  | 0 => ("WornFlash$Flash", "blocks", "I", true)
  | 1 => ("WornFlash$Flash", "owners", "[I", true)
  | 2 => ("WornFlash$Flash", "values", "[I", true)
  | 3 => ("WornFlash$Flash", "kinds", "[I", true)
  | 4 => ("WornFlash$Flash", "serials", "[I", true)
  | 5 => ("WornFlash$Flash", "programmed", "[I", true)
  | 6 => ("WornFlash$Flash", "wear", "[I", true)
  | 7 => ("WornFlash$Flash", "newestPlace", "[I", true)
  | 8 => ("WornFlash$Flash", "nextSerial", "I", false)
  | 9 => ("WornFlash$Flash", "operationsDone", "I", false)
  | _ => ("WornFlash$Flash", "fuseLeft", "I", false)
def tyX1 : Nat → FieldType := fun k => match k with
  | 0 => .int
  | 1 => .array .int
  | 2 => .array .int
  | 3 => .array .int
  | 4 => .array .int
  | 5 => .array .int
  | 6 => .array .int
  | 7 => .array .int
  | 8 => .int
  | 9 => .int
  | _ => .int
abbrev wsX10 : List Cond := u_ws RX1 TX1 11
theorem nmX1 : ∀ a, a < 11 → ∀ b, b < 11 → a ≠ b → (TX1 a).2.1 ≠ (TX1 b).2.1 := by decide +kernel
theorem tyX1_ok : ∀ k, k < 11 → parseFieldDescriptor (TX1 k).2.2.1 = some (tyX1 k) := by decide +kernel
abbrev cX1_init : ByteArray := prog_3_method_1_code
def yX1_init : MethodName := ⟨RX1, "<init>", "(I)V"⟩
abbrev cX1_isBlock : ByteArray := prog_3_method_2_code
def yX1_isBlock : MethodName := ⟨RX1, "isBlock", "(I)Z"⟩
abbrev cX1_isProgrammed : ByteArray := prog_3_method_3_code
def yX1_isProgrammed : MethodName := ⟨RX1, "isProgrammed", "(I)Z"⟩
abbrev cX1_isValid : ByteArray := prog_3_method_4_code
def yX1_isValid : MethodName := ⟨RX1, "isValid", "(I)Z"⟩
abbrev cX1_hasRoom : ByteArray := prog_3_method_5_code
def yX1_hasRoom : MethodName := ⟨RX1, "hasRoom", "(I)Z"⟩
abbrev cX1_countValid : ByteArray := prog_3_method_6_code
def yX1_countValid : MethodName := ⟨RX1, "countValid", "(I)I"⟩
abbrev cX1_countFree : ByteArray := prog_3_method_7_code
def yX1_countFree : MethodName := ⟨RX1, "countFree", "()I"⟩
abbrev cX1_leastWornFree : ByteArray := prog_3_method_8_code
def yX1_leastWornFree : MethodName := ⟨RX1, "leastWornFree", "()I"⟩
abbrev cX1_partlyProgrammed : ByteArray := prog_3_method_9_code
def yX1_partlyProgrammed : MethodName := ⟨RX1, "partlyProgrammed", "()I"⟩
abbrev cX1_wearGap : ByteArray := prog_3_method_10_code
def yX1_wearGap : MethodName := ⟨RX1, "wearGap", "()I"⟩
abbrev cX1_victim : ByteArray := prog_3_method_11_code
def yX1_victim : MethodName := ⟨RX1, "victim", "(Z)I"⟩
abbrev cX1_greatestSerial : ByteArray := prog_3_method_12_code
def yX1_greatestSerial : MethodName := ⟨RX1, "greatestSerial", "()I"⟩
abbrev cX1_program : ByteArray := prog_3_method_13_code
def yX1_program : MethodName := ⟨RX1, "program", "(IIII)Z"⟩
abbrev cX1_erase : ByteArray := prog_3_method_14_code
def yX1_erase : MethodName := ⟨RX1, "erase", "(I)Z"⟩
abbrev cX1_beginOperation : ByteArray := prog_3_method_15_code
def yX1_beginOperation : MethodName := ⟨RX1, "beginOperation", "()Z"⟩
def RX2 : String := "WornFlash"
def TX2 : u_T := fun k => match k with
  | 0 => ("WornFlash", "flash", "LWornFlash$Flash;", true)
  | 1 => ("WornFlash", "buffer", "LWornFlash$Buffer;", true)
  | 2 => ("WornFlash", "spread", "I", true)
  | _ => ("WornFlash", "openBlock", "I", false)
def tyX2 : Nat → FieldType := fun k => match k with
  | 0 => .object "WornFlash$Flash"
  | 1 => .object "WornFlash$Buffer"
  | 2 => .int
  | _ => .int
abbrev wsX20 : List Cond := u_ws RX2 TX2 4
theorem nmX2 : ∀ a, a < 4 → ∀ b, b < 4 → a ≠ b → (TX2 a).2.1 ≠ (TX2 b).2.1 := by decide +kernel
theorem tyX2_ok : ∀ k, k < 4 → parseFieldDescriptor (TX2 k).2.2.1 = some (tyX2 k) := by decide +kernel
abbrev cX2_init : ByteArray := prog_1_method_1_code
def yX2_init : MethodName := ⟨RX2, "<init>", "(II)V"⟩
abbrev cX2_sectors : ByteArray := prog_1_method_2_code
def yX2_sectors : MethodName := ⟨RX2, "sectors", "()I"⟩
abbrev cX2_write : ByteArray := prog_1_method_3_code
def yX2_write : MethodName := ⟨RX2, "write", "(II)I"⟩
abbrev cX2_trim : ByteArray := prog_1_method_4_code
def yX2_trim : MethodName := ⟨RX2, "trim", "(I)I"⟩
abbrev cX2_flush : ByteArray := prog_1_method_5_code
def yX2_flush : MethodName := ⟨RX2, "flush", "()I"⟩
abbrev cX2_cut : ByteArray := prog_1_method_6_code
def yX2_cut : MethodName := ⟨RX2, "cut", "()V"⟩
abbrev cX2_fuse : ByteArray := prog_1_method_7_code
def yX2_fuse : MethodName := ⟨RX2, "fuse", "(I)Z"⟩
abbrev cX2_read : ByteArray := prog_1_method_8_code
def yX2_read : MethodName := ⟨RX2, "read", "(I)I"⟩
abbrev cX2_holds : ByteArray := prog_1_method_9_code
def yX2_holds : MethodName := ⟨RX2, "holds", "(I)I"⟩
abbrev cX2_buffered : ByteArray := prog_1_method_10_code
def yX2_buffered : MethodName := ⟨RX2, "buffered", "()I"⟩
abbrev cX2_place : ByteArray := prog_1_method_11_code
def yX2_place : MethodName := ⟨RX2, "place", "(I)I"⟩
abbrev cX2_tag : ByteArray := prog_1_method_12_code
def yX2_tag : MethodName := ⟨RX2, "tag", "(I)I"⟩
abbrev cX2_serial : ByteArray := prog_1_method_13_code
def yX2_serial : MethodName := ⟨RX2, "serial", "(I)I"⟩
abbrev cX2_valid : ByteArray := prog_1_method_14_code
def yX2_valid : MethodName := ⟨RX2, "valid", "(I)I"⟩
abbrev cX2_erasures : ByteArray := prog_1_method_15_code
def yX2_erasures : MethodName := ⟨RX2, "erasures", "(I)I"⟩
abbrev cX2_open : ByteArray := prog_1_method_16_code
def yX2_open : MethodName := ⟨RX2, "open", "()I"⟩
abbrev cX2_free : ByteArray := prog_1_method_17_code
def yX2_free : MethodName := ⟨RX2, "free", "()I"⟩
abbrev cX2_operations : ByteArray := prog_1_method_18_code
def yX2_operations : MethodName := ⟨RX2, "operations", "()I"⟩
abbrev cX2_isSector : ByteArray := prog_1_method_19_code
def yX2_isSector : MethodName := ⟨RX2, "isSector", "(I)Z"⟩
abbrev cX2_put : ByteArray := prog_1_method_20_code
def yX2_put : MethodName := ⟨RX2, "put", "(III)I"⟩
abbrev cX2_storeFirst : ByteArray := prog_1_method_21_code
def yX2_storeFirst : MethodName := ⟨RX2, "storeFirst", "()Z"⟩
abbrev cX2_makeRoom : ByteArray := prog_1_method_22_code
def yX2_makeRoom : MethodName := ⟨RX2, "makeRoom", "()Z"⟩
abbrev cX2_collect : ByteArray := prog_1_method_23_code
def yX2_collect : MethodName := ⟨RX2, "collect", "(I)Z"⟩
abbrev cX2_losePower : ByteArray := prog_1_method_24_code
def yX2_losePower : MethodName := ⟨RX2, "losePower", "()V"⟩
abbrev cX2_startAgain : ByteArray := prog_1_method_25_code
def yX2_startAgain : MethodName := ⟨RX2, "startAgain", "()Z"⟩
def RX3 : String := "WornFlashModel"
def TX3 : u_T := fun k => match k with
  | 0 => ("WornFlashModel", "blocks", "I", true)
  | 1 => ("WornFlashModel", "spread", "I", true)
  | 2 => ("WornFlashModel", "sectorOf", "[I", true)
  | 3 => ("WornFlashModel", "valueOf", "[I", true)
  | 4 => ("WornFlashModel", "serialOf", "[I", true)
  | 5 => ("WornFlashModel", "sortOf", "[I", true)
  | 6 => ("WornFlashModel", "erased", "[I", true)
  | 7 => ("WornFlashModel", "nextSerial", "I", false)
  | 8 => ("WornFlashModel", "open", "I", false)
  | 9 => ("WornFlashModel", "operations", "I", false)
  | 10 => ("WornFlashModel", "fuse", "I", false)
  | 11 => ("WornFlashModel", "gone", "Z", false)
  | 12 => ("WornFlashModel", "entries", "I", false)
  | 13 => ("WornFlashModel", "entrySector", "[I", true)
  | 14 => ("WornFlashModel", "entryValue", "[I", true)
  | _ => ("WornFlashModel", "entrySort", "[I", true)
def tyX3 : Nat → FieldType := fun k => match k with
  | 0 => .int
  | 1 => .int
  | 2 => .array .int
  | 3 => .array .int
  | 4 => .array .int
  | 5 => .array .int
  | 6 => .array .int
  | 7 => .int
  | 8 => .int
  | 9 => .int
  | 10 => .int
  | 11 => .boolean
  | 12 => .int
  | 13 => .array .int
  | 14 => .array .int
  | _ => .array .int
abbrev wsX30 : List Cond := u_ws RX3 TX3 16
theorem nmX3 : ∀ a, a < 16 → ∀ b, b < 16 → a ≠ b → (TX3 a).2.1 ≠ (TX3 b).2.1 := by decide +kernel
theorem tyX3_ok : ∀ k, k < 16 → parseFieldDescriptor (TX3 k).2.2.1 = some (tyX3 k) := by decide +kernel
abbrev cX3_init : ByteArray := prog_5_method_1_code
def yX3_init : MethodName := ⟨RX3, "<init>", "(II)V"⟩
abbrev cX3_sectors : ByteArray := prog_5_method_2_code
def yX3_sectors : MethodName := ⟨RX3, "sectors", "()I"⟩
abbrev cX3_isSector : ByteArray := prog_5_method_3_code
def yX3_isSector : MethodName := ⟨RX3, "isSector", "(I)Z"⟩
abbrev cX3_isBlock : ByteArray := prog_5_method_4_code
def yX3_isBlock : MethodName := ⟨RX3, "isBlock", "(I)Z"⟩
abbrev cX3_isPlace : ByteArray := prog_5_method_5_code
def yX3_isPlace : MethodName := ⟨RX3, "isPlace", "(I)Z"⟩
abbrev cX3_programmed : ByteArray := prog_5_method_6_code
def yX3_programmed : MethodName := ⟨RX3, "programmed", "(I)I"⟩
abbrev cX3_newest : ByteArray := prog_5_method_7_code
def yX3_newest : MethodName := ⟨RX3, "newest", "(I)I"⟩
abbrev cX3_isValid : ByteArray := prog_5_method_8_code
def yX3_isValid : MethodName := ⟨RX3, "isValid", "(I)Z"⟩
abbrev cX3_validIn : ByteArray := prog_5_method_9_code
def yX3_validIn : MethodName := ⟨RX3, "validIn", "(I)I"⟩
abbrev cX3_freeBlocks : ByteArray := prog_5_method_10_code
def yX3_freeBlocks : MethodName := ⟨RX3, "freeBlocks", "()I"⟩
abbrev cX3_pick : ByteArray := prog_5_method_11_code
def yX3_pick : MethodName := ⟨RX3, "pick", "(IZ)I"⟩
abbrev cX3_uneven : ByteArray := prog_5_method_12_code
def yX3_uneven : MethodName := ⟨RX3, "uneven", "()Z"⟩
abbrev cX3_operates : ByteArray := prog_5_method_13_code
def yX3_operates : MethodName := ⟨RX3, "operates", "()Z"⟩
abbrev cX3_put : ByteArray := prog_5_method_14_code
def yX3_put : MethodName := ⟨RX3, "put", "(III)Z"⟩
abbrev cX3_collect : ByteArray := prog_5_method_15_code
def yX3_collect : MethodName := ⟨RX3, "collect", "(I)Z"⟩
abbrev cX3_room : ByteArray := prog_5_method_16_code
def yX3_room : MethodName := ⟨RX3, "room", "()Z"⟩
abbrev cX3_store : ByteArray := prog_5_method_17_code
def yX3_store : MethodName := ⟨RX3, "store", "()Z"⟩
abbrev cX3_cut : ByteArray := prog_5_method_18_code
def yX3_cut : MethodName := ⟨RX3, "cut", "()V"⟩
abbrev cX3_find : ByteArray := prog_5_method_19_code
def yX3_find : MethodName := ⟨RX3, "find", "(I)I"⟩
abbrev cX3_change : ByteArray := prog_5_method_20_code
def yX3_change : MethodName := ⟨RX3, "change", "(III)I"⟩
abbrev cX3_write : ByteArray := prog_5_method_21_code
def yX3_write : MethodName := ⟨RX3, "write", "(II)I"⟩
abbrev cX3_trim : ByteArray := prog_5_method_22_code
def yX3_trim : MethodName := ⟨RX3, "trim", "(I)I"⟩
abbrev cX3_flush : ByteArray := prog_5_method_23_code
def yX3_flush : MethodName := ⟨RX3, "flush", "()I"⟩
abbrev cX3_fuse : ByteArray := prog_5_method_24_code
def yX3_fuse : MethodName := ⟨RX3, "fuse", "(I)Z"⟩
abbrev cX3_read : ByteArray := prog_5_method_25_code
def yX3_read : MethodName := ⟨RX3, "read", "(I)I"⟩
abbrev cX3_holds : ByteArray := prog_5_method_26_code
def yX3_holds : MethodName := ⟨RX3, "holds", "(I)I"⟩
abbrev cX3_buffered : ByteArray := prog_5_method_27_code
def yX3_buffered : MethodName := ⟨RX3, "buffered", "()I"⟩
abbrev cX3_place : ByteArray := prog_5_method_28_code
def yX3_place : MethodName := ⟨RX3, "place", "(I)I"⟩
abbrev cX3_tag : ByteArray := prog_5_method_29_code
def yX3_tag : MethodName := ⟨RX3, "tag", "(I)I"⟩
abbrev cX3_serial : ByteArray := prog_5_method_30_code
def yX3_serial : MethodName := ⟨RX3, "serial", "(I)I"⟩
abbrev cX3_valid : ByteArray := prog_5_method_31_code
def yX3_valid : MethodName := ⟨RX3, "valid", "(I)I"⟩
abbrev cX3_erasures : ByteArray := prog_5_method_32_code
def yX3_erasures : MethodName := ⟨RX3, "erasures", "(I)I"⟩
abbrev cX3_open : ByteArray := prog_5_method_33_code
def yX3_open : MethodName := ⟨RX3, "open", "()I"⟩
abbrev cX3_free : ByteArray := prog_5_method_34_code
def yX3_free : MethodName := ⟨RX3, "free", "()I"⟩
abbrev cX3_operations : ByteArray := prog_5_method_35_code
def yX3_operations : MethodName := ⟨RX3, "operations", "()I"⟩
def RJ9 : String := "java/lang/Math"
def TJ9 : u_T := fun k => match k with
  | _ => ("", "", "", false)
def tyJ9 : Nat → FieldType := fun k => match k with
  | _ => .int
abbrev wsJ90 : List Cond := u_ws RJ9 TJ9 0
theorem nmJ9 : ∀ a, a < 0 → ∀ b, b < 0 → a ≠ b → (TJ9 a).2.1 ≠ (TJ9 b).2.1 := by decide +kernel
theorem tyJ9_ok : ∀ k, k < 0 → parseFieldDescriptor (TJ9 k).2.2.1 = some (tyJ9 k) := by decide +kernel
abbrev cJ9_max_7cf53 : ByteArray := prog_6_method_65_code
def yJ9_max_7cf53 : MethodName := ⟨RJ9, "max", "(II)I"⟩
abbrev cJ9_min_7cf53 : ByteArray := prog_6_method_69_code
def yJ9_min_7cf53 : MethodName := ⟨RJ9, "min", "(II)I"⟩
def RL : String := "WornFlashLaw"
abbrev cL_cell : ByteArray := method_2_code
def yL_cell : MethodName := ⟨RL, "cell", "([II)I"⟩
abbrev cL_law : ByteArray := code
def yL_law : MethodName := ⟨RL, "law", "([I)Z"⟩
def wsX0_init : List Cond := .code yX0_init cX0_init 1 none :: ([.methodLink RX0 3 objectInit, .instanceMethod objectInit, .code objectInit ⟨#[0xb1]⟩ 1 none, .arrayClass .int, .fieldLink RX0 11 "WornFlash$Buffer" "sectors" "[I", .fieldLink RX0 15 "WornFlash$Buffer" "values" "[I", .fieldLink RX0 18 "WornFlash$Buffer" "kinds" "[I"] ++ wsX00)
def wsX0_isFull : List Cond := .code yX0_isFull cX0_isFull 1 (some .boolean) :: ([.fieldLink RX0 21 "WornFlash$Buffer" "count" "I"] ++ wsX00)
def wsX0_find : List Cond := .code yX0_find cX0_find 3 (some .int) :: ([.fieldLink RX0 21 "WornFlash$Buffer" "count" "I", .fieldLink RX0 11 "WornFlash$Buffer" "sectors" "[I"] ++ wsX00)
def wsX0_change : List Cond := .code yX0_change cX0_change 4 none :: ([.fieldLink RX0 15 "WornFlash$Buffer" "values" "[I", .fieldLink RX0 18 "WornFlash$Buffer" "kinds" "[I"] ++ wsX00)
def wsX0_add : List Cond := .code yX0_add cX0_add 4 none :: ([.fieldLink RX0 11 "WornFlash$Buffer" "sectors" "[I", .fieldLink RX0 21 "WornFlash$Buffer" "count" "I", .methodLink RX0 25 yX0_isFull, .instanceMethod yX0_isFull, .selects RX0 yX0_isFull yX0_isFull, .initialized RX0, .code yX0_isFull cX0_isFull 1 (some .boolean), .methodLink RX0 29 yX0_change, .instanceMethod yX0_change, .selects RX0 yX0_change yX0_change, .code yX0_change cX0_change 4 none, .fieldLink RX0 15 "WornFlash$Buffer" "values" "[I", .fieldLink RX0 18 "WornFlash$Buffer" "kinds" "[I"] ++ wsX00)
def wsX0_dropFirst : List Cond := .code yX0_dropFirst cX0_dropFirst 2 none :: ([.fieldLink RX0 21 "WornFlash$Buffer" "count" "I", .fieldLink RX0 11 "WornFlash$Buffer" "sectors" "[I", .fieldLink RX0 15 "WornFlash$Buffer" "values" "[I", .fieldLink RX0 18 "WornFlash$Buffer" "kinds" "[I"] ++ wsX00)
def wsX1_init : List Cond := .code yX1_init cX1_init 3 none :: ([.methodLink RX1 3 objectInit, .instanceMethod objectInit, .code objectInit ⟨#[0xb1]⟩ 1 none, .fieldLink RX1 9 "WornFlash$Flash" "blocks" "I", .arrayClass .int, .fieldLink RX1 15 "WornFlash$Flash" "owners" "[I", .fieldLink RX1 19 "WornFlash$Flash" "values" "[I", .fieldLink RX1 22 "WornFlash$Flash" "kinds" "[I", .fieldLink RX1 25 "WornFlash$Flash" "serials" "[I", .fieldLink RX1 28 "WornFlash$Flash" "programmed" "[I", .fieldLink RX1 31 "WornFlash$Flash" "wear" "[I", .fieldLink RX1 34 "WornFlash$Flash" "newestPlace" "[I"] ++ wsX10)
def wsX1_isBlock : List Cond := .code yX1_isBlock cX1_isBlock 2 (some .boolean) :: ([.fieldLink RX1 9 "WornFlash$Flash" "blocks" "I"] ++ wsX10)
def wsX1_isProgrammed : List Cond := .code yX1_isProgrammed cX1_isProgrammed 2 (some .boolean) :: ([.fieldLink RX1 22 "WornFlash$Flash" "kinds" "[I"] ++ wsX10)
def wsX1_isValid : List Cond := .code yX1_isValid cX1_isValid 2 (some .boolean) :: ([.fieldLink RX1 22 "WornFlash$Flash" "kinds" "[I", .fieldLink RX1 34 "WornFlash$Flash" "newestPlace" "[I", .fieldLink RX1 15 "WornFlash$Flash" "owners" "[I"] ++ wsX10)
def wsX1_hasRoom : List Cond := .code yX1_hasRoom cX1_hasRoom 2 (some .boolean) :: ([.fieldLink RX1 9 "WornFlash$Flash" "blocks" "I", .fieldLink RX1 28 "WornFlash$Flash" "programmed" "[I"] ++ wsX10)
def wsX1_countValid : List Cond := .code yX1_countValid cX1_countValid 4 (some .int) :: ([.methodLink RX1 37 yX1_isValid, .instanceMethod yX1_isValid, .selects RX1 yX1_isValid yX1_isValid, .initialized RX1, .code yX1_isValid cX1_isValid 2 (some .boolean), .fieldLink RX1 22 "WornFlash$Flash" "kinds" "[I", .fieldLink RX1 34 "WornFlash$Flash" "newestPlace" "[I", .fieldLink RX1 15 "WornFlash$Flash" "owners" "[I"] ++ wsX10)
def wsX1_countFree : List Cond := .code yX1_countFree cX1_countFree 3 (some .int) :: ([.fieldLink RX1 9 "WornFlash$Flash" "blocks" "I", .fieldLink RX1 28 "WornFlash$Flash" "programmed" "[I"] ++ wsX10)
def wsX1_leastWornFree : List Cond := .code yX1_leastWornFree cX1_leastWornFree 3 (some .int) :: ([.fieldLink RX1 9 "WornFlash$Flash" "blocks" "I", .fieldLink RX1 28 "WornFlash$Flash" "programmed" "[I", .fieldLink RX1 31 "WornFlash$Flash" "wear" "[I"] ++ wsX10)
def wsX1_partlyProgrammed : List Cond := .code yX1_partlyProgrammed cX1_partlyProgrammed 2 (some .int) :: ([.fieldLink RX1 9 "WornFlash$Flash" "blocks" "I", .fieldLink RX1 28 "WornFlash$Flash" "programmed" "[I"] ++ wsX10)
def wsX1_wearGap : List Cond := .code yX1_wearGap cX1_wearGap 4 (some .int) :: ([.fieldLink RX1 31 "WornFlash$Flash" "wear" "[I", .fieldLink RX1 9 "WornFlash$Flash" "blocks" "I", .methodLink RX1 41 Lib.Math.min.name, .static Lib.Math.min.name, .initialized "java/lang/Math", .code Lib.Math.min.name Lib.Math.min.code 2 (some .int), .methodLink RX1 47 Lib.Math.max.name, .static Lib.Math.max.name, .code Lib.Math.max.name Lib.Math.max.code 2 (some .int)] ++ wsX10)
def wsX1_victim : List Cond := .code yX1_victim cX1_victim 8 (some .int) :: ([.fieldLink RX1 9 "WornFlash$Flash" "blocks" "I", .fieldLink RX1 28 "WornFlash$Flash" "programmed" "[I", .fieldLink RX1 31 "WornFlash$Flash" "wear" "[I", .methodLink RX1 50 yX1_countValid, .instanceMethod yX1_countValid, .selects RX1 yX1_countValid yX1_countValid, .initialized RX1, .code yX1_countValid cX1_countValid 4 (some .int), .methodLink RX1 37 yX1_isValid, .instanceMethod yX1_isValid, .selects RX1 yX1_isValid yX1_isValid, .code yX1_isValid cX1_isValid 2 (some .boolean), .fieldLink RX1 22 "WornFlash$Flash" "kinds" "[I", .fieldLink RX1 34 "WornFlash$Flash" "newestPlace" "[I", .fieldLink RX1 15 "WornFlash$Flash" "owners" "[I"] ++ wsX10)
def wsX1_greatestSerial : List Cond := .code yX1_greatestSerial cX1_greatestSerial 3 (some .int) :: ([.fieldLink RX1 25 "WornFlash$Flash" "serials" "[I", .fieldLink RX1 22 "WornFlash$Flash" "kinds" "[I", .methodLink RX1 47 Lib.Math.max.name, .static Lib.Math.max.name, .initialized "java/lang/Math", .code Lib.Math.max.name Lib.Math.max.code 2 (some .int)] ++ wsX10)
def wsX1_beginOperation : List Cond := .code yX1_beginOperation cX1_beginOperation 2 (some .boolean) :: ([.fieldLink RX1 64 "WornFlash$Flash" "fuseLeft" "I", .fieldLink RX1 67 "WornFlash$Flash" "operationsDone" "I"] ++ wsX10)
def wsX1_program : List Cond := .code yX1_program cX1_program 6 (some .boolean) :: ([.fieldLink RX1 28 "WornFlash$Flash" "programmed" "[I", .fieldLink RX1 15 "WornFlash$Flash" "owners" "[I", .fieldLink RX1 19 "WornFlash$Flash" "values" "[I", .fieldLink RX1 22 "WornFlash$Flash" "kinds" "[I", .fieldLink RX1 25 "WornFlash$Flash" "serials" "[I", .fieldLink RX1 61 "WornFlash$Flash" "nextSerial" "I", .fieldLink RX1 34 "WornFlash$Flash" "newestPlace" "[I", .methodLink RX1 54 yX1_hasRoom, .instanceMethod yX1_hasRoom, .selects RX1 yX1_hasRoom yX1_hasRoom, .initialized RX1, .code yX1_hasRoom cX1_hasRoom 2 (some .boolean), .fieldLink RX1 9 "WornFlash$Flash" "blocks" "I", .methodLink RX1 57 yX1_beginOperation, .instanceMethod yX1_beginOperation, .selects RX1 yX1_beginOperation yX1_beginOperation, .code yX1_beginOperation cX1_beginOperation 2 (some .boolean), .fieldLink RX1 64 "WornFlash$Flash" "fuseLeft" "I", .fieldLink RX1 67 "WornFlash$Flash" "operationsDone" "I"] ++ wsX10)
def wsX1_erase : List Cond := .code yX1_erase cX1_erase 3 (some .boolean) :: ([.fieldLink RX1 22 "WornFlash$Flash" "kinds" "[I", .fieldLink RX1 28 "WornFlash$Flash" "programmed" "[I", .fieldLink RX1 31 "WornFlash$Flash" "wear" "[I", .methodLink RX1 57 yX1_beginOperation, .instanceMethod yX1_beginOperation, .selects RX1 yX1_beginOperation yX1_beginOperation, .initialized RX1, .code yX1_beginOperation cX1_beginOperation 2 (some .boolean), .fieldLink RX1 64 "WornFlash$Flash" "fuseLeft" "I", .fieldLink RX1 67 "WornFlash$Flash" "operationsDone" "I"] ++ wsX10)
def wsX2_init_r1 : List Cond := [Cond.methodLink RX2 1 objectInit, Cond.instanceMethod objectInit, Cond.code objectInit ⟨#[0xb1]⟩ 1 none, Cond.classLink RX2 9 RX1, Cond.instantiable RX1 11, Cond.initialized RX1, Cond.fieldLink RX2 14 "WornFlash" "flash" "LWornFlash$Flash;", Cond.classLink RX2 18 RX0, Cond.instantiable RX0 4, Cond.initialized RX0, Cond.fieldLink RX2 21 "WornFlash" "buffer" "LWornFlash$Buffer;", Cond.fieldLink RX2 25 "WornFlash" "spread" "I", Cond.fieldLink RX2 29 "WornFlash" "openBlock" "I", Cond.methodLink RX2 11 yX1_init, Cond.instanceMethod yX1_init, Cond.code yX1_init cX1_init 3 none, Cond.methodLink RX1 3 objectInit, Cond.fieldLink RX1 9 "WornFlash$Flash" "blocks" "I", Cond.arrayClass .int, Cond.fieldLink RX1 15 "WornFlash$Flash" "owners" "[I", Cond.fieldLink RX1 19 "WornFlash$Flash" "values" "[I", Cond.fieldLink RX1 22 "WornFlash$Flash" "kinds" "[I", Cond.fieldLink RX1 25 "WornFlash$Flash" "serials" "[I", Cond.fieldLink RX1 28 "WornFlash$Flash" "programmed" "[I"]
def wsX2_init_r2 : List Cond := [Cond.fieldLink RX1 31 "WornFlash$Flash" "wear" "[I", Cond.fieldLink RX1 34 "WornFlash$Flash" "newestPlace" "[I", Cond.instanceMethod yX0_init, Cond.code yX0_init cX0_init 1 none, Cond.methodLink RX0 3 objectInit, Cond.fieldLink RX0 11 "WornFlash$Buffer" "sectors" "[I", Cond.fieldLink RX0 15 "WornFlash$Buffer" "values" "[I", Cond.fieldLink RX0 18 "WornFlash$Buffer" "kinds" "[I"]
def wsX2_init : List Cond := .code yX2_init cX2_init 5 none :: ((wsX2_init_r1 ++ wsX2_init_r2) ++ wsX10 ++ wsX20 ++ wsX00)
def wsX2_sectors : List Cond := .code yX2_sectors cX2_sectors 1 (some .int) :: ([.fieldLink RX2 14 "WornFlash" "flash" "LWornFlash$Flash;"] ++ wsX20 ++ wsX10)
def wsX2_isSector : List Cond := .code yX2_isSector cX2_isSector 2 (some .boolean) :: ([.fieldLink RX2 14 "WornFlash" "flash" "LWornFlash$Flash;"] ++ wsX20 ++ wsX10)
def wsX2_collect_r1 : List Cond := [Cond.fieldLink RX2 14 "WornFlash" "flash" "LWornFlash$Flash;", Cond.fieldLink RX2 29 "WornFlash" "openBlock" "I", Cond.methodLink RX2 136 yX1_isValid, Cond.instanceMethod yX1_isValid, Cond.selects RX1 yX1_isValid yX1_isValid, Cond.initialized RX1, Cond.code yX1_isValid cX1_isValid 2 (some .boolean), Cond.fieldLink RX1 22 "WornFlash$Flash" "kinds" "[I", Cond.fieldLink RX1 34 "WornFlash$Flash" "newestPlace" "[I", Cond.fieldLink RX1 15 "WornFlash$Flash" "owners" "[I", Cond.methodLink RX2 113 yX1_program, Cond.instanceMethod yX1_program, Cond.selects RX1 yX1_program yX1_program, Cond.code yX1_program cX1_program 6 (some .boolean), Cond.fieldLink RX1 28 "WornFlash$Flash" "programmed" "[I", Cond.fieldLink RX1 19 "WornFlash$Flash" "values" "[I", Cond.fieldLink RX1 25 "WornFlash$Flash" "serials" "[I", Cond.fieldLink RX1 61 "WornFlash$Flash" "nextSerial" "I", Cond.methodLink RX1 54 yX1_hasRoom, Cond.instanceMethod yX1_hasRoom, Cond.selects RX1 yX1_hasRoom yX1_hasRoom, Cond.code yX1_hasRoom cX1_hasRoom 2 (some .boolean), Cond.fieldLink RX1 9 "WornFlash$Flash" "blocks" "I", Cond.methodLink RX1 57 yX1_beginOperation]
def wsX2_collect_r2 : List Cond := [Cond.instanceMethod yX1_beginOperation, Cond.selects RX1 yX1_beginOperation yX1_beginOperation, Cond.code yX1_beginOperation cX1_beginOperation 2 (some .boolean), Cond.fieldLink RX1 64 "WornFlash$Flash" "fuseLeft" "I", Cond.fieldLink RX1 67 "WornFlash$Flash" "operationsDone" "I", Cond.methodLink RX2 139 yX1_erase, Cond.instanceMethod yX1_erase, Cond.selects RX1 yX1_erase yX1_erase, Cond.code yX1_erase cX1_erase 3 (some .boolean), Cond.fieldLink RX1 31 "WornFlash$Flash" "wear" "[I"]
def wsX2_collect : List Cond := .code yX2_collect cX2_collect 4 (some .boolean) :: ((wsX2_collect_r1 ++ wsX2_collect_r2) ++ wsX20 ++ wsX10)
def wsX2_makeRoom_r1 : List Cond := [Cond.fieldLink RX2 14 "WornFlash" "flash" "LWornFlash$Flash;", Cond.fieldLink RX2 29 "WornFlash" "openBlock" "I", Cond.fieldLink RX2 25 "WornFlash" "spread" "I", Cond.methodLink RX2 120 yX1_hasRoom, Cond.instanceMethod yX1_hasRoom, Cond.selects RX1 yX1_hasRoom yX1_hasRoom, Cond.initialized RX1, Cond.code yX1_hasRoom cX1_hasRoom 2 (some .boolean), Cond.fieldLink RX1 9 "WornFlash$Flash" "blocks" "I", Cond.fieldLink RX1 28 "WornFlash$Flash" "programmed" "[I", Cond.methodLink RX2 90 yX1_countFree, Cond.instanceMethod yX1_countFree, Cond.selects RX1 yX1_countFree yX1_countFree, Cond.code yX1_countFree cX1_countFree 3 (some .int), Cond.methodLink RX2 123 yX1_leastWornFree, Cond.instanceMethod yX1_leastWornFree, Cond.selects RX1 yX1_leastWornFree yX1_leastWornFree, Cond.code yX1_leastWornFree cX1_leastWornFree 3 (some .int), Cond.fieldLink RX1 31 "WornFlash$Flash" "wear" "[I", Cond.methodLink RX2 126 yX1_wearGap, Cond.instanceMethod yX1_wearGap, Cond.selects RX1 yX1_wearGap yX1_wearGap, Cond.code yX1_wearGap cX1_wearGap 4 (some .int), Cond.methodLink RX1 41 Lib.Math.min.name]
def wsX2_makeRoom_r2 : List Cond := [Cond.static Lib.Math.min.name, Cond.initialized "java/lang/Math", Cond.code Lib.Math.min.name Lib.Math.min.code 2 (some .int), Cond.methodLink RX1 47 Lib.Math.max.name, Cond.static Lib.Math.max.name, Cond.code Lib.Math.max.name Lib.Math.max.code 2 (some .int), Cond.methodLink RX2 129 yX1_victim, Cond.instanceMethod yX1_victim, Cond.selects RX1 yX1_victim yX1_victim, Cond.code yX1_victim cX1_victim 8 (some .int), Cond.methodLink RX1 50 yX1_countValid, Cond.instanceMethod yX1_countValid, Cond.selects RX1 yX1_countValid yX1_countValid, Cond.code yX1_countValid cX1_countValid 4 (some .int), Cond.methodLink RX1 37 yX1_isValid, Cond.instanceMethod yX1_isValid, Cond.selects RX1 yX1_isValid yX1_isValid, Cond.code yX1_isValid cX1_isValid 2 (some .boolean), Cond.fieldLink RX1 22 "WornFlash$Flash" "kinds" "[I", Cond.fieldLink RX1 34 "WornFlash$Flash" "newestPlace" "[I", Cond.fieldLink RX1 15 "WornFlash$Flash" "owners" "[I", Cond.methodLink RX2 133 yX2_collect, Cond.instanceMethod yX2_collect, Cond.selects RX2 yX2_collect yX2_collect]
def wsX2_makeRoom_r3 : List Cond := [Cond.initialized RX2, Cond.code yX2_collect cX2_collect 4 (some .boolean), Cond.methodLink RX2 136 yX1_isValid, Cond.methodLink RX2 113 yX1_program, Cond.instanceMethod yX1_program, Cond.selects RX1 yX1_program yX1_program, Cond.code yX1_program cX1_program 6 (some .boolean), Cond.fieldLink RX1 19 "WornFlash$Flash" "values" "[I", Cond.fieldLink RX1 25 "WornFlash$Flash" "serials" "[I", Cond.fieldLink RX1 61 "WornFlash$Flash" "nextSerial" "I", Cond.methodLink RX1 54 yX1_hasRoom, Cond.methodLink RX1 57 yX1_beginOperation, Cond.instanceMethod yX1_beginOperation, Cond.selects RX1 yX1_beginOperation yX1_beginOperation, Cond.code yX1_beginOperation cX1_beginOperation 2 (some .boolean), Cond.fieldLink RX1 64 "WornFlash$Flash" "fuseLeft" "I", Cond.fieldLink RX1 67 "WornFlash$Flash" "operationsDone" "I", Cond.methodLink RX2 139 yX1_erase, Cond.instanceMethod yX1_erase, Cond.selects RX1 yX1_erase yX1_erase, Cond.code yX1_erase cX1_erase 3 (some .boolean)]
def wsX2_makeRoom : List Cond := .code yX2_makeRoom cX2_makeRoom 5 (some .boolean) :: ((wsX2_makeRoom_r1 ++ (wsX2_makeRoom_r2 ++ wsX2_makeRoom_r3)) ++ wsX20 ++ wsX10)
def wsX2_storeFirst_r1 : List Cond := [Cond.fieldLink RX2 14 "WornFlash" "flash" "LWornFlash$Flash;", Cond.fieldLink RX2 29 "WornFlash" "openBlock" "I", Cond.fieldLink RX2 21 "WornFlash" "buffer" "LWornFlash$Buffer;", Cond.methodLink RX2 107 yX2_makeRoom, Cond.instanceMethod yX2_makeRoom, Cond.selects RX2 yX2_makeRoom yX2_makeRoom, Cond.initialized RX2, Cond.code yX2_makeRoom cX2_makeRoom 5 (some .boolean), Cond.fieldLink RX2 25 "WornFlash" "spread" "I", Cond.methodLink RX2 120 yX1_hasRoom, Cond.instanceMethod yX1_hasRoom, Cond.selects RX1 yX1_hasRoom yX1_hasRoom, Cond.initialized RX1, Cond.code yX1_hasRoom cX1_hasRoom 2 (some .boolean), Cond.fieldLink RX1 9 "WornFlash$Flash" "blocks" "I", Cond.fieldLink RX1 28 "WornFlash$Flash" "programmed" "[I", Cond.methodLink RX2 90 yX1_countFree, Cond.instanceMethod yX1_countFree, Cond.selects RX1 yX1_countFree yX1_countFree, Cond.code yX1_countFree cX1_countFree 3 (some .int), Cond.methodLink RX2 123 yX1_leastWornFree, Cond.instanceMethod yX1_leastWornFree, Cond.selects RX1 yX1_leastWornFree yX1_leastWornFree, Cond.code yX1_leastWornFree cX1_leastWornFree 3 (some .int)]
def wsX2_storeFirst_r2 : List Cond := [Cond.fieldLink RX1 31 "WornFlash$Flash" "wear" "[I", Cond.methodLink RX2 126 yX1_wearGap, Cond.instanceMethod yX1_wearGap, Cond.selects RX1 yX1_wearGap yX1_wearGap, Cond.code yX1_wearGap cX1_wearGap 4 (some .int), Cond.methodLink RX1 41 Lib.Math.min.name, Cond.static Lib.Math.min.name, Cond.initialized "java/lang/Math", Cond.code Lib.Math.min.name Lib.Math.min.code 2 (some .int), Cond.methodLink RX1 47 Lib.Math.max.name, Cond.static Lib.Math.max.name, Cond.code Lib.Math.max.name Lib.Math.max.code 2 (some .int), Cond.methodLink RX2 129 yX1_victim, Cond.instanceMethod yX1_victim, Cond.selects RX1 yX1_victim yX1_victim, Cond.code yX1_victim cX1_victim 8 (some .int), Cond.methodLink RX1 50 yX1_countValid, Cond.instanceMethod yX1_countValid, Cond.selects RX1 yX1_countValid yX1_countValid, Cond.code yX1_countValid cX1_countValid 4 (some .int), Cond.methodLink RX1 37 yX1_isValid, Cond.instanceMethod yX1_isValid, Cond.selects RX1 yX1_isValid yX1_isValid, Cond.code yX1_isValid cX1_isValid 2 (some .boolean)]
def wsX2_storeFirst_r3 : List Cond := [Cond.fieldLink RX1 22 "WornFlash$Flash" "kinds" "[I", Cond.fieldLink RX1 34 "WornFlash$Flash" "newestPlace" "[I", Cond.fieldLink RX1 15 "WornFlash$Flash" "owners" "[I", Cond.methodLink RX2 133 yX2_collect, Cond.instanceMethod yX2_collect, Cond.selects RX2 yX2_collect yX2_collect, Cond.code yX2_collect cX2_collect 4 (some .boolean), Cond.methodLink RX2 136 yX1_isValid, Cond.methodLink RX2 113 yX1_program, Cond.instanceMethod yX1_program, Cond.selects RX1 yX1_program yX1_program, Cond.code yX1_program cX1_program 6 (some .boolean), Cond.fieldLink RX1 19 "WornFlash$Flash" "values" "[I", Cond.fieldLink RX1 25 "WornFlash$Flash" "serials" "[I", Cond.fieldLink RX1 61 "WornFlash$Flash" "nextSerial" "I", Cond.methodLink RX1 54 yX1_hasRoom, Cond.methodLink RX1 57 yX1_beginOperation, Cond.instanceMethod yX1_beginOperation, Cond.selects RX1 yX1_beginOperation yX1_beginOperation, Cond.code yX1_beginOperation cX1_beginOperation 2 (some .boolean), Cond.fieldLink RX1 64 "WornFlash$Flash" "fuseLeft" "I", Cond.fieldLink RX1 67 "WornFlash$Flash" "operationsDone" "I", Cond.methodLink RX2 139 yX1_erase, Cond.instanceMethod yX1_erase]
def wsX2_storeFirst_r4 : List Cond := [Cond.selects RX1 yX1_erase yX1_erase, Cond.code yX1_erase cX1_erase 3 (some .boolean), Cond.methodLink RX2 117 yX0_dropFirst, Cond.instanceMethod yX0_dropFirst, Cond.selects RX0 yX0_dropFirst yX0_dropFirst, Cond.initialized RX0, Cond.code yX0_dropFirst cX0_dropFirst 2 none, Cond.fieldLink RX0 21 "WornFlash$Buffer" "count" "I", Cond.fieldLink RX0 11 "WornFlash$Buffer" "sectors" "[I", Cond.fieldLink RX0 15 "WornFlash$Buffer" "values" "[I", Cond.fieldLink RX0 18 "WornFlash$Buffer" "kinds" "[I"]
def wsX2_storeFirst : List Cond := .code yX2_storeFirst cX2_storeFirst 1 (some .boolean) :: ((wsX2_storeFirst_r1 ++ (wsX2_storeFirst_r2 ++ (wsX2_storeFirst_r3 ++ wsX2_storeFirst_r4))) ++ wsX20 ++ wsX00 ++ wsX10)
def wsX2_startAgain_r1 : List Cond := [Cond.fieldLink RX2 21 "WornFlash" "buffer" "LWornFlash$Buffer;", Cond.fieldLink RX2 14 "WornFlash" "flash" "LWornFlash$Flash;", Cond.fieldLink RX2 29 "WornFlash" "openBlock" "I", Cond.methodLink RX2 145 yX1_partlyProgrammed, Cond.instanceMethod yX1_partlyProgrammed, Cond.selects RX1 yX1_partlyProgrammed yX1_partlyProgrammed, Cond.initialized RX1, Cond.code yX1_partlyProgrammed cX1_partlyProgrammed 2 (some .int), Cond.fieldLink RX1 9 "WornFlash$Flash" "blocks" "I", Cond.fieldLink RX1 28 "WornFlash$Flash" "programmed" "[I", Cond.methodLink RX2 148 yX1_greatestSerial, Cond.instanceMethod yX1_greatestSerial, Cond.selects RX1 yX1_greatestSerial yX1_greatestSerial, Cond.code yX1_greatestSerial cX1_greatestSerial 3 (some .int), Cond.fieldLink RX1 25 "WornFlash$Flash" "serials" "[I", Cond.fieldLink RX1 22 "WornFlash$Flash" "kinds" "[I", Cond.methodLink RX1 47 Lib.Math.max.name, Cond.static Lib.Math.max.name, Cond.initialized "java/lang/Math", Cond.code Lib.Math.max.name Lib.Math.max.code 2 (some .int), Cond.methodLink RX2 90 yX1_countFree, Cond.instanceMethod yX1_countFree, Cond.selects RX1 yX1_countFree yX1_countFree, Cond.code yX1_countFree cX1_countFree 3 (some .int)]
def wsX2_startAgain_r2 : List Cond := [Cond.methodLink RX2 129 yX1_victim, Cond.instanceMethod yX1_victim, Cond.selects RX1 yX1_victim yX1_victim, Cond.code yX1_victim cX1_victim 8 (some .int), Cond.fieldLink RX1 31 "WornFlash$Flash" "wear" "[I", Cond.methodLink RX1 50 yX1_countValid, Cond.instanceMethod yX1_countValid, Cond.selects RX1 yX1_countValid yX1_countValid, Cond.code yX1_countValid cX1_countValid 4 (some .int), Cond.methodLink RX1 37 yX1_isValid, Cond.instanceMethod yX1_isValid, Cond.selects RX1 yX1_isValid yX1_isValid, Cond.code yX1_isValid cX1_isValid 2 (some .boolean), Cond.fieldLink RX1 34 "WornFlash$Flash" "newestPlace" "[I", Cond.fieldLink RX1 15 "WornFlash$Flash" "owners" "[I", Cond.methodLink RX2 133 yX2_collect, Cond.instanceMethod yX2_collect, Cond.selects RX2 yX2_collect yX2_collect, Cond.initialized RX2, Cond.code yX2_collect cX2_collect 4 (some .boolean), Cond.methodLink RX2 136 yX1_isValid, Cond.methodLink RX2 113 yX1_program, Cond.instanceMethod yX1_program, Cond.selects RX1 yX1_program yX1_program]
def wsX2_startAgain_r3 : List Cond := [Cond.code yX1_program cX1_program 6 (some .boolean), Cond.fieldLink RX1 19 "WornFlash$Flash" "values" "[I", Cond.fieldLink RX1 61 "WornFlash$Flash" "nextSerial" "I", Cond.methodLink RX1 54 yX1_hasRoom, Cond.instanceMethod yX1_hasRoom, Cond.selects RX1 yX1_hasRoom yX1_hasRoom, Cond.code yX1_hasRoom cX1_hasRoom 2 (some .boolean), Cond.methodLink RX1 57 yX1_beginOperation, Cond.instanceMethod yX1_beginOperation, Cond.selects RX1 yX1_beginOperation yX1_beginOperation, Cond.code yX1_beginOperation cX1_beginOperation 2 (some .boolean), Cond.fieldLink RX1 64 "WornFlash$Flash" "fuseLeft" "I", Cond.fieldLink RX1 67 "WornFlash$Flash" "operationsDone" "I", Cond.methodLink RX2 139 yX1_erase, Cond.instanceMethod yX1_erase, Cond.selects RX1 yX1_erase yX1_erase, Cond.code yX1_erase cX1_erase 3 (some .boolean)]
def wsX2_startAgain : List Cond := .code yX2_startAgain cX2_startAgain 1 (some .boolean) :: ((wsX2_startAgain_r1 ++ (wsX2_startAgain_r2 ++ wsX2_startAgain_r3)) ++ wsX20 ++ wsX00 ++ wsX10)
def wsX2_losePower_r1 : List Cond := [Cond.methodLink RX2 142 yX2_startAgain, Cond.instanceMethod yX2_startAgain, Cond.selects RX2 yX2_startAgain yX2_startAgain, Cond.initialized RX2, Cond.code yX2_startAgain cX2_startAgain 1 (some .boolean), Cond.fieldLink RX2 21 "WornFlash" "buffer" "LWornFlash$Buffer;", Cond.fieldLink RX2 14 "WornFlash" "flash" "LWornFlash$Flash;", Cond.fieldLink RX2 29 "WornFlash" "openBlock" "I", Cond.methodLink RX2 145 yX1_partlyProgrammed, Cond.instanceMethod yX1_partlyProgrammed, Cond.selects RX1 yX1_partlyProgrammed yX1_partlyProgrammed, Cond.initialized RX1, Cond.code yX1_partlyProgrammed cX1_partlyProgrammed 2 (some .int), Cond.fieldLink RX1 9 "WornFlash$Flash" "blocks" "I", Cond.fieldLink RX1 28 "WornFlash$Flash" "programmed" "[I", Cond.methodLink RX2 148 yX1_greatestSerial, Cond.instanceMethod yX1_greatestSerial, Cond.selects RX1 yX1_greatestSerial yX1_greatestSerial, Cond.code yX1_greatestSerial cX1_greatestSerial 3 (some .int), Cond.fieldLink RX1 25 "WornFlash$Flash" "serials" "[I", Cond.fieldLink RX1 22 "WornFlash$Flash" "kinds" "[I", Cond.methodLink RX1 47 Lib.Math.max.name, Cond.static Lib.Math.max.name, Cond.initialized "java/lang/Math"]
def wsX2_losePower_r2 : List Cond := [Cond.code Lib.Math.max.name Lib.Math.max.code 2 (some .int), Cond.methodLink RX2 90 yX1_countFree, Cond.instanceMethod yX1_countFree, Cond.selects RX1 yX1_countFree yX1_countFree, Cond.code yX1_countFree cX1_countFree 3 (some .int), Cond.methodLink RX2 129 yX1_victim, Cond.instanceMethod yX1_victim, Cond.selects RX1 yX1_victim yX1_victim, Cond.code yX1_victim cX1_victim 8 (some .int), Cond.fieldLink RX1 31 "WornFlash$Flash" "wear" "[I", Cond.methodLink RX1 50 yX1_countValid, Cond.instanceMethod yX1_countValid, Cond.selects RX1 yX1_countValid yX1_countValid, Cond.code yX1_countValid cX1_countValid 4 (some .int), Cond.methodLink RX1 37 yX1_isValid, Cond.instanceMethod yX1_isValid, Cond.selects RX1 yX1_isValid yX1_isValid, Cond.code yX1_isValid cX1_isValid 2 (some .boolean), Cond.fieldLink RX1 34 "WornFlash$Flash" "newestPlace" "[I", Cond.fieldLink RX1 15 "WornFlash$Flash" "owners" "[I", Cond.methodLink RX2 133 yX2_collect, Cond.instanceMethod yX2_collect, Cond.selects RX2 yX2_collect yX2_collect, Cond.code yX2_collect cX2_collect 4 (some .boolean)]
def wsX2_losePower_r3 : List Cond := [Cond.methodLink RX2 136 yX1_isValid, Cond.methodLink RX2 113 yX1_program, Cond.instanceMethod yX1_program, Cond.selects RX1 yX1_program yX1_program, Cond.code yX1_program cX1_program 6 (some .boolean), Cond.fieldLink RX1 19 "WornFlash$Flash" "values" "[I", Cond.fieldLink RX1 61 "WornFlash$Flash" "nextSerial" "I", Cond.methodLink RX1 54 yX1_hasRoom, Cond.instanceMethod yX1_hasRoom, Cond.selects RX1 yX1_hasRoom yX1_hasRoom, Cond.code yX1_hasRoom cX1_hasRoom 2 (some .boolean), Cond.methodLink RX1 57 yX1_beginOperation, Cond.instanceMethod yX1_beginOperation, Cond.selects RX1 yX1_beginOperation yX1_beginOperation, Cond.code yX1_beginOperation cX1_beginOperation 2 (some .boolean), Cond.fieldLink RX1 64 "WornFlash$Flash" "fuseLeft" "I", Cond.fieldLink RX1 67 "WornFlash$Flash" "operationsDone" "I", Cond.methodLink RX2 139 yX1_erase, Cond.instanceMethod yX1_erase, Cond.selects RX1 yX1_erase yX1_erase, Cond.code yX1_erase cX1_erase 3 (some .boolean)]
def wsX2_losePower : List Cond := .code yX2_losePower cX2_losePower 1 none :: ((wsX2_losePower_r1 ++ (wsX2_losePower_r2 ++ wsX2_losePower_r3)) ++ wsX20 ++ wsX00 ++ wsX10)
def wsX2_put_r1 : List Cond := [Cond.fieldLink RX2 21 "WornFlash" "buffer" "LWornFlash$Buffer;", Cond.methodLink RX2 68 yX2_isSector, Cond.instanceMethod yX2_isSector, Cond.selects RX2 yX2_isSector yX2_isSector, Cond.initialized RX2, Cond.code yX2_isSector cX2_isSector 2 (some .boolean), Cond.fieldLink RX2 14 "WornFlash" "flash" "LWornFlash$Flash;", Cond.methodLink RX2 53 yX0_find, Cond.instanceMethod yX0_find, Cond.selects RX0 yX0_find yX0_find, Cond.initialized RX0, Cond.code yX0_find cX0_find 3 (some .int), Cond.fieldLink RX0 21 "WornFlash$Buffer" "count" "I", Cond.fieldLink RX0 11 "WornFlash$Buffer" "sectors" "[I", Cond.methodLink RX2 97 yX0_change, Cond.instanceMethod yX0_change, Cond.selects RX0 yX0_change yX0_change, Cond.code yX0_change cX0_change 4 none, Cond.fieldLink RX0 15 "WornFlash$Buffer" "values" "[I", Cond.fieldLink RX0 18 "WornFlash$Buffer" "kinds" "[I", Cond.methodLink RX2 101 yX0_isFull, Cond.instanceMethod yX0_isFull, Cond.selects RX0 yX0_isFull yX0_isFull, Cond.code yX0_isFull cX0_isFull 1 (some .boolean)]
def wsX2_put_r2 : List Cond := [Cond.methodLink RX2 43 yX2_storeFirst, Cond.instanceMethod yX2_storeFirst, Cond.selects RX2 yX2_storeFirst yX2_storeFirst, Cond.code yX2_storeFirst cX2_storeFirst 1 (some .boolean), Cond.fieldLink RX2 29 "WornFlash" "openBlock" "I", Cond.methodLink RX2 107 yX2_makeRoom, Cond.instanceMethod yX2_makeRoom, Cond.selects RX2 yX2_makeRoom yX2_makeRoom, Cond.code yX2_makeRoom cX2_makeRoom 5 (some .boolean), Cond.fieldLink RX2 25 "WornFlash" "spread" "I", Cond.methodLink RX2 120 yX1_hasRoom, Cond.instanceMethod yX1_hasRoom, Cond.selects RX1 yX1_hasRoom yX1_hasRoom, Cond.initialized RX1, Cond.code yX1_hasRoom cX1_hasRoom 2 (some .boolean), Cond.fieldLink RX1 9 "WornFlash$Flash" "blocks" "I", Cond.fieldLink RX1 28 "WornFlash$Flash" "programmed" "[I", Cond.methodLink RX2 90 yX1_countFree, Cond.instanceMethod yX1_countFree, Cond.selects RX1 yX1_countFree yX1_countFree, Cond.code yX1_countFree cX1_countFree 3 (some .int), Cond.methodLink RX2 123 yX1_leastWornFree, Cond.instanceMethod yX1_leastWornFree, Cond.selects RX1 yX1_leastWornFree yX1_leastWornFree]
def wsX2_put_r3 : List Cond := [Cond.code yX1_leastWornFree cX1_leastWornFree 3 (some .int), Cond.fieldLink RX1 31 "WornFlash$Flash" "wear" "[I", Cond.methodLink RX2 126 yX1_wearGap, Cond.instanceMethod yX1_wearGap, Cond.selects RX1 yX1_wearGap yX1_wearGap, Cond.code yX1_wearGap cX1_wearGap 4 (some .int), Cond.methodLink RX1 41 Lib.Math.min.name, Cond.static Lib.Math.min.name, Cond.initialized "java/lang/Math", Cond.code Lib.Math.min.name Lib.Math.min.code 2 (some .int), Cond.methodLink RX1 47 Lib.Math.max.name, Cond.static Lib.Math.max.name, Cond.code Lib.Math.max.name Lib.Math.max.code 2 (some .int), Cond.methodLink RX2 129 yX1_victim, Cond.instanceMethod yX1_victim, Cond.selects RX1 yX1_victim yX1_victim, Cond.code yX1_victim cX1_victim 8 (some .int), Cond.methodLink RX1 50 yX1_countValid, Cond.instanceMethod yX1_countValid, Cond.selects RX1 yX1_countValid yX1_countValid, Cond.code yX1_countValid cX1_countValid 4 (some .int), Cond.methodLink RX1 37 yX1_isValid, Cond.instanceMethod yX1_isValid, Cond.selects RX1 yX1_isValid yX1_isValid]
def wsX2_put_r4 : List Cond := [Cond.code yX1_isValid cX1_isValid 2 (some .boolean), Cond.fieldLink RX1 22 "WornFlash$Flash" "kinds" "[I", Cond.fieldLink RX1 34 "WornFlash$Flash" "newestPlace" "[I", Cond.fieldLink RX1 15 "WornFlash$Flash" "owners" "[I", Cond.methodLink RX2 133 yX2_collect, Cond.instanceMethod yX2_collect, Cond.selects RX2 yX2_collect yX2_collect, Cond.code yX2_collect cX2_collect 4 (some .boolean), Cond.methodLink RX2 136 yX1_isValid, Cond.methodLink RX2 113 yX1_program, Cond.instanceMethod yX1_program, Cond.selects RX1 yX1_program yX1_program, Cond.code yX1_program cX1_program 6 (some .boolean), Cond.fieldLink RX1 19 "WornFlash$Flash" "values" "[I", Cond.fieldLink RX1 25 "WornFlash$Flash" "serials" "[I", Cond.fieldLink RX1 61 "WornFlash$Flash" "nextSerial" "I", Cond.methodLink RX1 54 yX1_hasRoom, Cond.methodLink RX1 57 yX1_beginOperation, Cond.instanceMethod yX1_beginOperation, Cond.selects RX1 yX1_beginOperation yX1_beginOperation, Cond.code yX1_beginOperation cX1_beginOperation 2 (some .boolean), Cond.fieldLink RX1 64 "WornFlash$Flash" "fuseLeft" "I", Cond.fieldLink RX1 67 "WornFlash$Flash" "operationsDone" "I", Cond.methodLink RX2 139 yX1_erase]
def wsX2_put_r5 : List Cond := [Cond.instanceMethod yX1_erase, Cond.selects RX1 yX1_erase yX1_erase, Cond.code yX1_erase cX1_erase 3 (some .boolean), Cond.methodLink RX2 117 yX0_dropFirst, Cond.instanceMethod yX0_dropFirst, Cond.selects RX0 yX0_dropFirst yX0_dropFirst, Cond.code yX0_dropFirst cX0_dropFirst 2 none, Cond.methodLink RX2 47 yX2_losePower, Cond.instanceMethod yX2_losePower, Cond.selects RX2 yX2_losePower yX2_losePower, Cond.code yX2_losePower cX2_losePower 1 none, Cond.methodLink RX2 142 yX2_startAgain, Cond.instanceMethod yX2_startAgain, Cond.selects RX2 yX2_startAgain yX2_startAgain, Cond.code yX2_startAgain cX2_startAgain 1 (some .boolean), Cond.methodLink RX2 145 yX1_partlyProgrammed, Cond.instanceMethod yX1_partlyProgrammed, Cond.selects RX1 yX1_partlyProgrammed yX1_partlyProgrammed, Cond.code yX1_partlyProgrammed cX1_partlyProgrammed 2 (some .int), Cond.methodLink RX2 148 yX1_greatestSerial, Cond.instanceMethod yX1_greatestSerial, Cond.selects RX1 yX1_greatestSerial yX1_greatestSerial, Cond.code yX1_greatestSerial cX1_greatestSerial 3 (some .int), Cond.methodLink RX2 104 yX0_add]
def wsX2_put_r6 : List Cond := [Cond.instanceMethod yX0_add, Cond.selects RX0 yX0_add yX0_add, Cond.code yX0_add cX0_add 4 none, Cond.methodLink RX0 25 yX0_isFull, Cond.methodLink RX0 29 yX0_change]
def wsX2_put : List Cond := .code yX2_put cX2_put 5 (some .int) :: ((wsX2_put_r1 ++ (wsX2_put_r2 ++ (wsX2_put_r3 ++ (wsX2_put_r4 ++ (wsX2_put_r5 ++ wsX2_put_r6))))) ++ wsX20 ++ wsX10 ++ wsX00)
def wsX2_write_r1 : List Cond := [Cond.methodLink RX2 36 yX2_put, Cond.instanceMethod yX2_put, Cond.selects RX2 yX2_put yX2_put, Cond.initialized RX2, Cond.code yX2_put cX2_put 5 (some .int), Cond.fieldLink RX2 21 "WornFlash" "buffer" "LWornFlash$Buffer;", Cond.methodLink RX2 68 yX2_isSector, Cond.instanceMethod yX2_isSector, Cond.selects RX2 yX2_isSector yX2_isSector, Cond.code yX2_isSector cX2_isSector 2 (some .boolean), Cond.fieldLink RX2 14 "WornFlash" "flash" "LWornFlash$Flash;", Cond.methodLink RX2 53 yX0_find, Cond.instanceMethod yX0_find, Cond.selects RX0 yX0_find yX0_find, Cond.initialized RX0, Cond.code yX0_find cX0_find 3 (some .int), Cond.fieldLink RX0 21 "WornFlash$Buffer" "count" "I", Cond.fieldLink RX0 11 "WornFlash$Buffer" "sectors" "[I", Cond.methodLink RX2 97 yX0_change, Cond.instanceMethod yX0_change, Cond.selects RX0 yX0_change yX0_change, Cond.code yX0_change cX0_change 4 none, Cond.fieldLink RX0 15 "WornFlash$Buffer" "values" "[I", Cond.fieldLink RX0 18 "WornFlash$Buffer" "kinds" "[I"]
def wsX2_write_r2 : List Cond := [Cond.methodLink RX2 101 yX0_isFull, Cond.instanceMethod yX0_isFull, Cond.selects RX0 yX0_isFull yX0_isFull, Cond.code yX0_isFull cX0_isFull 1 (some .boolean), Cond.methodLink RX2 43 yX2_storeFirst, Cond.instanceMethod yX2_storeFirst, Cond.selects RX2 yX2_storeFirst yX2_storeFirst, Cond.code yX2_storeFirst cX2_storeFirst 1 (some .boolean), Cond.fieldLink RX2 29 "WornFlash" "openBlock" "I", Cond.methodLink RX2 107 yX2_makeRoom, Cond.instanceMethod yX2_makeRoom, Cond.selects RX2 yX2_makeRoom yX2_makeRoom, Cond.code yX2_makeRoom cX2_makeRoom 5 (some .boolean), Cond.fieldLink RX2 25 "WornFlash" "spread" "I", Cond.methodLink RX2 120 yX1_hasRoom, Cond.instanceMethod yX1_hasRoom, Cond.selects RX1 yX1_hasRoom yX1_hasRoom, Cond.initialized RX1, Cond.code yX1_hasRoom cX1_hasRoom 2 (some .boolean), Cond.fieldLink RX1 9 "WornFlash$Flash" "blocks" "I", Cond.fieldLink RX1 28 "WornFlash$Flash" "programmed" "[I", Cond.methodLink RX2 90 yX1_countFree, Cond.instanceMethod yX1_countFree, Cond.selects RX1 yX1_countFree yX1_countFree]
def wsX2_write_r3 : List Cond := [Cond.code yX1_countFree cX1_countFree 3 (some .int), Cond.methodLink RX2 123 yX1_leastWornFree, Cond.instanceMethod yX1_leastWornFree, Cond.selects RX1 yX1_leastWornFree yX1_leastWornFree, Cond.code yX1_leastWornFree cX1_leastWornFree 3 (some .int), Cond.fieldLink RX1 31 "WornFlash$Flash" "wear" "[I", Cond.methodLink RX2 126 yX1_wearGap, Cond.instanceMethod yX1_wearGap, Cond.selects RX1 yX1_wearGap yX1_wearGap, Cond.code yX1_wearGap cX1_wearGap 4 (some .int), Cond.methodLink RX1 41 Lib.Math.min.name, Cond.static Lib.Math.min.name, Cond.initialized "java/lang/Math", Cond.code Lib.Math.min.name Lib.Math.min.code 2 (some .int), Cond.methodLink RX1 47 Lib.Math.max.name, Cond.static Lib.Math.max.name, Cond.code Lib.Math.max.name Lib.Math.max.code 2 (some .int), Cond.methodLink RX2 129 yX1_victim, Cond.instanceMethod yX1_victim, Cond.selects RX1 yX1_victim yX1_victim, Cond.code yX1_victim cX1_victim 8 (some .int), Cond.methodLink RX1 50 yX1_countValid, Cond.instanceMethod yX1_countValid, Cond.selects RX1 yX1_countValid yX1_countValid]
def wsX2_write_r4 : List Cond := [Cond.code yX1_countValid cX1_countValid 4 (some .int), Cond.methodLink RX1 37 yX1_isValid, Cond.instanceMethod yX1_isValid, Cond.selects RX1 yX1_isValid yX1_isValid, Cond.code yX1_isValid cX1_isValid 2 (some .boolean), Cond.fieldLink RX1 22 "WornFlash$Flash" "kinds" "[I", Cond.fieldLink RX1 34 "WornFlash$Flash" "newestPlace" "[I", Cond.fieldLink RX1 15 "WornFlash$Flash" "owners" "[I", Cond.methodLink RX2 133 yX2_collect, Cond.instanceMethod yX2_collect, Cond.selects RX2 yX2_collect yX2_collect, Cond.code yX2_collect cX2_collect 4 (some .boolean), Cond.methodLink RX2 136 yX1_isValid, Cond.methodLink RX2 113 yX1_program, Cond.instanceMethod yX1_program, Cond.selects RX1 yX1_program yX1_program, Cond.code yX1_program cX1_program 6 (some .boolean), Cond.fieldLink RX1 19 "WornFlash$Flash" "values" "[I", Cond.fieldLink RX1 25 "WornFlash$Flash" "serials" "[I", Cond.fieldLink RX1 61 "WornFlash$Flash" "nextSerial" "I", Cond.methodLink RX1 54 yX1_hasRoom, Cond.methodLink RX1 57 yX1_beginOperation, Cond.instanceMethod yX1_beginOperation, Cond.selects RX1 yX1_beginOperation yX1_beginOperation]
def wsX2_write_r5 : List Cond := [Cond.code yX1_beginOperation cX1_beginOperation 2 (some .boolean), Cond.fieldLink RX1 64 "WornFlash$Flash" "fuseLeft" "I", Cond.fieldLink RX1 67 "WornFlash$Flash" "operationsDone" "I", Cond.methodLink RX2 139 yX1_erase, Cond.instanceMethod yX1_erase, Cond.selects RX1 yX1_erase yX1_erase, Cond.code yX1_erase cX1_erase 3 (some .boolean), Cond.methodLink RX2 117 yX0_dropFirst, Cond.instanceMethod yX0_dropFirst, Cond.selects RX0 yX0_dropFirst yX0_dropFirst, Cond.code yX0_dropFirst cX0_dropFirst 2 none, Cond.methodLink RX2 47 yX2_losePower, Cond.instanceMethod yX2_losePower, Cond.selects RX2 yX2_losePower yX2_losePower, Cond.code yX2_losePower cX2_losePower 1 none, Cond.methodLink RX2 142 yX2_startAgain, Cond.instanceMethod yX2_startAgain, Cond.selects RX2 yX2_startAgain yX2_startAgain, Cond.code yX2_startAgain cX2_startAgain 1 (some .boolean), Cond.methodLink RX2 145 yX1_partlyProgrammed, Cond.instanceMethod yX1_partlyProgrammed, Cond.selects RX1 yX1_partlyProgrammed yX1_partlyProgrammed, Cond.code yX1_partlyProgrammed cX1_partlyProgrammed 2 (some .int), Cond.methodLink RX2 148 yX1_greatestSerial]
def wsX2_write_r6 : List Cond := [Cond.instanceMethod yX1_greatestSerial, Cond.selects RX1 yX1_greatestSerial yX1_greatestSerial, Cond.code yX1_greatestSerial cX1_greatestSerial 3 (some .int), Cond.methodLink RX2 104 yX0_add, Cond.instanceMethod yX0_add, Cond.selects RX0 yX0_add yX0_add, Cond.code yX0_add cX0_add 4 none, Cond.methodLink RX0 25 yX0_isFull, Cond.methodLink RX0 29 yX0_change]
def wsX2_write : List Cond := .code yX2_write cX2_write 3 (some .int) :: ((wsX2_write_r1 ++ (wsX2_write_r2 ++ (wsX2_write_r3 ++ (wsX2_write_r4 ++ (wsX2_write_r5 ++ wsX2_write_r6))))) ++ wsX20 ++ wsX10 ++ wsX00)
def wsX2_trim_r1 : List Cond := [Cond.methodLink RX2 36 yX2_put, Cond.instanceMethod yX2_put, Cond.selects RX2 yX2_put yX2_put, Cond.initialized RX2, Cond.code yX2_put cX2_put 5 (some .int), Cond.fieldLink RX2 21 "WornFlash" "buffer" "LWornFlash$Buffer;", Cond.methodLink RX2 68 yX2_isSector, Cond.instanceMethod yX2_isSector, Cond.selects RX2 yX2_isSector yX2_isSector, Cond.code yX2_isSector cX2_isSector 2 (some .boolean), Cond.fieldLink RX2 14 "WornFlash" "flash" "LWornFlash$Flash;", Cond.methodLink RX2 53 yX0_find, Cond.instanceMethod yX0_find, Cond.selects RX0 yX0_find yX0_find, Cond.initialized RX0, Cond.code yX0_find cX0_find 3 (some .int), Cond.fieldLink RX0 21 "WornFlash$Buffer" "count" "I", Cond.fieldLink RX0 11 "WornFlash$Buffer" "sectors" "[I", Cond.methodLink RX2 97 yX0_change, Cond.instanceMethod yX0_change, Cond.selects RX0 yX0_change yX0_change, Cond.code yX0_change cX0_change 4 none, Cond.fieldLink RX0 15 "WornFlash$Buffer" "values" "[I", Cond.fieldLink RX0 18 "WornFlash$Buffer" "kinds" "[I"]
def wsX2_trim_r2 : List Cond := [Cond.methodLink RX2 101 yX0_isFull, Cond.instanceMethod yX0_isFull, Cond.selects RX0 yX0_isFull yX0_isFull, Cond.code yX0_isFull cX0_isFull 1 (some .boolean), Cond.methodLink RX2 43 yX2_storeFirst, Cond.instanceMethod yX2_storeFirst, Cond.selects RX2 yX2_storeFirst yX2_storeFirst, Cond.code yX2_storeFirst cX2_storeFirst 1 (some .boolean), Cond.fieldLink RX2 29 "WornFlash" "openBlock" "I", Cond.methodLink RX2 107 yX2_makeRoom, Cond.instanceMethod yX2_makeRoom, Cond.selects RX2 yX2_makeRoom yX2_makeRoom, Cond.code yX2_makeRoom cX2_makeRoom 5 (some .boolean), Cond.fieldLink RX2 25 "WornFlash" "spread" "I", Cond.methodLink RX2 120 yX1_hasRoom, Cond.instanceMethod yX1_hasRoom, Cond.selects RX1 yX1_hasRoom yX1_hasRoom, Cond.initialized RX1, Cond.code yX1_hasRoom cX1_hasRoom 2 (some .boolean), Cond.fieldLink RX1 9 "WornFlash$Flash" "blocks" "I", Cond.fieldLink RX1 28 "WornFlash$Flash" "programmed" "[I", Cond.methodLink RX2 90 yX1_countFree, Cond.instanceMethod yX1_countFree, Cond.selects RX1 yX1_countFree yX1_countFree]
def wsX2_trim_r3 : List Cond := [Cond.code yX1_countFree cX1_countFree 3 (some .int), Cond.methodLink RX2 123 yX1_leastWornFree, Cond.instanceMethod yX1_leastWornFree, Cond.selects RX1 yX1_leastWornFree yX1_leastWornFree, Cond.code yX1_leastWornFree cX1_leastWornFree 3 (some .int), Cond.fieldLink RX1 31 "WornFlash$Flash" "wear" "[I", Cond.methodLink RX2 126 yX1_wearGap, Cond.instanceMethod yX1_wearGap, Cond.selects RX1 yX1_wearGap yX1_wearGap, Cond.code yX1_wearGap cX1_wearGap 4 (some .int), Cond.methodLink RX1 41 Lib.Math.min.name, Cond.static Lib.Math.min.name, Cond.initialized "java/lang/Math", Cond.code Lib.Math.min.name Lib.Math.min.code 2 (some .int), Cond.methodLink RX1 47 Lib.Math.max.name, Cond.static Lib.Math.max.name, Cond.code Lib.Math.max.name Lib.Math.max.code 2 (some .int), Cond.methodLink RX2 129 yX1_victim, Cond.instanceMethod yX1_victim, Cond.selects RX1 yX1_victim yX1_victim, Cond.code yX1_victim cX1_victim 8 (some .int), Cond.methodLink RX1 50 yX1_countValid, Cond.instanceMethod yX1_countValid, Cond.selects RX1 yX1_countValid yX1_countValid]
def wsX2_trim_r4 : List Cond := [Cond.code yX1_countValid cX1_countValid 4 (some .int), Cond.methodLink RX1 37 yX1_isValid, Cond.instanceMethod yX1_isValid, Cond.selects RX1 yX1_isValid yX1_isValid, Cond.code yX1_isValid cX1_isValid 2 (some .boolean), Cond.fieldLink RX1 22 "WornFlash$Flash" "kinds" "[I", Cond.fieldLink RX1 34 "WornFlash$Flash" "newestPlace" "[I", Cond.fieldLink RX1 15 "WornFlash$Flash" "owners" "[I", Cond.methodLink RX2 133 yX2_collect, Cond.instanceMethod yX2_collect, Cond.selects RX2 yX2_collect yX2_collect, Cond.code yX2_collect cX2_collect 4 (some .boolean), Cond.methodLink RX2 136 yX1_isValid, Cond.methodLink RX2 113 yX1_program, Cond.instanceMethod yX1_program, Cond.selects RX1 yX1_program yX1_program, Cond.code yX1_program cX1_program 6 (some .boolean), Cond.fieldLink RX1 19 "WornFlash$Flash" "values" "[I", Cond.fieldLink RX1 25 "WornFlash$Flash" "serials" "[I", Cond.fieldLink RX1 61 "WornFlash$Flash" "nextSerial" "I", Cond.methodLink RX1 54 yX1_hasRoom, Cond.methodLink RX1 57 yX1_beginOperation, Cond.instanceMethod yX1_beginOperation, Cond.selects RX1 yX1_beginOperation yX1_beginOperation]
def wsX2_trim_r5 : List Cond := [Cond.code yX1_beginOperation cX1_beginOperation 2 (some .boolean), Cond.fieldLink RX1 64 "WornFlash$Flash" "fuseLeft" "I", Cond.fieldLink RX1 67 "WornFlash$Flash" "operationsDone" "I", Cond.methodLink RX2 139 yX1_erase, Cond.instanceMethod yX1_erase, Cond.selects RX1 yX1_erase yX1_erase, Cond.code yX1_erase cX1_erase 3 (some .boolean), Cond.methodLink RX2 117 yX0_dropFirst, Cond.instanceMethod yX0_dropFirst, Cond.selects RX0 yX0_dropFirst yX0_dropFirst, Cond.code yX0_dropFirst cX0_dropFirst 2 none, Cond.methodLink RX2 47 yX2_losePower, Cond.instanceMethod yX2_losePower, Cond.selects RX2 yX2_losePower yX2_losePower, Cond.code yX2_losePower cX2_losePower 1 none, Cond.methodLink RX2 142 yX2_startAgain, Cond.instanceMethod yX2_startAgain, Cond.selects RX2 yX2_startAgain yX2_startAgain, Cond.code yX2_startAgain cX2_startAgain 1 (some .boolean), Cond.methodLink RX2 145 yX1_partlyProgrammed, Cond.instanceMethod yX1_partlyProgrammed, Cond.selects RX1 yX1_partlyProgrammed yX1_partlyProgrammed, Cond.code yX1_partlyProgrammed cX1_partlyProgrammed 2 (some .int), Cond.methodLink RX2 148 yX1_greatestSerial]
def wsX2_trim_r6 : List Cond := [Cond.instanceMethod yX1_greatestSerial, Cond.selects RX1 yX1_greatestSerial yX1_greatestSerial, Cond.code yX1_greatestSerial cX1_greatestSerial 3 (some .int), Cond.methodLink RX2 104 yX0_add, Cond.instanceMethod yX0_add, Cond.selects RX0 yX0_add yX0_add, Cond.code yX0_add cX0_add 4 none, Cond.methodLink RX0 25 yX0_isFull, Cond.methodLink RX0 29 yX0_change]
def wsX2_trim : List Cond := .code yX2_trim cX2_trim 2 (some .int) :: ((wsX2_trim_r1 ++ (wsX2_trim_r2 ++ (wsX2_trim_r3 ++ (wsX2_trim_r4 ++ (wsX2_trim_r5 ++ wsX2_trim_r6))))) ++ wsX20 ++ wsX10 ++ wsX00)
def wsX2_flush_r1 : List Cond := [Cond.fieldLink RX2 21 "WornFlash" "buffer" "LWornFlash$Buffer;", Cond.methodLink RX2 43 yX2_storeFirst, Cond.instanceMethod yX2_storeFirst, Cond.selects RX2 yX2_storeFirst yX2_storeFirst, Cond.initialized RX2, Cond.code yX2_storeFirst cX2_storeFirst 1 (some .boolean), Cond.fieldLink RX2 14 "WornFlash" "flash" "LWornFlash$Flash;", Cond.fieldLink RX2 29 "WornFlash" "openBlock" "I", Cond.methodLink RX2 107 yX2_makeRoom, Cond.instanceMethod yX2_makeRoom, Cond.selects RX2 yX2_makeRoom yX2_makeRoom, Cond.code yX2_makeRoom cX2_makeRoom 5 (some .boolean), Cond.fieldLink RX2 25 "WornFlash" "spread" "I", Cond.methodLink RX2 120 yX1_hasRoom, Cond.instanceMethod yX1_hasRoom, Cond.selects RX1 yX1_hasRoom yX1_hasRoom, Cond.initialized RX1, Cond.code yX1_hasRoom cX1_hasRoom 2 (some .boolean), Cond.fieldLink RX1 9 "WornFlash$Flash" "blocks" "I", Cond.fieldLink RX1 28 "WornFlash$Flash" "programmed" "[I", Cond.methodLink RX2 90 yX1_countFree, Cond.instanceMethod yX1_countFree, Cond.selects RX1 yX1_countFree yX1_countFree, Cond.code yX1_countFree cX1_countFree 3 (some .int)]
def wsX2_flush_r2 : List Cond := [Cond.methodLink RX2 123 yX1_leastWornFree, Cond.instanceMethod yX1_leastWornFree, Cond.selects RX1 yX1_leastWornFree yX1_leastWornFree, Cond.code yX1_leastWornFree cX1_leastWornFree 3 (some .int), Cond.fieldLink RX1 31 "WornFlash$Flash" "wear" "[I", Cond.methodLink RX2 126 yX1_wearGap, Cond.instanceMethod yX1_wearGap, Cond.selects RX1 yX1_wearGap yX1_wearGap, Cond.code yX1_wearGap cX1_wearGap 4 (some .int), Cond.methodLink RX1 41 Lib.Math.min.name, Cond.static Lib.Math.min.name, Cond.initialized "java/lang/Math", Cond.code Lib.Math.min.name Lib.Math.min.code 2 (some .int), Cond.methodLink RX1 47 Lib.Math.max.name, Cond.static Lib.Math.max.name, Cond.code Lib.Math.max.name Lib.Math.max.code 2 (some .int), Cond.methodLink RX2 129 yX1_victim, Cond.instanceMethod yX1_victim, Cond.selects RX1 yX1_victim yX1_victim, Cond.code yX1_victim cX1_victim 8 (some .int), Cond.methodLink RX1 50 yX1_countValid, Cond.instanceMethod yX1_countValid, Cond.selects RX1 yX1_countValid yX1_countValid, Cond.code yX1_countValid cX1_countValid 4 (some .int)]
def wsX2_flush_r3 : List Cond := [Cond.methodLink RX1 37 yX1_isValid, Cond.instanceMethod yX1_isValid, Cond.selects RX1 yX1_isValid yX1_isValid, Cond.code yX1_isValid cX1_isValid 2 (some .boolean), Cond.fieldLink RX1 22 "WornFlash$Flash" "kinds" "[I", Cond.fieldLink RX1 34 "WornFlash$Flash" "newestPlace" "[I", Cond.fieldLink RX1 15 "WornFlash$Flash" "owners" "[I", Cond.methodLink RX2 133 yX2_collect, Cond.instanceMethod yX2_collect, Cond.selects RX2 yX2_collect yX2_collect, Cond.code yX2_collect cX2_collect 4 (some .boolean), Cond.methodLink RX2 136 yX1_isValid, Cond.methodLink RX2 113 yX1_program, Cond.instanceMethod yX1_program, Cond.selects RX1 yX1_program yX1_program, Cond.code yX1_program cX1_program 6 (some .boolean), Cond.fieldLink RX1 19 "WornFlash$Flash" "values" "[I", Cond.fieldLink RX1 25 "WornFlash$Flash" "serials" "[I", Cond.fieldLink RX1 61 "WornFlash$Flash" "nextSerial" "I", Cond.methodLink RX1 54 yX1_hasRoom, Cond.methodLink RX1 57 yX1_beginOperation, Cond.instanceMethod yX1_beginOperation, Cond.selects RX1 yX1_beginOperation yX1_beginOperation, Cond.code yX1_beginOperation cX1_beginOperation 2 (some .boolean)]
def wsX2_flush_r4 : List Cond := [Cond.fieldLink RX1 64 "WornFlash$Flash" "fuseLeft" "I", Cond.fieldLink RX1 67 "WornFlash$Flash" "operationsDone" "I", Cond.methodLink RX2 139 yX1_erase, Cond.instanceMethod yX1_erase, Cond.selects RX1 yX1_erase yX1_erase, Cond.code yX1_erase cX1_erase 3 (some .boolean), Cond.methodLink RX2 117 yX0_dropFirst, Cond.instanceMethod yX0_dropFirst, Cond.selects RX0 yX0_dropFirst yX0_dropFirst, Cond.initialized RX0, Cond.code yX0_dropFirst cX0_dropFirst 2 none, Cond.fieldLink RX0 21 "WornFlash$Buffer" "count" "I", Cond.fieldLink RX0 11 "WornFlash$Buffer" "sectors" "[I", Cond.fieldLink RX0 15 "WornFlash$Buffer" "values" "[I", Cond.fieldLink RX0 18 "WornFlash$Buffer" "kinds" "[I", Cond.methodLink RX2 47 yX2_losePower, Cond.instanceMethod yX2_losePower, Cond.selects RX2 yX2_losePower yX2_losePower, Cond.code yX2_losePower cX2_losePower 1 none, Cond.methodLink RX2 142 yX2_startAgain, Cond.instanceMethod yX2_startAgain, Cond.selects RX2 yX2_startAgain yX2_startAgain, Cond.code yX2_startAgain cX2_startAgain 1 (some .boolean), Cond.methodLink RX2 145 yX1_partlyProgrammed]
def wsX2_flush_r5 : List Cond := [Cond.instanceMethod yX1_partlyProgrammed, Cond.selects RX1 yX1_partlyProgrammed yX1_partlyProgrammed, Cond.code yX1_partlyProgrammed cX1_partlyProgrammed 2 (some .int), Cond.methodLink RX2 148 yX1_greatestSerial, Cond.instanceMethod yX1_greatestSerial, Cond.selects RX1 yX1_greatestSerial yX1_greatestSerial, Cond.code yX1_greatestSerial cX1_greatestSerial 3 (some .int)]
def wsX2_flush : List Cond := .code yX2_flush cX2_flush 2 (some .int) :: ((wsX2_flush_r1 ++ (wsX2_flush_r2 ++ (wsX2_flush_r3 ++ (wsX2_flush_r4 ++ wsX2_flush_r5)))) ++ wsX20 ++ wsX00 ++ wsX10)
def wsX2_cut_r1 : List Cond := [Cond.methodLink RX2 47 yX2_losePower, Cond.instanceMethod yX2_losePower, Cond.selects RX2 yX2_losePower yX2_losePower, Cond.initialized RX2, Cond.code yX2_losePower cX2_losePower 1 none, Cond.methodLink RX2 142 yX2_startAgain, Cond.instanceMethod yX2_startAgain, Cond.selects RX2 yX2_startAgain yX2_startAgain, Cond.code yX2_startAgain cX2_startAgain 1 (some .boolean), Cond.fieldLink RX2 21 "WornFlash" "buffer" "LWornFlash$Buffer;", Cond.fieldLink RX2 14 "WornFlash" "flash" "LWornFlash$Flash;", Cond.fieldLink RX2 29 "WornFlash" "openBlock" "I", Cond.methodLink RX2 145 yX1_partlyProgrammed, Cond.instanceMethod yX1_partlyProgrammed, Cond.selects RX1 yX1_partlyProgrammed yX1_partlyProgrammed, Cond.initialized RX1, Cond.code yX1_partlyProgrammed cX1_partlyProgrammed 2 (some .int), Cond.fieldLink RX1 9 "WornFlash$Flash" "blocks" "I", Cond.fieldLink RX1 28 "WornFlash$Flash" "programmed" "[I", Cond.methodLink RX2 148 yX1_greatestSerial, Cond.instanceMethod yX1_greatestSerial, Cond.selects RX1 yX1_greatestSerial yX1_greatestSerial, Cond.code yX1_greatestSerial cX1_greatestSerial 3 (some .int), Cond.fieldLink RX1 25 "WornFlash$Flash" "serials" "[I"]
def wsX2_cut_r2 : List Cond := [Cond.fieldLink RX1 22 "WornFlash$Flash" "kinds" "[I", Cond.methodLink RX1 47 Lib.Math.max.name, Cond.static Lib.Math.max.name, Cond.initialized "java/lang/Math", Cond.code Lib.Math.max.name Lib.Math.max.code 2 (some .int), Cond.methodLink RX2 90 yX1_countFree, Cond.instanceMethod yX1_countFree, Cond.selects RX1 yX1_countFree yX1_countFree, Cond.code yX1_countFree cX1_countFree 3 (some .int), Cond.methodLink RX2 129 yX1_victim, Cond.instanceMethod yX1_victim, Cond.selects RX1 yX1_victim yX1_victim, Cond.code yX1_victim cX1_victim 8 (some .int), Cond.fieldLink RX1 31 "WornFlash$Flash" "wear" "[I", Cond.methodLink RX1 50 yX1_countValid, Cond.instanceMethod yX1_countValid, Cond.selects RX1 yX1_countValid yX1_countValid, Cond.code yX1_countValid cX1_countValid 4 (some .int), Cond.methodLink RX1 37 yX1_isValid, Cond.instanceMethod yX1_isValid, Cond.selects RX1 yX1_isValid yX1_isValid, Cond.code yX1_isValid cX1_isValid 2 (some .boolean), Cond.fieldLink RX1 34 "WornFlash$Flash" "newestPlace" "[I", Cond.fieldLink RX1 15 "WornFlash$Flash" "owners" "[I"]
def wsX2_cut_r3 : List Cond := [Cond.methodLink RX2 133 yX2_collect, Cond.instanceMethod yX2_collect, Cond.selects RX2 yX2_collect yX2_collect, Cond.code yX2_collect cX2_collect 4 (some .boolean), Cond.methodLink RX2 136 yX1_isValid, Cond.methodLink RX2 113 yX1_program, Cond.instanceMethod yX1_program, Cond.selects RX1 yX1_program yX1_program, Cond.code yX1_program cX1_program 6 (some .boolean), Cond.fieldLink RX1 19 "WornFlash$Flash" "values" "[I", Cond.fieldLink RX1 61 "WornFlash$Flash" "nextSerial" "I", Cond.methodLink RX1 54 yX1_hasRoom, Cond.instanceMethod yX1_hasRoom, Cond.selects RX1 yX1_hasRoom yX1_hasRoom, Cond.code yX1_hasRoom cX1_hasRoom 2 (some .boolean), Cond.methodLink RX1 57 yX1_beginOperation, Cond.instanceMethod yX1_beginOperation, Cond.selects RX1 yX1_beginOperation yX1_beginOperation, Cond.code yX1_beginOperation cX1_beginOperation 2 (some .boolean), Cond.fieldLink RX1 64 "WornFlash$Flash" "fuseLeft" "I", Cond.fieldLink RX1 67 "WornFlash$Flash" "operationsDone" "I", Cond.methodLink RX2 139 yX1_erase, Cond.instanceMethod yX1_erase, Cond.selects RX1 yX1_erase yX1_erase]
def wsX2_cut_r4 : List Cond := [Cond.code yX1_erase cX1_erase 3 (some .boolean)]
def wsX2_cut : List Cond := .code yX2_cut cX2_cut 1 none :: ((wsX2_cut_r1 ++ (wsX2_cut_r2 ++ (wsX2_cut_r3 ++ wsX2_cut_r4))) ++ wsX20 ++ wsX00 ++ wsX10)
def wsX2_fuse : List Cond := .code yX2_fuse cX2_fuse 2 (some .boolean) :: ([.fieldLink RX2 14 "WornFlash" "flash" "LWornFlash$Flash;"] ++ wsX20 ++ wsX10)
def wsX2_place : List Cond := .code yX2_place cX2_place 2 (some .int) :: ([.fieldLink RX2 14 "WornFlash" "flash" "LWornFlash$Flash;", .methodLink RX2 68 yX2_isSector, .instanceMethod yX2_isSector, .selects RX2 yX2_isSector yX2_isSector, .initialized RX2, .code yX2_isSector cX2_isSector 2 (some .boolean)] ++ wsX20 ++ wsX10)
def wsX2_read : List Cond := .code yX2_read cX2_read 4 (some .int) :: ([.fieldLink RX2 21 "WornFlash" "buffer" "LWornFlash$Buffer;", .fieldLink RX2 14 "WornFlash" "flash" "LWornFlash$Flash;", .methodLink RX2 53 yX0_find, .instanceMethod yX0_find, .selects RX0 yX0_find yX0_find, .initialized RX0, .code yX0_find cX0_find 3 (some .int), .fieldLink RX0 21 "WornFlash$Buffer" "count" "I", .fieldLink RX0 11 "WornFlash$Buffer" "sectors" "[I", .methodLink RX2 60 yX2_place, .instanceMethod yX2_place, .selects RX2 yX2_place yX2_place, .initialized RX2, .code yX2_place cX2_place 2 (some .int), .methodLink RX2 68 yX2_isSector, .instanceMethod yX2_isSector, .selects RX2 yX2_isSector yX2_isSector, .code yX2_isSector cX2_isSector 2 (some .boolean)] ++ wsX20 ++ wsX00 ++ wsX10)
def wsX2_holds : List Cond := .code yX2_holds cX2_holds 4 (some .int) :: ([.fieldLink RX2 21 "WornFlash" "buffer" "LWornFlash$Buffer;", .fieldLink RX2 14 "WornFlash" "flash" "LWornFlash$Flash;", .methodLink RX2 53 yX0_find, .instanceMethod yX0_find, .selects RX0 yX0_find yX0_find, .initialized RX0, .code yX0_find cX0_find 3 (some .int), .fieldLink RX0 21 "WornFlash$Buffer" "count" "I", .fieldLink RX0 11 "WornFlash$Buffer" "sectors" "[I", .methodLink RX2 60 yX2_place, .instanceMethod yX2_place, .selects RX2 yX2_place yX2_place, .initialized RX2, .code yX2_place cX2_place 2 (some .int), .methodLink RX2 68 yX2_isSector, .instanceMethod yX2_isSector, .selects RX2 yX2_isSector yX2_isSector, .code yX2_isSector cX2_isSector 2 (some .boolean)] ++ wsX20 ++ wsX00 ++ wsX10)
def wsX2_buffered : List Cond := .code yX2_buffered cX2_buffered 1 (some .int) :: ([.fieldLink RX2 21 "WornFlash" "buffer" "LWornFlash$Buffer;"] ++ wsX20 ++ wsX00)
def wsX2_tag : List Cond := .code yX2_tag cX2_tag 2 (some .int) :: ([.fieldLink RX2 14 "WornFlash" "flash" "LWornFlash$Flash;", .methodLink RX2 72 yX1_isProgrammed, .instanceMethod yX1_isProgrammed, .selects RX1 yX1_isProgrammed yX1_isProgrammed, .initialized RX1, .code yX1_isProgrammed cX1_isProgrammed 2 (some .boolean), .fieldLink RX1 22 "WornFlash$Flash" "kinds" "[I"] ++ wsX20 ++ wsX10)
def wsX2_serial : List Cond := .code yX2_serial cX2_serial 2 (some .int) :: ([.fieldLink RX2 14 "WornFlash" "flash" "LWornFlash$Flash;", .methodLink RX2 72 yX1_isProgrammed, .instanceMethod yX1_isProgrammed, .selects RX1 yX1_isProgrammed yX1_isProgrammed, .initialized RX1, .code yX1_isProgrammed cX1_isProgrammed 2 (some .boolean), .fieldLink RX1 22 "WornFlash$Flash" "kinds" "[I"] ++ wsX20 ++ wsX10)
def wsX2_valid : List Cond := .code yX2_valid cX2_valid 2 (some .int) :: ([.fieldLink RX2 14 "WornFlash" "flash" "LWornFlash$Flash;", .methodLink RX2 81 yX1_isBlock, .instanceMethod yX1_isBlock, .selects RX1 yX1_isBlock yX1_isBlock, .initialized RX1, .code yX1_isBlock cX1_isBlock 2 (some .boolean), .fieldLink RX1 9 "WornFlash$Flash" "blocks" "I", .methodLink RX2 84 yX1_countValid, .instanceMethod yX1_countValid, .selects RX1 yX1_countValid yX1_countValid, .code yX1_countValid cX1_countValid 4 (some .int), .methodLink RX1 37 yX1_isValid, .instanceMethod yX1_isValid, .selects RX1 yX1_isValid yX1_isValid, .code yX1_isValid cX1_isValid 2 (some .boolean), .fieldLink RX1 22 "WornFlash$Flash" "kinds" "[I", .fieldLink RX1 34 "WornFlash$Flash" "newestPlace" "[I", .fieldLink RX1 15 "WornFlash$Flash" "owners" "[I"] ++ wsX20 ++ wsX10)
def wsX2_erasures : List Cond := .code yX2_erasures cX2_erasures 2 (some .int) :: ([.fieldLink RX2 14 "WornFlash" "flash" "LWornFlash$Flash;", .methodLink RX2 81 yX1_isBlock, .instanceMethod yX1_isBlock, .selects RX1 yX1_isBlock yX1_isBlock, .initialized RX1, .code yX1_isBlock cX1_isBlock 2 (some .boolean), .fieldLink RX1 9 "WornFlash$Flash" "blocks" "I"] ++ wsX20 ++ wsX10)
def wsX2_open : List Cond := .code yX2_open cX2_open 1 (some .int) :: ([.fieldLink RX2 29 "WornFlash" "openBlock" "I"] ++ wsX20)
def wsX2_free : List Cond := .code yX2_free cX2_free 1 (some .int) :: ([.fieldLink RX2 14 "WornFlash" "flash" "LWornFlash$Flash;", .methodLink RX2 90 yX1_countFree, .instanceMethod yX1_countFree, .selects RX1 yX1_countFree yX1_countFree, .initialized RX1, .code yX1_countFree cX1_countFree 3 (some .int), .fieldLink RX1 9 "WornFlash$Flash" "blocks" "I", .fieldLink RX1 28 "WornFlash$Flash" "programmed" "[I"] ++ wsX20 ++ wsX10)
def wsX2_operations : List Cond := .code yX2_operations cX2_operations 1 (some .int) :: ([.fieldLink RX2 14 "WornFlash" "flash" "LWornFlash$Flash;"] ++ wsX20 ++ wsX10)
def wsX3_init : List Cond := .code yX3_init cX3_init 4 none :: ([.methodLink RX3 1 objectInit, .instanceMethod objectInit, .code objectInit ⟨#[0xb1]⟩ 1 none, .arrayClass .int, .fieldLink RX3 7 "WornFlashModel" "sectorOf" "[I", .fieldLink RX3 13 "WornFlashModel" "valueOf" "[I", .fieldLink RX3 16 "WornFlashModel" "serialOf" "[I", .fieldLink RX3 19 "WornFlashModel" "sortOf" "[I", .fieldLink RX3 22 "WornFlashModel" "erased" "[I", .fieldLink RX3 25 "WornFlashModel" "open" "I", .fieldLink RX3 29 "WornFlashModel" "entrySector" "[I", .fieldLink RX3 32 "WornFlashModel" "entryValue" "[I", .fieldLink RX3 35 "WornFlashModel" "entrySort" "[I", .fieldLink RX3 38 "WornFlashModel" "blocks" "I", .fieldLink RX3 41 "WornFlashModel" "spread" "I"] ++ wsX30)
def wsX3_sectors : List Cond := .code yX3_sectors cX3_sectors 1 (some .int) :: ([.fieldLink RX3 38 "WornFlashModel" "blocks" "I"] ++ wsX30)
def wsX3_isSector : List Cond := .code yX3_isSector cX3_isSector 2 (some .boolean) :: ([.methodLink RX3 44 yX3_sectors, .instanceMethod yX3_sectors, .selects RX3 yX3_sectors yX3_sectors, .initialized RX3, .code yX3_sectors cX3_sectors 1 (some .int), .fieldLink RX3 38 "WornFlashModel" "blocks" "I"] ++ wsX30)
def wsX3_isBlock : List Cond := .code yX3_isBlock cX3_isBlock 2 (some .boolean) :: ([.fieldLink RX3 38 "WornFlashModel" "blocks" "I"] ++ wsX30)
def wsX3_isPlace : List Cond := .code yX3_isPlace cX3_isPlace 2 (some .boolean) :: ([.fieldLink RX3 38 "WornFlashModel" "blocks" "I"] ++ wsX30)
def wsX3_programmed : List Cond := .code yX3_programmed cX3_programmed 4 (some .int) :: ([.fieldLink RX3 7 "WornFlashModel" "sectorOf" "[I"] ++ wsX30)
def wsX3_newest : List Cond := .code yX3_newest cX3_newest 4 (some .int) :: ([.fieldLink RX3 38 "WornFlashModel" "blocks" "I", .fieldLink RX3 7 "WornFlashModel" "sectorOf" "[I", .fieldLink RX3 16 "WornFlashModel" "serialOf" "[I"] ++ wsX30)
def wsX3_isValid : List Cond := .code yX3_isValid cX3_isValid 2 (some .boolean) :: ([.fieldLink RX3 7 "WornFlashModel" "sectorOf" "[I", .methodLink RX3 48 yX3_newest, .instanceMethod yX3_newest, .selects RX3 yX3_newest yX3_newest, .initialized RX3, .code yX3_newest cX3_newest 4 (some .int), .fieldLink RX3 38 "WornFlashModel" "blocks" "I", .fieldLink RX3 16 "WornFlashModel" "serialOf" "[I"] ++ wsX30)
def wsX3_validIn : List Cond := .code yX3_validIn cX3_validIn 4 (some .int) :: ([.methodLink RX3 52 yX3_isValid, .instanceMethod yX3_isValid, .selects RX3 yX3_isValid yX3_isValid, .initialized RX3, .code yX3_isValid cX3_isValid 2 (some .boolean), .fieldLink RX3 7 "WornFlashModel" "sectorOf" "[I", .methodLink RX3 48 yX3_newest, .instanceMethod yX3_newest, .selects RX3 yX3_newest yX3_newest, .code yX3_newest cX3_newest 4 (some .int), .fieldLink RX3 38 "WornFlashModel" "blocks" "I", .fieldLink RX3 16 "WornFlashModel" "serialOf" "[I"] ++ wsX30)
def wsX3_freeBlocks : List Cond := .code yX3_freeBlocks cX3_freeBlocks 3 (some .int) :: ([.fieldLink RX3 38 "WornFlashModel" "blocks" "I", .methodLink RX3 56 yX3_programmed, .instanceMethod yX3_programmed, .selects RX3 yX3_programmed yX3_programmed, .initialized RX3, .code yX3_programmed cX3_programmed 4 (some .int), .fieldLink RX3 7 "WornFlashModel" "sectorOf" "[I"] ++ wsX30)
def wsX3_pick : List Cond := .code yX3_pick cX3_pick 7 (some .int) :: ([.fieldLink RX3 38 "WornFlashModel" "blocks" "I", .fieldLink RX3 22 "WornFlashModel" "erased" "[I", .constant RX3 59 (100000), .methodLink RX3 60 yX3_validIn, .instanceMethod yX3_validIn, .selects RX3 yX3_validIn yX3_validIn, .initialized RX3, .code yX3_validIn cX3_validIn 4 (some .int), .methodLink RX3 52 yX3_isValid, .instanceMethod yX3_isValid, .selects RX3 yX3_isValid yX3_isValid, .code yX3_isValid cX3_isValid 2 (some .boolean), .fieldLink RX3 7 "WornFlashModel" "sectorOf" "[I", .methodLink RX3 48 yX3_newest, .instanceMethod yX3_newest, .selects RX3 yX3_newest yX3_newest, .code yX3_newest cX3_newest 4 (some .int), .fieldLink RX3 16 "WornFlashModel" "serialOf" "[I", .methodLink RX3 56 yX3_programmed, .instanceMethod yX3_programmed, .selects RX3 yX3_programmed yX3_programmed, .code yX3_programmed cX3_programmed 4 (some .int)] ++ wsX30)
def wsX3_uneven : List Cond := .code yX3_uneven cX3_uneven 4 (some .boolean) :: ([.fieldLink RX3 22 "WornFlashModel" "erased" "[I", .fieldLink RX3 38 "WornFlashModel" "blocks" "I", .fieldLink RX3 41 "WornFlashModel" "spread" "I"] ++ wsX30)
def wsX3_operates : List Cond := .code yX3_operates cX3_operates 1 (some .boolean) :: ([.fieldLink RX3 63 "WornFlashModel" "fuse" "I", .fieldLink RX3 66 "WornFlashModel" "gone" "Z", .fieldLink RX3 70 "WornFlashModel" "operations" "I"] ++ wsX30)
def wsX3_put : List Cond := .code yX3_put cX3_put 5 (some .boolean) :: ([.fieldLink RX3 25 "WornFlashModel" "open" "I", .fieldLink RX3 7 "WornFlashModel" "sectorOf" "[I", .fieldLink RX3 13 "WornFlashModel" "valueOf" "[I", .fieldLink RX3 19 "WornFlashModel" "sortOf" "[I", .fieldLink RX3 16 "WornFlashModel" "serialOf" "[I", .fieldLink RX3 77 "WornFlashModel" "nextSerial" "I", .methodLink RX3 73 yX3_operates, .instanceMethod yX3_operates, .selects RX3 yX3_operates yX3_operates, .initialized RX3, .code yX3_operates cX3_operates 1 (some .boolean), .fieldLink RX3 63 "WornFlashModel" "fuse" "I", .fieldLink RX3 66 "WornFlashModel" "gone" "Z", .fieldLink RX3 70 "WornFlashModel" "operations" "I"] ++ wsX30)
def wsX3_collect_r1 : List Cond := [Cond.fieldLink RX3 7 "WornFlashModel" "sectorOf" "[I", Cond.fieldLink RX3 13 "WornFlashModel" "valueOf" "[I", Cond.fieldLink RX3 19 "WornFlashModel" "sortOf" "[I", Cond.fieldLink RX3 22 "WornFlashModel" "erased" "[I", Cond.methodLink RX3 52 yX3_isValid, Cond.instanceMethod yX3_isValid, Cond.selects RX3 yX3_isValid yX3_isValid, Cond.initialized RX3, Cond.code yX3_isValid cX3_isValid 2 (some .boolean), Cond.methodLink RX3 48 yX3_newest, Cond.instanceMethod yX3_newest, Cond.selects RX3 yX3_newest yX3_newest, Cond.code yX3_newest cX3_newest 4 (some .int), Cond.fieldLink RX3 38 "WornFlashModel" "blocks" "I", Cond.fieldLink RX3 16 "WornFlashModel" "serialOf" "[I", Cond.methodLink RX3 80 yX3_put, Cond.instanceMethod yX3_put, Cond.selects RX3 yX3_put yX3_put, Cond.code yX3_put cX3_put 5 (some .boolean), Cond.fieldLink RX3 25 "WornFlashModel" "open" "I", Cond.fieldLink RX3 77 "WornFlashModel" "nextSerial" "I", Cond.methodLink RX3 73 yX3_operates, Cond.instanceMethod yX3_operates, Cond.selects RX3 yX3_operates yX3_operates]
def wsX3_collect_r2 : List Cond := [Cond.code yX3_operates cX3_operates 1 (some .boolean), Cond.fieldLink RX3 63 "WornFlashModel" "fuse" "I", Cond.fieldLink RX3 66 "WornFlashModel" "gone" "Z", Cond.fieldLink RX3 70 "WornFlashModel" "operations" "I"]
def wsX3_collect : List Cond := .code yX3_collect cX3_collect 3 (some .boolean) :: ((wsX3_collect_r1 ++ wsX3_collect_r2) ++ wsX30)
def wsX3_room_r1 : List Cond := [Cond.fieldLink RX3 25 "WornFlashModel" "open" "I", Cond.methodLink RX3 56 yX3_programmed, Cond.instanceMethod yX3_programmed, Cond.selects RX3 yX3_programmed yX3_programmed, Cond.initialized RX3, Cond.code yX3_programmed cX3_programmed 4 (some .int), Cond.fieldLink RX3 7 "WornFlashModel" "sectorOf" "[I", Cond.methodLink RX3 84 yX3_freeBlocks, Cond.instanceMethod yX3_freeBlocks, Cond.selects RX3 yX3_freeBlocks yX3_freeBlocks, Cond.code yX3_freeBlocks cX3_freeBlocks 3 (some .int), Cond.fieldLink RX3 38 "WornFlashModel" "blocks" "I", Cond.methodLink RX3 87 yX3_pick, Cond.instanceMethod yX3_pick, Cond.selects RX3 yX3_pick yX3_pick, Cond.code yX3_pick cX3_pick 7 (some .int), Cond.fieldLink RX3 22 "WornFlashModel" "erased" "[I", Cond.constant RX3 59 (100000), Cond.methodLink RX3 60 yX3_validIn, Cond.instanceMethod yX3_validIn, Cond.selects RX3 yX3_validIn yX3_validIn, Cond.code yX3_validIn cX3_validIn 4 (some .int), Cond.methodLink RX3 52 yX3_isValid, Cond.instanceMethod yX3_isValid]
def wsX3_room_r2 : List Cond := [Cond.selects RX3 yX3_isValid yX3_isValid, Cond.code yX3_isValid cX3_isValid 2 (some .boolean), Cond.methodLink RX3 48 yX3_newest, Cond.instanceMethod yX3_newest, Cond.selects RX3 yX3_newest yX3_newest, Cond.code yX3_newest cX3_newest 4 (some .int), Cond.fieldLink RX3 16 "WornFlashModel" "serialOf" "[I", Cond.methodLink RX3 91 yX3_uneven, Cond.instanceMethod yX3_uneven, Cond.selects RX3 yX3_uneven yX3_uneven, Cond.code yX3_uneven cX3_uneven 4 (some .boolean), Cond.fieldLink RX3 41 "WornFlashModel" "spread" "I", Cond.methodLink RX3 94 yX3_collect, Cond.instanceMethod yX3_collect, Cond.selects RX3 yX3_collect yX3_collect, Cond.code yX3_collect cX3_collect 3 (some .boolean), Cond.fieldLink RX3 13 "WornFlashModel" "valueOf" "[I", Cond.fieldLink RX3 19 "WornFlashModel" "sortOf" "[I", Cond.methodLink RX3 80 yX3_put, Cond.instanceMethod yX3_put, Cond.selects RX3 yX3_put yX3_put, Cond.code yX3_put cX3_put 5 (some .boolean), Cond.fieldLink RX3 77 "WornFlashModel" "nextSerial" "I", Cond.methodLink RX3 73 yX3_operates]
def wsX3_room_r3 : List Cond := [Cond.instanceMethod yX3_operates, Cond.selects RX3 yX3_operates yX3_operates, Cond.code yX3_operates cX3_operates 1 (some .boolean), Cond.fieldLink RX3 63 "WornFlashModel" "fuse" "I", Cond.fieldLink RX3 66 "WornFlashModel" "gone" "Z", Cond.fieldLink RX3 70 "WornFlashModel" "operations" "I"]
def wsX3_room : List Cond := .code yX3_room cX3_room 5 (some .boolean) :: ((wsX3_room_r1 ++ (wsX3_room_r2 ++ wsX3_room_r3)) ++ wsX30)
def wsX3_store_r1 : List Cond := [Cond.fieldLink RX3 29 "WornFlashModel" "entrySector" "[I", Cond.fieldLink RX3 32 "WornFlashModel" "entryValue" "[I", Cond.fieldLink RX3 35 "WornFlashModel" "entrySort" "[I", Cond.fieldLink RX3 100 "WornFlashModel" "entries" "I", Cond.methodLink RX3 97 yX3_room, Cond.instanceMethod yX3_room, Cond.selects RX3 yX3_room yX3_room, Cond.initialized RX3, Cond.code yX3_room cX3_room 5 (some .boolean), Cond.fieldLink RX3 25 "WornFlashModel" "open" "I", Cond.methodLink RX3 56 yX3_programmed, Cond.instanceMethod yX3_programmed, Cond.selects RX3 yX3_programmed yX3_programmed, Cond.code yX3_programmed cX3_programmed 4 (some .int), Cond.fieldLink RX3 7 "WornFlashModel" "sectorOf" "[I", Cond.methodLink RX3 84 yX3_freeBlocks, Cond.instanceMethod yX3_freeBlocks, Cond.selects RX3 yX3_freeBlocks yX3_freeBlocks, Cond.code yX3_freeBlocks cX3_freeBlocks 3 (some .int), Cond.fieldLink RX3 38 "WornFlashModel" "blocks" "I", Cond.methodLink RX3 87 yX3_pick, Cond.instanceMethod yX3_pick, Cond.selects RX3 yX3_pick yX3_pick, Cond.code yX3_pick cX3_pick 7 (some .int)]
def wsX3_store_r2 : List Cond := [Cond.fieldLink RX3 22 "WornFlashModel" "erased" "[I", Cond.constant RX3 59 (100000), Cond.methodLink RX3 60 yX3_validIn, Cond.instanceMethod yX3_validIn, Cond.selects RX3 yX3_validIn yX3_validIn, Cond.code yX3_validIn cX3_validIn 4 (some .int), Cond.methodLink RX3 52 yX3_isValid, Cond.instanceMethod yX3_isValid, Cond.selects RX3 yX3_isValid yX3_isValid, Cond.code yX3_isValid cX3_isValid 2 (some .boolean), Cond.methodLink RX3 48 yX3_newest, Cond.instanceMethod yX3_newest, Cond.selects RX3 yX3_newest yX3_newest, Cond.code yX3_newest cX3_newest 4 (some .int), Cond.fieldLink RX3 16 "WornFlashModel" "serialOf" "[I", Cond.methodLink RX3 91 yX3_uneven, Cond.instanceMethod yX3_uneven, Cond.selects RX3 yX3_uneven yX3_uneven, Cond.code yX3_uneven cX3_uneven 4 (some .boolean), Cond.fieldLink RX3 41 "WornFlashModel" "spread" "I", Cond.methodLink RX3 94 yX3_collect, Cond.instanceMethod yX3_collect, Cond.selects RX3 yX3_collect yX3_collect, Cond.code yX3_collect cX3_collect 3 (some .boolean)]
def wsX3_store_r3 : List Cond := [Cond.fieldLink RX3 13 "WornFlashModel" "valueOf" "[I", Cond.fieldLink RX3 19 "WornFlashModel" "sortOf" "[I", Cond.methodLink RX3 80 yX3_put, Cond.instanceMethod yX3_put, Cond.selects RX3 yX3_put yX3_put, Cond.code yX3_put cX3_put 5 (some .boolean), Cond.fieldLink RX3 77 "WornFlashModel" "nextSerial" "I", Cond.methodLink RX3 73 yX3_operates, Cond.instanceMethod yX3_operates, Cond.selects RX3 yX3_operates yX3_operates, Cond.code yX3_operates cX3_operates 1 (some .boolean), Cond.fieldLink RX3 63 "WornFlashModel" "fuse" "I", Cond.fieldLink RX3 66 "WornFlashModel" "gone" "Z", Cond.fieldLink RX3 70 "WornFlashModel" "operations" "I"]
def wsX3_store : List Cond := .code yX3_store cX3_store 2 (some .boolean) :: ((wsX3_store_r1 ++ (wsX3_store_r2 ++ wsX3_store_r3)) ++ wsX30)
def wsX3_cut_r1 : List Cond := [Cond.fieldLink RX3 66 "WornFlashModel" "gone" "Z", Cond.fieldLink RX3 100 "WornFlashModel" "entries" "I", Cond.fieldLink RX3 25 "WornFlashModel" "open" "I", Cond.fieldLink RX3 77 "WornFlashModel" "nextSerial" "I", Cond.fieldLink RX3 38 "WornFlashModel" "blocks" "I", Cond.fieldLink RX3 7 "WornFlashModel" "sectorOf" "[I", Cond.fieldLink RX3 16 "WornFlashModel" "serialOf" "[I", Cond.methodLink RX3 56 yX3_programmed, Cond.instanceMethod yX3_programmed, Cond.selects RX3 yX3_programmed yX3_programmed, Cond.initialized RX3, Cond.code yX3_programmed cX3_programmed 4 (some .int), Cond.methodLink RX3 84 yX3_freeBlocks, Cond.instanceMethod yX3_freeBlocks, Cond.selects RX3 yX3_freeBlocks yX3_freeBlocks, Cond.code yX3_freeBlocks cX3_freeBlocks 3 (some .int), Cond.methodLink RX3 87 yX3_pick, Cond.instanceMethod yX3_pick, Cond.selects RX3 yX3_pick yX3_pick, Cond.code yX3_pick cX3_pick 7 (some .int), Cond.fieldLink RX3 22 "WornFlashModel" "erased" "[I", Cond.constant RX3 59 (100000), Cond.methodLink RX3 60 yX3_validIn, Cond.instanceMethod yX3_validIn]
def wsX3_cut_r2 : List Cond := [Cond.selects RX3 yX3_validIn yX3_validIn, Cond.code yX3_validIn cX3_validIn 4 (some .int), Cond.methodLink RX3 52 yX3_isValid, Cond.instanceMethod yX3_isValid, Cond.selects RX3 yX3_isValid yX3_isValid, Cond.code yX3_isValid cX3_isValid 2 (some .boolean), Cond.methodLink RX3 48 yX3_newest, Cond.instanceMethod yX3_newest, Cond.selects RX3 yX3_newest yX3_newest, Cond.code yX3_newest cX3_newest 4 (some .int), Cond.methodLink RX3 94 yX3_collect, Cond.instanceMethod yX3_collect, Cond.selects RX3 yX3_collect yX3_collect, Cond.code yX3_collect cX3_collect 3 (some .boolean), Cond.fieldLink RX3 13 "WornFlashModel" "valueOf" "[I", Cond.fieldLink RX3 19 "WornFlashModel" "sortOf" "[I", Cond.methodLink RX3 80 yX3_put, Cond.instanceMethod yX3_put, Cond.selects RX3 yX3_put yX3_put, Cond.code yX3_put cX3_put 5 (some .boolean), Cond.methodLink RX3 73 yX3_operates, Cond.instanceMethod yX3_operates, Cond.selects RX3 yX3_operates yX3_operates, Cond.code yX3_operates cX3_operates 1 (some .boolean)]
def wsX3_cut_r3 : List Cond := [Cond.fieldLink RX3 63 "WornFlashModel" "fuse" "I", Cond.fieldLink RX3 70 "WornFlashModel" "operations" "I"]
def wsX3_cut : List Cond := .code yX3_cut cX3_cut 3 none :: ((wsX3_cut_r1 ++ (wsX3_cut_r2 ++ wsX3_cut_r3)) ++ wsX30)
def wsX3_find : List Cond := .code yX3_find cX3_find 3 (some .int) :: ([.fieldLink RX3 100 "WornFlashModel" "entries" "I", .fieldLink RX3 29 "WornFlashModel" "entrySector" "[I"] ++ wsX30)
def wsX3_change_r1 : List Cond := [Cond.fieldLink RX3 100 "WornFlashModel" "entries" "I", Cond.fieldLink RX3 29 "WornFlashModel" "entrySector" "[I", Cond.fieldLink RX3 32 "WornFlashModel" "entryValue" "[I", Cond.fieldLink RX3 35 "WornFlashModel" "entrySort" "[I", Cond.methodLink RX3 103 yX3_isSector, Cond.instanceMethod yX3_isSector, Cond.selects RX3 yX3_isSector yX3_isSector, Cond.initialized RX3, Cond.code yX3_isSector cX3_isSector 2 (some .boolean), Cond.methodLink RX3 44 yX3_sectors, Cond.instanceMethod yX3_sectors, Cond.selects RX3 yX3_sectors yX3_sectors, Cond.code yX3_sectors cX3_sectors 1 (some .int), Cond.fieldLink RX3 38 "WornFlashModel" "blocks" "I", Cond.methodLink RX3 106 yX3_find, Cond.instanceMethod yX3_find, Cond.selects RX3 yX3_find yX3_find, Cond.code yX3_find cX3_find 3 (some .int), Cond.methodLink RX3 109 yX3_store, Cond.instanceMethod yX3_store, Cond.selects RX3 yX3_store yX3_store, Cond.code yX3_store cX3_store 2 (some .boolean), Cond.methodLink RX3 97 yX3_room, Cond.instanceMethod yX3_room]
def wsX3_change_r2 : List Cond := [Cond.selects RX3 yX3_room yX3_room, Cond.code yX3_room cX3_room 5 (some .boolean), Cond.fieldLink RX3 25 "WornFlashModel" "open" "I", Cond.methodLink RX3 56 yX3_programmed, Cond.instanceMethod yX3_programmed, Cond.selects RX3 yX3_programmed yX3_programmed, Cond.code yX3_programmed cX3_programmed 4 (some .int), Cond.fieldLink RX3 7 "WornFlashModel" "sectorOf" "[I", Cond.methodLink RX3 84 yX3_freeBlocks, Cond.instanceMethod yX3_freeBlocks, Cond.selects RX3 yX3_freeBlocks yX3_freeBlocks, Cond.code yX3_freeBlocks cX3_freeBlocks 3 (some .int), Cond.methodLink RX3 87 yX3_pick, Cond.instanceMethod yX3_pick, Cond.selects RX3 yX3_pick yX3_pick, Cond.code yX3_pick cX3_pick 7 (some .int), Cond.fieldLink RX3 22 "WornFlashModel" "erased" "[I", Cond.constant RX3 59 (100000), Cond.methodLink RX3 60 yX3_validIn, Cond.instanceMethod yX3_validIn, Cond.selects RX3 yX3_validIn yX3_validIn, Cond.code yX3_validIn cX3_validIn 4 (some .int), Cond.methodLink RX3 52 yX3_isValid, Cond.instanceMethod yX3_isValid]
def wsX3_change_r3 : List Cond := [Cond.selects RX3 yX3_isValid yX3_isValid, Cond.code yX3_isValid cX3_isValid 2 (some .boolean), Cond.methodLink RX3 48 yX3_newest, Cond.instanceMethod yX3_newest, Cond.selects RX3 yX3_newest yX3_newest, Cond.code yX3_newest cX3_newest 4 (some .int), Cond.fieldLink RX3 16 "WornFlashModel" "serialOf" "[I", Cond.methodLink RX3 91 yX3_uneven, Cond.instanceMethod yX3_uneven, Cond.selects RX3 yX3_uneven yX3_uneven, Cond.code yX3_uneven cX3_uneven 4 (some .boolean), Cond.fieldLink RX3 41 "WornFlashModel" "spread" "I", Cond.methodLink RX3 94 yX3_collect, Cond.instanceMethod yX3_collect, Cond.selects RX3 yX3_collect yX3_collect, Cond.code yX3_collect cX3_collect 3 (some .boolean), Cond.fieldLink RX3 13 "WornFlashModel" "valueOf" "[I", Cond.fieldLink RX3 19 "WornFlashModel" "sortOf" "[I", Cond.methodLink RX3 80 yX3_put, Cond.instanceMethod yX3_put, Cond.selects RX3 yX3_put yX3_put, Cond.code yX3_put cX3_put 5 (some .boolean), Cond.fieldLink RX3 77 "WornFlashModel" "nextSerial" "I", Cond.methodLink RX3 73 yX3_operates]
def wsX3_change_r4 : List Cond := [Cond.instanceMethod yX3_operates, Cond.selects RX3 yX3_operates yX3_operates, Cond.code yX3_operates cX3_operates 1 (some .boolean), Cond.fieldLink RX3 63 "WornFlashModel" "fuse" "I", Cond.fieldLink RX3 66 "WornFlashModel" "gone" "Z", Cond.fieldLink RX3 70 "WornFlashModel" "operations" "I", Cond.methodLink RX3 112 yX3_cut, Cond.instanceMethod yX3_cut, Cond.selects RX3 yX3_cut yX3_cut, Cond.code yX3_cut cX3_cut 3 none]
def wsX3_change : List Cond := .code yX3_change cX3_change 5 (some .int) :: ((wsX3_change_r1 ++ (wsX3_change_r2 ++ (wsX3_change_r3 ++ wsX3_change_r4))) ++ wsX30)
def wsX3_write_r1 : List Cond := [Cond.methodLink RX3 115 yX3_change, Cond.instanceMethod yX3_change, Cond.selects RX3 yX3_change yX3_change, Cond.initialized RX3, Cond.code yX3_change cX3_change 5 (some .int), Cond.fieldLink RX3 100 "WornFlashModel" "entries" "I", Cond.fieldLink RX3 29 "WornFlashModel" "entrySector" "[I", Cond.fieldLink RX3 32 "WornFlashModel" "entryValue" "[I", Cond.fieldLink RX3 35 "WornFlashModel" "entrySort" "[I", Cond.methodLink RX3 103 yX3_isSector, Cond.instanceMethod yX3_isSector, Cond.selects RX3 yX3_isSector yX3_isSector, Cond.code yX3_isSector cX3_isSector 2 (some .boolean), Cond.methodLink RX3 44 yX3_sectors, Cond.instanceMethod yX3_sectors, Cond.selects RX3 yX3_sectors yX3_sectors, Cond.code yX3_sectors cX3_sectors 1 (some .int), Cond.fieldLink RX3 38 "WornFlashModel" "blocks" "I", Cond.methodLink RX3 106 yX3_find, Cond.instanceMethod yX3_find, Cond.selects RX3 yX3_find yX3_find, Cond.code yX3_find cX3_find 3 (some .int), Cond.methodLink RX3 109 yX3_store, Cond.instanceMethod yX3_store]
def wsX3_write_r2 : List Cond := [Cond.selects RX3 yX3_store yX3_store, Cond.code yX3_store cX3_store 2 (some .boolean), Cond.methodLink RX3 97 yX3_room, Cond.instanceMethod yX3_room, Cond.selects RX3 yX3_room yX3_room, Cond.code yX3_room cX3_room 5 (some .boolean), Cond.fieldLink RX3 25 "WornFlashModel" "open" "I", Cond.methodLink RX3 56 yX3_programmed, Cond.instanceMethod yX3_programmed, Cond.selects RX3 yX3_programmed yX3_programmed, Cond.code yX3_programmed cX3_programmed 4 (some .int), Cond.fieldLink RX3 7 "WornFlashModel" "sectorOf" "[I", Cond.methodLink RX3 84 yX3_freeBlocks, Cond.instanceMethod yX3_freeBlocks, Cond.selects RX3 yX3_freeBlocks yX3_freeBlocks, Cond.code yX3_freeBlocks cX3_freeBlocks 3 (some .int), Cond.methodLink RX3 87 yX3_pick, Cond.instanceMethod yX3_pick, Cond.selects RX3 yX3_pick yX3_pick, Cond.code yX3_pick cX3_pick 7 (some .int), Cond.fieldLink RX3 22 "WornFlashModel" "erased" "[I", Cond.constant RX3 59 (100000), Cond.methodLink RX3 60 yX3_validIn, Cond.instanceMethod yX3_validIn]
def wsX3_write_r3 : List Cond := [Cond.selects RX3 yX3_validIn yX3_validIn, Cond.code yX3_validIn cX3_validIn 4 (some .int), Cond.methodLink RX3 52 yX3_isValid, Cond.instanceMethod yX3_isValid, Cond.selects RX3 yX3_isValid yX3_isValid, Cond.code yX3_isValid cX3_isValid 2 (some .boolean), Cond.methodLink RX3 48 yX3_newest, Cond.instanceMethod yX3_newest, Cond.selects RX3 yX3_newest yX3_newest, Cond.code yX3_newest cX3_newest 4 (some .int), Cond.fieldLink RX3 16 "WornFlashModel" "serialOf" "[I", Cond.methodLink RX3 91 yX3_uneven, Cond.instanceMethod yX3_uneven, Cond.selects RX3 yX3_uneven yX3_uneven, Cond.code yX3_uneven cX3_uneven 4 (some .boolean), Cond.fieldLink RX3 41 "WornFlashModel" "spread" "I", Cond.methodLink RX3 94 yX3_collect, Cond.instanceMethod yX3_collect, Cond.selects RX3 yX3_collect yX3_collect, Cond.code yX3_collect cX3_collect 3 (some .boolean), Cond.fieldLink RX3 13 "WornFlashModel" "valueOf" "[I", Cond.fieldLink RX3 19 "WornFlashModel" "sortOf" "[I", Cond.methodLink RX3 80 yX3_put, Cond.instanceMethod yX3_put]
def wsX3_write_r4 : List Cond := [Cond.selects RX3 yX3_put yX3_put, Cond.code yX3_put cX3_put 5 (some .boolean), Cond.fieldLink RX3 77 "WornFlashModel" "nextSerial" "I", Cond.methodLink RX3 73 yX3_operates, Cond.instanceMethod yX3_operates, Cond.selects RX3 yX3_operates yX3_operates, Cond.code yX3_operates cX3_operates 1 (some .boolean), Cond.fieldLink RX3 63 "WornFlashModel" "fuse" "I", Cond.fieldLink RX3 66 "WornFlashModel" "gone" "Z", Cond.fieldLink RX3 70 "WornFlashModel" "operations" "I", Cond.methodLink RX3 112 yX3_cut, Cond.instanceMethod yX3_cut, Cond.selects RX3 yX3_cut yX3_cut, Cond.code yX3_cut cX3_cut 3 none]
def wsX3_write : List Cond := .code yX3_write cX3_write 3 (some .int) :: ((wsX3_write_r1 ++ (wsX3_write_r2 ++ (wsX3_write_r3 ++ wsX3_write_r4))) ++ wsX30)
def wsX3_trim_r1 : List Cond := [Cond.methodLink RX3 115 yX3_change, Cond.instanceMethod yX3_change, Cond.selects RX3 yX3_change yX3_change, Cond.initialized RX3, Cond.code yX3_change cX3_change 5 (some .int), Cond.fieldLink RX3 100 "WornFlashModel" "entries" "I", Cond.fieldLink RX3 29 "WornFlashModel" "entrySector" "[I", Cond.fieldLink RX3 32 "WornFlashModel" "entryValue" "[I", Cond.fieldLink RX3 35 "WornFlashModel" "entrySort" "[I", Cond.methodLink RX3 103 yX3_isSector, Cond.instanceMethod yX3_isSector, Cond.selects RX3 yX3_isSector yX3_isSector, Cond.code yX3_isSector cX3_isSector 2 (some .boolean), Cond.methodLink RX3 44 yX3_sectors, Cond.instanceMethod yX3_sectors, Cond.selects RX3 yX3_sectors yX3_sectors, Cond.code yX3_sectors cX3_sectors 1 (some .int), Cond.fieldLink RX3 38 "WornFlashModel" "blocks" "I", Cond.methodLink RX3 106 yX3_find, Cond.instanceMethod yX3_find, Cond.selects RX3 yX3_find yX3_find, Cond.code yX3_find cX3_find 3 (some .int), Cond.methodLink RX3 109 yX3_store, Cond.instanceMethod yX3_store]
def wsX3_trim_r2 : List Cond := [Cond.selects RX3 yX3_store yX3_store, Cond.code yX3_store cX3_store 2 (some .boolean), Cond.methodLink RX3 97 yX3_room, Cond.instanceMethod yX3_room, Cond.selects RX3 yX3_room yX3_room, Cond.code yX3_room cX3_room 5 (some .boolean), Cond.fieldLink RX3 25 "WornFlashModel" "open" "I", Cond.methodLink RX3 56 yX3_programmed, Cond.instanceMethod yX3_programmed, Cond.selects RX3 yX3_programmed yX3_programmed, Cond.code yX3_programmed cX3_programmed 4 (some .int), Cond.fieldLink RX3 7 "WornFlashModel" "sectorOf" "[I", Cond.methodLink RX3 84 yX3_freeBlocks, Cond.instanceMethod yX3_freeBlocks, Cond.selects RX3 yX3_freeBlocks yX3_freeBlocks, Cond.code yX3_freeBlocks cX3_freeBlocks 3 (some .int), Cond.methodLink RX3 87 yX3_pick, Cond.instanceMethod yX3_pick, Cond.selects RX3 yX3_pick yX3_pick, Cond.code yX3_pick cX3_pick 7 (some .int), Cond.fieldLink RX3 22 "WornFlashModel" "erased" "[I", Cond.constant RX3 59 (100000), Cond.methodLink RX3 60 yX3_validIn, Cond.instanceMethod yX3_validIn]
def wsX3_trim_r3 : List Cond := [Cond.selects RX3 yX3_validIn yX3_validIn, Cond.code yX3_validIn cX3_validIn 4 (some .int), Cond.methodLink RX3 52 yX3_isValid, Cond.instanceMethod yX3_isValid, Cond.selects RX3 yX3_isValid yX3_isValid, Cond.code yX3_isValid cX3_isValid 2 (some .boolean), Cond.methodLink RX3 48 yX3_newest, Cond.instanceMethod yX3_newest, Cond.selects RX3 yX3_newest yX3_newest, Cond.code yX3_newest cX3_newest 4 (some .int), Cond.fieldLink RX3 16 "WornFlashModel" "serialOf" "[I", Cond.methodLink RX3 91 yX3_uneven, Cond.instanceMethod yX3_uneven, Cond.selects RX3 yX3_uneven yX3_uneven, Cond.code yX3_uneven cX3_uneven 4 (some .boolean), Cond.fieldLink RX3 41 "WornFlashModel" "spread" "I", Cond.methodLink RX3 94 yX3_collect, Cond.instanceMethod yX3_collect, Cond.selects RX3 yX3_collect yX3_collect, Cond.code yX3_collect cX3_collect 3 (some .boolean), Cond.fieldLink RX3 13 "WornFlashModel" "valueOf" "[I", Cond.fieldLink RX3 19 "WornFlashModel" "sortOf" "[I", Cond.methodLink RX3 80 yX3_put, Cond.instanceMethod yX3_put]
def wsX3_trim_r4 : List Cond := [Cond.selects RX3 yX3_put yX3_put, Cond.code yX3_put cX3_put 5 (some .boolean), Cond.fieldLink RX3 77 "WornFlashModel" "nextSerial" "I", Cond.methodLink RX3 73 yX3_operates, Cond.instanceMethod yX3_operates, Cond.selects RX3 yX3_operates yX3_operates, Cond.code yX3_operates cX3_operates 1 (some .boolean), Cond.fieldLink RX3 63 "WornFlashModel" "fuse" "I", Cond.fieldLink RX3 66 "WornFlashModel" "gone" "Z", Cond.fieldLink RX3 70 "WornFlashModel" "operations" "I", Cond.methodLink RX3 112 yX3_cut, Cond.instanceMethod yX3_cut, Cond.selects RX3 yX3_cut yX3_cut, Cond.code yX3_cut cX3_cut 3 none]
def wsX3_trim : List Cond := .code yX3_trim cX3_trim 2 (some .int) :: ((wsX3_trim_r1 ++ (wsX3_trim_r2 ++ (wsX3_trim_r3 ++ wsX3_trim_r4))) ++ wsX30)
def wsX3_flush_r1 : List Cond := [Cond.fieldLink RX3 100 "WornFlashModel" "entries" "I", Cond.methodLink RX3 109 yX3_store, Cond.instanceMethod yX3_store, Cond.selects RX3 yX3_store yX3_store, Cond.initialized RX3, Cond.code yX3_store cX3_store 2 (some .boolean), Cond.fieldLink RX3 29 "WornFlashModel" "entrySector" "[I", Cond.fieldLink RX3 32 "WornFlashModel" "entryValue" "[I", Cond.fieldLink RX3 35 "WornFlashModel" "entrySort" "[I", Cond.methodLink RX3 97 yX3_room, Cond.instanceMethod yX3_room, Cond.selects RX3 yX3_room yX3_room, Cond.code yX3_room cX3_room 5 (some .boolean), Cond.fieldLink RX3 25 "WornFlashModel" "open" "I", Cond.methodLink RX3 56 yX3_programmed, Cond.instanceMethod yX3_programmed, Cond.selects RX3 yX3_programmed yX3_programmed, Cond.code yX3_programmed cX3_programmed 4 (some .int), Cond.fieldLink RX3 7 "WornFlashModel" "sectorOf" "[I", Cond.methodLink RX3 84 yX3_freeBlocks, Cond.instanceMethod yX3_freeBlocks, Cond.selects RX3 yX3_freeBlocks yX3_freeBlocks, Cond.code yX3_freeBlocks cX3_freeBlocks 3 (some .int), Cond.fieldLink RX3 38 "WornFlashModel" "blocks" "I"]
def wsX3_flush_r2 : List Cond := [Cond.methodLink RX3 87 yX3_pick, Cond.instanceMethod yX3_pick, Cond.selects RX3 yX3_pick yX3_pick, Cond.code yX3_pick cX3_pick 7 (some .int), Cond.fieldLink RX3 22 "WornFlashModel" "erased" "[I", Cond.constant RX3 59 (100000), Cond.methodLink RX3 60 yX3_validIn, Cond.instanceMethod yX3_validIn, Cond.selects RX3 yX3_validIn yX3_validIn, Cond.code yX3_validIn cX3_validIn 4 (some .int), Cond.methodLink RX3 52 yX3_isValid, Cond.instanceMethod yX3_isValid, Cond.selects RX3 yX3_isValid yX3_isValid, Cond.code yX3_isValid cX3_isValid 2 (some .boolean), Cond.methodLink RX3 48 yX3_newest, Cond.instanceMethod yX3_newest, Cond.selects RX3 yX3_newest yX3_newest, Cond.code yX3_newest cX3_newest 4 (some .int), Cond.fieldLink RX3 16 "WornFlashModel" "serialOf" "[I", Cond.methodLink RX3 91 yX3_uneven, Cond.instanceMethod yX3_uneven, Cond.selects RX3 yX3_uneven yX3_uneven, Cond.code yX3_uneven cX3_uneven 4 (some .boolean), Cond.fieldLink RX3 41 "WornFlashModel" "spread" "I"]
def wsX3_flush_r3 : List Cond := [Cond.methodLink RX3 94 yX3_collect, Cond.instanceMethod yX3_collect, Cond.selects RX3 yX3_collect yX3_collect, Cond.code yX3_collect cX3_collect 3 (some .boolean), Cond.fieldLink RX3 13 "WornFlashModel" "valueOf" "[I", Cond.fieldLink RX3 19 "WornFlashModel" "sortOf" "[I", Cond.methodLink RX3 80 yX3_put, Cond.instanceMethod yX3_put, Cond.selects RX3 yX3_put yX3_put, Cond.code yX3_put cX3_put 5 (some .boolean), Cond.fieldLink RX3 77 "WornFlashModel" "nextSerial" "I", Cond.methodLink RX3 73 yX3_operates, Cond.instanceMethod yX3_operates, Cond.selects RX3 yX3_operates yX3_operates, Cond.code yX3_operates cX3_operates 1 (some .boolean), Cond.fieldLink RX3 63 "WornFlashModel" "fuse" "I", Cond.fieldLink RX3 66 "WornFlashModel" "gone" "Z", Cond.fieldLink RX3 70 "WornFlashModel" "operations" "I", Cond.methodLink RX3 112 yX3_cut, Cond.instanceMethod yX3_cut, Cond.selects RX3 yX3_cut yX3_cut, Cond.code yX3_cut cX3_cut 3 none]
def wsX3_flush : List Cond := .code yX3_flush cX3_flush 1 (some .int) :: ((wsX3_flush_r1 ++ (wsX3_flush_r2 ++ wsX3_flush_r3)) ++ wsX30)
def wsX3_fuse : List Cond := .code yX3_fuse cX3_fuse 2 (some .boolean) :: ([.fieldLink RX3 63 "WornFlashModel" "fuse" "I"] ++ wsX30)
def wsX3_read : List Cond := .code yX3_read cX3_read 4 (some .int) :: ([.fieldLink RX3 32 "WornFlashModel" "entryValue" "[I", .fieldLink RX3 13 "WornFlashModel" "valueOf" "[I", .methodLink RX3 103 yX3_isSector, .instanceMethod yX3_isSector, .selects RX3 yX3_isSector yX3_isSector, .initialized RX3, .code yX3_isSector cX3_isSector 2 (some .boolean), .methodLink RX3 44 yX3_sectors, .instanceMethod yX3_sectors, .selects RX3 yX3_sectors yX3_sectors, .code yX3_sectors cX3_sectors 1 (some .int), .fieldLink RX3 38 "WornFlashModel" "blocks" "I", .methodLink RX3 106 yX3_find, .instanceMethod yX3_find, .selects RX3 yX3_find yX3_find, .code yX3_find cX3_find 3 (some .int), .fieldLink RX3 100 "WornFlashModel" "entries" "I", .fieldLink RX3 29 "WornFlashModel" "entrySector" "[I", .methodLink RX3 48 yX3_newest, .instanceMethod yX3_newest, .selects RX3 yX3_newest yX3_newest, .code yX3_newest cX3_newest 4 (some .int), .fieldLink RX3 7 "WornFlashModel" "sectorOf" "[I", .fieldLink RX3 16 "WornFlashModel" "serialOf" "[I"] ++ wsX30)
def wsX3_holds : List Cond := .code yX3_holds cX3_holds 4 (some .int) :: ([.fieldLink RX3 35 "WornFlashModel" "entrySort" "[I", .fieldLink RX3 19 "WornFlashModel" "sortOf" "[I", .methodLink RX3 103 yX3_isSector, .instanceMethod yX3_isSector, .selects RX3 yX3_isSector yX3_isSector, .initialized RX3, .code yX3_isSector cX3_isSector 2 (some .boolean), .methodLink RX3 44 yX3_sectors, .instanceMethod yX3_sectors, .selects RX3 yX3_sectors yX3_sectors, .code yX3_sectors cX3_sectors 1 (some .int), .fieldLink RX3 38 "WornFlashModel" "blocks" "I", .methodLink RX3 106 yX3_find, .instanceMethod yX3_find, .selects RX3 yX3_find yX3_find, .code yX3_find cX3_find 3 (some .int), .fieldLink RX3 100 "WornFlashModel" "entries" "I", .fieldLink RX3 29 "WornFlashModel" "entrySector" "[I", .methodLink RX3 48 yX3_newest, .instanceMethod yX3_newest, .selects RX3 yX3_newest yX3_newest, .code yX3_newest cX3_newest 4 (some .int), .fieldLink RX3 7 "WornFlashModel" "sectorOf" "[I", .fieldLink RX3 16 "WornFlashModel" "serialOf" "[I"] ++ wsX30)
def wsX3_buffered : List Cond := .code yX3_buffered cX3_buffered 1 (some .int) :: ([.fieldLink RX3 100 "WornFlashModel" "entries" "I"] ++ wsX30)
def wsX3_place : List Cond := .code yX3_place cX3_place 2 (some .int) :: ([.methodLink RX3 103 yX3_isSector, .instanceMethod yX3_isSector, .selects RX3 yX3_isSector yX3_isSector, .initialized RX3, .code yX3_isSector cX3_isSector 2 (some .boolean), .methodLink RX3 44 yX3_sectors, .instanceMethod yX3_sectors, .selects RX3 yX3_sectors yX3_sectors, .code yX3_sectors cX3_sectors 1 (some .int), .fieldLink RX3 38 "WornFlashModel" "blocks" "I", .methodLink RX3 48 yX3_newest, .instanceMethod yX3_newest, .selects RX3 yX3_newest yX3_newest, .code yX3_newest cX3_newest 4 (some .int), .fieldLink RX3 7 "WornFlashModel" "sectorOf" "[I", .fieldLink RX3 16 "WornFlashModel" "serialOf" "[I"] ++ wsX30)
def wsX3_tag : List Cond := .code yX3_tag cX3_tag 2 (some .int) :: ([.fieldLink RX3 7 "WornFlashModel" "sectorOf" "[I", .methodLink RX3 119 yX3_isPlace, .instanceMethod yX3_isPlace, .selects RX3 yX3_isPlace yX3_isPlace, .initialized RX3, .code yX3_isPlace cX3_isPlace 2 (some .boolean), .fieldLink RX3 38 "WornFlashModel" "blocks" "I"] ++ wsX30)
def wsX3_serial : List Cond := .code yX3_serial cX3_serial 2 (some .int) :: ([.fieldLink RX3 7 "WornFlashModel" "sectorOf" "[I", .fieldLink RX3 16 "WornFlashModel" "serialOf" "[I", .methodLink RX3 119 yX3_isPlace, .instanceMethod yX3_isPlace, .selects RX3 yX3_isPlace yX3_isPlace, .initialized RX3, .code yX3_isPlace cX3_isPlace 2 (some .boolean), .fieldLink RX3 38 "WornFlashModel" "blocks" "I"] ++ wsX30)
def wsX3_valid : List Cond := .code yX3_valid cX3_valid 2 (some .int) :: ([.methodLink RX3 122 yX3_isBlock, .instanceMethod yX3_isBlock, .selects RX3 yX3_isBlock yX3_isBlock, .initialized RX3, .code yX3_isBlock cX3_isBlock 2 (some .boolean), .fieldLink RX3 38 "WornFlashModel" "blocks" "I", .methodLink RX3 60 yX3_validIn, .instanceMethod yX3_validIn, .selects RX3 yX3_validIn yX3_validIn, .code yX3_validIn cX3_validIn 4 (some .int), .methodLink RX3 52 yX3_isValid, .instanceMethod yX3_isValid, .selects RX3 yX3_isValid yX3_isValid, .code yX3_isValid cX3_isValid 2 (some .boolean), .fieldLink RX3 7 "WornFlashModel" "sectorOf" "[I", .methodLink RX3 48 yX3_newest, .instanceMethod yX3_newest, .selects RX3 yX3_newest yX3_newest, .code yX3_newest cX3_newest 4 (some .int), .fieldLink RX3 16 "WornFlashModel" "serialOf" "[I"] ++ wsX30)
def wsX3_erasures : List Cond := .code yX3_erasures cX3_erasures 2 (some .int) :: ([.fieldLink RX3 22 "WornFlashModel" "erased" "[I", .methodLink RX3 122 yX3_isBlock, .instanceMethod yX3_isBlock, .selects RX3 yX3_isBlock yX3_isBlock, .initialized RX3, .code yX3_isBlock cX3_isBlock 2 (some .boolean), .fieldLink RX3 38 "WornFlashModel" "blocks" "I"] ++ wsX30)
def wsX3_open : List Cond := .code yX3_open cX3_open 1 (some .int) :: ([.fieldLink RX3 25 "WornFlashModel" "open" "I"] ++ wsX30)
def wsX3_free : List Cond := .code yX3_free cX3_free 1 (some .int) :: ([.methodLink RX3 84 yX3_freeBlocks, .instanceMethod yX3_freeBlocks, .selects RX3 yX3_freeBlocks yX3_freeBlocks, .initialized RX3, .code yX3_freeBlocks cX3_freeBlocks 3 (some .int), .fieldLink RX3 38 "WornFlashModel" "blocks" "I", .methodLink RX3 56 yX3_programmed, .instanceMethod yX3_programmed, .selects RX3 yX3_programmed yX3_programmed, .code yX3_programmed cX3_programmed 4 (some .int), .fieldLink RX3 7 "WornFlashModel" "sectorOf" "[I"] ++ wsX30)
def wsX3_operations : List Cond := .code yX3_operations cX3_operations 1 (some .int) :: ([.fieldLink RX3 70 "WornFlashModel" "operations" "I"] ++ wsX30)
def wsJ9_max_7cf53 : List Cond := .code yJ9_max_7cf53 cJ9_max_7cf53 2 (some .int) :: ([])
def wsJ9_min_7cf53 : List Cond := .code yJ9_min_7cf53 cJ9_min_7cf53 2 (some .int) :: ([])
def wsL_cell : List Cond := .code yL_cell cL_cell 2 (some .int) :: ([])
def wsL_law_r1 : List Cond := [Cond.classLink RL 7 RX2, Cond.instantiable RX2 4, Cond.initialized RX2, Cond.classLink RL 18 RX3, Cond.instantiable RX3 16, Cond.initialized RX3, Cond.methodLink RL 9 yL_cell, Cond.static yL_cell, Cond.initialized RL, Cond.code yL_cell cL_cell 2 (some .int), Cond.methodLink RL 15 yX2_init, Cond.instanceMethod yX2_init, Cond.code yX2_init cX2_init 5 none, Cond.methodLink RX2 1 objectInit, Cond.instanceMethod objectInit, Cond.code objectInit ⟨#[0xb1]⟩ 1 none, Cond.classLink RX2 9 RX1, Cond.instantiable RX1 11, Cond.initialized RX1, Cond.fieldLink RX2 14 "WornFlash" "flash" "LWornFlash$Flash;", Cond.classLink RX2 18 RX0, Cond.instantiable RX0 4, Cond.initialized RX0, Cond.fieldLink RX2 21 "WornFlash" "buffer" "LWornFlash$Buffer;"]
def wsL_law_r2 : List Cond := [Cond.fieldLink RX2 25 "WornFlash" "spread" "I", Cond.fieldLink RX2 29 "WornFlash" "openBlock" "I", Cond.methodLink RX2 11 yX1_init, Cond.instanceMethod yX1_init, Cond.code yX1_init cX1_init 3 none, Cond.methodLink RX1 3 objectInit, Cond.fieldLink RX1 9 "WornFlash$Flash" "blocks" "I", Cond.arrayClass .int, Cond.fieldLink RX1 15 "WornFlash$Flash" "owners" "[I", Cond.fieldLink RX1 19 "WornFlash$Flash" "values" "[I", Cond.fieldLink RX1 22 "WornFlash$Flash" "kinds" "[I", Cond.fieldLink RX1 25 "WornFlash$Flash" "serials" "[I", Cond.fieldLink RX1 28 "WornFlash$Flash" "programmed" "[I", Cond.fieldLink RX1 31 "WornFlash$Flash" "wear" "[I", Cond.fieldLink RX1 34 "WornFlash$Flash" "newestPlace" "[I", Cond.instanceMethod yX0_init, Cond.code yX0_init cX0_init 1 none, Cond.methodLink RX0 3 objectInit, Cond.fieldLink RX0 11 "WornFlash$Buffer" "sectors" "[I", Cond.fieldLink RX0 15 "WornFlash$Buffer" "values" "[I", Cond.fieldLink RX0 18 "WornFlash$Buffer" "kinds" "[I", Cond.methodLink RL 20 yX3_init, Cond.instanceMethod yX3_init, Cond.code yX3_init cX3_init 4 none]
def wsL_law_r3 : List Cond := [Cond.methodLink RX3 1 objectInit, Cond.fieldLink RX3 7 "WornFlashModel" "sectorOf" "[I", Cond.fieldLink RX3 13 "WornFlashModel" "valueOf" "[I", Cond.fieldLink RX3 16 "WornFlashModel" "serialOf" "[I", Cond.fieldLink RX3 19 "WornFlashModel" "sortOf" "[I", Cond.fieldLink RX3 22 "WornFlashModel" "erased" "[I", Cond.fieldLink RX3 25 "WornFlashModel" "open" "I", Cond.fieldLink RX3 29 "WornFlashModel" "entrySector" "[I", Cond.fieldLink RX3 32 "WornFlashModel" "entryValue" "[I", Cond.fieldLink RX3 35 "WornFlashModel" "entrySort" "[I", Cond.fieldLink RX3 38 "WornFlashModel" "blocks" "I", Cond.fieldLink RX3 41 "WornFlashModel" "spread" "I", Cond.methodLink RL 21 yX2_sectors, Cond.instanceMethod yX2_sectors, Cond.selects RX2 yX2_sectors yX2_sectors, Cond.code yX2_sectors cX2_sectors 1 (some .int), Cond.methodLink RL 25 yX3_sectors, Cond.instanceMethod yX3_sectors, Cond.selects RX3 yX3_sectors yX3_sectors, Cond.code yX3_sectors cX3_sectors 1 (some .int), Cond.methodLink RL 26 yX2_write, Cond.instanceMethod yX2_write, Cond.selects RX2 yX2_write yX2_write, Cond.code yX2_write cX2_write 3 (some .int)]
def wsL_law_r4 : List Cond := [Cond.methodLink RX2 36 yX2_put, Cond.instanceMethod yX2_put, Cond.selects RX2 yX2_put yX2_put, Cond.code yX2_put cX2_put 5 (some .int), Cond.methodLink RX2 68 yX2_isSector, Cond.instanceMethod yX2_isSector, Cond.selects RX2 yX2_isSector yX2_isSector, Cond.code yX2_isSector cX2_isSector 2 (some .boolean), Cond.methodLink RX2 53 yX0_find, Cond.instanceMethod yX0_find, Cond.selects RX0 yX0_find yX0_find, Cond.code yX0_find cX0_find 3 (some .int), Cond.fieldLink RX0 21 "WornFlash$Buffer" "count" "I", Cond.methodLink RX2 97 yX0_change, Cond.instanceMethod yX0_change, Cond.selects RX0 yX0_change yX0_change, Cond.code yX0_change cX0_change 4 none, Cond.methodLink RX2 101 yX0_isFull, Cond.instanceMethod yX0_isFull, Cond.selects RX0 yX0_isFull yX0_isFull, Cond.code yX0_isFull cX0_isFull 1 (some .boolean), Cond.methodLink RX2 43 yX2_storeFirst, Cond.instanceMethod yX2_storeFirst, Cond.selects RX2 yX2_storeFirst yX2_storeFirst]
def wsL_law_r5 : List Cond := [Cond.code yX2_storeFirst cX2_storeFirst 1 (some .boolean), Cond.methodLink RX2 107 yX2_makeRoom, Cond.instanceMethod yX2_makeRoom, Cond.selects RX2 yX2_makeRoom yX2_makeRoom, Cond.code yX2_makeRoom cX2_makeRoom 5 (some .boolean), Cond.methodLink RX2 120 yX1_hasRoom, Cond.instanceMethod yX1_hasRoom, Cond.selects RX1 yX1_hasRoom yX1_hasRoom, Cond.code yX1_hasRoom cX1_hasRoom 2 (some .boolean), Cond.methodLink RX2 90 yX1_countFree, Cond.instanceMethod yX1_countFree, Cond.selects RX1 yX1_countFree yX1_countFree, Cond.code yX1_countFree cX1_countFree 3 (some .int), Cond.methodLink RX2 123 yX1_leastWornFree, Cond.instanceMethod yX1_leastWornFree, Cond.selects RX1 yX1_leastWornFree yX1_leastWornFree, Cond.code yX1_leastWornFree cX1_leastWornFree 3 (some .int), Cond.methodLink RX2 126 yX1_wearGap, Cond.instanceMethod yX1_wearGap, Cond.selects RX1 yX1_wearGap yX1_wearGap, Cond.code yX1_wearGap cX1_wearGap 4 (some .int), Cond.methodLink RX1 41 Lib.Math.min.name, Cond.static Lib.Math.min.name, Cond.initialized "java/lang/Math"]
def wsL_law_r6 : List Cond := [Cond.code Lib.Math.min.name Lib.Math.min.code 2 (some .int), Cond.methodLink RX1 47 Lib.Math.max.name, Cond.static Lib.Math.max.name, Cond.code Lib.Math.max.name Lib.Math.max.code 2 (some .int), Cond.methodLink RX2 129 yX1_victim, Cond.instanceMethod yX1_victim, Cond.selects RX1 yX1_victim yX1_victim, Cond.code yX1_victim cX1_victim 8 (some .int), Cond.methodLink RX1 50 yX1_countValid, Cond.instanceMethod yX1_countValid, Cond.selects RX1 yX1_countValid yX1_countValid, Cond.code yX1_countValid cX1_countValid 4 (some .int), Cond.methodLink RX1 37 yX1_isValid, Cond.instanceMethod yX1_isValid, Cond.selects RX1 yX1_isValid yX1_isValid, Cond.code yX1_isValid cX1_isValid 2 (some .boolean), Cond.methodLink RX2 133 yX2_collect, Cond.instanceMethod yX2_collect, Cond.selects RX2 yX2_collect yX2_collect, Cond.code yX2_collect cX2_collect 4 (some .boolean), Cond.methodLink RX2 136 yX1_isValid, Cond.methodLink RX2 113 yX1_program, Cond.instanceMethod yX1_program, Cond.selects RX1 yX1_program yX1_program]
def wsL_law_r7 : List Cond := [Cond.code yX1_program cX1_program 6 (some .boolean), Cond.fieldLink RX1 61 "WornFlash$Flash" "nextSerial" "I", Cond.methodLink RX1 54 yX1_hasRoom, Cond.methodLink RX1 57 yX1_beginOperation, Cond.instanceMethod yX1_beginOperation, Cond.selects RX1 yX1_beginOperation yX1_beginOperation, Cond.code yX1_beginOperation cX1_beginOperation 2 (some .boolean), Cond.fieldLink RX1 64 "WornFlash$Flash" "fuseLeft" "I", Cond.fieldLink RX1 67 "WornFlash$Flash" "operationsDone" "I", Cond.methodLink RX2 139 yX1_erase, Cond.instanceMethod yX1_erase, Cond.selects RX1 yX1_erase yX1_erase, Cond.code yX1_erase cX1_erase 3 (some .boolean), Cond.methodLink RX2 117 yX0_dropFirst, Cond.instanceMethod yX0_dropFirst, Cond.selects RX0 yX0_dropFirst yX0_dropFirst, Cond.code yX0_dropFirst cX0_dropFirst 2 none, Cond.methodLink RX2 47 yX2_losePower, Cond.instanceMethod yX2_losePower, Cond.selects RX2 yX2_losePower yX2_losePower, Cond.code yX2_losePower cX2_losePower 1 none, Cond.methodLink RX2 142 yX2_startAgain, Cond.instanceMethod yX2_startAgain, Cond.selects RX2 yX2_startAgain yX2_startAgain]
def wsL_law_r8 : List Cond := [Cond.code yX2_startAgain cX2_startAgain 1 (some .boolean), Cond.methodLink RX2 145 yX1_partlyProgrammed, Cond.instanceMethod yX1_partlyProgrammed, Cond.selects RX1 yX1_partlyProgrammed yX1_partlyProgrammed, Cond.code yX1_partlyProgrammed cX1_partlyProgrammed 2 (some .int), Cond.methodLink RX2 148 yX1_greatestSerial, Cond.instanceMethod yX1_greatestSerial, Cond.selects RX1 yX1_greatestSerial yX1_greatestSerial, Cond.code yX1_greatestSerial cX1_greatestSerial 3 (some .int), Cond.methodLink RX2 104 yX0_add, Cond.instanceMethod yX0_add, Cond.selects RX0 yX0_add yX0_add, Cond.code yX0_add cX0_add 4 none, Cond.methodLink RX0 25 yX0_isFull, Cond.methodLink RX0 29 yX0_change, Cond.methodLink RL 30 yX3_write, Cond.instanceMethod yX3_write, Cond.selects RX3 yX3_write yX3_write, Cond.code yX3_write cX3_write 3 (some .int), Cond.methodLink RX3 115 yX3_change, Cond.instanceMethod yX3_change, Cond.selects RX3 yX3_change yX3_change, Cond.code yX3_change cX3_change 5 (some .int), Cond.fieldLink RX3 100 "WornFlashModel" "entries" "I"]
def wsL_law_r9 : List Cond := [Cond.methodLink RX3 103 yX3_isSector, Cond.instanceMethod yX3_isSector, Cond.selects RX3 yX3_isSector yX3_isSector, Cond.code yX3_isSector cX3_isSector 2 (some .boolean), Cond.methodLink RX3 44 yX3_sectors, Cond.methodLink RX3 106 yX3_find, Cond.instanceMethod yX3_find, Cond.selects RX3 yX3_find yX3_find, Cond.code yX3_find cX3_find 3 (some .int), Cond.methodLink RX3 109 yX3_store, Cond.instanceMethod yX3_store, Cond.selects RX3 yX3_store yX3_store, Cond.code yX3_store cX3_store 2 (some .boolean), Cond.methodLink RX3 97 yX3_room, Cond.instanceMethod yX3_room, Cond.selects RX3 yX3_room yX3_room, Cond.code yX3_room cX3_room 5 (some .boolean), Cond.methodLink RX3 56 yX3_programmed, Cond.instanceMethod yX3_programmed, Cond.selects RX3 yX3_programmed yX3_programmed, Cond.code yX3_programmed cX3_programmed 4 (some .int), Cond.methodLink RX3 84 yX3_freeBlocks, Cond.instanceMethod yX3_freeBlocks, Cond.selects RX3 yX3_freeBlocks yX3_freeBlocks]
def wsL_law_r10 : List Cond := [Cond.code yX3_freeBlocks cX3_freeBlocks 3 (some .int), Cond.methodLink RX3 87 yX3_pick, Cond.instanceMethod yX3_pick, Cond.selects RX3 yX3_pick yX3_pick, Cond.code yX3_pick cX3_pick 7 (some .int), Cond.constant RX3 59 (100000), Cond.methodLink RX3 60 yX3_validIn, Cond.instanceMethod yX3_validIn, Cond.selects RX3 yX3_validIn yX3_validIn, Cond.code yX3_validIn cX3_validIn 4 (some .int), Cond.methodLink RX3 52 yX3_isValid, Cond.instanceMethod yX3_isValid, Cond.selects RX3 yX3_isValid yX3_isValid, Cond.code yX3_isValid cX3_isValid 2 (some .boolean), Cond.methodLink RX3 48 yX3_newest, Cond.instanceMethod yX3_newest, Cond.selects RX3 yX3_newest yX3_newest, Cond.code yX3_newest cX3_newest 4 (some .int), Cond.methodLink RX3 91 yX3_uneven, Cond.instanceMethod yX3_uneven, Cond.selects RX3 yX3_uneven yX3_uneven, Cond.code yX3_uneven cX3_uneven 4 (some .boolean), Cond.methodLink RX3 94 yX3_collect, Cond.instanceMethod yX3_collect]
def wsL_law_r11 : List Cond := [Cond.selects RX3 yX3_collect yX3_collect, Cond.code yX3_collect cX3_collect 3 (some .boolean), Cond.methodLink RX3 80 yX3_put, Cond.instanceMethod yX3_put, Cond.selects RX3 yX3_put yX3_put, Cond.code yX3_put cX3_put 5 (some .boolean), Cond.fieldLink RX3 77 "WornFlashModel" "nextSerial" "I", Cond.methodLink RX3 73 yX3_operates, Cond.instanceMethod yX3_operates, Cond.selects RX3 yX3_operates yX3_operates, Cond.code yX3_operates cX3_operates 1 (some .boolean), Cond.fieldLink RX3 63 "WornFlashModel" "fuse" "I", Cond.fieldLink RX3 66 "WornFlashModel" "gone" "Z", Cond.fieldLink RX3 70 "WornFlashModel" "operations" "I", Cond.methodLink RX3 112 yX3_cut, Cond.instanceMethod yX3_cut, Cond.selects RX3 yX3_cut yX3_cut, Cond.code yX3_cut cX3_cut 3 none, Cond.methodLink RL 31 yX2_trim, Cond.instanceMethod yX2_trim, Cond.selects RX2 yX2_trim yX2_trim, Cond.code yX2_trim cX2_trim 2 (some .int), Cond.methodLink RL 35 yX3_trim, Cond.instanceMethod yX3_trim]
def wsL_law_r12 : List Cond := [Cond.selects RX3 yX3_trim yX3_trim, Cond.code yX3_trim cX3_trim 2 (some .int), Cond.methodLink RL 36 yX2_flush, Cond.instanceMethod yX2_flush, Cond.selects RX2 yX2_flush yX2_flush, Cond.code yX2_flush cX2_flush 2 (some .int), Cond.methodLink RL 39 yX3_flush, Cond.instanceMethod yX3_flush, Cond.selects RX3 yX3_flush yX3_flush, Cond.code yX3_flush cX3_flush 1 (some .int), Cond.methodLink RL 40 yX2_cut, Cond.instanceMethod yX2_cut, Cond.selects RX2 yX2_cut yX2_cut, Cond.code yX2_cut cX2_cut 1 none, Cond.methodLink RL 43 yX3_cut, Cond.methodLink RL 44 yX2_fuse, Cond.instanceMethod yX2_fuse, Cond.selects RX2 yX2_fuse yX2_fuse, Cond.code yX2_fuse cX2_fuse 2 (some .boolean), Cond.methodLink RL 48 yX3_fuse, Cond.instanceMethod yX3_fuse, Cond.selects RX3 yX3_fuse yX3_fuse, Cond.code yX3_fuse cX3_fuse 2 (some .boolean), Cond.methodLink RL 49 yX2_read]
def wsL_law_r13 : List Cond := [Cond.instanceMethod yX2_read, Cond.selects RX2 yX2_read yX2_read, Cond.code yX2_read cX2_read 4 (some .int), Cond.methodLink RX2 60 yX2_place, Cond.instanceMethod yX2_place, Cond.selects RX2 yX2_place yX2_place, Cond.code yX2_place cX2_place 2 (some .int), Cond.methodLink RL 52 yX3_read, Cond.instanceMethod yX3_read, Cond.selects RX3 yX3_read yX3_read, Cond.code yX3_read cX3_read 4 (some .int), Cond.methodLink RL 53 yX2_holds, Cond.instanceMethod yX2_holds, Cond.selects RX2 yX2_holds yX2_holds, Cond.code yX2_holds cX2_holds 4 (some .int), Cond.methodLink RL 56 yX3_holds, Cond.instanceMethod yX3_holds, Cond.selects RX3 yX3_holds yX3_holds, Cond.code yX3_holds cX3_holds 4 (some .int), Cond.methodLink RL 57 yX2_buffered, Cond.instanceMethod yX2_buffered, Cond.selects RX2 yX2_buffered yX2_buffered, Cond.code yX2_buffered cX2_buffered 1 (some .int), Cond.methodLink RL 60 yX3_buffered]
def wsL_law_r14 : List Cond := [Cond.instanceMethod yX3_buffered, Cond.selects RX3 yX3_buffered yX3_buffered, Cond.code yX3_buffered cX3_buffered 1 (some .int), Cond.methodLink RL 61 yX2_place, Cond.methodLink RL 64 yX3_place, Cond.instanceMethod yX3_place, Cond.selects RX3 yX3_place yX3_place, Cond.code yX3_place cX3_place 2 (some .int), Cond.methodLink RL 65 yX2_tag, Cond.instanceMethod yX2_tag, Cond.selects RX2 yX2_tag yX2_tag, Cond.code yX2_tag cX2_tag 2 (some .int), Cond.methodLink RX2 72 yX1_isProgrammed, Cond.instanceMethod yX1_isProgrammed, Cond.selects RX1 yX1_isProgrammed yX1_isProgrammed, Cond.code yX1_isProgrammed cX1_isProgrammed 2 (some .boolean), Cond.methodLink RL 68 yX3_tag, Cond.instanceMethod yX3_tag, Cond.selects RX3 yX3_tag yX3_tag, Cond.code yX3_tag cX3_tag 2 (some .int), Cond.methodLink RX3 119 yX3_isPlace, Cond.instanceMethod yX3_isPlace, Cond.selects RX3 yX3_isPlace yX3_isPlace, Cond.code yX3_isPlace cX3_isPlace 2 (some .boolean)]
def wsL_law_r15 : List Cond := [Cond.methodLink RL 69 yX2_serial, Cond.instanceMethod yX2_serial, Cond.selects RX2 yX2_serial yX2_serial, Cond.code yX2_serial cX2_serial 2 (some .int), Cond.methodLink RL 72 yX3_serial, Cond.instanceMethod yX3_serial, Cond.selects RX3 yX3_serial yX3_serial, Cond.code yX3_serial cX3_serial 2 (some .int), Cond.methodLink RL 73 yX2_valid, Cond.instanceMethod yX2_valid, Cond.selects RX2 yX2_valid yX2_valid, Cond.code yX2_valid cX2_valid 2 (some .int), Cond.methodLink RX2 81 yX1_isBlock, Cond.instanceMethod yX1_isBlock, Cond.selects RX1 yX1_isBlock yX1_isBlock, Cond.code yX1_isBlock cX1_isBlock 2 (some .boolean), Cond.methodLink RX2 84 yX1_countValid, Cond.methodLink RL 76 yX3_valid, Cond.instanceMethod yX3_valid, Cond.selects RX3 yX3_valid yX3_valid, Cond.code yX3_valid cX3_valid 2 (some .int), Cond.methodLink RX3 122 yX3_isBlock, Cond.instanceMethod yX3_isBlock, Cond.selects RX3 yX3_isBlock yX3_isBlock]
def wsL_law_r16 : List Cond := [Cond.code yX3_isBlock cX3_isBlock 2 (some .boolean), Cond.methodLink RL 77 yX2_erasures, Cond.instanceMethod yX2_erasures, Cond.selects RX2 yX2_erasures yX2_erasures, Cond.code yX2_erasures cX2_erasures 2 (some .int), Cond.methodLink RL 80 yX3_erasures, Cond.instanceMethod yX3_erasures, Cond.selects RX3 yX3_erasures yX3_erasures, Cond.code yX3_erasures cX3_erasures 2 (some .int), Cond.methodLink RL 81 yX2_open, Cond.instanceMethod yX2_open, Cond.selects RX2 yX2_open yX2_open, Cond.code yX2_open cX2_open 1 (some .int), Cond.methodLink RL 84 yX3_open, Cond.instanceMethod yX3_open, Cond.selects RX3 yX3_open yX3_open, Cond.code yX3_open cX3_open 1 (some .int), Cond.methodLink RL 85 yX2_free, Cond.instanceMethod yX2_free, Cond.selects RX2 yX2_free yX2_free, Cond.code yX2_free cX2_free 1 (some .int), Cond.methodLink RL 88 yX3_free, Cond.instanceMethod yX3_free, Cond.selects RX3 yX3_free yX3_free]
def wsL_law_r17 : List Cond := [Cond.code yX3_free cX3_free 1 (some .int), Cond.methodLink RL 89 yX2_operations, Cond.instanceMethod yX2_operations, Cond.selects RX2 yX2_operations yX2_operations, Cond.code yX2_operations cX2_operations 1 (some .int), Cond.methodLink RL 92 yX3_operations, Cond.instanceMethod yX3_operations, Cond.selects RX3 yX3_operations yX3_operations, Cond.code yX3_operations cX3_operations 1 (some .int)]
def wsL_law : List Cond := (wsL_law_r1 ++ (wsL_law_r2 ++ (wsL_law_r3 ++ (wsL_law_r4 ++ (wsL_law_r5 ++ (wsL_law_r6 ++ (wsL_law_r7 ++ (wsL_law_r8 ++ (wsL_law_r9 ++ (wsL_law_r10 ++ (wsL_law_r11 ++ (wsL_law_r12 ++ (wsL_law_r13 ++ (wsL_law_r14 ++ (wsL_law_r15 ++ (wsL_law_r16 ++ wsL_law_r17)))))))))))))))) ++ wsX20 ++ wsX30 ++ wsX10 ++ wsX00 ++ ([] : List Cond)
set_option maxRecDepth 20000 in
theorem wsL_law_in : ∀ w ∈ wsL_law, w ∈ lw_tbl := fun w h => (goodIn_p wsL_law [311, 35, 38, 43, 93, 316, 128, 370, 132, 136, 140, 144, 148, 152, 156, 160, 164, 168, 172, 176, 179, 182, 186, 190, 194, 198, 203, 208, 212, 216, 220, 224, 228, 232, 236, 415, 419, 423, 428, 432, 436, 378, 382, 386, 391, 395, 399, 440, 403, 407, 411, 374, 242, 445, 246, 449, 250, 254, 453, 258, 262, 457, 266, 461, 270, 465, 469, 275, 279, 473, 477, 283, 481, 287, 291, 485, 489, 296, 493, 300, 497, 304, 501, 308, 505] (by decide +kernel) (by decide +kernel) w h).1
theorem inlX0 : ∀ w ∈ wsX00, w ∈ wsL_law := fun _ h => List.mem_append_left _ (List.mem_append_right _ h)
theorem inX0 : ∀ w ∈ wsX00, w ∈ lw_tbl := fun w h => wsL_law_in w (inlX0 w h)
theorem inlX1 : ∀ w ∈ wsX10, w ∈ wsL_law := fun _ h => List.mem_append_left _ (List.mem_append_left _ (List.mem_append_right _ h))
theorem inX1 : ∀ w ∈ wsX10, w ∈ lw_tbl := fun w h => wsL_law_in w (inlX1 w h)
theorem inlX2 : ∀ w ∈ wsX20, w ∈ wsL_law := fun _ h => List.mem_append_left _ (List.mem_append_left _ (List.mem_append_left _ (List.mem_append_left _ (List.mem_append_right _ h))))
theorem inX2 : ∀ w ∈ wsX20, w ∈ lw_tbl := fun w h => wsL_law_in w (inlX2 w h)
theorem inlX3 : ∀ w ∈ wsX30, w ∈ wsL_law := fun _ h => List.mem_append_left _ (List.mem_append_left _ (List.mem_append_left _ (List.mem_append_right _ h)))
theorem inX3 : ∀ w ∈ wsX30, w ∈ lw_tbl := fun w h => wsL_law_in w (inlX3 w h)
theorem inJ9 : ∀ w ∈ wsJ90, w ∈ lw_tbl := by decide +kernel
theorem dX0_init_0 : decode cX0_init 0 = .ok (.aload_n 0, 1) := by decide +kernel
theorem dX0_init_1 : decode cX0_init 1 = .ok (.invokespecial 3, 3) := by decide +kernel
theorem dX0_init_4 : decode cX0_init 4 = .ok (.aload_n 0, 1) := by decide +kernel
theorem dX0_init_5 : decode cX0_init 5 = .ok (.iconst 3, 1) := by decide +kernel
theorem dX0_init_6 : decode cX0_init 6 = .ok (.newarray .int, 2) := by decide +kernel
theorem dX0_init_8 : decode cX0_init 8 = .ok (.putfield 11, 3) := by decide +kernel
theorem dX0_init_11 : decode cX0_init 11 = .ok (.aload_n 0, 1) := by decide +kernel
theorem dX0_init_12 : decode cX0_init 12 = .ok (.iconst 3, 1) := by decide +kernel
theorem dX0_init_13 : decode cX0_init 13 = .ok (.newarray .int, 2) := by decide +kernel
theorem dX0_init_15 : decode cX0_init 15 = .ok (.putfield 15, 3) := by decide +kernel
theorem dX0_init_18 : decode cX0_init 18 = .ok (.aload_n 0, 1) := by decide +kernel
theorem dX0_init_19 : decode cX0_init 19 = .ok (.iconst 3, 1) := by decide +kernel
theorem dX0_init_20 : decode cX0_init 20 = .ok (.newarray .int, 2) := by decide +kernel
theorem dX0_init_22 : decode cX0_init 22 = .ok (.putfield 18, 3) := by decide +kernel
theorem dX0_init_25 : decode cX0_init 25 = .ok (.return_, 1) := by decide +kernel
theorem dX0_isFull_0 : decode cX0_isFull 0 = .ok (.aload_n 0, 1) := by decide +kernel
theorem dX0_isFull_1 : decode cX0_isFull 1 = .ok (.getfield 21, 3) := by decide +kernel
theorem dX0_isFull_4 : decode cX0_isFull 4 = .ok (.iconst 3, 1) := by decide +kernel
theorem dX0_isFull_5 : decode cX0_isFull 5 = .ok (.if_icmp .ne 7, 3) := by decide +kernel
theorem dX0_isFull_8 : decode cX0_isFull 8 = .ok (.iconst 1, 1) := by decide +kernel
theorem dX0_isFull_9 : decode cX0_isFull 9 = .ok (.goto 4, 3) := by decide +kernel
theorem dX0_isFull_12 : decode cX0_isFull 12 = .ok (.iconst 0, 1) := by decide +kernel
theorem dX0_isFull_13 : decode cX0_isFull 13 = .ok (.ireturn, 1) := by decide +kernel
theorem dX0_find_0 : decode cX0_find 0 = .ok (.iconst 0, 1) := by decide +kernel
theorem dX0_find_1 : decode cX0_find 1 = .ok (.istore_n 2, 1) := by decide +kernel
theorem dX0_find_2 : decode cX0_find 2 = .ok (.iload_n 2, 1) := by decide +kernel
theorem dX0_find_3 : decode cX0_find 3 = .ok (.aload_n 0, 1) := by decide +kernel
theorem dX0_find_4 : decode cX0_find 4 = .ok (.getfield 21, 3) := by decide +kernel
theorem dX0_find_7 : decode cX0_find 7 = .ok (.if_icmp .ge 21, 3) := by decide +kernel
theorem dX0_find_10 : decode cX0_find 10 = .ok (.aload_n 0, 1) := by decide +kernel
theorem dX0_find_11 : decode cX0_find 11 = .ok (.getfield 11, 3) := by decide +kernel
theorem dX0_find_14 : decode cX0_find 14 = .ok (.iload_n 2, 1) := by decide +kernel
theorem dX0_find_15 : decode cX0_find 15 = .ok (.iaload, 1) := by decide +kernel
theorem dX0_find_16 : decode cX0_find 16 = .ok (.iload_n 1, 1) := by decide +kernel
theorem dX0_find_17 : decode cX0_find 17 = .ok (.if_icmp .ne 5, 3) := by decide +kernel
theorem dX0_find_20 : decode cX0_find 20 = .ok (.iload_n 2, 1) := by decide +kernel
theorem dX0_find_21 : decode cX0_find 21 = .ok (.ireturn, 1) := by decide +kernel
theorem dX0_find_22 : decode cX0_find 22 = .ok (.iinc 2 1, 3) := by decide +kernel
theorem dX0_find_25 : decode cX0_find 25 = .ok (.goto (-23), 3) := by decide +kernel
theorem dX0_find_28 : decode cX0_find 28 = .ok (.iconst (-1), 1) := by decide +kernel
theorem dX0_find_29 : decode cX0_find 29 = .ok (.ireturn, 1) := by decide +kernel
theorem dX0_change_0 : decode cX0_change 0 = .ok (.aload_n 0, 1) := by decide +kernel
theorem dX0_change_1 : decode cX0_change 1 = .ok (.getfield 15, 3) := by decide +kernel
theorem dX0_change_4 : decode cX0_change 4 = .ok (.iload_n 1, 1) := by decide +kernel
theorem dX0_change_5 : decode cX0_change 5 = .ok (.iload_n 2, 1) := by decide +kernel
theorem dX0_change_6 : decode cX0_change 6 = .ok (.iastore, 1) := by decide +kernel
theorem dX0_change_7 : decode cX0_change 7 = .ok (.aload_n 0, 1) := by decide +kernel
theorem dX0_change_8 : decode cX0_change 8 = .ok (.getfield 18, 3) := by decide +kernel
theorem dX0_change_11 : decode cX0_change 11 = .ok (.iload_n 1, 1) := by decide +kernel
theorem dX0_change_12 : decode cX0_change 12 = .ok (.iload_n 3, 1) := by decide +kernel
theorem dX0_change_13 : decode cX0_change 13 = .ok (.iastore, 1) := by decide +kernel
theorem dX0_change_14 : decode cX0_change 14 = .ok (.return_, 1) := by decide +kernel
set_option maxRecDepth 20000 in
theorem ggX0_add_X0_isFull : GoodIn wsX0_add wsX0_isFull := goodIn_r _ [7, 2, 14, 15, 16, 17] (by decide +kernel) (by decide +kernel)
set_option maxRecDepth 20000 in
theorem gX0_add_X0_isFull : GoodIn wsX0_add (wsV RX0 25 RX0 yX0_isFull wsX0_isFull) := goodIn_app (goodIn_of _ (by decide +kernel)) ggX0_add_X0_isFull
set_option maxRecDepth 20000 in
theorem ggX0_add_X0_change : GoodIn wsX0_add wsX0_change := goodIn_r _ [11, 12, 13, 14, 15, 16, 17] (by decide +kernel) (by decide +kernel)
set_option maxRecDepth 20000 in
theorem gX0_add_X0_change : GoodIn wsX0_add (wsV RX0 29 RX0 yX0_change wsX0_change) := goodIn_app (goodIn_of _ (by decide +kernel)) ggX0_add_X0_change
theorem dX0_add_0 : decode cX0_add 0 = .ok (.aload_n 0, 1) := by decide +kernel
theorem dX0_add_1 : decode cX0_add 1 = .ok (.invokevirtual 25, 3) := by decide +kernel
theorem dX0_add_4 : decode cX0_add 4 = .ok (.ifCond .eq 4, 3) := by decide +kernel
theorem dX0_add_7 : decode cX0_add 7 = .ok (.return_, 1) := by decide +kernel
theorem dX0_add_8 : decode cX0_add 8 = .ok (.aload_n 0, 1) := by decide +kernel
theorem dX0_add_9 : decode cX0_add 9 = .ok (.getfield 11, 3) := by decide +kernel
theorem dX0_add_12 : decode cX0_add 12 = .ok (.aload_n 0, 1) := by decide +kernel
theorem dX0_add_13 : decode cX0_add 13 = .ok (.getfield 21, 3) := by decide +kernel
theorem dX0_add_16 : decode cX0_add 16 = .ok (.iload_n 1, 1) := by decide +kernel
theorem dX0_add_17 : decode cX0_add 17 = .ok (.iastore, 1) := by decide +kernel
theorem dX0_add_18 : decode cX0_add 18 = .ok (.aload_n 0, 1) := by decide +kernel
theorem dX0_add_19 : decode cX0_add 19 = .ok (.aload_n 0, 1) := by decide +kernel
theorem dX0_add_20 : decode cX0_add 20 = .ok (.getfield 21, 3) := by decide +kernel
theorem dX0_add_23 : decode cX0_add 23 = .ok (.iload_n 2, 1) := by decide +kernel
theorem dX0_add_24 : decode cX0_add 24 = .ok (.iload_n 3, 1) := by decide +kernel
theorem dX0_add_25 : decode cX0_add 25 = .ok (.invokevirtual 29, 3) := by decide +kernel
theorem dX0_add_28 : decode cX0_add 28 = .ok (.aload_n 0, 1) := by decide +kernel
theorem dX0_add_29 : decode cX0_add 29 = .ok (.dup, 1) := by decide +kernel
theorem dX0_add_30 : decode cX0_add 30 = .ok (.getfield 21, 3) := by decide +kernel
theorem dX0_add_33 : decode cX0_add 33 = .ok (.iconst 1, 1) := by decide +kernel
theorem dX0_add_34 : decode cX0_add 34 = .ok (.iadd, 1) := by decide +kernel
theorem dX0_add_35 : decode cX0_add 35 = .ok (.putfield 21, 3) := by decide +kernel
end
section
theorem dX0_add_38 : decode cX0_add 38 = .ok (.return_, 1) := by decide +kernel
theorem dX0_dropFirst_0 : decode cX0_dropFirst 0 = .ok (.iconst 1, 1) := by decide +kernel
theorem dX0_dropFirst_1 : decode cX0_dropFirst 1 = .ok (.istore_n 1, 1) := by decide +kernel
theorem dX0_dropFirst_2 : decode cX0_dropFirst 2 = .ok (.iload_n 1, 1) := by decide +kernel
theorem dX0_dropFirst_3 : decode cX0_dropFirst 3 = .ok (.aload_n 0, 1) := by decide +kernel
theorem dX0_dropFirst_4 : decode cX0_dropFirst 4 = .ok (.getfield 21, 3) := by decide +kernel
theorem dX0_dropFirst_7 : decode cX0_dropFirst 7 = .ok (.if_icmp .ge 51, 3) := by decide +kernel
theorem dX0_dropFirst_10 : decode cX0_dropFirst 10 = .ok (.aload_n 0, 1) := by decide +kernel
theorem dX0_dropFirst_11 : decode cX0_dropFirst 11 = .ok (.getfield 11, 3) := by decide +kernel
theorem dX0_dropFirst_14 : decode cX0_dropFirst 14 = .ok (.iload_n 1, 1) := by decide +kernel
theorem dX0_dropFirst_15 : decode cX0_dropFirst 15 = .ok (.iconst 1, 1) := by decide +kernel
theorem dX0_dropFirst_16 : decode cX0_dropFirst 16 = .ok (.isub, 1) := by decide +kernel
theorem dX0_dropFirst_17 : decode cX0_dropFirst 17 = .ok (.aload_n 0, 1) := by decide +kernel
theorem dX0_dropFirst_18 : decode cX0_dropFirst 18 = .ok (.getfield 11, 3) := by decide +kernel
theorem dX0_dropFirst_21 : decode cX0_dropFirst 21 = .ok (.iload_n 1, 1) := by decide +kernel
theorem dX0_dropFirst_22 : decode cX0_dropFirst 22 = .ok (.iaload, 1) := by decide +kernel
theorem dX0_dropFirst_23 : decode cX0_dropFirst 23 = .ok (.iastore, 1) := by decide +kernel
theorem dX0_dropFirst_24 : decode cX0_dropFirst 24 = .ok (.aload_n 0, 1) := by decide +kernel
theorem dX0_dropFirst_25 : decode cX0_dropFirst 25 = .ok (.getfield 15, 3) := by decide +kernel
theorem dX0_dropFirst_28 : decode cX0_dropFirst 28 = .ok (.iload_n 1, 1) := by decide +kernel
theorem dX0_dropFirst_29 : decode cX0_dropFirst 29 = .ok (.iconst 1, 1) := by decide +kernel
theorem dX0_dropFirst_30 : decode cX0_dropFirst 30 = .ok (.isub, 1) := by decide +kernel
theorem dX0_dropFirst_31 : decode cX0_dropFirst 31 = .ok (.aload_n 0, 1) := by decide +kernel
theorem dX0_dropFirst_32 : decode cX0_dropFirst 32 = .ok (.getfield 15, 3) := by decide +kernel
theorem dX0_dropFirst_35 : decode cX0_dropFirst 35 = .ok (.iload_n 1, 1) := by decide +kernel
theorem dX0_dropFirst_36 : decode cX0_dropFirst 36 = .ok (.iaload, 1) := by decide +kernel
theorem dX0_dropFirst_37 : decode cX0_dropFirst 37 = .ok (.iastore, 1) := by decide +kernel
theorem dX0_dropFirst_38 : decode cX0_dropFirst 38 = .ok (.aload_n 0, 1) := by decide +kernel
theorem dX0_dropFirst_39 : decode cX0_dropFirst 39 = .ok (.getfield 18, 3) := by decide +kernel
theorem dX0_dropFirst_42 : decode cX0_dropFirst 42 = .ok (.iload_n 1, 1) := by decide +kernel
theorem dX0_dropFirst_43 : decode cX0_dropFirst 43 = .ok (.iconst 1, 1) := by decide +kernel
theorem dX0_dropFirst_44 : decode cX0_dropFirst 44 = .ok (.isub, 1) := by decide +kernel
theorem dX0_dropFirst_45 : decode cX0_dropFirst 45 = .ok (.aload_n 0, 1) := by decide +kernel
theorem dX0_dropFirst_46 : decode cX0_dropFirst 46 = .ok (.getfield 18, 3) := by decide +kernel
theorem dX0_dropFirst_49 : decode cX0_dropFirst 49 = .ok (.iload_n 1, 1) := by decide +kernel
theorem dX0_dropFirst_50 : decode cX0_dropFirst 50 = .ok (.iaload, 1) := by decide +kernel
theorem dX0_dropFirst_51 : decode cX0_dropFirst 51 = .ok (.iastore, 1) := by decide +kernel
theorem dX0_dropFirst_52 : decode cX0_dropFirst 52 = .ok (.iinc 1 1, 3) := by decide +kernel
theorem dX0_dropFirst_55 : decode cX0_dropFirst 55 = .ok (.goto (-53), 3) := by decide +kernel
theorem dX0_dropFirst_58 : decode cX0_dropFirst 58 = .ok (.aload_n 0, 1) := by decide +kernel
theorem dX0_dropFirst_59 : decode cX0_dropFirst 59 = .ok (.dup, 1) := by decide +kernel
theorem dX0_dropFirst_60 : decode cX0_dropFirst 60 = .ok (.getfield 21, 3) := by decide +kernel
theorem dX0_dropFirst_63 : decode cX0_dropFirst 63 = .ok (.iconst 1, 1) := by decide +kernel
theorem dX0_dropFirst_64 : decode cX0_dropFirst 64 = .ok (.isub, 1) := by decide +kernel
theorem dX0_dropFirst_65 : decode cX0_dropFirst 65 = .ok (.putfield 21, 3) := by decide +kernel
theorem dX0_dropFirst_68 : decode cX0_dropFirst 68 = .ok (.return_, 1) := by decide +kernel
theorem dX1_init_0 : decode cX1_init 0 = .ok (.aload_n 0, 1) := by decide +kernel
theorem dX1_init_1 : decode cX1_init 1 = .ok (.invokespecial 3, 3) := by decide +kernel
theorem dX1_init_4 : decode cX1_init 4 = .ok (.aload_n 0, 1) := by decide +kernel
theorem dX1_init_5 : decode cX1_init 5 = .ok (.iload_n 1, 1) := by decide +kernel
theorem dX1_init_6 : decode cX1_init 6 = .ok (.putfield 9, 3) := by decide +kernel
theorem dX1_init_9 : decode cX1_init 9 = .ok (.aload_n 0, 1) := by decide +kernel
theorem dX1_init_10 : decode cX1_init 10 = .ok (.iload_n 1, 1) := by decide +kernel
theorem dX1_init_11 : decode cX1_init 11 = .ok (.iconst 4, 1) := by decide +kernel
theorem dX1_init_12 : decode cX1_init 12 = .ok (.imul, 1) := by decide +kernel
theorem dX1_init_13 : decode cX1_init 13 = .ok (.newarray .int, 2) := by decide +kernel
theorem dX1_init_15 : decode cX1_init 15 = .ok (.putfield 15, 3) := by decide +kernel
theorem dX1_init_18 : decode cX1_init 18 = .ok (.aload_n 0, 1) := by decide +kernel
theorem dX1_init_19 : decode cX1_init 19 = .ok (.iload_n 1, 1) := by decide +kernel
theorem dX1_init_20 : decode cX1_init 20 = .ok (.iconst 4, 1) := by decide +kernel
theorem dX1_init_21 : decode cX1_init 21 = .ok (.imul, 1) := by decide +kernel
theorem dX1_init_22 : decode cX1_init 22 = .ok (.newarray .int, 2) := by decide +kernel
theorem dX1_init_24 : decode cX1_init 24 = .ok (.putfield 19, 3) := by decide +kernel
theorem dX1_init_27 : decode cX1_init 27 = .ok (.aload_n 0, 1) := by decide +kernel
theorem dX1_init_28 : decode cX1_init 28 = .ok (.iload_n 1, 1) := by decide +kernel
theorem dX1_init_29 : decode cX1_init 29 = .ok (.iconst 4, 1) := by decide +kernel
theorem dX1_init_30 : decode cX1_init 30 = .ok (.imul, 1) := by decide +kernel
theorem dX1_init_31 : decode cX1_init 31 = .ok (.newarray .int, 2) := by decide +kernel
theorem dX1_init_33 : decode cX1_init 33 = .ok (.putfield 22, 3) := by decide +kernel
theorem dX1_init_36 : decode cX1_init 36 = .ok (.aload_n 0, 1) := by decide +kernel
theorem dX1_init_37 : decode cX1_init 37 = .ok (.iload_n 1, 1) := by decide +kernel
theorem dX1_init_38 : decode cX1_init 38 = .ok (.iconst 4, 1) := by decide +kernel
theorem dX1_init_39 : decode cX1_init 39 = .ok (.imul, 1) := by decide +kernel
theorem dX1_init_40 : decode cX1_init 40 = .ok (.newarray .int, 2) := by decide +kernel
theorem dX1_init_42 : decode cX1_init 42 = .ok (.putfield 25, 3) := by decide +kernel
theorem dX1_init_45 : decode cX1_init 45 = .ok (.aload_n 0, 1) := by decide +kernel
theorem dX1_init_46 : decode cX1_init 46 = .ok (.iload_n 1, 1) := by decide +kernel
theorem dX1_init_47 : decode cX1_init 47 = .ok (.newarray .int, 2) := by decide +kernel
theorem dX1_init_49 : decode cX1_init 49 = .ok (.putfield 28, 3) := by decide +kernel
theorem dX1_init_52 : decode cX1_init 52 = .ok (.aload_n 0, 1) := by decide +kernel
theorem dX1_init_53 : decode cX1_init 53 = .ok (.iload_n 1, 1) := by decide +kernel
theorem dX1_init_54 : decode cX1_init 54 = .ok (.newarray .int, 2) := by decide +kernel
theorem dX1_init_56 : decode cX1_init 56 = .ok (.putfield 31, 3) := by decide +kernel
theorem dX1_init_59 : decode cX1_init 59 = .ok (.aload_n 0, 1) := by decide +kernel
theorem dX1_init_60 : decode cX1_init 60 = .ok (.iload_n 1, 1) := by decide +kernel
theorem dX1_init_61 : decode cX1_init 61 = .ok (.iconst 3, 1) := by decide +kernel
theorem dX1_init_62 : decode cX1_init 62 = .ok (.isub, 1) := by decide +kernel
theorem dX1_init_63 : decode cX1_init 63 = .ok (.iconst 4, 1) := by decide +kernel
theorem dX1_init_64 : decode cX1_init 64 = .ok (.imul, 1) := by decide +kernel
theorem dX1_init_65 : decode cX1_init 65 = .ok (.newarray .int, 2) := by decide +kernel
theorem dX1_init_67 : decode cX1_init 67 = .ok (.putfield 34, 3) := by decide +kernel
theorem dX1_init_70 : decode cX1_init 70 = .ok (.iconst 0, 1) := by decide +kernel
theorem dX1_init_71 : decode cX1_init 71 = .ok (.istore_n 2, 1) := by decide +kernel
theorem dX1_init_72 : decode cX1_init 72 = .ok (.iload_n 2, 1) := by decide +kernel
theorem dX1_init_73 : decode cX1_init 73 = .ok (.aload_n 0, 1) := by decide +kernel
theorem dX1_init_74 : decode cX1_init 74 = .ok (.getfield 34, 3) := by decide +kernel
theorem dX1_init_77 : decode cX1_init 77 = .ok (.arraylength, 1) := by decide +kernel
theorem dX1_init_78 : decode cX1_init 78 = .ok (.if_icmp .ge 16, 3) := by decide +kernel
theorem dX1_init_81 : decode cX1_init 81 = .ok (.aload_n 0, 1) := by decide +kernel
theorem dX1_init_82 : decode cX1_init 82 = .ok (.getfield 34, 3) := by decide +kernel
theorem dX1_init_85 : decode cX1_init 85 = .ok (.iload_n 2, 1) := by decide +kernel
theorem dX1_init_86 : decode cX1_init 86 = .ok (.iconst (-1), 1) := by decide +kernel
theorem dX1_init_87 : decode cX1_init 87 = .ok (.iastore, 1) := by decide +kernel
theorem dX1_init_88 : decode cX1_init 88 = .ok (.iinc 2 1, 3) := by decide +kernel
theorem dX1_init_91 : decode cX1_init 91 = .ok (.goto (-19), 3) := by decide +kernel
theorem dX1_init_94 : decode cX1_init 94 = .ok (.return_, 1) := by decide +kernel
theorem dX1_isBlock_0 : decode cX1_isBlock 0 = .ok (.iload_n 1, 1) := by decide +kernel
theorem dX1_isBlock_1 : decode cX1_isBlock 1 = .ok (.ifCond .lt 15, 3) := by decide +kernel
theorem dX1_isBlock_4 : decode cX1_isBlock 4 = .ok (.iload_n 1, 1) := by decide +kernel
theorem dX1_isBlock_5 : decode cX1_isBlock 5 = .ok (.aload_n 0, 1) := by decide +kernel
theorem dX1_isBlock_6 : decode cX1_isBlock 6 = .ok (.getfield 9, 3) := by decide +kernel
theorem dX1_isBlock_9 : decode cX1_isBlock 9 = .ok (.if_icmp .ge 7, 3) := by decide +kernel
theorem dX1_isBlock_12 : decode cX1_isBlock 12 = .ok (.iconst 1, 1) := by decide +kernel
theorem dX1_isBlock_13 : decode cX1_isBlock 13 = .ok (.goto 4, 3) := by decide +kernel
theorem dX1_isBlock_16 : decode cX1_isBlock 16 = .ok (.iconst 0, 1) := by decide +kernel
theorem dX1_isBlock_17 : decode cX1_isBlock 17 = .ok (.ireturn, 1) := by decide +kernel
theorem dX1_isProgrammed_0 : decode cX1_isProgrammed 0 = .ok (.iload_n 1, 1) := by decide +kernel
theorem dX1_isProgrammed_1 : decode cX1_isProgrammed 1 = .ok (.ifCond .lt 25, 3) := by decide +kernel
theorem dX1_isProgrammed_4 : decode cX1_isProgrammed 4 = .ok (.iload_n 1, 1) := by decide +kernel
theorem dX1_isProgrammed_5 : decode cX1_isProgrammed 5 = .ok (.aload_n 0, 1) := by decide +kernel
theorem dX1_isProgrammed_6 : decode cX1_isProgrammed 6 = .ok (.getfield 22, 3) := by decide +kernel
theorem dX1_isProgrammed_9 : decode cX1_isProgrammed 9 = .ok (.arraylength, 1) := by decide +kernel
theorem dX1_isProgrammed_10 : decode cX1_isProgrammed 10 = .ok (.if_icmp .ge 16, 3) := by decide +kernel
theorem dX1_isProgrammed_13 : decode cX1_isProgrammed 13 = .ok (.aload_n 0, 1) := by decide +kernel
theorem dX1_isProgrammed_14 : decode cX1_isProgrammed 14 = .ok (.getfield 22, 3) := by decide +kernel
theorem dX1_isProgrammed_17 : decode cX1_isProgrammed 17 = .ok (.iload_n 1, 1) := by decide +kernel
theorem dX1_isProgrammed_18 : decode cX1_isProgrammed 18 = .ok (.iaload, 1) := by decide +kernel
theorem dX1_isProgrammed_19 : decode cX1_isProgrammed 19 = .ok (.ifCond .eq 7, 3) := by decide +kernel
theorem dX1_isProgrammed_22 : decode cX1_isProgrammed 22 = .ok (.iconst 1, 1) := by decide +kernel
theorem dX1_isProgrammed_23 : decode cX1_isProgrammed 23 = .ok (.goto 4, 3) := by decide +kernel
theorem dX1_isProgrammed_26 : decode cX1_isProgrammed 26 = .ok (.iconst 0, 1) := by decide +kernel
theorem dX1_isProgrammed_27 : decode cX1_isProgrammed 27 = .ok (.ireturn, 1) := by decide +kernel
theorem dX1_isValid_0 : decode cX1_isValid 0 = .ok (.aload_n 0, 1) := by decide +kernel
theorem dX1_isValid_1 : decode cX1_isValid 1 = .ok (.getfield 22, 3) := by decide +kernel
theorem dX1_isValid_4 : decode cX1_isValid 4 = .ok (.iload_n 1, 1) := by decide +kernel
theorem dX1_isValid_5 : decode cX1_isValid 5 = .ok (.iaload, 1) := by decide +kernel
theorem dX1_isValid_6 : decode cX1_isValid 6 = .ok (.ifCond .eq 22, 3) := by decide +kernel
theorem dX1_isValid_9 : decode cX1_isValid 9 = .ok (.aload_n 0, 1) := by decide +kernel
theorem dX1_isValid_10 : decode cX1_isValid 10 = .ok (.getfield 34, 3) := by decide +kernel
theorem dX1_isValid_13 : decode cX1_isValid 13 = .ok (.aload_n 0, 1) := by decide +kernel
theorem dX1_isValid_14 : decode cX1_isValid 14 = .ok (.getfield 15, 3) := by decide +kernel
theorem dX1_isValid_17 : decode cX1_isValid 17 = .ok (.iload_n 1, 1) := by decide +kernel
theorem dX1_isValid_18 : decode cX1_isValid 18 = .ok (.iaload, 1) := by decide +kernel
theorem dX1_isValid_19 : decode cX1_isValid 19 = .ok (.iaload, 1) := by decide +kernel
theorem dX1_isValid_20 : decode cX1_isValid 20 = .ok (.iload_n 1, 1) := by decide +kernel
theorem dX1_isValid_21 : decode cX1_isValid 21 = .ok (.if_icmp .ne 7, 3) := by decide +kernel
theorem dX1_isValid_24 : decode cX1_isValid 24 = .ok (.iconst 1, 1) := by decide +kernel
theorem dX1_isValid_25 : decode cX1_isValid 25 = .ok (.goto 4, 3) := by decide +kernel
theorem dX1_isValid_28 : decode cX1_isValid 28 = .ok (.iconst 0, 1) := by decide +kernel
theorem dX1_isValid_29 : decode cX1_isValid 29 = .ok (.ireturn, 1) := by decide +kernel
theorem dX1_hasRoom_0 : decode cX1_hasRoom 0 = .ok (.iload_n 1, 1) := by decide +kernel
theorem dX1_hasRoom_1 : decode cX1_hasRoom 1 = .ok (.ifCond .lt 25, 3) := by decide +kernel
theorem dX1_hasRoom_4 : decode cX1_hasRoom 4 = .ok (.iload_n 1, 1) := by decide +kernel
theorem dX1_hasRoom_5 : decode cX1_hasRoom 5 = .ok (.aload_n 0, 1) := by decide +kernel
theorem dX1_hasRoom_6 : decode cX1_hasRoom 6 = .ok (.getfield 9, 3) := by decide +kernel
theorem dX1_hasRoom_9 : decode cX1_hasRoom 9 = .ok (.if_icmp .ge 17, 3) := by decide +kernel
theorem dX1_hasRoom_12 : decode cX1_hasRoom 12 = .ok (.aload_n 0, 1) := by decide +kernel
theorem dX1_hasRoom_13 : decode cX1_hasRoom 13 = .ok (.getfield 28, 3) := by decide +kernel
theorem dX1_hasRoom_16 : decode cX1_hasRoom 16 = .ok (.iload_n 1, 1) := by decide +kernel
theorem dX1_hasRoom_17 : decode cX1_hasRoom 17 = .ok (.iaload, 1) := by decide +kernel
theorem dX1_hasRoom_18 : decode cX1_hasRoom 18 = .ok (.iconst 4, 1) := by decide +kernel
theorem dX1_hasRoom_19 : decode cX1_hasRoom 19 = .ok (.if_icmp .ge 7, 3) := by decide +kernel
theorem dX1_hasRoom_22 : decode cX1_hasRoom 22 = .ok (.iconst 1, 1) := by decide +kernel
theorem dX1_hasRoom_23 : decode cX1_hasRoom 23 = .ok (.goto 4, 3) := by decide +kernel
theorem dX1_hasRoom_26 : decode cX1_hasRoom 26 = .ok (.iconst 0, 1) := by decide +kernel
theorem dX1_hasRoom_27 : decode cX1_hasRoom 27 = .ok (.ireturn, 1) := by decide +kernel
set_option maxRecDepth 20000 in
theorem ggX1_countValid_X1_isValid : GoodIn wsX1_countValid wsX1_isValid := goodIn_r _ [5, 6, 7, 8, 9, 10, 11, 12, 13, 14, 15, 16, 17, 18, 19] (by decide +kernel) (by decide +kernel)
set_option maxRecDepth 20000 in
theorem gX1_countValid_X1_isValid : GoodIn wsX1_countValid (wsV RX1 37 RX1 yX1_isValid wsX1_isValid) := goodIn_app (goodIn_of _ (by decide +kernel)) ggX1_countValid_X1_isValid
theorem dX1_countValid_0 : decode cX1_countValid 0 = .ok (.iconst 0, 1) := by decide +kernel
theorem dX1_countValid_1 : decode cX1_countValid 1 = .ok (.istore_n 2, 1) := by decide +kernel
theorem dX1_countValid_2 : decode cX1_countValid 2 = .ok (.iconst 0, 1) := by decide +kernel
theorem dX1_countValid_3 : decode cX1_countValid 3 = .ok (.istore_n 3, 1) := by decide +kernel
theorem dX1_countValid_4 : decode cX1_countValid 4 = .ok (.iload_n 3, 1) := by decide +kernel
theorem dX1_countValid_5 : decode cX1_countValid 5 = .ok (.iconst 4, 1) := by decide +kernel
theorem dX1_countValid_6 : decode cX1_countValid 6 = .ok (.if_icmp .ge 24, 3) := by decide +kernel
theorem dX1_countValid_9 : decode cX1_countValid 9 = .ok (.aload_n 0, 1) := by decide +kernel
theorem dX1_countValid_10 : decode cX1_countValid 10 = .ok (.iload_n 1, 1) := by decide +kernel
theorem dX1_countValid_11 : decode cX1_countValid 11 = .ok (.iconst 4, 1) := by decide +kernel
theorem dX1_countValid_12 : decode cX1_countValid 12 = .ok (.imul, 1) := by decide +kernel
theorem dX1_countValid_13 : decode cX1_countValid 13 = .ok (.iload_n 3, 1) := by decide +kernel
theorem dX1_countValid_14 : decode cX1_countValid 14 = .ok (.iadd, 1) := by decide +kernel
theorem dX1_countValid_15 : decode cX1_countValid 15 = .ok (.invokevirtual 37, 3) := by decide +kernel
theorem dX1_countValid_18 : decode cX1_countValid 18 = .ok (.ifCond .eq 6, 3) := by decide +kernel
theorem dX1_countValid_21 : decode cX1_countValid 21 = .ok (.iinc 2 1, 3) := by decide +kernel
theorem dX1_countValid_24 : decode cX1_countValid 24 = .ok (.iinc 3 1, 3) := by decide +kernel
theorem dX1_countValid_27 : decode cX1_countValid 27 = .ok (.goto (-23), 3) := by decide +kernel
theorem dX1_countValid_30 : decode cX1_countValid 30 = .ok (.iload_n 2, 1) := by decide +kernel
theorem dX1_countValid_31 : decode cX1_countValid 31 = .ok (.ireturn, 1) := by decide +kernel
theorem dX1_countFree_0 : decode cX1_countFree 0 = .ok (.iconst 0, 1) := by decide +kernel
theorem dX1_countFree_1 : decode cX1_countFree 1 = .ok (.istore_n 1, 1) := by decide +kernel
theorem dX1_countFree_2 : decode cX1_countFree 2 = .ok (.iconst 0, 1) := by decide +kernel
theorem dX1_countFree_3 : decode cX1_countFree 3 = .ok (.istore_n 2, 1) := by decide +kernel
theorem dX1_countFree_4 : decode cX1_countFree 4 = .ok (.iload_n 2, 1) := by decide +kernel
theorem dX1_countFree_5 : decode cX1_countFree 5 = .ok (.aload_n 0, 1) := by decide +kernel
theorem dX1_countFree_6 : decode cX1_countFree 6 = .ok (.getfield 9, 3) := by decide +kernel
theorem dX1_countFree_9 : decode cX1_countFree 9 = .ok (.if_icmp .ge 21, 3) := by decide +kernel
theorem dX1_countFree_12 : decode cX1_countFree 12 = .ok (.aload_n 0, 1) := by decide +kernel
theorem dX1_countFree_13 : decode cX1_countFree 13 = .ok (.getfield 28, 3) := by decide +kernel
theorem dX1_countFree_16 : decode cX1_countFree 16 = .ok (.iload_n 2, 1) := by decide +kernel
theorem dX1_countFree_17 : decode cX1_countFree 17 = .ok (.iaload, 1) := by decide +kernel
theorem dX1_countFree_18 : decode cX1_countFree 18 = .ok (.ifCond .ne 6, 3) := by decide +kernel
theorem dX1_countFree_21 : decode cX1_countFree 21 = .ok (.iinc 1 1, 3) := by decide +kernel
theorem dX1_countFree_24 : decode cX1_countFree 24 = .ok (.iinc 2 1, 3) := by decide +kernel
theorem dX1_countFree_27 : decode cX1_countFree 27 = .ok (.goto (-23), 3) := by decide +kernel
theorem dX1_countFree_30 : decode cX1_countFree 30 = .ok (.iload_n 1, 1) := by decide +kernel
theorem dX1_countFree_31 : decode cX1_countFree 31 = .ok (.ireturn, 1) := by decide +kernel
theorem dX1_leastWornFree_0 : decode cX1_leastWornFree 0 = .ok (.iconst (-1), 1) := by decide +kernel
theorem dX1_leastWornFree_1 : decode cX1_leastWornFree 1 = .ok (.istore_n 1, 1) := by decide +kernel
theorem dX1_leastWornFree_2 : decode cX1_leastWornFree 2 = .ok (.iconst 0, 1) := by decide +kernel
theorem dX1_leastWornFree_3 : decode cX1_leastWornFree 3 = .ok (.istore_n 2, 1) := by decide +kernel
theorem dX1_leastWornFree_4 : decode cX1_leastWornFree 4 = .ok (.iload_n 2, 1) := by decide +kernel
theorem dX1_leastWornFree_5 : decode cX1_leastWornFree 5 = .ok (.aload_n 0, 1) := by decide +kernel
theorem dX1_leastWornFree_6 : decode cX1_leastWornFree 6 = .ok (.getfield 9, 3) := by decide +kernel
theorem dX1_leastWornFree_9 : decode cX1_leastWornFree 9 = .ok (.if_icmp .ge 40, 3) := by decide +kernel
theorem dX1_leastWornFree_12 : decode cX1_leastWornFree 12 = .ok (.aload_n 0, 1) := by decide +kernel
theorem dX1_leastWornFree_13 : decode cX1_leastWornFree 13 = .ok (.getfield 28, 3) := by decide +kernel
theorem dX1_leastWornFree_16 : decode cX1_leastWornFree 16 = .ok (.iload_n 2, 1) := by decide +kernel
theorem dX1_leastWornFree_17 : decode cX1_leastWornFree 17 = .ok (.iaload, 1) := by decide +kernel
theorem dX1_leastWornFree_18 : decode cX1_leastWornFree 18 = .ok (.ifCond .ne 25, 3) := by decide +kernel
theorem dX1_leastWornFree_21 : decode cX1_leastWornFree 21 = .ok (.iload_n 1, 1) := by decide +kernel
theorem dX1_leastWornFree_22 : decode cX1_leastWornFree 22 = .ok (.iconst (-1), 1) := by decide +kernel
theorem dX1_leastWornFree_23 : decode cX1_leastWornFree 23 = .ok (.if_icmp .eq 18, 3) := by decide +kernel
theorem dX1_leastWornFree_26 : decode cX1_leastWornFree 26 = .ok (.aload_n 0, 1) := by decide +kernel
theorem dX1_leastWornFree_27 : decode cX1_leastWornFree 27 = .ok (.getfield 31, 3) := by decide +kernel
theorem dX1_leastWornFree_30 : decode cX1_leastWornFree 30 = .ok (.iload_n 2, 1) := by decide +kernel
theorem dX1_leastWornFree_31 : decode cX1_leastWornFree 31 = .ok (.iaload, 1) := by decide +kernel
theorem dX1_leastWornFree_32 : decode cX1_leastWornFree 32 = .ok (.aload_n 0, 1) := by decide +kernel
theorem dX1_leastWornFree_33 : decode cX1_leastWornFree 33 = .ok (.getfield 31, 3) := by decide +kernel
theorem dX1_leastWornFree_36 : decode cX1_leastWornFree 36 = .ok (.iload_n 1, 1) := by decide +kernel
theorem dX1_leastWornFree_37 : decode cX1_leastWornFree 37 = .ok (.iaload, 1) := by decide +kernel
theorem dX1_leastWornFree_38 : decode cX1_leastWornFree 38 = .ok (.if_icmp .ge 5, 3) := by decide +kernel
theorem dX1_leastWornFree_41 : decode cX1_leastWornFree 41 = .ok (.iload_n 2, 1) := by decide +kernel
theorem dX1_leastWornFree_42 : decode cX1_leastWornFree 42 = .ok (.istore_n 1, 1) := by decide +kernel
theorem dX1_leastWornFree_43 : decode cX1_leastWornFree 43 = .ok (.iinc 2 1, 3) := by decide +kernel
theorem dX1_leastWornFree_46 : decode cX1_leastWornFree 46 = .ok (.goto (-42), 3) := by decide +kernel
theorem dX1_leastWornFree_49 : decode cX1_leastWornFree 49 = .ok (.iload_n 1, 1) := by decide +kernel
theorem dX1_leastWornFree_50 : decode cX1_leastWornFree 50 = .ok (.ireturn, 1) := by decide +kernel
theorem dX1_partlyProgrammed_0 : decode cX1_partlyProgrammed 0 = .ok (.iconst 0, 1) := by decide +kernel
theorem dX1_partlyProgrammed_1 : decode cX1_partlyProgrammed 1 = .ok (.istore_n 1, 1) := by decide +kernel
theorem dX1_partlyProgrammed_2 : decode cX1_partlyProgrammed 2 = .ok (.iload_n 1, 1) := by decide +kernel
theorem dX1_partlyProgrammed_3 : decode cX1_partlyProgrammed 3 = .ok (.aload_n 0, 1) := by decide +kernel
theorem dX1_partlyProgrammed_4 : decode cX1_partlyProgrammed 4 = .ok (.getfield 9, 3) := by decide +kernel
theorem dX1_partlyProgrammed_7 : decode cX1_partlyProgrammed 7 = .ok (.if_icmp .ge 30, 3) := by decide +kernel
theorem dX1_partlyProgrammed_10 : decode cX1_partlyProgrammed 10 = .ok (.aload_n 0, 1) := by decide +kernel
theorem dX1_partlyProgrammed_11 : decode cX1_partlyProgrammed 11 = .ok (.getfield 28, 3) := by decide +kernel
theorem dX1_partlyProgrammed_14 : decode cX1_partlyProgrammed 14 = .ok (.iload_n 1, 1) := by decide +kernel
theorem dX1_partlyProgrammed_15 : decode cX1_partlyProgrammed 15 = .ok (.iaload, 1) := by decide +kernel
theorem dX1_partlyProgrammed_16 : decode cX1_partlyProgrammed 16 = .ok (.ifCond .le 15, 3) := by decide +kernel
theorem dX1_partlyProgrammed_19 : decode cX1_partlyProgrammed 19 = .ok (.aload_n 0, 1) := by decide +kernel
theorem dX1_partlyProgrammed_20 : decode cX1_partlyProgrammed 20 = .ok (.getfield 28, 3) := by decide +kernel
theorem dX1_partlyProgrammed_23 : decode cX1_partlyProgrammed 23 = .ok (.iload_n 1, 1) := by decide +kernel
theorem dX1_partlyProgrammed_24 : decode cX1_partlyProgrammed 24 = .ok (.iaload, 1) := by decide +kernel
theorem dX1_partlyProgrammed_25 : decode cX1_partlyProgrammed 25 = .ok (.iconst 4, 1) := by decide +kernel
theorem dX1_partlyProgrammed_26 : decode cX1_partlyProgrammed 26 = .ok (.if_icmp .ge 5, 3) := by decide +kernel
theorem dX1_partlyProgrammed_29 : decode cX1_partlyProgrammed 29 = .ok (.iload_n 1, 1) := by decide +kernel
theorem dX1_partlyProgrammed_30 : decode cX1_partlyProgrammed 30 = .ok (.ireturn, 1) := by decide +kernel
theorem dX1_partlyProgrammed_31 : decode cX1_partlyProgrammed 31 = .ok (.iinc 1 1, 3) := by decide +kernel
theorem dX1_partlyProgrammed_34 : decode cX1_partlyProgrammed 34 = .ok (.goto (-32), 3) := by decide +kernel
theorem dX1_partlyProgrammed_37 : decode cX1_partlyProgrammed 37 = .ok (.iconst (-1), 1) := by decide +kernel
theorem dX1_partlyProgrammed_38 : decode cX1_partlyProgrammed 38 = .ok (.ireturn, 1) := by decide +kernel
theorem dX1_wearGap_0 : decode cX1_wearGap 0 = .ok (.aload_n 0, 1) := by decide +kernel
theorem dX1_wearGap_1 : decode cX1_wearGap 1 = .ok (.getfield 31, 3) := by decide +kernel
theorem dX1_wearGap_4 : decode cX1_wearGap 4 = .ok (.iconst 0, 1) := by decide +kernel
theorem dX1_wearGap_5 : decode cX1_wearGap 5 = .ok (.iaload, 1) := by decide +kernel
theorem dX1_wearGap_6 : decode cX1_wearGap 6 = .ok (.istore_n 1, 1) := by decide +kernel
theorem dX1_wearGap_7 : decode cX1_wearGap 7 = .ok (.aload_n 0, 1) := by decide +kernel
theorem dX1_wearGap_8 : decode cX1_wearGap 8 = .ok (.getfield 31, 3) := by decide +kernel
theorem dX1_wearGap_11 : decode cX1_wearGap 11 = .ok (.iconst 0, 1) := by decide +kernel
theorem dX1_wearGap_12 : decode cX1_wearGap 12 = .ok (.iaload, 1) := by decide +kernel
theorem dX1_wearGap_13 : decode cX1_wearGap 13 = .ok (.istore_n 2, 1) := by decide +kernel
theorem dX1_wearGap_14 : decode cX1_wearGap 14 = .ok (.iconst 1, 1) := by decide +kernel
theorem dX1_wearGap_15 : decode cX1_wearGap 15 = .ok (.istore_n 3, 1) := by decide +kernel
theorem dX1_wearGap_16 : decode cX1_wearGap 16 = .ok (.iload_n 3, 1) := by decide +kernel
theorem dX1_wearGap_17 : decode cX1_wearGap 17 = .ok (.aload_n 0, 1) := by decide +kernel
theorem dX1_wearGap_18 : decode cX1_wearGap 18 = .ok (.getfield 9, 3) := by decide +kernel
theorem dX1_wearGap_21 : decode cX1_wearGap 21 = .ok (.if_icmp .ge 31, 3) := by decide +kernel
theorem dX1_wearGap_24 : decode cX1_wearGap 24 = .ok (.iload_n 1, 1) := by decide +kernel
theorem dX1_wearGap_25 : decode cX1_wearGap 25 = .ok (.aload_n 0, 1) := by decide +kernel
theorem dX1_wearGap_26 : decode cX1_wearGap 26 = .ok (.getfield 31, 3) := by decide +kernel
theorem dX1_wearGap_29 : decode cX1_wearGap 29 = .ok (.iload_n 3, 1) := by decide +kernel
theorem dX1_wearGap_30 : decode cX1_wearGap 30 = .ok (.iaload, 1) := by decide +kernel
theorem dX1_wearGap_31 : decode cX1_wearGap 31 = .ok (.invokestatic 41, 3) := by decide +kernel
theorem dX1_wearGap_34 : decode cX1_wearGap 34 = .ok (.istore_n 1, 1) := by decide +kernel
theorem dX1_wearGap_35 : decode cX1_wearGap 35 = .ok (.iload_n 2, 1) := by decide +kernel
theorem dX1_wearGap_36 : decode cX1_wearGap 36 = .ok (.aload_n 0, 1) := by decide +kernel
theorem dX1_wearGap_37 : decode cX1_wearGap 37 = .ok (.getfield 31, 3) := by decide +kernel
theorem dX1_wearGap_40 : decode cX1_wearGap 40 = .ok (.iload_n 3, 1) := by decide +kernel
theorem dX1_wearGap_41 : decode cX1_wearGap 41 = .ok (.iaload, 1) := by decide +kernel
theorem dX1_wearGap_42 : decode cX1_wearGap 42 = .ok (.invokestatic 47, 3) := by decide +kernel
theorem dX1_wearGap_45 : decode cX1_wearGap 45 = .ok (.istore_n 2, 1) := by decide +kernel
theorem dX1_wearGap_46 : decode cX1_wearGap 46 = .ok (.iinc 3 1, 3) := by decide +kernel
theorem dX1_wearGap_49 : decode cX1_wearGap 49 = .ok (.goto (-33), 3) := by decide +kernel
theorem dX1_wearGap_52 : decode cX1_wearGap 52 = .ok (.iload_n 2, 1) := by decide +kernel
theorem dX1_wearGap_53 : decode cX1_wearGap 53 = .ok (.iload_n 1, 1) := by decide +kernel
theorem dX1_wearGap_54 : decode cX1_wearGap 54 = .ok (.isub, 1) := by decide +kernel
theorem dX1_wearGap_55 : decode cX1_wearGap 55 = .ok (.ireturn, 1) := by decide +kernel
set_option maxRecDepth 20000 in
theorem ggX1_victim_X1_countValid : GoodIn wsX1_victim wsX1_countValid := goodIn_r _ [8, 9, 10, 11, 7, 12, 13, 14, 15, 16, 17, 18, 19, 20, 21, 22, 23, 24, 25, 26] (by decide +kernel) (by decide +kernel)
set_option maxRecDepth 20000 in
theorem gX1_victim_X1_countValid : GoodIn wsX1_victim (wsV RX1 50 RX1 yX1_countValid wsX1_countValid) := goodIn_app (goodIn_of _ (by decide +kernel)) ggX1_victim_X1_countValid
theorem dX1_victim_0 : decode cX1_victim 0 = .ok (.iconst (-1), 1) := by decide +kernel
theorem dX1_victim_1 : decode cX1_victim 1 = .ok (.istore_n 2, 1) := by decide +kernel
theorem dX1_victim_2 : decode cX1_victim 2 = .ok (.iconst 0, 1) := by decide +kernel
theorem dX1_victim_3 : decode cX1_victim 3 = .ok (.istore_n 3, 1) := by decide +kernel
theorem dX1_victim_4 : decode cX1_victim 4 = .ok (.iconst 0, 1) := by decide +kernel
theorem dX1_victim_5 : decode cX1_victim 5 = .ok (.istore 4, 2) := by decide +kernel
theorem dX1_victim_7 : decode cX1_victim 7 = .ok (.iload 4, 2) := by decide +kernel
theorem dX1_victim_9 : decode cX1_victim 9 = .ok (.aload_n 0, 1) := by decide +kernel
theorem dX1_victim_10 : decode cX1_victim 10 = .ok (.getfield 9, 3) := by decide +kernel
theorem dX1_victim_13 : decode cX1_victim 13 = .ok (.if_icmp .ge 107, 3) := by decide +kernel
theorem dX1_victim_16 : decode cX1_victim 16 = .ok (.aload_n 0, 1) := by decide +kernel
theorem dX1_victim_17 : decode cX1_victim 17 = .ok (.getfield 28, 3) := by decide +kernel
theorem dX1_victim_20 : decode cX1_victim 20 = .ok (.iload 4, 2) := by decide +kernel
theorem dX1_victim_22 : decode cX1_victim 22 = .ok (.iaload, 1) := by decide +kernel
theorem dX1_victim_23 : decode cX1_victim 23 = .ok (.iconst 4, 1) := by decide +kernel
theorem dX1_victim_24 : decode cX1_victim 24 = .ok (.if_icmp .ge 6, 3) := by decide +kernel
theorem dX1_victim_27 : decode cX1_victim 27 = .ok (.goto 87, 3) := by decide +kernel
theorem dX1_victim_30 : decode cX1_victim 30 = .ok (.iload_n 1, 1) := by decide +kernel
theorem dX1_victim_31 : decode cX1_victim 31 = .ok (.ifCond .eq 7, 3) := by decide +kernel
theorem dX1_victim_34 : decode cX1_victim 34 = .ok (.iconst 0, 1) := by decide +kernel
theorem dX1_victim_35 : decode cX1_victim 35 = .ok (.goto 9, 3) := by decide +kernel
theorem dX1_victim_38 : decode cX1_victim 38 = .ok (.aload_n 0, 1) := by decide +kernel
theorem dX1_victim_39 : decode cX1_victim 39 = .ok (.iload 4, 2) := by decide +kernel
theorem dX1_victim_41 : decode cX1_victim 41 = .ok (.invokevirtual 50, 3) := by decide +kernel
theorem dX1_victim_44 : decode cX1_victim 44 = .ok (.istore 5, 2) := by decide +kernel
theorem dX1_victim_46 : decode cX1_victim 46 = .ok (.iload 5, 2) := by decide +kernel
theorem dX1_victim_48 : decode cX1_victim 48 = .ok (.iload_n 3, 1) := by decide +kernel
theorem dX1_victim_49 : decode cX1_victim 49 = .ok (.if_icmp .ge 7, 3) := by decide +kernel
theorem dX1_victim_52 : decode cX1_victim 52 = .ok (.iconst 1, 1) := by decide +kernel
theorem dX1_victim_53 : decode cX1_victim 53 = .ok (.goto 4, 3) := by decide +kernel
theorem dX1_victim_56 : decode cX1_victim 56 = .ok (.iconst 0, 1) := by decide +kernel
theorem dX1_victim_57 : decode cX1_victim 57 = .ok (.istore 6, 2) := by decide +kernel
theorem dX1_victim_59 : decode cX1_victim 59 = .ok (.iload_n 2, 1) := by decide +kernel
theorem dX1_victim_60 : decode cX1_victim 60 = .ok (.iconst (-1), 1) := by decide +kernel
theorem dX1_victim_61 : decode cX1_victim 61 = .ok (.if_icmp .eq 29, 3) := by decide +kernel
theorem dX1_victim_64 : decode cX1_victim 64 = .ok (.iload 5, 2) := by decide +kernel
theorem dX1_victim_66 : decode cX1_victim 66 = .ok (.iload_n 3, 1) := by decide +kernel
theorem dX1_victim_67 : decode cX1_victim 67 = .ok (.if_icmp .ne 23, 3) := by decide +kernel
theorem dX1_victim_70 : decode cX1_victim 70 = .ok (.aload_n 0, 1) := by decide +kernel
theorem dX1_victim_71 : decode cX1_victim 71 = .ok (.getfield 31, 3) := by decide +kernel
theorem dX1_victim_74 : decode cX1_victim 74 = .ok (.iload 4, 2) := by decide +kernel
theorem dX1_victim_76 : decode cX1_victim 76 = .ok (.iaload, 1) := by decide +kernel
theorem dX1_victim_77 : decode cX1_victim 77 = .ok (.aload_n 0, 1) := by decide +kernel
theorem dX1_victim_78 : decode cX1_victim 78 = .ok (.getfield 31, 3) := by decide +kernel
theorem dX1_victim_81 : decode cX1_victim 81 = .ok (.iload_n 2, 1) := by decide +kernel
theorem dX1_victim_82 : decode cX1_victim 82 = .ok (.iaload, 1) := by decide +kernel
theorem dX1_victim_83 : decode cX1_victim 83 = .ok (.if_icmp .ge 7, 3) := by decide +kernel
theorem dX1_victim_86 : decode cX1_victim 86 = .ok (.iconst 1, 1) := by decide +kernel
theorem dX1_victim_87 : decode cX1_victim 87 = .ok (.goto 4, 3) := by decide +kernel
theorem dX1_victim_90 : decode cX1_victim 90 = .ok (.iconst 0, 1) := by decide +kernel
theorem dX1_victim_91 : decode cX1_victim 91 = .ok (.istore 7, 2) := by decide +kernel
theorem dX1_victim_93 : decode cX1_victim 93 = .ok (.iload_n 2, 1) := by decide +kernel
theorem dX1_victim_94 : decode cX1_victim 94 = .ok (.iconst (-1), 1) := by decide +kernel
theorem dX1_victim_95 : decode cX1_victim 95 = .ok (.if_icmp .eq 13, 3) := by decide +kernel
theorem dX1_victim_98 : decode cX1_victim 98 = .ok (.iload 6, 2) := by decide +kernel
theorem dX1_victim_100 : decode cX1_victim 100 = .ok (.ifCond .ne 8, 3) := by decide +kernel
theorem dX1_victim_103 : decode cX1_victim 103 = .ok (.iload 7, 2) := by decide +kernel
theorem dX1_victim_105 : decode cX1_victim 105 = .ok (.ifCond .eq 9, 3) := by decide +kernel
theorem dX1_victim_108 : decode cX1_victim 108 = .ok (.iload 4, 2) := by decide +kernel
theorem dX1_victim_110 : decode cX1_victim 110 = .ok (.istore_n 2, 1) := by decide +kernel
theorem dX1_victim_111 : decode cX1_victim 111 = .ok (.iload 5, 2) := by decide +kernel
theorem dX1_victim_113 : decode cX1_victim 113 = .ok (.istore_n 3, 1) := by decide +kernel
theorem dX1_victim_114 : decode cX1_victim 114 = .ok (.iinc 4 1, 3) := by decide +kernel
theorem dX1_victim_117 : decode cX1_victim 117 = .ok (.goto (-110), 3) := by decide +kernel
theorem dX1_victim_120 : decode cX1_victim 120 = .ok (.iload_n 2, 1) := by decide +kernel
theorem dX1_victim_121 : decode cX1_victim 121 = .ok (.ireturn, 1) := by decide +kernel
theorem dX1_greatestSerial_0 : decode cX1_greatestSerial 0 = .ok (.iconst (-1), 1) := by decide +kernel
theorem dX1_greatestSerial_1 : decode cX1_greatestSerial 1 = .ok (.istore_n 1, 1) := by decide +kernel
theorem dX1_greatestSerial_2 : decode cX1_greatestSerial 2 = .ok (.iconst 0, 1) := by decide +kernel
theorem dX1_greatestSerial_3 : decode cX1_greatestSerial 3 = .ok (.istore_n 2, 1) := by decide +kernel
theorem dX1_greatestSerial_4 : decode cX1_greatestSerial 4 = .ok (.iload_n 2, 1) := by decide +kernel
theorem dX1_greatestSerial_5 : decode cX1_greatestSerial 5 = .ok (.aload_n 0, 1) := by decide +kernel
theorem dX1_greatestSerial_6 : decode cX1_greatestSerial 6 = .ok (.getfield 25, 3) := by decide +kernel
theorem dX1_greatestSerial_9 : decode cX1_greatestSerial 9 = .ok (.arraylength, 1) := by decide +kernel
theorem dX1_greatestSerial_10 : decode cX1_greatestSerial 10 = .ok (.if_icmp .ge 29, 3) := by decide +kernel
theorem dX1_greatestSerial_13 : decode cX1_greatestSerial 13 = .ok (.aload_n 0, 1) := by decide +kernel
theorem dX1_greatestSerial_14 : decode cX1_greatestSerial 14 = .ok (.getfield 22, 3) := by decide +kernel
theorem dX1_greatestSerial_17 : decode cX1_greatestSerial 17 = .ok (.iload_n 2, 1) := by decide +kernel
theorem dX1_greatestSerial_18 : decode cX1_greatestSerial 18 = .ok (.iaload, 1) := by decide +kernel
theorem dX1_greatestSerial_19 : decode cX1_greatestSerial 19 = .ok (.ifCond .eq 14, 3) := by decide +kernel
theorem dX1_greatestSerial_22 : decode cX1_greatestSerial 22 = .ok (.iload_n 1, 1) := by decide +kernel
theorem dX1_greatestSerial_23 : decode cX1_greatestSerial 23 = .ok (.aload_n 0, 1) := by decide +kernel
theorem dX1_greatestSerial_24 : decode cX1_greatestSerial 24 = .ok (.getfield 25, 3) := by decide +kernel
theorem dX1_greatestSerial_27 : decode cX1_greatestSerial 27 = .ok (.iload_n 2, 1) := by decide +kernel
theorem dX1_greatestSerial_28 : decode cX1_greatestSerial 28 = .ok (.iaload, 1) := by decide +kernel
theorem dX1_greatestSerial_29 : decode cX1_greatestSerial 29 = .ok (.invokestatic 47, 3) := by decide +kernel
theorem dX1_greatestSerial_32 : decode cX1_greatestSerial 32 = .ok (.istore_n 1, 1) := by decide +kernel
theorem dX1_greatestSerial_33 : decode cX1_greatestSerial 33 = .ok (.iinc 2 1, 3) := by decide +kernel
theorem dX1_greatestSerial_36 : decode cX1_greatestSerial 36 = .ok (.goto (-32), 3) := by decide +kernel
theorem dX1_greatestSerial_39 : decode cX1_greatestSerial 39 = .ok (.iload_n 1, 1) := by decide +kernel
theorem dX1_greatestSerial_40 : decode cX1_greatestSerial 40 = .ok (.ireturn, 1) := by decide +kernel
set_option maxRecDepth 20000 in
theorem ggX1_program_X1_hasRoom : GoodIn wsX1_program wsX1_hasRoom := goodIn_r _ [12, 13, 1, 20, 21, 22, 23, 24, 25, 26, 27, 28, 29, 30] (by decide +kernel) (by decide +kernel)
set_option maxRecDepth 20000 in
theorem gX1_program_X1_hasRoom : GoodIn wsX1_program (wsV RX1 54 RX1 yX1_hasRoom wsX1_hasRoom) := goodIn_app (goodIn_of _ (by decide +kernel)) ggX1_program_X1_hasRoom
set_option maxRecDepth 20000 in
theorem ggX1_program_X1_beginOperation : GoodIn wsX1_program wsX1_beginOperation := goodIn_r _ [17, 18, 19, 20, 21, 22, 23, 24, 25, 26, 27, 28, 29, 30] (by decide +kernel) (by decide +kernel)
set_option maxRecDepth 20000 in
theorem gX1_program_X1_beginOperation : GoodIn wsX1_program (wsV RX1 57 RX1 yX1_beginOperation wsX1_beginOperation) := goodIn_app (goodIn_of _ (by decide +kernel)) ggX1_program_X1_beginOperation
theorem dX1_program_0 : decode cX1_program 0 = .ok (.aload_n 0, 1) := by decide +kernel
theorem dX1_program_1 : decode cX1_program 1 = .ok (.iload_n 1, 1) := by decide +kernel
theorem dX1_program_2 : decode cX1_program 2 = .ok (.invokevirtual 54, 3) := by decide +kernel
theorem dX1_program_5 : decode cX1_program 5 = .ok (.ifCond .eq 10, 3) := by decide +kernel
theorem dX1_program_8 : decode cX1_program 8 = .ok (.aload_n 0, 1) := by decide +kernel
theorem dX1_program_9 : decode cX1_program 9 = .ok (.invokevirtual 57, 3) := by decide +kernel
theorem dX1_program_12 : decode cX1_program 12 = .ok (.ifCond .ne 5, 3) := by decide +kernel
theorem dX1_program_15 : decode cX1_program 15 = .ok (.iconst 0, 1) := by decide +kernel
theorem dX1_program_16 : decode cX1_program 16 = .ok (.ireturn, 1) := by decide +kernel
theorem dX1_program_17 : decode cX1_program 17 = .ok (.iload_n 1, 1) := by decide +kernel
theorem dX1_program_18 : decode cX1_program 18 = .ok (.iconst 4, 1) := by decide +kernel
theorem dX1_program_19 : decode cX1_program 19 = .ok (.imul, 1) := by decide +kernel
theorem dX1_program_20 : decode cX1_program 20 = .ok (.aload_n 0, 1) := by decide +kernel
theorem dX1_program_21 : decode cX1_program 21 = .ok (.getfield 28, 3) := by decide +kernel
theorem dX1_program_24 : decode cX1_program 24 = .ok (.iload_n 1, 1) := by decide +kernel
theorem dX1_program_25 : decode cX1_program 25 = .ok (.iaload, 1) := by decide +kernel
theorem dX1_program_26 : decode cX1_program 26 = .ok (.iadd, 1) := by decide +kernel
theorem dX1_program_27 : decode cX1_program 27 = .ok (.istore 5, 2) := by decide +kernel
theorem dX1_program_29 : decode cX1_program 29 = .ok (.aload_n 0, 1) := by decide +kernel
theorem dX1_program_30 : decode cX1_program 30 = .ok (.getfield 28, 3) := by decide +kernel
theorem dX1_program_33 : decode cX1_program 33 = .ok (.iload_n 1, 1) := by decide +kernel
theorem dX1_program_34 : decode cX1_program 34 = .ok (.dup2, 1) := by decide +kernel
theorem dX1_program_35 : decode cX1_program 35 = .ok (.iaload, 1) := by decide +kernel
theorem dX1_program_36 : decode cX1_program 36 = .ok (.iconst 1, 1) := by decide +kernel
theorem dX1_program_37 : decode cX1_program 37 = .ok (.iadd, 1) := by decide +kernel
theorem dX1_program_38 : decode cX1_program 38 = .ok (.iastore, 1) := by decide +kernel
theorem dX1_program_39 : decode cX1_program 39 = .ok (.aload_n 0, 1) := by decide +kernel
theorem dX1_program_40 : decode cX1_program 40 = .ok (.getfield 15, 3) := by decide +kernel
theorem dX1_program_43 : decode cX1_program 43 = .ok (.iload 5, 2) := by decide +kernel
theorem dX1_program_45 : decode cX1_program 45 = .ok (.iload_n 2, 1) := by decide +kernel
theorem dX1_program_46 : decode cX1_program 46 = .ok (.iastore, 1) := by decide +kernel
theorem dX1_program_47 : decode cX1_program 47 = .ok (.aload_n 0, 1) := by decide +kernel
theorem dX1_program_48 : decode cX1_program 48 = .ok (.getfield 19, 3) := by decide +kernel
theorem dX1_program_51 : decode cX1_program 51 = .ok (.iload 5, 2) := by decide +kernel
theorem dX1_program_53 : decode cX1_program 53 = .ok (.iload_n 3, 1) := by decide +kernel
theorem dX1_program_54 : decode cX1_program 54 = .ok (.iastore, 1) := by decide +kernel
theorem dX1_program_55 : decode cX1_program 55 = .ok (.aload_n 0, 1) := by decide +kernel
theorem dX1_program_56 : decode cX1_program 56 = .ok (.getfield 22, 3) := by decide +kernel
theorem dX1_program_59 : decode cX1_program 59 = .ok (.iload 5, 2) := by decide +kernel
theorem dX1_program_61 : decode cX1_program 61 = .ok (.iload 4, 2) := by decide +kernel
theorem dX1_program_63 : decode cX1_program 63 = .ok (.iastore, 1) := by decide +kernel
theorem dX1_program_64 : decode cX1_program 64 = .ok (.aload_n 0, 1) := by decide +kernel
theorem dX1_program_65 : decode cX1_program 65 = .ok (.getfield 25, 3) := by decide +kernel
theorem dX1_program_68 : decode cX1_program 68 = .ok (.iload 5, 2) := by decide +kernel
theorem dX1_program_70 : decode cX1_program 70 = .ok (.aload_n 0, 1) := by decide +kernel
theorem dX1_program_71 : decode cX1_program 71 = .ok (.getfield 61, 3) := by decide +kernel
theorem dX1_program_74 : decode cX1_program 74 = .ok (.iastore, 1) := by decide +kernel
theorem dX1_program_75 : decode cX1_program 75 = .ok (.aload_n 0, 1) := by decide +kernel
theorem dX1_program_76 : decode cX1_program 76 = .ok (.dup, 1) := by decide +kernel
theorem dX1_program_77 : decode cX1_program 77 = .ok (.getfield 61, 3) := by decide +kernel
theorem dX1_program_80 : decode cX1_program 80 = .ok (.iconst 1, 1) := by decide +kernel
theorem dX1_program_81 : decode cX1_program 81 = .ok (.iadd, 1) := by decide +kernel
theorem dX1_program_82 : decode cX1_program 82 = .ok (.putfield 61, 3) := by decide +kernel
theorem dX1_program_85 : decode cX1_program 85 = .ok (.aload_n 0, 1) := by decide +kernel
theorem dX1_program_86 : decode cX1_program 86 = .ok (.getfield 34, 3) := by decide +kernel
theorem dX1_program_89 : decode cX1_program 89 = .ok (.iload_n 2, 1) := by decide +kernel
theorem dX1_program_90 : decode cX1_program 90 = .ok (.iload 5, 2) := by decide +kernel
theorem dX1_program_92 : decode cX1_program 92 = .ok (.iastore, 1) := by decide +kernel
theorem dX1_program_93 : decode cX1_program 93 = .ok (.iconst 1, 1) := by decide +kernel
theorem dX1_program_94 : decode cX1_program 94 = .ok (.ireturn, 1) := by decide +kernel
set_option maxRecDepth 20000 in
theorem ggX1_erase_X1_beginOperation : GoodIn wsX1_erase wsX1_beginOperation := goodIn_r _ [8, 9, 10, 11, 12, 13, 14, 15, 16, 17, 18, 19, 20, 21] (by decide +kernel) (by decide +kernel)
set_option maxRecDepth 20000 in
theorem gX1_erase_X1_beginOperation : GoodIn wsX1_erase (wsV RX1 57 RX1 yX1_beginOperation wsX1_beginOperation) := goodIn_app (goodIn_of _ (by decide +kernel)) ggX1_erase_X1_beginOperation
theorem dX1_erase_0 : decode cX1_erase 0 = .ok (.aload_n 0, 1) := by decide +kernel
theorem dX1_erase_1 : decode cX1_erase 1 = .ok (.invokevirtual 57, 3) := by decide +kernel
theorem dX1_erase_4 : decode cX1_erase 4 = .ok (.ifCond .ne 5, 3) := by decide +kernel
theorem dX1_erase_7 : decode cX1_erase 7 = .ok (.iconst 0, 1) := by decide +kernel
theorem dX1_erase_8 : decode cX1_erase 8 = .ok (.ireturn, 1) := by decide +kernel
theorem dX1_erase_9 : decode cX1_erase 9 = .ok (.iconst 0, 1) := by decide +kernel
theorem dX1_erase_10 : decode cX1_erase 10 = .ok (.istore_n 2, 1) := by decide +kernel
theorem dX1_erase_11 : decode cX1_erase 11 = .ok (.iload_n 2, 1) := by decide +kernel
theorem dX1_erase_12 : decode cX1_erase 12 = .ok (.iconst 4, 1) := by decide +kernel
theorem dX1_erase_13 : decode cX1_erase 13 = .ok (.if_icmp .ge 20, 3) := by decide +kernel
theorem dX1_erase_16 : decode cX1_erase 16 = .ok (.aload_n 0, 1) := by decide +kernel
theorem dX1_erase_17 : decode cX1_erase 17 = .ok (.getfield 22, 3) := by decide +kernel
theorem dX1_erase_20 : decode cX1_erase 20 = .ok (.iload_n 1, 1) := by decide +kernel
theorem dX1_erase_21 : decode cX1_erase 21 = .ok (.iconst 4, 1) := by decide +kernel
theorem dX1_erase_22 : decode cX1_erase 22 = .ok (.imul, 1) := by decide +kernel
theorem dX1_erase_23 : decode cX1_erase 23 = .ok (.iload_n 2, 1) := by decide +kernel
theorem dX1_erase_24 : decode cX1_erase 24 = .ok (.iadd, 1) := by decide +kernel
theorem dX1_erase_25 : decode cX1_erase 25 = .ok (.iconst 0, 1) := by decide +kernel
theorem dX1_erase_26 : decode cX1_erase 26 = .ok (.iastore, 1) := by decide +kernel
theorem dX1_erase_27 : decode cX1_erase 27 = .ok (.iinc 2 1, 3) := by decide +kernel
theorem dX1_erase_30 : decode cX1_erase 30 = .ok (.goto (-19), 3) := by decide +kernel
theorem dX1_erase_33 : decode cX1_erase 33 = .ok (.aload_n 0, 1) := by decide +kernel
theorem dX1_erase_34 : decode cX1_erase 34 = .ok (.getfield 28, 3) := by decide +kernel
theorem dX1_erase_37 : decode cX1_erase 37 = .ok (.iload_n 1, 1) := by decide +kernel
theorem dX1_erase_38 : decode cX1_erase 38 = .ok (.iconst 0, 1) := by decide +kernel
theorem dX1_erase_39 : decode cX1_erase 39 = .ok (.iastore, 1) := by decide +kernel
theorem dX1_erase_40 : decode cX1_erase 40 = .ok (.aload_n 0, 1) := by decide +kernel
theorem dX1_erase_41 : decode cX1_erase 41 = .ok (.getfield 31, 3) := by decide +kernel
theorem dX1_erase_44 : decode cX1_erase 44 = .ok (.iload_n 1, 1) := by decide +kernel
theorem dX1_erase_45 : decode cX1_erase 45 = .ok (.dup2, 1) := by decide +kernel
theorem dX1_erase_46 : decode cX1_erase 46 = .ok (.iaload, 1) := by decide +kernel
theorem dX1_erase_47 : decode cX1_erase 47 = .ok (.iconst 1, 1) := by decide +kernel
theorem dX1_erase_48 : decode cX1_erase 48 = .ok (.iadd, 1) := by decide +kernel
theorem dX1_erase_49 : decode cX1_erase 49 = .ok (.iastore, 1) := by decide +kernel
theorem dX1_erase_50 : decode cX1_erase 50 = .ok (.iconst 1, 1) := by decide +kernel
theorem dX1_erase_51 : decode cX1_erase 51 = .ok (.ireturn, 1) := by decide +kernel
theorem dX1_beginOperation_0 : decode cX1_beginOperation 0 = .ok (.aload_n 0, 1) := by decide +kernel
theorem dX1_beginOperation_1 : decode cX1_beginOperation 1 = .ok (.getfield 64, 3) := by decide +kernel
theorem dX1_beginOperation_4 : decode cX1_beginOperation 4 = .ok (.iconst 1, 1) := by decide +kernel
theorem dX1_beginOperation_5 : decode cX1_beginOperation 5 = .ok (.if_icmp .ne 7, 3) := by decide +kernel
theorem dX1_beginOperation_8 : decode cX1_beginOperation 8 = .ok (.iconst 1, 1) := by decide +kernel
theorem dX1_beginOperation_9 : decode cX1_beginOperation 9 = .ok (.goto 4, 3) := by decide +kernel
theorem dX1_beginOperation_12 : decode cX1_beginOperation 12 = .ok (.iconst 0, 1) := by decide +kernel
theorem dX1_beginOperation_13 : decode cX1_beginOperation 13 = .ok (.istore_n 1, 1) := by decide +kernel
theorem dX1_beginOperation_14 : decode cX1_beginOperation 14 = .ok (.aload_n 0, 1) := by decide +kernel
theorem dX1_beginOperation_15 : decode cX1_beginOperation 15 = .ok (.getfield 64, 3) := by decide +kernel
theorem dX1_beginOperation_18 : decode cX1_beginOperation 18 = .ok (.ifCond .le 13, 3) := by decide +kernel
theorem dX1_beginOperation_21 : decode cX1_beginOperation 21 = .ok (.aload_n 0, 1) := by decide +kernel
theorem dX1_beginOperation_22 : decode cX1_beginOperation 22 = .ok (.dup, 1) := by decide +kernel
theorem dX1_beginOperation_23 : decode cX1_beginOperation 23 = .ok (.getfield 64, 3) := by decide +kernel
theorem dX1_beginOperation_26 : decode cX1_beginOperation 26 = .ok (.iconst 1, 1) := by decide +kernel
theorem dX1_beginOperation_27 : decode cX1_beginOperation 27 = .ok (.isub, 1) := by decide +kernel
theorem dX1_beginOperation_28 : decode cX1_beginOperation 28 = .ok (.putfield 64, 3) := by decide +kernel
theorem dX1_beginOperation_31 : decode cX1_beginOperation 31 = .ok (.iload_n 1, 1) := by decide +kernel
theorem dX1_beginOperation_32 : decode cX1_beginOperation 32 = .ok (.ifCond .ne 13, 3) := by decide +kernel
theorem dX1_beginOperation_35 : decode cX1_beginOperation 35 = .ok (.aload_n 0, 1) := by decide +kernel
theorem dX1_beginOperation_36 : decode cX1_beginOperation 36 = .ok (.dup, 1) := by decide +kernel
theorem dX1_beginOperation_37 : decode cX1_beginOperation 37 = .ok (.getfield 67, 3) := by decide +kernel
theorem dX1_beginOperation_40 : decode cX1_beginOperation 40 = .ok (.iconst 1, 1) := by decide +kernel
theorem dX1_beginOperation_41 : decode cX1_beginOperation 41 = .ok (.iadd, 1) := by decide +kernel
theorem dX1_beginOperation_42 : decode cX1_beginOperation 42 = .ok (.putfield 67, 3) := by decide +kernel
theorem dX1_beginOperation_45 : decode cX1_beginOperation 45 = .ok (.iload_n 1, 1) := by decide +kernel
theorem dX1_beginOperation_46 : decode cX1_beginOperation 46 = .ok (.ifCond .ne 7, 3) := by decide +kernel
theorem dX1_beginOperation_49 : decode cX1_beginOperation 49 = .ok (.iconst 1, 1) := by decide +kernel
theorem dX1_beginOperation_50 : decode cX1_beginOperation 50 = .ok (.goto 4, 3) := by decide +kernel
theorem dX1_beginOperation_53 : decode cX1_beginOperation 53 = .ok (.iconst 0, 1) := by decide +kernel
theorem dX1_beginOperation_54 : decode cX1_beginOperation 54 = .ok (.ireturn, 1) := by decide +kernel
set_option maxRecDepth 20000 in
theorem ggX2_init_X1_init : GoodIn wsX2_init wsX1_init := goodIn_r _ [16, 17, 2, 3, 18, 19, 20, 21, 22, 23, 24, 25, 26, 33, 34, 35, 36, 37, 38, 39, 40, 41, 42, 43] (by decide +kernel) (by decide +kernel)
set_option maxRecDepth 20000 in
theorem gX2_init_X1_init : GoodIn wsX2_init (wsX1_init) := ggX2_init_X1_init
set_option maxRecDepth 20000 in
theorem ggX2_init_X0_init : GoodIn wsX2_init wsX0_init := goodIn_r _ [28, 29, 2, 3, 19, 30, 31, 32, 48, 49, 50, 51] (by decide +kernel) (by decide +kernel)
set_option maxRecDepth 20000 in
theorem gX2_init_X0_init_n20 : GoodIn wsX2_init (wsX0_init) := ggX2_init_X0_init
theorem dX2_init_0 : decode cX2_init 0 = .ok (.aload_n 0, 1) := by decide +kernel
theorem dX2_init_1 : decode cX2_init 1 = .ok (.invokespecial 1, 3) := by decide +kernel
theorem dX2_init_4 : decode cX2_init 4 = .ok (.iload_n 1, 1) := by decide +kernel
theorem dX2_init_5 : decode cX2_init 5 = .ok (.iconst 5, 1) := by decide +kernel
theorem dX2_init_6 : decode cX2_init 6 = .ok (.if_icmp .lt 13, 3) := by decide +kernel
theorem dX2_init_9 : decode cX2_init 9 = .ok (.iload_n 1, 1) := by decide +kernel
theorem dX2_init_10 : decode cX2_init 10 = .ok (.bipush 12, 2) := by decide +kernel
theorem dX2_init_12 : decode cX2_init 12 = .ok (.if_icmp .gt 7, 3) := by decide +kernel
theorem dX2_init_15 : decode cX2_init 15 = .ok (.iconst 1, 1) := by decide +kernel
theorem dX2_init_16 : decode cX2_init 16 = .ok (.goto 4, 3) := by decide +kernel
theorem dX2_init_19 : decode cX2_init 19 = .ok (.iconst 0, 1) := by decide +kernel
theorem dX2_init_20 : decode cX2_init 20 = .ok (.istore_n 3, 1) := by decide +kernel
end
section
theorem dX2_init_21 : decode cX2_init 21 = .ok (.iload_n 2, 1) := by decide +kernel
theorem dX2_init_22 : decode cX2_init 22 = .ok (.iconst 1, 1) := by decide +kernel
theorem dX2_init_23 : decode cX2_init 23 = .ok (.if_icmp .lt 13, 3) := by decide +kernel
theorem dX2_init_26 : decode cX2_init 26 = .ok (.iload_n 2, 1) := by decide +kernel
theorem dX2_init_27 : decode cX2_init 27 = .ok (.bipush 50, 2) := by decide +kernel
theorem dX2_init_29 : decode cX2_init 29 = .ok (.if_icmp .gt 7, 3) := by decide +kernel
theorem dX2_init_32 : decode cX2_init 32 = .ok (.iconst 1, 1) := by decide +kernel
theorem dX2_init_33 : decode cX2_init 33 = .ok (.goto 4, 3) := by decide +kernel
theorem dX2_init_36 : decode cX2_init 36 = .ok (.iconst 0, 1) := by decide +kernel
theorem dX2_init_37 : decode cX2_init 37 = .ok (.istore 4, 2) := by decide +kernel
theorem dX2_init_39 : decode cX2_init 39 = .ok (.aload_n 0, 1) := by decide +kernel
theorem dX2_init_40 : decode cX2_init 40 = .ok (.new 9, 3) := by decide +kernel
theorem dX2_init_43 : decode cX2_init 43 = .ok (.dup, 1) := by decide +kernel
theorem dX2_init_44 : decode cX2_init 44 = .ok (.iload_n 3, 1) := by decide +kernel
theorem dX2_init_45 : decode cX2_init 45 = .ok (.ifCond .eq 7, 3) := by decide +kernel
theorem dX2_init_48 : decode cX2_init 48 = .ok (.iload_n 1, 1) := by decide +kernel
theorem dX2_init_49 : decode cX2_init 49 = .ok (.goto 5, 3) := by decide +kernel
theorem dX2_init_52 : decode cX2_init 52 = .ok (.bipush 8, 2) := by decide +kernel
theorem dX2_init_54 : decode cX2_init 54 = .ok (.invokespecial 11, 3) := by decide +kernel
theorem dX2_init_57 : decode cX2_init 57 = .ok (.putfield 14, 3) := by decide +kernel
theorem dX2_init_60 : decode cX2_init 60 = .ok (.aload_n 0, 1) := by decide +kernel
theorem dX2_init_61 : decode cX2_init 61 = .ok (.new 18, 3) := by decide +kernel
theorem dX2_init_64 : decode cX2_init 64 = .ok (.dup, 1) := by decide +kernel
theorem dX2_init_65 : decode cX2_init 65 = .ok (.invokespecial 20, 3) := by decide +kernel
theorem dX2_init_68 : decode cX2_init 68 = .ok (.putfield 21, 3) := by decide +kernel
theorem dX2_init_71 : decode cX2_init 71 = .ok (.aload_n 0, 1) := by decide +kernel
theorem dX2_init_72 : decode cX2_init 72 = .ok (.iload 4, 2) := by decide +kernel
theorem dX2_init_74 : decode cX2_init 74 = .ok (.ifCond .eq 7, 3) := by decide +kernel
theorem dX2_init_77 : decode cX2_init 77 = .ok (.iload_n 2, 1) := by decide +kernel
theorem dX2_init_78 : decode cX2_init 78 = .ok (.goto 4, 3) := by decide +kernel
theorem dX2_init_81 : decode cX2_init 81 = .ok (.iconst 4, 1) := by decide +kernel
theorem dX2_init_82 : decode cX2_init 82 = .ok (.putfield 25, 3) := by decide +kernel
theorem dX2_init_85 : decode cX2_init 85 = .ok (.aload_n 0, 1) := by decide +kernel
theorem dX2_init_86 : decode cX2_init 86 = .ok (.iconst (-1), 1) := by decide +kernel
theorem dX2_init_87 : decode cX2_init 87 = .ok (.putfield 29, 3) := by decide +kernel
theorem dX2_init_90 : decode cX2_init 90 = .ok (.return_, 1) := by decide +kernel
theorem dX2_sectors_0 : decode cX2_sectors 0 = .ok (.aload_n 0, 1) := by decide +kernel
theorem dX2_sectors_1 : decode cX2_sectors 1 = .ok (.getfield 14, 3) := by decide +kernel
theorem dX2_sectors_4 : decode cX2_sectors 4 = .ok (.getfield 32, 3) := by decide +kernel
theorem dX2_sectors_7 : decode cX2_sectors 7 = .ok (.arraylength, 1) := by decide +kernel
theorem dX2_sectors_8 : decode cX2_sectors 8 = .ok (.ireturn, 1) := by decide +kernel
set_option maxRecDepth 20000 in
theorem ggX2_write_X2_put : GoodIn wsX2_write wsX2_put := goodIn_r _ [5, 6, 7, 8, 9, 4, 10, 11, 12, 13, 14, 15, 16, 17, 18, 19, 20, 21, 22, 23, 24, 25, 26, 27, 28, 29, 30, 31, 32, 33, 34, 35, 36, 37, 38, 39, 40, 41, 42, 43, 44, 45, 46, 47, 48, 49, 50, 51, 52, 53, 54, 55, 56, 57, 58, 59, 60, 61, 62, 63, 64, 65, 66, 67, 68, 69, 70, 71, 72, 73, 74, 75, 76, 77, 78, 79, 80, 81, 82, 83, 84, 85, 86, 87, 88, 89, 90, 91, 92, 93, 94, 95, 96, 97, 98, 99, 100, 101, 102, 103, 104, 105, 106, 107, 108, 109, 110, 111, 112, 113, 114, 115, 116, 117, 118, 119, 120, 121, 122, 123, 124, 125, 126, 127, 128, 129, 130, 131, 132, 133, 134, 135, 136, 137, 138, 139, 140, 141, 142, 143, 144, 145, 146, 147, 148] (by decide +kernel) (by decide +kernel)
set_option maxRecDepth 20000 in
theorem gX2_write_X2_put : GoodIn wsX2_write (wsV RX2 36 RX2 yX2_put wsX2_put) := goodIn_app (goodIn_of _ (by decide +kernel)) ggX2_write_X2_put
theorem dX2_write_0 : decode cX2_write 0 = .ok (.aload_n 0, 1) := by decide +kernel
theorem dX2_write_1 : decode cX2_write 1 = .ok (.iload_n 1, 1) := by decide +kernel
theorem dX2_write_2 : decode cX2_write 2 = .ok (.iload_n 2, 1) := by decide +kernel
theorem dX2_write_3 : decode cX2_write 3 = .ok (.iconst 1, 1) := by decide +kernel
theorem dX2_write_4 : decode cX2_write 4 = .ok (.invokevirtual 36, 3) := by decide +kernel
theorem dX2_write_7 : decode cX2_write 7 = .ok (.ireturn, 1) := by decide +kernel
set_option maxRecDepth 20000 in
theorem ggX2_trim_X2_put : GoodIn wsX2_trim wsX2_put := goodIn_r _ [5, 6, 7, 8, 9, 4, 10, 11, 12, 13, 14, 15, 16, 17, 18, 19, 20, 21, 22, 23, 24, 25, 26, 27, 28, 29, 30, 31, 32, 33, 34, 35, 36, 37, 38, 39, 40, 41, 42, 43, 44, 45, 46, 47, 48, 49, 50, 51, 52, 53, 54, 55, 56, 57, 58, 59, 60, 61, 62, 63, 64, 65, 66, 67, 68, 69, 70, 71, 72, 73, 74, 75, 76, 77, 78, 79, 80, 81, 82, 83, 84, 85, 86, 87, 88, 89, 90, 91, 92, 93, 94, 95, 96, 97, 98, 99, 100, 101, 102, 103, 104, 105, 106, 107, 108, 109, 110, 111, 112, 113, 114, 115, 116, 117, 118, 119, 120, 121, 122, 123, 124, 125, 126, 127, 128, 129, 130, 131, 132, 133, 134, 135, 136, 137, 138, 139, 140, 141, 142, 143, 144, 145, 146, 147, 148] (by decide +kernel) (by decide +kernel)
set_option maxRecDepth 20000 in
theorem gX2_trim_X2_put : GoodIn wsX2_trim (wsV RX2 36 RX2 yX2_put wsX2_put) := goodIn_app (goodIn_of _ (by decide +kernel)) ggX2_trim_X2_put
theorem dX2_trim_0 : decode cX2_trim 0 = .ok (.aload_n 0, 1) := by decide +kernel
theorem dX2_trim_1 : decode cX2_trim 1 = .ok (.iload_n 1, 1) := by decide +kernel
theorem dX2_trim_2 : decode cX2_trim 2 = .ok (.iconst 0, 1) := by decide +kernel
theorem dX2_trim_3 : decode cX2_trim 3 = .ok (.iconst 2, 1) := by decide +kernel
theorem dX2_trim_4 : decode cX2_trim 4 = .ok (.invokevirtual 36, 3) := by decide +kernel
theorem dX2_trim_7 : decode cX2_trim 7 = .ok (.ireturn, 1) := by decide +kernel
set_option maxRecDepth 20000 in
theorem ggX2_flush_X2_storeFirst : GoodIn wsX2_flush wsX2_storeFirst := goodIn_r _ [6, 7, 8, 1, 9, 10, 11, 5, 12, 13, 14, 15, 16, 17, 18, 19, 20, 21, 22, 23, 24, 25, 26, 27, 28, 29, 30, 31, 32, 33, 34, 35, 36, 37, 38, 39, 40, 41, 42, 43, 44, 45, 46, 47, 48, 49, 50, 51, 52, 53, 54, 55, 56, 57, 58, 59, 60, 61, 62, 63, 64, 65, 66, 67, 68, 69, 70, 71, 72, 73, 74, 75, 76, 77, 78, 79, 80, 81, 82, 83, 84, 85, 86, 87, 104, 105, 106, 107, 108, 109, 110, 111, 112, 113, 114, 115, 116, 117, 118, 119, 120, 121, 122] (by decide +kernel) (by decide +kernel)
set_option maxRecDepth 20000 in
theorem gX2_flush_X2_storeFirst : GoodIn wsX2_flush (wsV RX2 43 RX2 yX2_storeFirst wsX2_storeFirst) := goodIn_app (goodIn_of _ (by decide +kernel)) ggX2_flush_X2_storeFirst
set_option maxRecDepth 20000 in
theorem ggX2_flush_X2_losePower : GoodIn wsX2_flush wsX2_losePower := goodIn_r _ [91, 92, 93, 94, 5, 95, 1, 7, 8, 96, 97, 98, 17, 99, 19, 20, 100, 101, 102, 103, 66, 53, 38, 39, 36, 40, 21, 22, 23, 24, 41, 42, 43, 44, 29, 45, 46, 47, 48, 49, 50, 51, 52, 54, 55, 56, 57, 58, 59, 60, 61, 62, 63, 64, 65, 67, 68, 15, 16, 18, 69, 70, 71, 72, 73, 74, 75, 76, 77, 78, 104, 105, 106, 107, 108, 109, 110, 111, 112, 113, 114, 115, 116, 117, 118, 119, 120, 121, 122] (by decide +kernel) (by decide +kernel)
set_option maxRecDepth 20000 in
theorem gX2_flush_X2_losePower : GoodIn wsX2_flush (wsV RX2 47 RX2 yX2_losePower wsX2_losePower) := goodIn_app (goodIn_of _ (by decide +kernel)) ggX2_flush_X2_losePower
theorem dX2_flush_0 : decode cX2_flush 0 = .ok (.aload_n 0, 1) := by decide +kernel
theorem dX2_flush_1 : decode cX2_flush 1 = .ok (.getfield 21, 3) := by decide +kernel
theorem dX2_flush_4 : decode cX2_flush 4 = .ok (.getfield 40, 3) := by decide +kernel
theorem dX2_flush_7 : decode cX2_flush 7 = .ok (.istore_n 1, 1) := by decide +kernel
theorem dX2_flush_8 : decode cX2_flush 8 = .ok (.iload_n 1, 1) := by decide +kernel
theorem dX2_flush_9 : decode cX2_flush 9 = .ok (.ifCond .le 22, 3) := by decide +kernel
theorem dX2_flush_12 : decode cX2_flush 12 = .ok (.aload_n 0, 1) := by decide +kernel
theorem dX2_flush_13 : decode cX2_flush 13 = .ok (.invokevirtual 43, 3) := by decide +kernel
theorem dX2_flush_16 : decode cX2_flush 16 = .ok (.ifCond .ne 9, 3) := by decide +kernel
theorem dX2_flush_19 : decode cX2_flush 19 = .ok (.aload_n 0, 1) := by decide +kernel
theorem dX2_flush_20 : decode cX2_flush 20 = .ok (.invokevirtual 47, 3) := by decide +kernel
theorem dX2_flush_23 : decode cX2_flush 23 = .ok (.iconst 1, 1) := by decide +kernel
theorem dX2_flush_24 : decode cX2_flush 24 = .ok (.ireturn, 1) := by decide +kernel
theorem dX2_flush_25 : decode cX2_flush 25 = .ok (.iinc 1 (-1), 3) := by decide +kernel
theorem dX2_flush_28 : decode cX2_flush 28 = .ok (.goto (-20), 3) := by decide +kernel
theorem dX2_flush_31 : decode cX2_flush 31 = .ok (.iconst 0, 1) := by decide +kernel
theorem dX2_flush_32 : decode cX2_flush 32 = .ok (.ireturn, 1) := by decide +kernel
set_option maxRecDepth 20000 in
theorem ggX2_cut_X2_losePower : GoodIn wsX2_cut wsX2_losePower := goodIn_r _ [5, 6, 7, 8, 4, 9, 10, 11, 12, 13, 14, 15, 16, 17, 18, 19, 20, 21, 22, 23, 24, 25, 26, 27, 28, 29, 30, 31, 32, 33, 34, 35, 36, 37, 38, 39, 40, 41, 42, 43, 44, 45, 46, 47, 48, 49, 50, 51, 52, 53, 54, 55, 56, 57, 58, 59, 60, 61, 62, 63, 64, 65, 66, 67, 68, 69, 70, 71, 72, 73, 74, 75, 76, 77, 78, 79, 80, 81, 82, 83, 84, 85, 86, 87, 88, 89, 90, 91, 92] (by decide +kernel) (by decide +kernel)
set_option maxRecDepth 20000 in
theorem gX2_cut_X2_losePower : GoodIn wsX2_cut (wsV RX2 47 RX2 yX2_losePower wsX2_losePower) := goodIn_app (goodIn_of _ (by decide +kernel)) ggX2_cut_X2_losePower
theorem dX2_cut_0 : decode cX2_cut 0 = .ok (.aload_n 0, 1) := by decide +kernel
theorem dX2_cut_1 : decode cX2_cut 1 = .ok (.invokevirtual 47, 3) := by decide +kernel
theorem dX2_cut_4 : decode cX2_cut 4 = .ok (.return_, 1) := by decide +kernel
theorem dX2_fuse_0 : decode cX2_fuse 0 = .ok (.iload_n 1, 1) := by decide +kernel
theorem dX2_fuse_1 : decode cX2_fuse 1 = .ok (.ifCond .lt 10, 3) := by decide +kernel
theorem dX2_fuse_4 : decode cX2_fuse 4 = .ok (.iload_n 1, 1) := by decide +kernel
theorem dX2_fuse_5 : decode cX2_fuse 5 = .ok (.sipush 1000, 3) := by decide +kernel
theorem dX2_fuse_8 : decode cX2_fuse 8 = .ok (.if_icmp .le 5, 3) := by decide +kernel
theorem dX2_fuse_11 : decode cX2_fuse 11 = .ok (.iconst 0, 1) := by decide +kernel
theorem dX2_fuse_12 : decode cX2_fuse 12 = .ok (.ireturn, 1) := by decide +kernel
theorem dX2_fuse_13 : decode cX2_fuse 13 = .ok (.aload_n 0, 1) := by decide +kernel
theorem dX2_fuse_14 : decode cX2_fuse 14 = .ok (.getfield 14, 3) := by decide +kernel
theorem dX2_fuse_17 : decode cX2_fuse 17 = .ok (.iload_n 1, 1) := by decide +kernel
theorem dX2_fuse_18 : decode cX2_fuse 18 = .ok (.putfield 50, 3) := by decide +kernel
theorem dX2_fuse_21 : decode cX2_fuse 21 = .ok (.iconst 1, 1) := by decide +kernel
theorem dX2_fuse_22 : decode cX2_fuse 22 = .ok (.ireturn, 1) := by decide +kernel
set_option maxRecDepth 20000 in
theorem ggX2_read_X0_find : GoodIn wsX2_read wsX0_find := goodIn_r _ [7, 8, 9, 23, 24, 25, 26] (by decide +kernel) (by decide +kernel)
set_option maxRecDepth 20000 in
theorem gX2_read_X0_find : GoodIn wsX2_read (wsV RX2 53 RX0 yX0_find wsX0_find) := goodIn_app (goodIn_of _ (by decide +kernel)) ggX2_read_X0_find
set_option maxRecDepth 20000 in
theorem ggX2_read_X2_place : GoodIn wsX2_read wsX2_place := goodIn_r _ [14, 2, 15, 16, 17, 13, 18, 19, 20, 21, 22, 27, 28, 29, 30, 31, 32, 33, 34, 35, 36, 37] (by decide +kernel) (by decide +kernel)
set_option maxRecDepth 20000 in
theorem gX2_read_X2_place : GoodIn wsX2_read (wsV RX2 60 RX2 yX2_place wsX2_place) := goodIn_app (goodIn_of _ (by decide +kernel)) ggX2_read_X2_place
theorem dX2_read_0 : decode cX2_read 0 = .ok (.aload_n 0, 1) := by decide +kernel
theorem dX2_read_1 : decode cX2_read 1 = .ok (.getfield 21, 3) := by decide +kernel
theorem dX2_read_4 : decode cX2_read 4 = .ok (.iload_n 1, 1) := by decide +kernel
theorem dX2_read_5 : decode cX2_read 5 = .ok (.invokevirtual 53, 3) := by decide +kernel
theorem dX2_read_8 : decode cX2_read 8 = .ok (.istore_n 2, 1) := by decide +kernel
theorem dX2_read_9 : decode cX2_read 9 = .ok (.iload_n 2, 1) := by decide +kernel
theorem dX2_read_10 : decode cX2_read 10 = .ok (.iconst (-1), 1) := by decide +kernel
theorem dX2_read_11 : decode cX2_read 11 = .ok (.if_icmp .eq 13, 3) := by decide +kernel
theorem dX2_read_14 : decode cX2_read 14 = .ok (.aload_n 0, 1) := by decide +kernel
theorem dX2_read_15 : decode cX2_read 15 = .ok (.getfield 21, 3) := by decide +kernel
theorem dX2_read_18 : decode cX2_read 18 = .ok (.getfield 57, 3) := by decide +kernel
theorem dX2_read_21 : decode cX2_read 21 = .ok (.iload_n 2, 1) := by decide +kernel
theorem dX2_read_22 : decode cX2_read 22 = .ok (.iaload, 1) := by decide +kernel
theorem dX2_read_23 : decode cX2_read 23 = .ok (.ireturn, 1) := by decide +kernel
theorem dX2_read_24 : decode cX2_read 24 = .ok (.aload_n 0, 1) := by decide +kernel
theorem dX2_read_25 : decode cX2_read 25 = .ok (.iload_n 1, 1) := by decide +kernel
theorem dX2_read_26 : decode cX2_read 26 = .ok (.invokevirtual 60, 3) := by decide +kernel
theorem dX2_read_29 : decode cX2_read 29 = .ok (.istore_n 3, 1) := by decide +kernel
theorem dX2_read_30 : decode cX2_read 30 = .ok (.iload_n 3, 1) := by decide +kernel
theorem dX2_read_31 : decode cX2_read 31 = .ok (.iconst (-1), 1) := by decide +kernel
theorem dX2_read_32 : decode cX2_read 32 = .ok (.if_icmp .ne 7, 3) := by decide +kernel
theorem dX2_read_35 : decode cX2_read 35 = .ok (.iconst 0, 1) := by decide +kernel
theorem dX2_read_36 : decode cX2_read 36 = .ok (.goto 12, 3) := by decide +kernel
theorem dX2_read_39 : decode cX2_read 39 = .ok (.aload_n 0, 1) := by decide +kernel
theorem dX2_read_40 : decode cX2_read 40 = .ok (.getfield 14, 3) := by decide +kernel
theorem dX2_read_43 : decode cX2_read 43 = .ok (.getfield 63, 3) := by decide +kernel
theorem dX2_read_46 : decode cX2_read 46 = .ok (.iload_n 3, 1) := by decide +kernel
theorem dX2_read_47 : decode cX2_read 47 = .ok (.iaload, 1) := by decide +kernel
theorem dX2_read_48 : decode cX2_read 48 = .ok (.ireturn, 1) := by decide +kernel
set_option maxRecDepth 20000 in
theorem ggX2_holds_X0_find : GoodIn wsX2_holds wsX0_find := goodIn_r _ [7, 8, 9, 23, 24, 25, 26] (by decide +kernel) (by decide +kernel)
set_option maxRecDepth 20000 in
theorem gX2_holds_X0_find : GoodIn wsX2_holds (wsV RX2 53 RX0 yX0_find wsX0_find) := goodIn_app (goodIn_of _ (by decide +kernel)) ggX2_holds_X0_find
set_option maxRecDepth 20000 in
theorem ggX2_holds_X2_place : GoodIn wsX2_holds wsX2_place := goodIn_r _ [14, 2, 15, 16, 17, 13, 18, 19, 20, 21, 22, 27, 28, 29, 30, 31, 32, 33, 34, 35, 36, 37] (by decide +kernel) (by decide +kernel)
set_option maxRecDepth 20000 in
theorem gX2_holds_X2_place : GoodIn wsX2_holds (wsV RX2 60 RX2 yX2_place wsX2_place) := goodIn_app (goodIn_of _ (by decide +kernel)) ggX2_holds_X2_place
theorem dX2_holds_0 : decode cX2_holds 0 = .ok (.aload_n 0, 1) := by decide +kernel
theorem dX2_holds_1 : decode cX2_holds 1 = .ok (.getfield 21, 3) := by decide +kernel
theorem dX2_holds_4 : decode cX2_holds 4 = .ok (.iload_n 1, 1) := by decide +kernel
theorem dX2_holds_5 : decode cX2_holds 5 = .ok (.invokevirtual 53, 3) := by decide +kernel
theorem dX2_holds_8 : decode cX2_holds 8 = .ok (.istore_n 2, 1) := by decide +kernel
theorem dX2_holds_9 : decode cX2_holds 9 = .ok (.iload_n 2, 1) := by decide +kernel
theorem dX2_holds_10 : decode cX2_holds 10 = .ok (.iconst (-1), 1) := by decide +kernel
theorem dX2_holds_11 : decode cX2_holds 11 = .ok (.if_icmp .eq 13, 3) := by decide +kernel
theorem dX2_holds_14 : decode cX2_holds 14 = .ok (.aload_n 0, 1) := by decide +kernel
theorem dX2_holds_15 : decode cX2_holds 15 = .ok (.getfield 21, 3) := by decide +kernel
theorem dX2_holds_18 : decode cX2_holds 18 = .ok (.getfield 64, 3) := by decide +kernel
theorem dX2_holds_21 : decode cX2_holds 21 = .ok (.iload_n 2, 1) := by decide +kernel
theorem dX2_holds_22 : decode cX2_holds 22 = .ok (.iaload, 1) := by decide +kernel
theorem dX2_holds_23 : decode cX2_holds 23 = .ok (.ireturn, 1) := by decide +kernel
theorem dX2_holds_24 : decode cX2_holds 24 = .ok (.aload_n 0, 1) := by decide +kernel
theorem dX2_holds_25 : decode cX2_holds 25 = .ok (.iload_n 1, 1) := by decide +kernel
theorem dX2_holds_26 : decode cX2_holds 26 = .ok (.invokevirtual 60, 3) := by decide +kernel
theorem dX2_holds_29 : decode cX2_holds 29 = .ok (.istore_n 3, 1) := by decide +kernel
theorem dX2_holds_30 : decode cX2_holds 30 = .ok (.iload_n 3, 1) := by decide +kernel
theorem dX2_holds_31 : decode cX2_holds 31 = .ok (.iconst (-1), 1) := by decide +kernel
theorem dX2_holds_32 : decode cX2_holds 32 = .ok (.if_icmp .ne 7, 3) := by decide +kernel
theorem dX2_holds_35 : decode cX2_holds 35 = .ok (.iconst 0, 1) := by decide +kernel
theorem dX2_holds_36 : decode cX2_holds 36 = .ok (.goto 12, 3) := by decide +kernel
theorem dX2_holds_39 : decode cX2_holds 39 = .ok (.aload_n 0, 1) := by decide +kernel
theorem dX2_holds_40 : decode cX2_holds 40 = .ok (.getfield 14, 3) := by decide +kernel
theorem dX2_holds_43 : decode cX2_holds 43 = .ok (.getfield 67, 3) := by decide +kernel
theorem dX2_holds_46 : decode cX2_holds 46 = .ok (.iload_n 3, 1) := by decide +kernel
theorem dX2_holds_47 : decode cX2_holds 47 = .ok (.iaload, 1) := by decide +kernel
theorem dX2_holds_48 : decode cX2_holds 48 = .ok (.ireturn, 1) := by decide +kernel
theorem dX2_buffered_0 : decode cX2_buffered 0 = .ok (.aload_n 0, 1) := by decide +kernel
theorem dX2_buffered_1 : decode cX2_buffered 1 = .ok (.getfield 21, 3) := by decide +kernel
theorem dX2_buffered_4 : decode cX2_buffered 4 = .ok (.getfield 40, 3) := by decide +kernel
theorem dX2_buffered_7 : decode cX2_buffered 7 = .ok (.ireturn, 1) := by decide +kernel
set_option maxRecDepth 20000 in
theorem ggX2_place_X2_isSector : GoodIn wsX2_place wsX2_isSector := goodIn_r _ [6, 1, 7, 8, 9, 10, 11, 12, 13, 14, 15, 16, 17, 18, 19, 20, 21] (by decide +kernel) (by decide +kernel)
set_option maxRecDepth 20000 in
theorem gX2_place_X2_isSector : GoodIn wsX2_place (wsV RX2 68 RX2 yX2_isSector wsX2_isSector) := goodIn_app (goodIn_of _ (by decide +kernel)) ggX2_place_X2_isSector
theorem dX2_place_0 : decode cX2_place 0 = .ok (.aload_n 0, 1) := by decide +kernel
theorem dX2_place_1 : decode cX2_place 1 = .ok (.iload_n 1, 1) := by decide +kernel
theorem dX2_place_2 : decode cX2_place 2 = .ok (.invokevirtual 68, 3) := by decide +kernel
theorem dX2_place_5 : decode cX2_place 5 = .ok (.ifCond .eq 15, 3) := by decide +kernel
theorem dX2_place_8 : decode cX2_place 8 = .ok (.aload_n 0, 1) := by decide +kernel
theorem dX2_place_9 : decode cX2_place 9 = .ok (.getfield 14, 3) := by decide +kernel
theorem dX2_place_12 : decode cX2_place 12 = .ok (.getfield 32, 3) := by decide +kernel
theorem dX2_place_15 : decode cX2_place 15 = .ok (.iload_n 1, 1) := by decide +kernel
theorem dX2_place_16 : decode cX2_place 16 = .ok (.iaload, 1) := by decide +kernel
theorem dX2_place_17 : decode cX2_place 17 = .ok (.goto 4, 3) := by decide +kernel
theorem dX2_place_20 : decode cX2_place 20 = .ok (.iconst (-1), 1) := by decide +kernel
theorem dX2_place_21 : decode cX2_place 21 = .ok (.ireturn, 1) := by decide +kernel
set_option maxRecDepth 20000 in
theorem ggX2_tag_X1_isProgrammed : GoodIn wsX2_tag wsX1_isProgrammed := goodIn_r _ [6, 7, 12, 13, 14, 15, 16, 17, 18, 19, 20, 21, 22] (by decide +kernel) (by decide +kernel)
set_option maxRecDepth 20000 in
theorem gX2_tag_X1_isProgrammed : GoodIn wsX2_tag (wsV RX2 72 RX1 yX1_isProgrammed wsX1_isProgrammed) := goodIn_app (goodIn_of _ (by decide +kernel)) ggX2_tag_X1_isProgrammed
theorem dX2_tag_0 : decode cX2_tag 0 = .ok (.aload_n 0, 1) := by decide +kernel
theorem dX2_tag_1 : decode cX2_tag 1 = .ok (.getfield 14, 3) := by decide +kernel
theorem dX2_tag_4 : decode cX2_tag 4 = .ok (.iload_n 1, 1) := by decide +kernel
theorem dX2_tag_5 : decode cX2_tag 5 = .ok (.invokevirtual 72, 3) := by decide +kernel
theorem dX2_tag_8 : decode cX2_tag 8 = .ok (.ifCond .eq 15, 3) := by decide +kernel
theorem dX2_tag_11 : decode cX2_tag 11 = .ok (.aload_n 0, 1) := by decide +kernel
theorem dX2_tag_12 : decode cX2_tag 12 = .ok (.getfield 14, 3) := by decide +kernel
theorem dX2_tag_15 : decode cX2_tag 15 = .ok (.getfield 75, 3) := by decide +kernel
theorem dX2_tag_18 : decode cX2_tag 18 = .ok (.iload_n 1, 1) := by decide +kernel
theorem dX2_tag_19 : decode cX2_tag 19 = .ok (.iaload, 1) := by decide +kernel
theorem dX2_tag_20 : decode cX2_tag 20 = .ok (.goto 4, 3) := by decide +kernel
theorem dX2_tag_23 : decode cX2_tag 23 = .ok (.iconst (-1), 1) := by decide +kernel
theorem dX2_tag_24 : decode cX2_tag 24 = .ok (.ireturn, 1) := by decide +kernel
set_option maxRecDepth 20000 in
theorem ggX2_serial_X1_isProgrammed : GoodIn wsX2_serial wsX1_isProgrammed := goodIn_r _ [6, 7, 12, 13, 14, 15, 16, 17, 18, 19, 20, 21, 22] (by decide +kernel) (by decide +kernel)
set_option maxRecDepth 20000 in
theorem gX2_serial_X1_isProgrammed : GoodIn wsX2_serial (wsV RX2 72 RX1 yX1_isProgrammed wsX1_isProgrammed) := goodIn_app (goodIn_of _ (by decide +kernel)) ggX2_serial_X1_isProgrammed
theorem dX2_serial_0 : decode cX2_serial 0 = .ok (.aload_n 0, 1) := by decide +kernel
theorem dX2_serial_1 : decode cX2_serial 1 = .ok (.getfield 14, 3) := by decide +kernel
theorem dX2_serial_4 : decode cX2_serial 4 = .ok (.iload_n 1, 1) := by decide +kernel
theorem dX2_serial_5 : decode cX2_serial 5 = .ok (.invokevirtual 72, 3) := by decide +kernel
theorem dX2_serial_8 : decode cX2_serial 8 = .ok (.ifCond .eq 15, 3) := by decide +kernel
theorem dX2_serial_11 : decode cX2_serial 11 = .ok (.aload_n 0, 1) := by decide +kernel
theorem dX2_serial_12 : decode cX2_serial 12 = .ok (.getfield 14, 3) := by decide +kernel
theorem dX2_serial_15 : decode cX2_serial 15 = .ok (.getfield 78, 3) := by decide +kernel
theorem dX2_serial_18 : decode cX2_serial 18 = .ok (.iload_n 1, 1) := by decide +kernel
theorem dX2_serial_19 : decode cX2_serial 19 = .ok (.iaload, 1) := by decide +kernel
theorem dX2_serial_20 : decode cX2_serial 20 = .ok (.goto 4, 3) := by decide +kernel
theorem dX2_serial_23 : decode cX2_serial 23 = .ok (.iconst (-1), 1) := by decide +kernel
theorem dX2_serial_24 : decode cX2_serial 24 = .ok (.ireturn, 1) := by decide +kernel
set_option maxRecDepth 20000 in
theorem ggX2_valid_X1_isBlock : GoodIn wsX2_valid wsX1_isBlock := goodIn_r _ [6, 7, 23, 24, 25, 26, 27, 28, 29, 30, 31, 32, 33] (by decide +kernel) (by decide +kernel)
set_option maxRecDepth 20000 in
theorem gX2_valid_X1_isBlock : GoodIn wsX2_valid (wsV RX2 81 RX1 yX1_isBlock wsX1_isBlock) := goodIn_app (goodIn_of _ (by decide +kernel)) ggX2_valid_X1_isBlock
set_option maxRecDepth 20000 in
theorem ggX2_valid_X1_countValid : GoodIn wsX2_valid wsX1_countValid := goodIn_r _ [11, 12, 13, 14, 5, 15, 16, 17, 18, 23, 24, 25, 26, 27, 28, 29, 30, 31, 32, 33] (by decide +kernel) (by decide +kernel)
set_option maxRecDepth 20000 in
theorem gX2_valid_X1_countValid : GoodIn wsX2_valid (wsV RX2 84 RX1 yX1_countValid wsX1_countValid) := goodIn_app (goodIn_of _ (by decide +kernel)) ggX2_valid_X1_countValid
theorem dX2_valid_0 : decode cX2_valid 0 = .ok (.aload_n 0, 1) := by decide +kernel
theorem dX2_valid_1 : decode cX2_valid 1 = .ok (.getfield 14, 3) := by decide +kernel
theorem dX2_valid_4 : decode cX2_valid 4 = .ok (.iload_n 1, 1) := by decide +kernel
theorem dX2_valid_5 : decode cX2_valid 5 = .ok (.invokevirtual 81, 3) := by decide +kernel
theorem dX2_valid_8 : decode cX2_valid 8 = .ok (.ifCond .eq 14, 3) := by decide +kernel
theorem dX2_valid_11 : decode cX2_valid 11 = .ok (.aload_n 0, 1) := by decide +kernel
theorem dX2_valid_12 : decode cX2_valid 12 = .ok (.getfield 14, 3) := by decide +kernel
theorem dX2_valid_15 : decode cX2_valid 15 = .ok (.iload_n 1, 1) := by decide +kernel
theorem dX2_valid_16 : decode cX2_valid 16 = .ok (.invokevirtual 84, 3) := by decide +kernel
theorem dX2_valid_19 : decode cX2_valid 19 = .ok (.goto 4, 3) := by decide +kernel
theorem dX2_valid_22 : decode cX2_valid 22 = .ok (.iconst (-1), 1) := by decide +kernel
theorem dX2_valid_23 : decode cX2_valid 23 = .ok (.ireturn, 1) := by decide +kernel
set_option maxRecDepth 20000 in
theorem ggX2_erasures_X1_isBlock : GoodIn wsX2_erasures wsX1_isBlock := goodIn_r _ [6, 7, 12, 13, 14, 15, 16, 17, 18, 19, 20, 21, 22] (by decide +kernel) (by decide +kernel)
set_option maxRecDepth 20000 in
theorem gX2_erasures_X1_isBlock : GoodIn wsX2_erasures (wsV RX2 81 RX1 yX1_isBlock wsX1_isBlock) := goodIn_app (goodIn_of _ (by decide +kernel)) ggX2_erasures_X1_isBlock
theorem dX2_erasures_0 : decode cX2_erasures 0 = .ok (.aload_n 0, 1) := by decide +kernel
theorem dX2_erasures_1 : decode cX2_erasures 1 = .ok (.getfield 14, 3) := by decide +kernel
theorem dX2_erasures_4 : decode cX2_erasures 4 = .ok (.iload_n 1, 1) := by decide +kernel
theorem dX2_erasures_5 : decode cX2_erasures 5 = .ok (.invokevirtual 81, 3) := by decide +kernel
theorem dX2_erasures_8 : decode cX2_erasures 8 = .ok (.ifCond .eq 15, 3) := by decide +kernel
theorem dX2_erasures_11 : decode cX2_erasures 11 = .ok (.aload_n 0, 1) := by decide +kernel
theorem dX2_erasures_12 : decode cX2_erasures 12 = .ok (.getfield 14, 3) := by decide +kernel
theorem dX2_erasures_15 : decode cX2_erasures 15 = .ok (.getfield 87, 3) := by decide +kernel
theorem dX2_erasures_18 : decode cX2_erasures 18 = .ok (.iload_n 1, 1) := by decide +kernel
theorem dX2_erasures_19 : decode cX2_erasures 19 = .ok (.iaload, 1) := by decide +kernel
theorem dX2_erasures_20 : decode cX2_erasures 20 = .ok (.goto 4, 3) := by decide +kernel
theorem dX2_erasures_23 : decode cX2_erasures 23 = .ok (.iconst (-1), 1) := by decide +kernel
theorem dX2_erasures_24 : decode cX2_erasures 24 = .ok (.ireturn, 1) := by decide +kernel
theorem dX2_open_0 : decode cX2_open 0 = .ok (.aload_n 0, 1) := by decide +kernel
theorem dX2_open_1 : decode cX2_open 1 = .ok (.getfield 29, 3) := by decide +kernel
theorem dX2_open_4 : decode cX2_open 4 = .ok (.ireturn, 1) := by decide +kernel
set_option maxRecDepth 20000 in
theorem ggX2_free_X1_countFree : GoodIn wsX2_free wsX1_countFree := goodIn_r _ [6, 7, 8, 13, 14, 15, 16, 17, 18, 19, 20, 21, 22, 23] (by decide +kernel) (by decide +kernel)
set_option maxRecDepth 20000 in
theorem gX2_free_X1_countFree : GoodIn wsX2_free (wsV RX2 90 RX1 yX1_countFree wsX1_countFree) := goodIn_app (goodIn_of _ (by decide +kernel)) ggX2_free_X1_countFree
theorem dX2_free_0 : decode cX2_free 0 = .ok (.aload_n 0, 1) := by decide +kernel
theorem dX2_free_1 : decode cX2_free 1 = .ok (.getfield 14, 3) := by decide +kernel
theorem dX2_free_4 : decode cX2_free 4 = .ok (.invokevirtual 90, 3) := by decide +kernel
theorem dX2_free_7 : decode cX2_free 7 = .ok (.ireturn, 1) := by decide +kernel
theorem dX2_operations_0 : decode cX2_operations 0 = .ok (.aload_n 0, 1) := by decide +kernel
theorem dX2_operations_1 : decode cX2_operations 1 = .ok (.getfield 14, 3) := by decide +kernel
theorem dX2_operations_4 : decode cX2_operations 4 = .ok (.getfield 94, 3) := by decide +kernel
theorem dX2_operations_7 : decode cX2_operations 7 = .ok (.ireturn, 1) := by decide +kernel
theorem dX2_isSector_0 : decode cX2_isSector 0 = .ok (.iload_n 1, 1) := by decide +kernel
theorem dX2_isSector_1 : decode cX2_isSector 1 = .ok (.ifCond .lt 19, 3) := by decide +kernel
theorem dX2_isSector_4 : decode cX2_isSector 4 = .ok (.iload_n 1, 1) := by decide +kernel
theorem dX2_isSector_5 : decode cX2_isSector 5 = .ok (.aload_n 0, 1) := by decide +kernel
theorem dX2_isSector_6 : decode cX2_isSector 6 = .ok (.getfield 14, 3) := by decide +kernel
theorem dX2_isSector_9 : decode cX2_isSector 9 = .ok (.getfield 32, 3) := by decide +kernel
theorem dX2_isSector_12 : decode cX2_isSector 12 = .ok (.arraylength, 1) := by decide +kernel
theorem dX2_isSector_13 : decode cX2_isSector 13 = .ok (.if_icmp .ge 7, 3) := by decide +kernel
theorem dX2_isSector_16 : decode cX2_isSector 16 = .ok (.iconst 1, 1) := by decide +kernel
theorem dX2_isSector_17 : decode cX2_isSector 17 = .ok (.goto 4, 3) := by decide +kernel
theorem dX2_isSector_20 : decode cX2_isSector 20 = .ok (.iconst 0, 1) := by decide +kernel
theorem dX2_isSector_21 : decode cX2_isSector 21 = .ok (.ireturn, 1) := by decide +kernel
set_option maxRecDepth 20000 in
theorem ggX2_put_X2_isSector : GoodIn wsX2_put wsX2_isSector := goodIn_r _ [6, 7, 126, 127, 128, 129, 130, 131, 132, 133, 134, 135, 136, 137, 138, 139, 140] (by decide +kernel) (by decide +kernel)
set_option maxRecDepth 20000 in
theorem gX2_put_X2_isSector : GoodIn wsX2_put (wsV RX2 68 RX2 yX2_isSector wsX2_isSector) := goodIn_app (goodIn_of _ (by decide +kernel)) ggX2_put_X2_isSector
set_option maxRecDepth 20000 in
theorem ggX2_put_X0_find : GoodIn wsX2_put wsX0_find := goodIn_r _ [12, 13, 14, 141, 142, 143, 144] (by decide +kernel) (by decide +kernel)
set_option maxRecDepth 20000 in
theorem gX2_put_X0_find : GoodIn wsX2_put (wsV RX2 53 RX0 yX0_find wsX0_find) := goodIn_app (goodIn_of _ (by decide +kernel)) ggX2_put_X0_find
set_option maxRecDepth 20000 in
theorem ggX2_put_X0_change : GoodIn wsX2_put wsX0_change := goodIn_r _ [18, 19, 20, 141, 142, 143, 144] (by decide +kernel) (by decide +kernel)
set_option maxRecDepth 20000 in
theorem gX2_put_X0_change : GoodIn wsX2_put (wsV RX2 97 RX0 yX0_change wsX0_change) := goodIn_app (goodIn_of _ (by decide +kernel)) ggX2_put_X0_change
set_option maxRecDepth 20000 in
theorem ggX2_put_X0_isFull : GoodIn wsX2_put wsX0_isFull := goodIn_r _ [24, 13, 141, 142, 143, 144] (by decide +kernel) (by decide +kernel)
set_option maxRecDepth 20000 in
theorem gX2_put_X0_isFull : GoodIn wsX2_put (wsV RX2 101 RX0 yX0_isFull wsX0_isFull) := goodIn_app (goodIn_of _ (by decide +kernel)) ggX2_put_X0_isFull
set_option maxRecDepth 20000 in
theorem ggX2_put_X2_storeFirst : GoodIn wsX2_put wsX2_storeFirst := goodIn_r _ [28, 7, 29, 1, 30, 31, 32, 5, 33, 34, 35, 36, 37, 38, 39, 40, 41, 42, 43, 44, 45, 46, 47, 48, 49, 50, 51, 52, 53, 54, 55, 56, 57, 58, 59, 60, 61, 62, 63, 64, 65, 66, 67, 68, 69, 70, 71, 72, 73, 74, 75, 76, 77, 78, 79, 80, 81, 82, 83, 84, 85, 86, 87, 88, 89, 90, 91, 92, 93, 94, 95, 96, 97, 98, 99, 100, 101, 102, 11, 103, 13, 14, 19, 20, 126, 127, 128, 129, 141, 142, 143, 144, 130, 131, 132, 133, 134, 135, 136, 137, 138, 139, 140] (by decide +kernel) (by decide +kernel)
set_option maxRecDepth 20000 in
theorem gX2_put_X2_storeFirst : GoodIn wsX2_put (wsV RX2 43 RX2 yX2_storeFirst wsX2_storeFirst) := goodIn_app (goodIn_of _ (by decide +kernel)) ggX2_put_X2_storeFirst
set_option maxRecDepth 20000 in
theorem ggX2_put_X2_losePower : GoodIn wsX2_put wsX2_losePower := goodIn_r _ [107, 108, 109, 110, 5, 111, 1, 7, 29, 112, 113, 114, 38, 115, 40, 41, 116, 117, 118, 119, 87, 74, 59, 60, 57, 61, 42, 43, 44, 45, 62, 63, 64, 65, 50, 66, 67, 68, 69, 70, 71, 72, 73, 75, 76, 77, 78, 79, 80, 81, 82, 83, 84, 85, 86, 88, 89, 36, 37, 39, 90, 91, 92, 93, 94, 95, 96, 97, 98, 99, 126, 127, 128, 129, 141, 142, 143, 144, 130, 131, 132, 133, 134, 135, 136, 137, 138, 139, 140] (by decide +kernel) (by decide +kernel)
set_option maxRecDepth 20000 in
theorem gX2_put_X2_losePower : GoodIn wsX2_put (wsV RX2 47 RX2 yX2_losePower wsX2_losePower) := goodIn_app (goodIn_of _ (by decide +kernel)) ggX2_put_X2_losePower
set_option maxRecDepth 20000 in
theorem ggX2_put_X0_add : GoodIn wsX2_put wsX0_add := goodIn_r _ [123, 14, 13, 124, 22, 23, 11, 24, 125, 16, 17, 18, 19, 20, 141, 142, 143, 144] (by decide +kernel) (by decide +kernel)
set_option maxRecDepth 20000 in
theorem gX2_put_X0_add : GoodIn wsX2_put (wsV RX2 104 RX0 yX0_add wsX0_add) := goodIn_app (goodIn_of _ (by decide +kernel)) ggX2_put_X0_add
theorem dX2_put_0 : decode cX2_put 0 = .ok (.aload_n 0, 1) := by decide +kernel
theorem dX2_put_1 : decode cX2_put 1 = .ok (.iload_n 1, 1) := by decide +kernel
theorem dX2_put_2 : decode cX2_put 2 = .ok (.invokevirtual 68, 3) := by decide +kernel
theorem dX2_put_5 : decode cX2_put 5 = .ok (.ifCond .ne 5, 3) := by decide +kernel
theorem dX2_put_8 : decode cX2_put 8 = .ok (.iconst (-1), 1) := by decide +kernel
theorem dX2_put_9 : decode cX2_put 9 = .ok (.ireturn, 1) := by decide +kernel
theorem dX2_put_10 : decode cX2_put 10 = .ok (.aload_n 0, 1) := by decide +kernel
theorem dX2_put_11 : decode cX2_put 11 = .ok (.getfield 21, 3) := by decide +kernel
theorem dX2_put_14 : decode cX2_put 14 = .ok (.iload_n 1, 1) := by decide +kernel
theorem dX2_put_15 : decode cX2_put 15 = .ok (.invokevirtual 53, 3) := by decide +kernel
theorem dX2_put_18 : decode cX2_put 18 = .ok (.istore 4, 2) := by decide +kernel
theorem dX2_put_20 : decode cX2_put 20 = .ok (.iload 4, 2) := by decide +kernel
theorem dX2_put_22 : decode cX2_put 22 = .ok (.iconst (-1), 1) := by decide +kernel
theorem dX2_put_23 : decode cX2_put 23 = .ok (.if_icmp .eq 16, 3) := by decide +kernel
theorem dX2_put_26 : decode cX2_put 26 = .ok (.aload_n 0, 1) := by decide +kernel
theorem dX2_put_27 : decode cX2_put 27 = .ok (.getfield 21, 3) := by decide +kernel
theorem dX2_put_30 : decode cX2_put 30 = .ok (.iload 4, 2) := by decide +kernel
theorem dX2_put_32 : decode cX2_put 32 = .ok (.iload_n 2, 1) := by decide +kernel
theorem dX2_put_33 : decode cX2_put 33 = .ok (.iload_n 3, 1) := by decide +kernel
theorem dX2_put_34 : decode cX2_put 34 = .ok (.invokevirtual 97, 3) := by decide +kernel
theorem dX2_put_37 : decode cX2_put 37 = .ok (.iconst 0, 1) := by decide +kernel
theorem dX2_put_38 : decode cX2_put 38 = .ok (.ireturn, 1) := by decide +kernel
theorem dX2_put_39 : decode cX2_put 39 = .ok (.aload_n 0, 1) := by decide +kernel
theorem dX2_put_40 : decode cX2_put 40 = .ok (.getfield 21, 3) := by decide +kernel
theorem dX2_put_43 : decode cX2_put 43 = .ok (.invokevirtual 101, 3) := by decide +kernel
theorem dX2_put_46 : decode cX2_put 46 = .ok (.ifCond .eq 16, 3) := by decide +kernel
theorem dX2_put_49 : decode cX2_put 49 = .ok (.aload_n 0, 1) := by decide +kernel
theorem dX2_put_50 : decode cX2_put 50 = .ok (.invokevirtual 43, 3) := by decide +kernel
theorem dX2_put_53 : decode cX2_put 53 = .ok (.ifCond .ne 9, 3) := by decide +kernel
theorem dX2_put_56 : decode cX2_put 56 = .ok (.aload_n 0, 1) := by decide +kernel
theorem dX2_put_57 : decode cX2_put 57 = .ok (.invokevirtual 47, 3) := by decide +kernel
theorem dX2_put_60 : decode cX2_put 60 = .ok (.iconst 1, 1) := by decide +kernel
theorem dX2_put_61 : decode cX2_put 61 = .ok (.ireturn, 1) := by decide +kernel
theorem dX2_put_62 : decode cX2_put 62 = .ok (.aload_n 0, 1) := by decide +kernel
theorem dX2_put_63 : decode cX2_put 63 = .ok (.getfield 21, 3) := by decide +kernel
theorem dX2_put_66 : decode cX2_put 66 = .ok (.iload_n 1, 1) := by decide +kernel
theorem dX2_put_67 : decode cX2_put 67 = .ok (.iload_n 2, 1) := by decide +kernel
theorem dX2_put_68 : decode cX2_put 68 = .ok (.iload_n 3, 1) := by decide +kernel
theorem dX2_put_69 : decode cX2_put 69 = .ok (.invokevirtual 104, 3) := by decide +kernel
theorem dX2_put_72 : decode cX2_put 72 = .ok (.iconst 0, 1) := by decide +kernel
theorem dX2_put_73 : decode cX2_put 73 = .ok (.ireturn, 1) := by decide +kernel
set_option maxRecDepth 20000 in
theorem ggX2_storeFirst_X2_makeRoom : GoodIn wsX2_storeFirst wsX2_makeRoom := goodIn_r _ [8, 1, 2, 9, 10, 11, 12, 13, 14, 15, 16, 17, 18, 19, 20, 21, 22, 23, 24, 25, 26, 27, 28, 29, 30, 31, 32, 33, 34, 35, 36, 37, 38, 39, 40, 41, 42, 43, 44, 45, 46, 47, 48, 49, 50, 51, 52, 53, 54, 7, 55, 56, 57, 58, 59, 60, 61, 62, 63, 64, 65, 66, 67, 68, 69, 70, 71, 72, 73, 74, 84, 85, 86, 87, 92, 93, 94, 95, 96, 97, 98, 99, 100, 101, 102] (by decide +kernel) (by decide +kernel)
set_option maxRecDepth 20000 in
theorem gX2_storeFirst_X2_makeRoom : GoodIn wsX2_storeFirst (wsV RX2 107 RX2 yX2_makeRoom wsX2_makeRoom) := goodIn_app (goodIn_of _ (by decide +kernel)) ggX2_storeFirst_X2_makeRoom
set_option maxRecDepth 20000 in
theorem ggX2_storeFirst_X1_program : GoodIn wsX2_storeFirst wsX1_program := goodIn_r _ [60, 16, 51, 61, 49, 62, 63, 50, 64, 11, 12, 13, 14, 15, 65, 66, 67, 68, 69, 70, 92, 93, 94, 95, 96, 97, 98, 99, 100, 101, 102] (by decide +kernel) (by decide +kernel)
set_option maxRecDepth 20000 in
theorem gX2_storeFirst_X1_program : GoodIn wsX2_storeFirst (wsV RX2 113 RX1 yX1_program wsX1_program) := goodIn_app (goodIn_of _ (by decide +kernel)) ggX2_storeFirst_X1_program
set_option maxRecDepth 20000 in
theorem ggX2_storeFirst_X0_dropFirst : GoodIn wsX2_storeFirst wsX0_dropFirst := goodIn_r _ [79, 80, 81, 82, 83, 88, 89, 90, 91] (by decide +kernel) (by decide +kernel)
set_option maxRecDepth 20000 in
theorem gX2_storeFirst_X0_dropFirst : GoodIn wsX2_storeFirst (wsV RX2 117 RX0 yX0_dropFirst wsX0_dropFirst) := goodIn_app (goodIn_of _ (by decide +kernel)) ggX2_storeFirst_X0_dropFirst
theorem dX2_storeFirst_0 : decode cX2_storeFirst 0 = .ok (.aload_n 0, 1) := by decide +kernel
theorem dX2_storeFirst_1 : decode cX2_storeFirst 1 = .ok (.invokevirtual 107, 3) := by decide +kernel
theorem dX2_storeFirst_4 : decode cX2_storeFirst 4 = .ok (.ifCond .ne 5, 3) := by decide +kernel
theorem dX2_storeFirst_7 : decode cX2_storeFirst 7 = .ok (.iconst 0, 1) := by decide +kernel
theorem dX2_storeFirst_8 : decode cX2_storeFirst 8 = .ok (.ireturn, 1) := by decide +kernel
theorem dX2_storeFirst_9 : decode cX2_storeFirst 9 = .ok (.aload_n 0, 1) := by decide +kernel
theorem dX2_storeFirst_10 : decode cX2_storeFirst 10 = .ok (.getfield 14, 3) := by decide +kernel
theorem dX2_storeFirst_13 : decode cX2_storeFirst 13 = .ok (.aload_n 0, 1) := by decide +kernel
theorem dX2_storeFirst_14 : decode cX2_storeFirst 14 = .ok (.getfield 29, 3) := by decide +kernel
theorem dX2_storeFirst_17 : decode cX2_storeFirst 17 = .ok (.aload_n 0, 1) := by decide +kernel
theorem dX2_storeFirst_18 : decode cX2_storeFirst 18 = .ok (.getfield 21, 3) := by decide +kernel
theorem dX2_storeFirst_21 : decode cX2_storeFirst 21 = .ok (.getfield 110, 3) := by decide +kernel
theorem dX2_storeFirst_24 : decode cX2_storeFirst 24 = .ok (.iconst 0, 1) := by decide +kernel
theorem dX2_storeFirst_25 : decode cX2_storeFirst 25 = .ok (.iaload, 1) := by decide +kernel
theorem dX2_storeFirst_26 : decode cX2_storeFirst 26 = .ok (.aload_n 0, 1) := by decide +kernel
theorem dX2_storeFirst_27 : decode cX2_storeFirst 27 = .ok (.getfield 21, 3) := by decide +kernel
theorem dX2_storeFirst_30 : decode cX2_storeFirst 30 = .ok (.getfield 57, 3) := by decide +kernel
theorem dX2_storeFirst_33 : decode cX2_storeFirst 33 = .ok (.iconst 0, 1) := by decide +kernel
theorem dX2_storeFirst_34 : decode cX2_storeFirst 34 = .ok (.iaload, 1) := by decide +kernel
theorem dX2_storeFirst_35 : decode cX2_storeFirst 35 = .ok (.aload_n 0, 1) := by decide +kernel
theorem dX2_storeFirst_36 : decode cX2_storeFirst 36 = .ok (.getfield 21, 3) := by decide +kernel
theorem dX2_storeFirst_39 : decode cX2_storeFirst 39 = .ok (.getfield 64, 3) := by decide +kernel
theorem dX2_storeFirst_42 : decode cX2_storeFirst 42 = .ok (.iconst 0, 1) := by decide +kernel
theorem dX2_storeFirst_43 : decode cX2_storeFirst 43 = .ok (.iaload, 1) := by decide +kernel
theorem dX2_storeFirst_44 : decode cX2_storeFirst 44 = .ok (.invokevirtual 113, 3) := by decide +kernel
theorem dX2_storeFirst_47 : decode cX2_storeFirst 47 = .ok (.ifCond .ne 5, 3) := by decide +kernel
theorem dX2_storeFirst_50 : decode cX2_storeFirst 50 = .ok (.iconst 0, 1) := by decide +kernel
theorem dX2_storeFirst_51 : decode cX2_storeFirst 51 = .ok (.ireturn, 1) := by decide +kernel
theorem dX2_storeFirst_52 : decode cX2_storeFirst 52 = .ok (.aload_n 0, 1) := by decide +kernel
theorem dX2_storeFirst_53 : decode cX2_storeFirst 53 = .ok (.getfield 21, 3) := by decide +kernel
theorem dX2_storeFirst_56 : decode cX2_storeFirst 56 = .ok (.invokevirtual 117, 3) := by decide +kernel
theorem dX2_storeFirst_59 : decode cX2_storeFirst 59 = .ok (.iconst 1, 1) := by decide +kernel
theorem dX2_storeFirst_60 : decode cX2_storeFirst 60 = .ok (.ireturn, 1) := by decide +kernel
set_option maxRecDepth 20000 in
theorem ggX2_makeRoom_X1_hasRoom : GoodIn wsX2_makeRoom wsX1_hasRoom := goodIn_r _ [8, 9, 10, 74, 75, 76, 77, 78, 79, 80, 81, 82, 83, 84] (by decide +kernel) (by decide +kernel)
set_option maxRecDepth 20000 in
theorem gX2_makeRoom_X1_hasRoom : GoodIn wsX2_makeRoom (wsV RX2 120 RX1 yX1_hasRoom wsX1_hasRoom) := goodIn_app (goodIn_of _ (by decide +kernel)) ggX2_makeRoom_X1_hasRoom
set_option maxRecDepth 20000 in
theorem ggX2_makeRoom_X1_countFree : GoodIn wsX2_makeRoom wsX1_countFree := goodIn_r _ [14, 9, 10, 74, 75, 76, 77, 78, 79, 80, 81, 82, 83, 84] (by decide +kernel) (by decide +kernel)
set_option maxRecDepth 20000 in
theorem gX2_makeRoom_X1_countFree : GoodIn wsX2_makeRoom (wsV RX2 90 RX1 yX1_countFree wsX1_countFree) := goodIn_app (goodIn_of _ (by decide +kernel)) ggX2_makeRoom_X1_countFree
set_option maxRecDepth 20000 in
theorem ggX2_makeRoom_X1_leastWornFree : GoodIn wsX2_makeRoom wsX1_leastWornFree := goodIn_r _ [18, 9, 10, 19, 74, 75, 76, 77, 78, 79, 80, 81, 82, 83, 84] (by decide +kernel) (by decide +kernel)
set_option maxRecDepth 20000 in
theorem gX2_makeRoom_X1_leastWornFree : GoodIn wsX2_makeRoom (wsV RX2 123 RX1 yX1_leastWornFree wsX1_leastWornFree) := goodIn_app (goodIn_of _ (by decide +kernel)) ggX2_makeRoom_X1_leastWornFree
set_option maxRecDepth 20000 in
theorem ggX2_makeRoom_X1_wearGap : GoodIn wsX2_makeRoom wsX1_wearGap := goodIn_r _ [23, 19, 9, 24, 25, 26, 27, 28, 29, 30, 74, 75, 76, 77, 78, 79, 80, 81, 82, 83, 84] (by decide +kernel) (by decide +kernel)
set_option maxRecDepth 20000 in
theorem gX2_makeRoom_X1_wearGap : GoodIn wsX2_makeRoom (wsV RX2 126 RX1 yX1_wearGap wsX1_wearGap) := goodIn_app (goodIn_of _ (by decide +kernel)) ggX2_makeRoom_X1_wearGap
set_option maxRecDepth 20000 in
theorem ggX2_makeRoom_X1_victim : GoodIn wsX2_makeRoom wsX1_victim := goodIn_r _ [34, 9, 10, 19, 35, 36, 37, 7, 38, 39, 40, 41, 42, 43, 44, 45, 74, 75, 76, 77, 78, 79, 80, 81, 82, 83, 84] (by decide +kernel) (by decide +kernel)
set_option maxRecDepth 20000 in
theorem gX2_makeRoom_X1_victim : GoodIn wsX2_makeRoom (wsV RX2 129 RX1 yX1_victim wsX1_victim) := goodIn_app (goodIn_of _ (by decide +kernel)) ggX2_makeRoom_X1_victim
set_option maxRecDepth 20000 in
theorem ggX2_makeRoom_X2_collect : GoodIn wsX2_makeRoom wsX2_collect := goodIn_r _ [50, 1, 2, 51, 40, 41, 7, 42, 43, 44, 45, 52, 53, 54, 55, 10, 56, 57, 58, 59, 5, 6, 8, 9, 60, 61, 62, 63, 64, 65, 66, 67, 68, 69, 19, 70, 71, 72, 73, 74, 75, 76, 77, 78, 79, 80, 81, 82, 83, 84] (by decide +kernel) (by decide +kernel)
set_option maxRecDepth 20000 in
theorem gX2_makeRoom_X2_collect : GoodIn wsX2_makeRoom (wsV RX2 133 RX2 yX2_collect wsX2_collect) := goodIn_app (goodIn_of _ (by decide +kernel)) ggX2_makeRoom_X2_collect
theorem dX2_makeRoom_0 : decode cX2_makeRoom 0 = .ok (.iconst 0, 1) := by decide +kernel
theorem dX2_makeRoom_1 : decode cX2_makeRoom 1 = .ok (.istore_n 1, 1) := by decide +kernel
theorem dX2_makeRoom_2 : decode cX2_makeRoom 2 = .ok (.iconst 0, 1) := by decide +kernel
theorem dX2_makeRoom_3 : decode cX2_makeRoom 3 = .ok (.istore_n 2, 1) := by decide +kernel
theorem dX2_makeRoom_4 : decode cX2_makeRoom 4 = .ok (.iload_n 2, 1) := by decide +kernel
theorem dX2_makeRoom_5 : decode cX2_makeRoom 5 = .ok (.bipush 100, 2) := by decide +kernel
theorem dX2_makeRoom_7 : decode cX2_makeRoom 7 = .ok (.if_icmp .ge 113, 3) := by decide +kernel
theorem dX2_makeRoom_10 : decode cX2_makeRoom 10 = .ok (.aload_n 0, 1) := by decide +kernel
theorem dX2_makeRoom_11 : decode cX2_makeRoom 11 = .ok (.getfield 14, 3) := by decide +kernel
theorem dX2_makeRoom_14 : decode cX2_makeRoom 14 = .ok (.aload_n 0, 1) := by decide +kernel
theorem dX2_makeRoom_15 : decode cX2_makeRoom 15 = .ok (.getfield 29, 3) := by decide +kernel
theorem dX2_makeRoom_18 : decode cX2_makeRoom 18 = .ok (.invokevirtual 120, 3) := by decide +kernel
theorem dX2_makeRoom_21 : decode cX2_makeRoom 21 = .ok (.ifCond .ne 99, 3) := by decide +kernel
theorem dX2_makeRoom_24 : decode cX2_makeRoom 24 = .ok (.aload_n 0, 1) := by decide +kernel
theorem dX2_makeRoom_25 : decode cX2_makeRoom 25 = .ok (.getfield 14, 3) := by decide +kernel
theorem dX2_makeRoom_28 : decode cX2_makeRoom 28 = .ok (.invokevirtual 90, 3) := by decide +kernel
theorem dX2_makeRoom_31 : decode cX2_makeRoom 31 = .ok (.iconst 2, 1) := by decide +kernel
theorem dX2_makeRoom_32 : decode cX2_makeRoom 32 = .ok (.if_icmp .ge 7, 3) := by decide +kernel
theorem dX2_makeRoom_35 : decode cX2_makeRoom 35 = .ok (.iconst 1, 1) := by decide +kernel
theorem dX2_makeRoom_36 : decode cX2_makeRoom 36 = .ok (.goto 4, 3) := by decide +kernel
theorem dX2_makeRoom_39 : decode cX2_makeRoom 39 = .ok (.iconst 0, 1) := by decide +kernel
theorem dX2_makeRoom_40 : decode cX2_makeRoom 40 = .ok (.istore_n 3, 1) := by decide +kernel
theorem dX2_makeRoom_41 : decode cX2_makeRoom 41 = .ok (.aload_n 0, 1) := by decide +kernel
theorem dX2_makeRoom_42 : decode cX2_makeRoom 42 = .ok (.aload_n 0, 1) := by decide +kernel
theorem dX2_makeRoom_43 : decode cX2_makeRoom 43 = .ok (.getfield 14, 3) := by decide +kernel
theorem dX2_makeRoom_46 : decode cX2_makeRoom 46 = .ok (.invokevirtual 123, 3) := by decide +kernel
theorem dX2_makeRoom_49 : decode cX2_makeRoom 49 = .ok (.putfield 29, 3) := by decide +kernel
theorem dX2_makeRoom_52 : decode cX2_makeRoom 52 = .ok (.iload_n 3, 1) := by decide +kernel
theorem dX2_makeRoom_53 : decode cX2_makeRoom 53 = .ok (.ifCond .eq 61, 3) := by decide +kernel
theorem dX2_makeRoom_56 : decode cX2_makeRoom 56 = .ok (.iload_n 1, 1) := by decide +kernel
theorem dX2_makeRoom_57 : decode cX2_makeRoom 57 = .ok (.ifCond .ne 21, 3) := by decide +kernel
theorem dX2_makeRoom_60 : decode cX2_makeRoom 60 = .ok (.aload_n 0, 1) := by decide +kernel
theorem dX2_makeRoom_61 : decode cX2_makeRoom 61 = .ok (.getfield 14, 3) := by decide +kernel
theorem dX2_makeRoom_64 : decode cX2_makeRoom 64 = .ok (.invokevirtual 126, 3) := by decide +kernel
theorem dX2_makeRoom_67 : decode cX2_makeRoom 67 = .ok (.aload_n 0, 1) := by decide +kernel
theorem dX2_makeRoom_68 : decode cX2_makeRoom 68 = .ok (.getfield 25, 3) := by decide +kernel
theorem dX2_makeRoom_71 : decode cX2_makeRoom 71 = .ok (.if_icmp .le 7, 3) := by decide +kernel
theorem dX2_makeRoom_74 : decode cX2_makeRoom 74 = .ok (.iconst 1, 1) := by decide +kernel
theorem dX2_makeRoom_75 : decode cX2_makeRoom 75 = .ok (.goto 4, 3) := by decide +kernel
theorem dX2_makeRoom_78 : decode cX2_makeRoom 78 = .ok (.iconst 0, 1) := by decide +kernel
theorem dX2_makeRoom_79 : decode cX2_makeRoom 79 = .ok (.istore 4, 2) := by decide +kernel
theorem dX2_makeRoom_81 : decode cX2_makeRoom 81 = .ok (.iload_n 1, 1) := by decide +kernel
theorem dX2_makeRoom_82 : decode cX2_makeRoom 82 = .ok (.ifCond .ne 8, 3) := by decide +kernel
theorem dX2_makeRoom_85 : decode cX2_makeRoom 85 = .ok (.iload 4, 2) := by decide +kernel
theorem dX2_makeRoom_87 : decode cX2_makeRoom 87 = .ok (.ifCond .eq 7, 3) := by decide +kernel
theorem dX2_makeRoom_90 : decode cX2_makeRoom 90 = .ok (.iconst 1, 1) := by decide +kernel
theorem dX2_makeRoom_91 : decode cX2_makeRoom 91 = .ok (.goto 4, 3) := by decide +kernel
theorem dX2_makeRoom_94 : decode cX2_makeRoom 94 = .ok (.iconst 0, 1) := by decide +kernel
theorem dX2_makeRoom_95 : decode cX2_makeRoom 95 = .ok (.istore_n 1, 1) := by decide +kernel
theorem dX2_makeRoom_96 : decode cX2_makeRoom 96 = .ok (.aload_n 0, 1) := by decide +kernel
theorem dX2_makeRoom_97 : decode cX2_makeRoom 97 = .ok (.aload_n 0, 1) := by decide +kernel
theorem dX2_makeRoom_98 : decode cX2_makeRoom 98 = .ok (.getfield 14, 3) := by decide +kernel
theorem dX2_makeRoom_101 : decode cX2_makeRoom 101 = .ok (.iload 4, 2) := by decide +kernel
theorem dX2_makeRoom_103 : decode cX2_makeRoom 103 = .ok (.invokevirtual 129, 3) := by decide +kernel
theorem dX2_makeRoom_106 : decode cX2_makeRoom 106 = .ok (.invokevirtual 133, 3) := by decide +kernel
theorem dX2_makeRoom_109 : decode cX2_makeRoom 109 = .ok (.ifCond .ne 5, 3) := by decide +kernel
theorem dX2_makeRoom_112 : decode cX2_makeRoom 112 = .ok (.iconst 0, 1) := by decide +kernel
theorem dX2_makeRoom_113 : decode cX2_makeRoom 113 = .ok (.ireturn, 1) := by decide +kernel
theorem dX2_makeRoom_114 : decode cX2_makeRoom 114 = .ok (.iinc 2 1, 3) := by decide +kernel
theorem dX2_makeRoom_117 : decode cX2_makeRoom 117 = .ok (.goto (-113), 3) := by decide +kernel
theorem dX2_makeRoom_120 : decode cX2_makeRoom 120 = .ok (.iconst 1, 1) := by decide +kernel
theorem dX2_makeRoom_121 : decode cX2_makeRoom 121 = .ok (.ireturn, 1) := by decide +kernel
set_option maxRecDepth 20000 in
theorem ggX2_collect_X1_isValid : GoodIn wsX2_collect wsX1_isValid := goodIn_r _ [7, 8, 9, 10, 39, 40, 41, 42, 43, 44, 45, 46, 47, 48, 49] (by decide +kernel) (by decide +kernel)
set_option maxRecDepth 20000 in
theorem gX2_collect_X1_isValid : GoodIn wsX2_collect (wsV RX2 136 RX1 yX1_isValid wsX1_isValid) := goodIn_app (goodIn_of _ (by decide +kernel)) ggX2_collect_X1_isValid
set_option maxRecDepth 20000 in
theorem ggX2_collect_X1_program : GoodIn wsX2_collect wsX1_program := goodIn_r _ [14, 15, 10, 16, 8, 17, 18, 9, 19, 20, 21, 6, 22, 23, 24, 25, 26, 27, 28, 29, 39, 40, 41, 42, 43, 44, 45, 46, 47, 48, 49] (by decide +kernel) (by decide +kernel)
set_option maxRecDepth 20000 in
theorem gX2_collect_X1_program : GoodIn wsX2_collect (wsV RX2 113 RX1 yX1_program wsX1_program) := goodIn_app (goodIn_of _ (by decide +kernel)) ggX2_collect_X1_program
set_option maxRecDepth 20000 in
theorem ggX2_collect_X1_erase : GoodIn wsX2_collect wsX1_erase := goodIn_r _ [33, 8, 15, 34, 24, 25, 26, 6, 27, 28, 29, 39, 40, 41, 42, 43, 44, 45, 46, 47, 48, 49] (by decide +kernel) (by decide +kernel)
set_option maxRecDepth 20000 in
theorem gX2_collect_X1_erase : GoodIn wsX2_collect (wsV RX2 139 RX1 yX1_erase wsX1_erase) := goodIn_app (goodIn_of _ (by decide +kernel)) ggX2_collect_X1_erase
theorem dX2_collect_0 : decode cX2_collect 0 = .ok (.iload_n 1, 1) := by decide +kernel
theorem dX2_collect_1 : decode cX2_collect 1 = .ok (.iconst (-1), 1) := by decide +kernel
theorem dX2_collect_2 : decode cX2_collect 2 = .ok (.if_icmp .ne 5, 3) := by decide +kernel
theorem dX2_collect_5 : decode cX2_collect 5 = .ok (.iconst 0, 1) := by decide +kernel
theorem dX2_collect_6 : decode cX2_collect 6 = .ok (.ireturn, 1) := by decide +kernel
theorem dX2_collect_7 : decode cX2_collect 7 = .ok (.iload_n 1, 1) := by decide +kernel
theorem dX2_collect_8 : decode cX2_collect 8 = .ok (.iconst 4, 1) := by decide +kernel
theorem dX2_collect_9 : decode cX2_collect 9 = .ok (.imul, 1) := by decide +kernel
theorem dX2_collect_10 : decode cX2_collect 10 = .ok (.istore_n 2, 1) := by decide +kernel
theorem dX2_collect_11 : decode cX2_collect 11 = .ok (.iload_n 2, 1) := by decide +kernel
theorem dX2_collect_12 : decode cX2_collect 12 = .ok (.istore_n 3, 1) := by decide +kernel
theorem dX2_collect_13 : decode cX2_collect 13 = .ok (.iload_n 3, 1) := by decide +kernel
theorem dX2_collect_14 : decode cX2_collect 14 = .ok (.iload_n 2, 1) := by decide +kernel
theorem dX2_collect_15 : decode cX2_collect 15 = .ok (.iconst 4, 1) := by decide +kernel
theorem dX2_collect_16 : decode cX2_collect 16 = .ok (.iadd, 1) := by decide +kernel
theorem dX2_collect_17 : decode cX2_collect 17 = .ok (.if_icmp .ge 63, 3) := by decide +kernel
theorem dX2_collect_20 : decode cX2_collect 20 = .ok (.aload_n 0, 1) := by decide +kernel
theorem dX2_collect_21 : decode cX2_collect 21 = .ok (.getfield 14, 3) := by decide +kernel
theorem dX2_collect_24 : decode cX2_collect 24 = .ok (.iload_n 3, 1) := by decide +kernel
theorem dX2_collect_25 : decode cX2_collect 25 = .ok (.invokevirtual 136, 3) := by decide +kernel
theorem dX2_collect_28 : decode cX2_collect 28 = .ok (.ifCond .eq 46, 3) := by decide +kernel
theorem dX2_collect_31 : decode cX2_collect 31 = .ok (.aload_n 0, 1) := by decide +kernel
theorem dX2_collect_32 : decode cX2_collect 32 = .ok (.getfield 14, 3) := by decide +kernel
theorem dX2_collect_35 : decode cX2_collect 35 = .ok (.aload_n 0, 1) := by decide +kernel
theorem dX2_collect_36 : decode cX2_collect 36 = .ok (.getfield 29, 3) := by decide +kernel
theorem dX2_collect_39 : decode cX2_collect 39 = .ok (.aload_n 0, 1) := by decide +kernel
theorem dX2_collect_40 : decode cX2_collect 40 = .ok (.getfield 14, 3) := by decide +kernel
theorem dX2_collect_43 : decode cX2_collect 43 = .ok (.getfield 75, 3) := by decide +kernel
theorem dX2_collect_46 : decode cX2_collect 46 = .ok (.iload_n 3, 1) := by decide +kernel
theorem dX2_collect_47 : decode cX2_collect 47 = .ok (.iaload, 1) := by decide +kernel
theorem dX2_collect_48 : decode cX2_collect 48 = .ok (.aload_n 0, 1) := by decide +kernel
theorem dX2_collect_49 : decode cX2_collect 49 = .ok (.getfield 14, 3) := by decide +kernel
theorem dX2_collect_52 : decode cX2_collect 52 = .ok (.getfield 63, 3) := by decide +kernel
theorem dX2_collect_55 : decode cX2_collect 55 = .ok (.iload_n 3, 1) := by decide +kernel
theorem dX2_collect_56 : decode cX2_collect 56 = .ok (.iaload, 1) := by decide +kernel
theorem dX2_collect_57 : decode cX2_collect 57 = .ok (.aload_n 0, 1) := by decide +kernel
theorem dX2_collect_58 : decode cX2_collect 58 = .ok (.getfield 14, 3) := by decide +kernel
theorem dX2_collect_61 : decode cX2_collect 61 = .ok (.getfield 67, 3) := by decide +kernel
theorem dX2_collect_64 : decode cX2_collect 64 = .ok (.iload_n 3, 1) := by decide +kernel
theorem dX2_collect_65 : decode cX2_collect 65 = .ok (.iaload, 1) := by decide +kernel
theorem dX2_collect_66 : decode cX2_collect 66 = .ok (.invokevirtual 113, 3) := by decide +kernel
theorem dX2_collect_69 : decode cX2_collect 69 = .ok (.ifCond .ne 5, 3) := by decide +kernel
end
section
theorem dX2_collect_72 : decode cX2_collect 72 = .ok (.iconst 0, 1) := by decide +kernel
theorem dX2_collect_73 : decode cX2_collect 73 = .ok (.ireturn, 1) := by decide +kernel
theorem dX2_collect_74 : decode cX2_collect 74 = .ok (.iinc 3 1, 3) := by decide +kernel
theorem dX2_collect_77 : decode cX2_collect 77 = .ok (.goto (-64), 3) := by decide +kernel
theorem dX2_collect_80 : decode cX2_collect 80 = .ok (.aload_n 0, 1) := by decide +kernel
theorem dX2_collect_81 : decode cX2_collect 81 = .ok (.getfield 14, 3) := by decide +kernel
theorem dX2_collect_84 : decode cX2_collect 84 = .ok (.iload_n 1, 1) := by decide +kernel
theorem dX2_collect_85 : decode cX2_collect 85 = .ok (.invokevirtual 139, 3) := by decide +kernel
theorem dX2_collect_88 : decode cX2_collect 88 = .ok (.ireturn, 1) := by decide +kernel
set_option maxRecDepth 20000 in
theorem ggX2_losePower_X2_startAgain : GoodIn wsX2_losePower wsX2_startAgain := goodIn_r _ [5, 6, 7, 8, 9, 10, 11, 12, 13, 14, 15, 16, 17, 18, 19, 20, 21, 22, 23, 24, 25, 26, 27, 28, 29, 30, 31, 32, 33, 34, 35, 36, 37, 38, 39, 40, 41, 42, 43, 44, 45, 46, 47, 4, 48, 49, 50, 51, 52, 53, 54, 55, 56, 57, 58, 59, 60, 61, 62, 63, 64, 65, 66, 67, 68, 69, 70, 71, 72, 73, 74, 75, 76, 77, 78, 79, 80, 81, 82, 83, 84, 85, 86, 87, 88] (by decide +kernel) (by decide +kernel)
set_option maxRecDepth 20000 in
theorem gX2_losePower_X2_startAgain : GoodIn wsX2_losePower (wsV RX2 142 RX2 yX2_startAgain wsX2_startAgain) := goodIn_app (goodIn_of _ (by decide +kernel)) ggX2_losePower_X2_startAgain
theorem dX2_losePower_0 : decode cX2_losePower 0 = .ok (.aload_n 0, 1) := by decide +kernel
theorem dX2_losePower_1 : decode cX2_losePower 1 = .ok (.invokevirtual 142, 3) := by decide +kernel
theorem dX2_losePower_4 : decode cX2_losePower 4 = .ok (.ifCond .ne 8, 3) := by decide +kernel
theorem dX2_losePower_7 : decode cX2_losePower 7 = .ok (.aload_n 0, 1) := by decide +kernel
theorem dX2_losePower_8 : decode cX2_losePower 8 = .ok (.invokevirtual 142, 3) := by decide +kernel
theorem dX2_losePower_11 : decode cX2_losePower 11 = .ok (.pop, 1) := by decide +kernel
theorem dX2_losePower_12 : decode cX2_losePower 12 = .ok (.return_, 1) := by decide +kernel
set_option maxRecDepth 20000 in
theorem ggX2_startAgain_X1_partlyProgrammed : GoodIn wsX2_startAgain wsX1_partlyProgrammed := goodIn_r _ [8, 9, 10, 74, 75, 76, 77, 78, 79, 80, 81, 82, 83, 84] (by decide +kernel) (by decide +kernel)
set_option maxRecDepth 20000 in
theorem gX2_startAgain_X1_partlyProgrammed : GoodIn wsX2_startAgain (wsV RX2 145 RX1 yX1_partlyProgrammed wsX1_partlyProgrammed) := goodIn_app (goodIn_of _ (by decide +kernel)) ggX2_startAgain_X1_partlyProgrammed
set_option maxRecDepth 20000 in
theorem ggX2_startAgain_X1_greatestSerial : GoodIn wsX2_startAgain wsX1_greatestSerial := goodIn_r _ [14, 15, 16, 17, 18, 19, 20, 74, 75, 76, 77, 78, 79, 80, 81, 82, 83, 84] (by decide +kernel) (by decide +kernel)
set_option maxRecDepth 20000 in
theorem gX2_startAgain_X1_greatestSerial : GoodIn wsX2_startAgain (wsV RX2 148 RX1 yX1_greatestSerial wsX1_greatestSerial) := goodIn_app (goodIn_of _ (by decide +kernel)) ggX2_startAgain_X1_greatestSerial
set_option maxRecDepth 20000 in
theorem ggX2_startAgain_X1_countFree : GoodIn wsX2_startAgain wsX1_countFree := goodIn_r _ [24, 9, 10, 74, 75, 76, 77, 78, 79, 80, 81, 82, 83, 84] (by decide +kernel) (by decide +kernel)
set_option maxRecDepth 20000 in
theorem gX2_startAgain_X1_countFree : GoodIn wsX2_startAgain (wsV RX2 90 RX1 yX1_countFree wsX1_countFree) := goodIn_app (goodIn_of _ (by decide +kernel)) ggX2_startAgain_X1_countFree
set_option maxRecDepth 20000 in
theorem ggX2_startAgain_X1_victim : GoodIn wsX2_startAgain wsX1_victim := goodIn_r _ [28, 9, 10, 29, 30, 31, 32, 7, 33, 34, 35, 36, 37, 16, 38, 39, 74, 75, 76, 77, 78, 79, 80, 81, 82, 83, 84] (by decide +kernel) (by decide +kernel)
set_option maxRecDepth 20000 in
theorem gX2_startAgain_X1_victim : GoodIn wsX2_startAgain (wsV RX2 129 RX1 yX1_victim wsX1_victim) := goodIn_app (goodIn_of _ (by decide +kernel)) ggX2_startAgain_X1_victim
set_option maxRecDepth 20000 in
theorem ggX2_startAgain_X2_collect : GoodIn wsX2_startAgain wsX2_collect := goodIn_r _ [44, 2, 3, 45, 35, 36, 7, 37, 16, 38, 39, 46, 47, 48, 49, 10, 50, 15, 51, 52, 53, 54, 55, 9, 56, 57, 58, 59, 60, 61, 62, 63, 64, 65, 29, 66, 67, 68, 69, 74, 75, 76, 77, 78, 79, 80, 81, 82, 83, 84] (by decide +kernel) (by decide +kernel)
set_option maxRecDepth 20000 in
theorem gX2_startAgain_X2_collect : GoodIn wsX2_startAgain (wsV RX2 133 RX2 yX2_collect wsX2_collect) := goodIn_app (goodIn_of _ (by decide +kernel)) ggX2_startAgain_X2_collect
theorem dX2_startAgain_0 : decode cX2_startAgain 0 = .ok (.aload_n 0, 1) := by decide +kernel
theorem dX2_startAgain_1 : decode cX2_startAgain 1 = .ok (.getfield 21, 3) := by decide +kernel
theorem dX2_startAgain_4 : decode cX2_startAgain 4 = .ok (.iconst 0, 1) := by decide +kernel
theorem dX2_startAgain_5 : decode cX2_startAgain 5 = .ok (.putfield 40, 3) := by decide +kernel
theorem dX2_startAgain_8 : decode cX2_startAgain 8 = .ok (.aload_n 0, 1) := by decide +kernel
theorem dX2_startAgain_9 : decode cX2_startAgain 9 = .ok (.aload_n 0, 1) := by decide +kernel
theorem dX2_startAgain_10 : decode cX2_startAgain 10 = .ok (.getfield 14, 3) := by decide +kernel
theorem dX2_startAgain_13 : decode cX2_startAgain 13 = .ok (.invokevirtual 145, 3) := by decide +kernel
theorem dX2_startAgain_16 : decode cX2_startAgain 16 = .ok (.putfield 29, 3) := by decide +kernel
theorem dX2_startAgain_19 : decode cX2_startAgain 19 = .ok (.aload_n 0, 1) := by decide +kernel
theorem dX2_startAgain_20 : decode cX2_startAgain 20 = .ok (.getfield 14, 3) := by decide +kernel
theorem dX2_startAgain_23 : decode cX2_startAgain 23 = .ok (.aload_n 0, 1) := by decide +kernel
theorem dX2_startAgain_24 : decode cX2_startAgain 24 = .ok (.getfield 14, 3) := by decide +kernel
theorem dX2_startAgain_27 : decode cX2_startAgain 27 = .ok (.invokevirtual 148, 3) := by decide +kernel
theorem dX2_startAgain_30 : decode cX2_startAgain 30 = .ok (.iconst 1, 1) := by decide +kernel
theorem dX2_startAgain_31 : decode cX2_startAgain 31 = .ok (.iadd, 1) := by decide +kernel
theorem dX2_startAgain_32 : decode cX2_startAgain 32 = .ok (.putfield 151, 3) := by decide +kernel
theorem dX2_startAgain_35 : decode cX2_startAgain 35 = .ok (.aload_n 0, 1) := by decide +kernel
theorem dX2_startAgain_36 : decode cX2_startAgain 36 = .ok (.getfield 14, 3) := by decide +kernel
theorem dX2_startAgain_39 : decode cX2_startAgain 39 = .ok (.invokevirtual 90, 3) := by decide +kernel
theorem dX2_startAgain_42 : decode cX2_startAgain 42 = .ok (.ifCond .gt 18, 3) := by decide +kernel
theorem dX2_startAgain_45 : decode cX2_startAgain 45 = .ok (.aload_n 0, 1) := by decide +kernel
theorem dX2_startAgain_46 : decode cX2_startAgain 46 = .ok (.aload_n 0, 1) := by decide +kernel
theorem dX2_startAgain_47 : decode cX2_startAgain 47 = .ok (.getfield 14, 3) := by decide +kernel
theorem dX2_startAgain_50 : decode cX2_startAgain 50 = .ok (.iconst 0, 1) := by decide +kernel
theorem dX2_startAgain_51 : decode cX2_startAgain 51 = .ok (.invokevirtual 129, 3) := by decide +kernel
theorem dX2_startAgain_54 : decode cX2_startAgain 54 = .ok (.invokevirtual 133, 3) := by decide +kernel
theorem dX2_startAgain_57 : decode cX2_startAgain 57 = .ok (.ifCond .eq 7, 3) := by decide +kernel
theorem dX2_startAgain_60 : decode cX2_startAgain 60 = .ok (.iconst 1, 1) := by decide +kernel
theorem dX2_startAgain_61 : decode cX2_startAgain 61 = .ok (.goto 4, 3) := by decide +kernel
theorem dX2_startAgain_64 : decode cX2_startAgain 64 = .ok (.iconst 0, 1) := by decide +kernel
theorem dX2_startAgain_65 : decode cX2_startAgain 65 = .ok (.ireturn, 1) := by decide +kernel
theorem dX3_init_0 : decode cX3_init 0 = .ok (.aload_n 0, 1) := by decide +kernel
theorem dX3_init_1 : decode cX3_init 1 = .ok (.invokespecial 1, 3) := by decide +kernel
theorem dX3_init_4 : decode cX3_init 4 = .ok (.aload_n 0, 1) := by decide +kernel
theorem dX3_init_5 : decode cX3_init 5 = .ok (.bipush 48, 2) := by decide +kernel
theorem dX3_init_7 : decode cX3_init 7 = .ok (.newarray .int, 2) := by decide +kernel
theorem dX3_init_9 : decode cX3_init 9 = .ok (.putfield 7, 3) := by decide +kernel
theorem dX3_init_12 : decode cX3_init 12 = .ok (.aload_n 0, 1) := by decide +kernel
theorem dX3_init_13 : decode cX3_init 13 = .ok (.bipush 48, 2) := by decide +kernel
theorem dX3_init_15 : decode cX3_init 15 = .ok (.newarray .int, 2) := by decide +kernel
theorem dX3_init_17 : decode cX3_init 17 = .ok (.putfield 13, 3) := by decide +kernel
theorem dX3_init_20 : decode cX3_init 20 = .ok (.aload_n 0, 1) := by decide +kernel
theorem dX3_init_21 : decode cX3_init 21 = .ok (.bipush 48, 2) := by decide +kernel
theorem dX3_init_23 : decode cX3_init 23 = .ok (.newarray .int, 2) := by decide +kernel
theorem dX3_init_25 : decode cX3_init 25 = .ok (.putfield 16, 3) := by decide +kernel
theorem dX3_init_28 : decode cX3_init 28 = .ok (.aload_n 0, 1) := by decide +kernel
theorem dX3_init_29 : decode cX3_init 29 = .ok (.bipush 48, 2) := by decide +kernel
theorem dX3_init_31 : decode cX3_init 31 = .ok (.newarray .int, 2) := by decide +kernel
theorem dX3_init_33 : decode cX3_init 33 = .ok (.putfield 19, 3) := by decide +kernel
theorem dX3_init_36 : decode cX3_init 36 = .ok (.aload_n 0, 1) := by decide +kernel
theorem dX3_init_37 : decode cX3_init 37 = .ok (.bipush 12, 2) := by decide +kernel
theorem dX3_init_39 : decode cX3_init 39 = .ok (.newarray .int, 2) := by decide +kernel
theorem dX3_init_41 : decode cX3_init 41 = .ok (.putfield 22, 3) := by decide +kernel
theorem dX3_init_44 : decode cX3_init 44 = .ok (.aload_n 0, 1) := by decide +kernel
theorem dX3_init_45 : decode cX3_init 45 = .ok (.iconst (-1), 1) := by decide +kernel
theorem dX3_init_46 : decode cX3_init 46 = .ok (.putfield 25, 3) := by decide +kernel
theorem dX3_init_49 : decode cX3_init 49 = .ok (.aload_n 0, 1) := by decide +kernel
theorem dX3_init_50 : decode cX3_init 50 = .ok (.iconst 3, 1) := by decide +kernel
theorem dX3_init_51 : decode cX3_init 51 = .ok (.newarray .int, 2) := by decide +kernel
theorem dX3_init_53 : decode cX3_init 53 = .ok (.putfield 29, 3) := by decide +kernel
theorem dX3_init_56 : decode cX3_init 56 = .ok (.aload_n 0, 1) := by decide +kernel
theorem dX3_init_57 : decode cX3_init 57 = .ok (.iconst 3, 1) := by decide +kernel
theorem dX3_init_58 : decode cX3_init 58 = .ok (.newarray .int, 2) := by decide +kernel
theorem dX3_init_60 : decode cX3_init 60 = .ok (.putfield 32, 3) := by decide +kernel
theorem dX3_init_63 : decode cX3_init 63 = .ok (.aload_n 0, 1) := by decide +kernel
theorem dX3_init_64 : decode cX3_init 64 = .ok (.iconst 3, 1) := by decide +kernel
theorem dX3_init_65 : decode cX3_init 65 = .ok (.newarray .int, 2) := by decide +kernel
theorem dX3_init_67 : decode cX3_init 67 = .ok (.putfield 35, 3) := by decide +kernel
theorem dX3_init_70 : decode cX3_init 70 = .ok (.aload_n 0, 1) := by decide +kernel
theorem dX3_init_71 : decode cX3_init 71 = .ok (.iload_n 1, 1) := by decide +kernel
theorem dX3_init_72 : decode cX3_init 72 = .ok (.iconst 5, 1) := by decide +kernel
theorem dX3_init_73 : decode cX3_init 73 = .ok (.if_icmp .lt 9, 3) := by decide +kernel
theorem dX3_init_76 : decode cX3_init 76 = .ok (.iload_n 1, 1) := by decide +kernel
theorem dX3_init_77 : decode cX3_init 77 = .ok (.bipush 12, 2) := by decide +kernel
theorem dX3_init_79 : decode cX3_init 79 = .ok (.if_icmp .le 8, 3) := by decide +kernel
theorem dX3_init_82 : decode cX3_init 82 = .ok (.bipush 8, 2) := by decide +kernel
theorem dX3_init_84 : decode cX3_init 84 = .ok (.goto 4, 3) := by decide +kernel
theorem dX3_init_87 : decode cX3_init 87 = .ok (.iload_n 1, 1) := by decide +kernel
theorem dX3_init_88 : decode cX3_init 88 = .ok (.putfield 38, 3) := by decide +kernel
theorem dX3_init_91 : decode cX3_init 91 = .ok (.aload_n 0, 1) := by decide +kernel
theorem dX3_init_92 : decode cX3_init 92 = .ok (.iload_n 2, 1) := by decide +kernel
theorem dX3_init_93 : decode cX3_init 93 = .ok (.iconst 1, 1) := by decide +kernel
theorem dX3_init_94 : decode cX3_init 94 = .ok (.if_icmp .lt 9, 3) := by decide +kernel
theorem dX3_init_97 : decode cX3_init 97 = .ok (.iload_n 2, 1) := by decide +kernel
theorem dX3_init_98 : decode cX3_init 98 = .ok (.bipush 50, 2) := by decide +kernel
theorem dX3_init_100 : decode cX3_init 100 = .ok (.if_icmp .le 7, 3) := by decide +kernel
theorem dX3_init_103 : decode cX3_init 103 = .ok (.iconst 4, 1) := by decide +kernel
theorem dX3_init_104 : decode cX3_init 104 = .ok (.goto 4, 3) := by decide +kernel
theorem dX3_init_107 : decode cX3_init 107 = .ok (.iload_n 2, 1) := by decide +kernel
theorem dX3_init_108 : decode cX3_init 108 = .ok (.putfield 41, 3) := by decide +kernel
theorem dX3_init_111 : decode cX3_init 111 = .ok (.iconst 0, 1) := by decide +kernel
theorem dX3_init_112 : decode cX3_init 112 = .ok (.istore_n 3, 1) := by decide +kernel
theorem dX3_init_113 : decode cX3_init 113 = .ok (.iload_n 3, 1) := by decide +kernel
theorem dX3_init_114 : decode cX3_init 114 = .ok (.bipush 48, 2) := by decide +kernel
theorem dX3_init_116 : decode cX3_init 116 = .ok (.if_icmp .ge 16, 3) := by decide +kernel
theorem dX3_init_119 : decode cX3_init 119 = .ok (.aload_n 0, 1) := by decide +kernel
theorem dX3_init_120 : decode cX3_init 120 = .ok (.getfield 7, 3) := by decide +kernel
theorem dX3_init_123 : decode cX3_init 123 = .ok (.iload_n 3, 1) := by decide +kernel
theorem dX3_init_124 : decode cX3_init 124 = .ok (.iconst (-1), 1) := by decide +kernel
theorem dX3_init_125 : decode cX3_init 125 = .ok (.iastore, 1) := by decide +kernel
theorem dX3_init_126 : decode cX3_init 126 = .ok (.iinc 3 1, 3) := by decide +kernel
theorem dX3_init_129 : decode cX3_init 129 = .ok (.goto (-16), 3) := by decide +kernel
theorem dX3_init_132 : decode cX3_init 132 = .ok (.return_, 1) := by decide +kernel
theorem dX3_sectors_0 : decode cX3_sectors 0 = .ok (.iconst 4, 1) := by decide +kernel
theorem dX3_sectors_1 : decode cX3_sectors 1 = .ok (.aload_n 0, 1) := by decide +kernel
theorem dX3_sectors_2 : decode cX3_sectors 2 = .ok (.getfield 38, 3) := by decide +kernel
theorem dX3_sectors_5 : decode cX3_sectors 5 = .ok (.iconst 3, 1) := by decide +kernel
theorem dX3_sectors_6 : decode cX3_sectors 6 = .ok (.isub, 1) := by decide +kernel
theorem dX3_sectors_7 : decode cX3_sectors 7 = .ok (.imul, 1) := by decide +kernel
theorem dX3_sectors_8 : decode cX3_sectors 8 = .ok (.ireturn, 1) := by decide +kernel
set_option maxRecDepth 20000 in
theorem ggX3_isSector_X3_sectors : GoodIn wsX3_isSector wsX3_sectors := goodIn_r _ [5, 6, 7, 8, 9, 10, 11, 12, 13, 14, 15, 16, 17, 18, 19, 20, 21, 22] (by decide +kernel) (by decide +kernel)
set_option maxRecDepth 20000 in
theorem gX3_isSector_X3_sectors : GoodIn wsX3_isSector (wsV RX3 44 RX3 yX3_sectors wsX3_sectors) := goodIn_app (goodIn_of _ (by decide +kernel)) ggX3_isSector_X3_sectors
theorem dX3_isSector_0 : decode cX3_isSector 0 = .ok (.iload_n 1, 1) := by decide +kernel
theorem dX3_isSector_1 : decode cX3_isSector 1 = .ok (.ifCond .lt 15, 3) := by decide +kernel
theorem dX3_isSector_4 : decode cX3_isSector 4 = .ok (.iload_n 1, 1) := by decide +kernel
theorem dX3_isSector_5 : decode cX3_isSector 5 = .ok (.aload_n 0, 1) := by decide +kernel
theorem dX3_isSector_6 : decode cX3_isSector 6 = .ok (.invokevirtual 44, 3) := by decide +kernel
theorem dX3_isSector_9 : decode cX3_isSector 9 = .ok (.if_icmp .ge 7, 3) := by decide +kernel
theorem dX3_isSector_12 : decode cX3_isSector 12 = .ok (.iconst 1, 1) := by decide +kernel
theorem dX3_isSector_13 : decode cX3_isSector 13 = .ok (.goto 4, 3) := by decide +kernel
theorem dX3_isSector_16 : decode cX3_isSector 16 = .ok (.iconst 0, 1) := by decide +kernel
theorem dX3_isSector_17 : decode cX3_isSector 17 = .ok (.ireturn, 1) := by decide +kernel
theorem dX3_isBlock_0 : decode cX3_isBlock 0 = .ok (.iload_n 1, 1) := by decide +kernel
theorem dX3_isBlock_1 : decode cX3_isBlock 1 = .ok (.ifCond .lt 15, 3) := by decide +kernel
theorem dX3_isBlock_4 : decode cX3_isBlock 4 = .ok (.iload_n 1, 1) := by decide +kernel
theorem dX3_isBlock_5 : decode cX3_isBlock 5 = .ok (.aload_n 0, 1) := by decide +kernel
theorem dX3_isBlock_6 : decode cX3_isBlock 6 = .ok (.getfield 38, 3) := by decide +kernel
theorem dX3_isBlock_9 : decode cX3_isBlock 9 = .ok (.if_icmp .ge 7, 3) := by decide +kernel
theorem dX3_isBlock_12 : decode cX3_isBlock 12 = .ok (.iconst 1, 1) := by decide +kernel
theorem dX3_isBlock_13 : decode cX3_isBlock 13 = .ok (.goto 4, 3) := by decide +kernel
theorem dX3_isBlock_16 : decode cX3_isBlock 16 = .ok (.iconst 0, 1) := by decide +kernel
theorem dX3_isBlock_17 : decode cX3_isBlock 17 = .ok (.ireturn, 1) := by decide +kernel
theorem dX3_isPlace_0 : decode cX3_isPlace 0 = .ok (.iload_n 1, 1) := by decide +kernel
theorem dX3_isPlace_1 : decode cX3_isPlace 1 = .ok (.ifCond .lt 17, 3) := by decide +kernel
theorem dX3_isPlace_4 : decode cX3_isPlace 4 = .ok (.iload_n 1, 1) := by decide +kernel
theorem dX3_isPlace_5 : decode cX3_isPlace 5 = .ok (.iconst 4, 1) := by decide +kernel
theorem dX3_isPlace_6 : decode cX3_isPlace 6 = .ok (.aload_n 0, 1) := by decide +kernel
theorem dX3_isPlace_7 : decode cX3_isPlace 7 = .ok (.getfield 38, 3) := by decide +kernel
theorem dX3_isPlace_10 : decode cX3_isPlace 10 = .ok (.imul, 1) := by decide +kernel
theorem dX3_isPlace_11 : decode cX3_isPlace 11 = .ok (.if_icmp .ge 7, 3) := by decide +kernel
theorem dX3_isPlace_14 : decode cX3_isPlace 14 = .ok (.iconst 1, 1) := by decide +kernel
theorem dX3_isPlace_15 : decode cX3_isPlace 15 = .ok (.goto 4, 3) := by decide +kernel
theorem dX3_isPlace_18 : decode cX3_isPlace 18 = .ok (.iconst 0, 1) := by decide +kernel
theorem dX3_isPlace_19 : decode cX3_isPlace 19 = .ok (.ireturn, 1) := by decide +kernel
theorem dX3_programmed_0 : decode cX3_programmed 0 = .ok (.iconst 0, 1) := by decide +kernel
theorem dX3_programmed_1 : decode cX3_programmed 1 = .ok (.istore_n 2, 1) := by decide +kernel
theorem dX3_programmed_2 : decode cX3_programmed 2 = .ok (.iconst 0, 1) := by decide +kernel
theorem dX3_programmed_3 : decode cX3_programmed 3 = .ok (.istore_n 3, 1) := by decide +kernel
theorem dX3_programmed_4 : decode cX3_programmed 4 = .ok (.iload_n 3, 1) := by decide +kernel
theorem dX3_programmed_5 : decode cX3_programmed 5 = .ok (.iconst 4, 1) := by decide +kernel
theorem dX3_programmed_6 : decode cX3_programmed 6 = .ok (.if_icmp .ge 31, 3) := by decide +kernel
theorem dX3_programmed_9 : decode cX3_programmed 9 = .ok (.iload_n 2, 1) := by decide +kernel
theorem dX3_programmed_10 : decode cX3_programmed 10 = .ok (.aload_n 0, 1) := by decide +kernel
theorem dX3_programmed_11 : decode cX3_programmed 11 = .ok (.getfield 7, 3) := by decide +kernel
theorem dX3_programmed_14 : decode cX3_programmed 14 = .ok (.iconst 4, 1) := by decide +kernel
theorem dX3_programmed_15 : decode cX3_programmed 15 = .ok (.iload_n 1, 1) := by decide +kernel
theorem dX3_programmed_16 : decode cX3_programmed 16 = .ok (.imul, 1) := by decide +kernel
theorem dX3_programmed_17 : decode cX3_programmed 17 = .ok (.iload_n 3, 1) := by decide +kernel
theorem dX3_programmed_18 : decode cX3_programmed 18 = .ok (.iadd, 1) := by decide +kernel
theorem dX3_programmed_19 : decode cX3_programmed 19 = .ok (.iaload, 1) := by decide +kernel
theorem dX3_programmed_20 : decode cX3_programmed 20 = .ok (.iconst (-1), 1) := by decide +kernel
theorem dX3_programmed_21 : decode cX3_programmed 21 = .ok (.if_icmp .ne 7, 3) := by decide +kernel
theorem dX3_programmed_24 : decode cX3_programmed 24 = .ok (.iconst 0, 1) := by decide +kernel
theorem dX3_programmed_25 : decode cX3_programmed 25 = .ok (.goto 4, 3) := by decide +kernel
theorem dX3_programmed_28 : decode cX3_programmed 28 = .ok (.iconst 1, 1) := by decide +kernel
theorem dX3_programmed_29 : decode cX3_programmed 29 = .ok (.iadd, 1) := by decide +kernel
theorem dX3_programmed_30 : decode cX3_programmed 30 = .ok (.istore_n 2, 1) := by decide +kernel
theorem dX3_programmed_31 : decode cX3_programmed 31 = .ok (.iinc 3 1, 3) := by decide +kernel
theorem dX3_programmed_34 : decode cX3_programmed 34 = .ok (.goto (-30), 3) := by decide +kernel
theorem dX3_programmed_37 : decode cX3_programmed 37 = .ok (.iload_n 2, 1) := by decide +kernel
theorem dX3_programmed_38 : decode cX3_programmed 38 = .ok (.ireturn, 1) := by decide +kernel
theorem dX3_newest_0 : decode cX3_newest 0 = .ok (.iconst (-1), 1) := by decide +kernel
theorem dX3_newest_1 : decode cX3_newest 1 = .ok (.istore_n 2, 1) := by decide +kernel
theorem dX3_newest_2 : decode cX3_newest 2 = .ok (.iconst 0, 1) := by decide +kernel
theorem dX3_newest_3 : decode cX3_newest 3 = .ok (.istore_n 3, 1) := by decide +kernel
theorem dX3_newest_4 : decode cX3_newest 4 = .ok (.iload_n 3, 1) := by decide +kernel
theorem dX3_newest_5 : decode cX3_newest 5 = .ok (.iconst 4, 1) := by decide +kernel
theorem dX3_newest_6 : decode cX3_newest 6 = .ok (.aload_n 0, 1) := by decide +kernel
theorem dX3_newest_7 : decode cX3_newest 7 = .ok (.getfield 38, 3) := by decide +kernel
theorem dX3_newest_10 : decode cX3_newest 10 = .ok (.imul, 1) := by decide +kernel
theorem dX3_newest_11 : decode cX3_newest 11 = .ok (.if_icmp .ge 41, 3) := by decide +kernel
theorem dX3_newest_14 : decode cX3_newest 14 = .ok (.aload_n 0, 1) := by decide +kernel
theorem dX3_newest_15 : decode cX3_newest 15 = .ok (.getfield 7, 3) := by decide +kernel
theorem dX3_newest_18 : decode cX3_newest 18 = .ok (.iload_n 3, 1) := by decide +kernel
theorem dX3_newest_19 : decode cX3_newest 19 = .ok (.iaload, 1) := by decide +kernel
theorem dX3_newest_20 : decode cX3_newest 20 = .ok (.iload_n 1, 1) := by decide +kernel
theorem dX3_newest_21 : decode cX3_newest 21 = .ok (.if_icmp .ne 25, 3) := by decide +kernel
theorem dX3_newest_24 : decode cX3_newest 24 = .ok (.iload_n 2, 1) := by decide +kernel
theorem dX3_newest_25 : decode cX3_newest 25 = .ok (.iconst (-1), 1) := by decide +kernel
theorem dX3_newest_26 : decode cX3_newest 26 = .ok (.if_icmp .eq 18, 3) := by decide +kernel
theorem dX3_newest_29 : decode cX3_newest 29 = .ok (.aload_n 0, 1) := by decide +kernel
theorem dX3_newest_30 : decode cX3_newest 30 = .ok (.getfield 16, 3) := by decide +kernel
theorem dX3_newest_33 : decode cX3_newest 33 = .ok (.iload_n 3, 1) := by decide +kernel
theorem dX3_newest_34 : decode cX3_newest 34 = .ok (.iaload, 1) := by decide +kernel
theorem dX3_newest_35 : decode cX3_newest 35 = .ok (.aload_n 0, 1) := by decide +kernel
theorem dX3_newest_36 : decode cX3_newest 36 = .ok (.getfield 16, 3) := by decide +kernel
theorem dX3_newest_39 : decode cX3_newest 39 = .ok (.iload_n 2, 1) := by decide +kernel
theorem dX3_newest_40 : decode cX3_newest 40 = .ok (.iaload, 1) := by decide +kernel
theorem dX3_newest_41 : decode cX3_newest 41 = .ok (.if_icmp .le 5, 3) := by decide +kernel
theorem dX3_newest_44 : decode cX3_newest 44 = .ok (.iload_n 3, 1) := by decide +kernel
theorem dX3_newest_45 : decode cX3_newest 45 = .ok (.istore_n 2, 1) := by decide +kernel
theorem dX3_newest_46 : decode cX3_newest 46 = .ok (.iinc 3 1, 3) := by decide +kernel
theorem dX3_newest_49 : decode cX3_newest 49 = .ok (.goto (-45), 3) := by decide +kernel
theorem dX3_newest_52 : decode cX3_newest 52 = .ok (.iload_n 2, 1) := by decide +kernel
theorem dX3_newest_53 : decode cX3_newest 53 = .ok (.ireturn, 1) := by decide +kernel
set_option maxRecDepth 20000 in
theorem ggX3_isValid_X3_newest : GoodIn wsX3_isValid wsX3_newest := goodIn_r _ [6, 7, 1, 8, 9, 10, 11, 12, 13, 14, 15, 16, 17, 18, 19, 20, 21, 22, 23, 24] (by decide +kernel) (by decide +kernel)
set_option maxRecDepth 20000 in
theorem gX3_isValid_X3_newest : GoodIn wsX3_isValid (wsV RX3 48 RX3 yX3_newest wsX3_newest) := goodIn_app (goodIn_of _ (by decide +kernel)) ggX3_isValid_X3_newest
theorem dX3_isValid_0 : decode cX3_isValid 0 = .ok (.aload_n 0, 1) := by decide +kernel
theorem dX3_isValid_1 : decode cX3_isValid 1 = .ok (.getfield 7, 3) := by decide +kernel
theorem dX3_isValid_4 : decode cX3_isValid 4 = .ok (.iload_n 1, 1) := by decide +kernel
theorem dX3_isValid_5 : decode cX3_isValid 5 = .ok (.iaload, 1) := by decide +kernel
theorem dX3_isValid_6 : decode cX3_isValid 6 = .ok (.iconst (-1), 1) := by decide +kernel
theorem dX3_isValid_7 : decode cX3_isValid 7 = .ok (.if_icmp .eq 21, 3) := by decide +kernel
theorem dX3_isValid_10 : decode cX3_isValid 10 = .ok (.aload_n 0, 1) := by decide +kernel
theorem dX3_isValid_11 : decode cX3_isValid 11 = .ok (.aload_n 0, 1) := by decide +kernel
theorem dX3_isValid_12 : decode cX3_isValid 12 = .ok (.getfield 7, 3) := by decide +kernel
theorem dX3_isValid_15 : decode cX3_isValid 15 = .ok (.iload_n 1, 1) := by decide +kernel
theorem dX3_isValid_16 : decode cX3_isValid 16 = .ok (.iaload, 1) := by decide +kernel
theorem dX3_isValid_17 : decode cX3_isValid 17 = .ok (.invokevirtual 48, 3) := by decide +kernel
theorem dX3_isValid_20 : decode cX3_isValid 20 = .ok (.iload_n 1, 1) := by decide +kernel
theorem dX3_isValid_21 : decode cX3_isValid 21 = .ok (.if_icmp .ne 7, 3) := by decide +kernel
theorem dX3_isValid_24 : decode cX3_isValid 24 = .ok (.iconst 1, 1) := by decide +kernel
theorem dX3_isValid_25 : decode cX3_isValid 25 = .ok (.goto 4, 3) := by decide +kernel
theorem dX3_isValid_28 : decode cX3_isValid 28 = .ok (.iconst 0, 1) := by decide +kernel
theorem dX3_isValid_29 : decode cX3_isValid 29 = .ok (.ireturn, 1) := by decide +kernel
set_option maxRecDepth 20000 in
theorem ggX3_validIn_X3_isValid : GoodIn wsX3_validIn wsX3_isValid := goodIn_r _ [5, 6, 7, 8, 9, 4, 10, 11, 12, 13, 14, 15, 16, 17, 18, 19, 20, 21, 22, 23, 24, 25, 26, 27, 28] (by decide +kernel) (by decide +kernel)
set_option maxRecDepth 20000 in
theorem gX3_validIn_X3_isValid : GoodIn wsX3_validIn (wsV RX3 52 RX3 yX3_isValid wsX3_isValid) := goodIn_app (goodIn_of _ (by decide +kernel)) ggX3_validIn_X3_isValid
theorem dX3_validIn_0 : decode cX3_validIn 0 = .ok (.iconst 0, 1) := by decide +kernel
theorem dX3_validIn_1 : decode cX3_validIn 1 = .ok (.istore_n 2, 1) := by decide +kernel
theorem dX3_validIn_2 : decode cX3_validIn 2 = .ok (.iconst 0, 1) := by decide +kernel
theorem dX3_validIn_3 : decode cX3_validIn 3 = .ok (.istore_n 3, 1) := by decide +kernel
theorem dX3_validIn_4 : decode cX3_validIn 4 = .ok (.iload_n 3, 1) := by decide +kernel
theorem dX3_validIn_5 : decode cX3_validIn 5 = .ok (.iconst 4, 1) := by decide +kernel
theorem dX3_validIn_6 : decode cX3_validIn 6 = .ok (.if_icmp .ge 29, 3) := by decide +kernel
theorem dX3_validIn_9 : decode cX3_validIn 9 = .ok (.iload_n 2, 1) := by decide +kernel
theorem dX3_validIn_10 : decode cX3_validIn 10 = .ok (.aload_n 0, 1) := by decide +kernel
theorem dX3_validIn_11 : decode cX3_validIn 11 = .ok (.iconst 4, 1) := by decide +kernel
theorem dX3_validIn_12 : decode cX3_validIn 12 = .ok (.iload_n 1, 1) := by decide +kernel
theorem dX3_validIn_13 : decode cX3_validIn 13 = .ok (.imul, 1) := by decide +kernel
theorem dX3_validIn_14 : decode cX3_validIn 14 = .ok (.iload_n 3, 1) := by decide +kernel
theorem dX3_validIn_15 : decode cX3_validIn 15 = .ok (.iadd, 1) := by decide +kernel
theorem dX3_validIn_16 : decode cX3_validIn 16 = .ok (.invokevirtual 52, 3) := by decide +kernel
theorem dX3_validIn_19 : decode cX3_validIn 19 = .ok (.ifCond .eq 7, 3) := by decide +kernel
theorem dX3_validIn_22 : decode cX3_validIn 22 = .ok (.iconst 1, 1) := by decide +kernel
theorem dX3_validIn_23 : decode cX3_validIn 23 = .ok (.goto 4, 3) := by decide +kernel
theorem dX3_validIn_26 : decode cX3_validIn 26 = .ok (.iconst 0, 1) := by decide +kernel
theorem dX3_validIn_27 : decode cX3_validIn 27 = .ok (.iadd, 1) := by decide +kernel
theorem dX3_validIn_28 : decode cX3_validIn 28 = .ok (.istore_n 2, 1) := by decide +kernel
theorem dX3_validIn_29 : decode cX3_validIn 29 = .ok (.iinc 3 1, 3) := by decide +kernel
theorem dX3_validIn_32 : decode cX3_validIn 32 = .ok (.goto (-28), 3) := by decide +kernel
theorem dX3_validIn_35 : decode cX3_validIn 35 = .ok (.iload_n 2, 1) := by decide +kernel
theorem dX3_validIn_36 : decode cX3_validIn 36 = .ok (.ireturn, 1) := by decide +kernel
set_option maxRecDepth 20000 in
theorem ggX3_freeBlocks_X3_programmed : GoodIn wsX3_freeBlocks wsX3_programmed := goodIn_r _ [6, 7, 8, 9, 10, 11, 12, 13, 14, 15, 16, 17, 18, 19, 20, 21, 22, 23] (by decide +kernel) (by decide +kernel)
set_option maxRecDepth 20000 in
theorem gX3_freeBlocks_X3_programmed : GoodIn wsX3_freeBlocks (wsV RX3 56 RX3 yX3_programmed wsX3_programmed) := goodIn_app (goodIn_of _ (by decide +kernel)) ggX3_freeBlocks_X3_programmed
theorem dX3_freeBlocks_0 : decode cX3_freeBlocks 0 = .ok (.iconst 0, 1) := by decide +kernel
theorem dX3_freeBlocks_1 : decode cX3_freeBlocks 1 = .ok (.istore_n 1, 1) := by decide +kernel
theorem dX3_freeBlocks_2 : decode cX3_freeBlocks 2 = .ok (.iconst 0, 1) := by decide +kernel
theorem dX3_freeBlocks_3 : decode cX3_freeBlocks 3 = .ok (.istore_n 2, 1) := by decide +kernel
theorem dX3_freeBlocks_4 : decode cX3_freeBlocks 4 = .ok (.iload_n 2, 1) := by decide +kernel
theorem dX3_freeBlocks_5 : decode cX3_freeBlocks 5 = .ok (.aload_n 0, 1) := by decide +kernel
theorem dX3_freeBlocks_6 : decode cX3_freeBlocks 6 = .ok (.getfield 38, 3) := by decide +kernel
theorem dX3_freeBlocks_9 : decode cX3_freeBlocks 9 = .ok (.if_icmp .ge 25, 3) := by decide +kernel
theorem dX3_freeBlocks_12 : decode cX3_freeBlocks 12 = .ok (.iload_n 1, 1) := by decide +kernel
theorem dX3_freeBlocks_13 : decode cX3_freeBlocks 13 = .ok (.aload_n 0, 1) := by decide +kernel
theorem dX3_freeBlocks_14 : decode cX3_freeBlocks 14 = .ok (.iload_n 2, 1) := by decide +kernel
theorem dX3_freeBlocks_15 : decode cX3_freeBlocks 15 = .ok (.invokevirtual 56, 3) := by decide +kernel
theorem dX3_freeBlocks_18 : decode cX3_freeBlocks 18 = .ok (.ifCond .ne 7, 3) := by decide +kernel
theorem dX3_freeBlocks_21 : decode cX3_freeBlocks 21 = .ok (.iconst 1, 1) := by decide +kernel
theorem dX3_freeBlocks_22 : decode cX3_freeBlocks 22 = .ok (.goto 4, 3) := by decide +kernel
theorem dX3_freeBlocks_25 : decode cX3_freeBlocks 25 = .ok (.iconst 0, 1) := by decide +kernel
theorem dX3_freeBlocks_26 : decode cX3_freeBlocks 26 = .ok (.iadd, 1) := by decide +kernel
theorem dX3_freeBlocks_27 : decode cX3_freeBlocks 27 = .ok (.istore_n 1, 1) := by decide +kernel
theorem dX3_freeBlocks_28 : decode cX3_freeBlocks 28 = .ok (.iinc 2 1, 3) := by decide +kernel
theorem dX3_freeBlocks_31 : decode cX3_freeBlocks 31 = .ok (.goto (-27), 3) := by decide +kernel
theorem dX3_freeBlocks_34 : decode cX3_freeBlocks 34 = .ok (.iload_n 1, 1) := by decide +kernel
theorem dX3_freeBlocks_35 : decode cX3_freeBlocks 35 = .ok (.ireturn, 1) := by decide +kernel
set_option maxRecDepth 20000 in
theorem ggX3_pick_X3_validIn : GoodIn wsX3_pick wsX3_validIn := goodIn_r _ [8, 9, 10, 11, 7, 12, 13, 14, 15, 16, 17, 1, 18, 23, 24, 25, 26, 27, 28, 29, 30, 31, 32, 33, 34, 35, 36, 37, 38] (by decide +kernel) (by decide +kernel)
set_option maxRecDepth 20000 in
theorem gX3_pick_X3_validIn : GoodIn wsX3_pick (wsV RX3 60 RX3 yX3_validIn wsX3_validIn) := goodIn_app (goodIn_of _ (by decide +kernel)) ggX3_pick_X3_validIn
set_option maxRecDepth 20000 in
theorem ggX3_pick_X3_programmed : GoodIn wsX3_pick wsX3_programmed := goodIn_r _ [22, 13, 23, 24, 25, 26, 27, 28, 29, 30, 31, 32, 33, 34, 35, 36, 37, 38] (by decide +kernel) (by decide +kernel)
set_option maxRecDepth 20000 in
theorem gX3_pick_X3_programmed : GoodIn wsX3_pick (wsV RX3 56 RX3 yX3_programmed wsX3_programmed) := goodIn_app (goodIn_of _ (by decide +kernel)) ggX3_pick_X3_programmed
theorem dX3_pick_0 : decode cX3_pick 0 = .ok (.iconst (-1), 1) := by decide +kernel
theorem dX3_pick_1 : decode cX3_pick 1 = .ok (.istore_n 3, 1) := by decide +kernel
theorem dX3_pick_2 : decode cX3_pick 2 = .ok (.iconst 0, 1) := by decide +kernel
theorem dX3_pick_3 : decode cX3_pick 3 = .ok (.istore 4, 2) := by decide +kernel
theorem dX3_pick_5 : decode cX3_pick 5 = .ok (.iconst 0, 1) := by decide +kernel
theorem dX3_pick_6 : decode cX3_pick 6 = .ok (.istore 5, 2) := by decide +kernel
theorem dX3_pick_8 : decode cX3_pick 8 = .ok (.iload 5, 2) := by decide +kernel
theorem dX3_pick_10 : decode cX3_pick 10 = .ok (.aload_n 0, 1) := by decide +kernel
theorem dX3_pick_11 : decode cX3_pick 11 = .ok (.getfield 38, 3) := by decide +kernel
theorem dX3_pick_14 : decode cX3_pick 14 = .ok (.if_icmp .ge 65, 3) := by decide +kernel
theorem dX3_pick_17 : decode cX3_pick 17 = .ok (.aload_n 0, 1) := by decide +kernel
theorem dX3_pick_18 : decode cX3_pick 18 = .ok (.getfield 22, 3) := by decide +kernel
theorem dX3_pick_21 : decode cX3_pick 21 = .ok (.iload 5, 2) := by decide +kernel
theorem dX3_pick_23 : decode cX3_pick 23 = .ok (.iaload, 1) := by decide +kernel
theorem dX3_pick_24 : decode cX3_pick 24 = .ok (.iload_n 2, 1) := by decide +kernel
theorem dX3_pick_25 : decode cX3_pick 25 = .ok (.ifCond .eq 15, 3) := by decide +kernel
theorem dX3_pick_28 : decode cX3_pick 28 = .ok (.ldc 59, 2) := by decide +kernel
theorem dX3_pick_30 : decode cX3_pick 30 = .ok (.aload_n 0, 1) := by decide +kernel
theorem dX3_pick_31 : decode cX3_pick 31 = .ok (.iload 5, 2) := by decide +kernel
theorem dX3_pick_33 : decode cX3_pick 33 = .ok (.invokevirtual 60, 3) := by decide +kernel
theorem dX3_pick_36 : decode cX3_pick 36 = .ok (.imul, 1) := by decide +kernel
theorem dX3_pick_37 : decode cX3_pick 37 = .ok (.goto 4, 3) := by decide +kernel
theorem dX3_pick_40 : decode cX3_pick 40 = .ok (.iconst 0, 1) := by decide +kernel
theorem dX3_pick_41 : decode cX3_pick 41 = .ok (.iadd, 1) := by decide +kernel
theorem dX3_pick_42 : decode cX3_pick 42 = .ok (.istore 6, 2) := by decide +kernel
theorem dX3_pick_44 : decode cX3_pick 44 = .ok (.aload_n 0, 1) := by decide +kernel
theorem dX3_pick_45 : decode cX3_pick 45 = .ok (.iload 5, 2) := by decide +kernel
theorem dX3_pick_47 : decode cX3_pick 47 = .ok (.invokevirtual 56, 3) := by decide +kernel
theorem dX3_pick_50 : decode cX3_pick 50 = .ok (.iload_n 1, 1) := by decide +kernel
theorem dX3_pick_51 : decode cX3_pick 51 = .ok (.if_icmp .ne 22, 3) := by decide +kernel
theorem dX3_pick_54 : decode cX3_pick 54 = .ok (.iload_n 3, 1) := by decide +kernel
theorem dX3_pick_55 : decode cX3_pick 55 = .ok (.iconst (-1), 1) := by decide +kernel
theorem dX3_pick_56 : decode cX3_pick 56 = .ok (.if_icmp .eq 10, 3) := by decide +kernel
theorem dX3_pick_59 : decode cX3_pick 59 = .ok (.iload 6, 2) := by decide +kernel
theorem dX3_pick_61 : decode cX3_pick 61 = .ok (.iload 4, 2) := by decide +kernel
theorem dX3_pick_63 : decode cX3_pick 63 = .ok (.if_icmp .ge 10, 3) := by decide +kernel
theorem dX3_pick_66 : decode cX3_pick 66 = .ok (.iload 5, 2) := by decide +kernel
theorem dX3_pick_68 : decode cX3_pick 68 = .ok (.istore_n 3, 1) := by decide +kernel
theorem dX3_pick_69 : decode cX3_pick 69 = .ok (.iload 6, 2) := by decide +kernel
theorem dX3_pick_71 : decode cX3_pick 71 = .ok (.istore 4, 2) := by decide +kernel
theorem dX3_pick_73 : decode cX3_pick 73 = .ok (.iinc 5 1, 3) := by decide +kernel
theorem dX3_pick_76 : decode cX3_pick 76 = .ok (.goto (-68), 3) := by decide +kernel
theorem dX3_pick_79 : decode cX3_pick 79 = .ok (.iload_n 3, 1) := by decide +kernel
theorem dX3_pick_80 : decode cX3_pick 80 = .ok (.ireturn, 1) := by decide +kernel
theorem dX3_uneven_0 : decode cX3_uneven 0 = .ok (.aload_n 0, 1) := by decide +kernel
theorem dX3_uneven_1 : decode cX3_uneven 1 = .ok (.getfield 22, 3) := by decide +kernel
theorem dX3_uneven_4 : decode cX3_uneven 4 = .ok (.iconst 0, 1) := by decide +kernel
theorem dX3_uneven_5 : decode cX3_uneven 5 = .ok (.iaload, 1) := by decide +kernel
theorem dX3_uneven_6 : decode cX3_uneven 6 = .ok (.istore_n 1, 1) := by decide +kernel
theorem dX3_uneven_7 : decode cX3_uneven 7 = .ok (.aload_n 0, 1) := by decide +kernel
theorem dX3_uneven_8 : decode cX3_uneven 8 = .ok (.getfield 22, 3) := by decide +kernel
theorem dX3_uneven_11 : decode cX3_uneven 11 = .ok (.iconst 0, 1) := by decide +kernel
theorem dX3_uneven_12 : decode cX3_uneven 12 = .ok (.iaload, 1) := by decide +kernel
theorem dX3_uneven_13 : decode cX3_uneven 13 = .ok (.istore_n 2, 1) := by decide +kernel
theorem dX3_uneven_14 : decode cX3_uneven 14 = .ok (.iconst 1, 1) := by decide +kernel
theorem dX3_uneven_15 : decode cX3_uneven 15 = .ok (.istore_n 3, 1) := by decide +kernel
theorem dX3_uneven_16 : decode cX3_uneven 16 = .ok (.iload_n 3, 1) := by decide +kernel
theorem dX3_uneven_17 : decode cX3_uneven 17 = .ok (.aload_n 0, 1) := by decide +kernel
theorem dX3_uneven_18 : decode cX3_uneven 18 = .ok (.getfield 38, 3) := by decide +kernel
theorem dX3_uneven_21 : decode cX3_uneven 21 = .ok (.if_icmp .ge 51, 3) := by decide +kernel
theorem dX3_uneven_24 : decode cX3_uneven 24 = .ok (.aload_n 0, 1) := by decide +kernel
theorem dX3_uneven_25 : decode cX3_uneven 25 = .ok (.getfield 22, 3) := by decide +kernel
theorem dX3_uneven_28 : decode cX3_uneven 28 = .ok (.iload_n 3, 1) := by decide +kernel
theorem dX3_uneven_29 : decode cX3_uneven 29 = .ok (.iaload, 1) := by decide +kernel
theorem dX3_uneven_30 : decode cX3_uneven 30 = .ok (.iload_n 1, 1) := by decide +kernel
theorem dX3_uneven_31 : decode cX3_uneven 31 = .ok (.if_icmp .le 12, 3) := by decide +kernel
theorem dX3_uneven_34 : decode cX3_uneven 34 = .ok (.aload_n 0, 1) := by decide +kernel
theorem dX3_uneven_35 : decode cX3_uneven 35 = .ok (.getfield 22, 3) := by decide +kernel
theorem dX3_uneven_38 : decode cX3_uneven 38 = .ok (.iload_n 3, 1) := by decide +kernel
theorem dX3_uneven_39 : decode cX3_uneven 39 = .ok (.iaload, 1) := by decide +kernel
theorem dX3_uneven_40 : decode cX3_uneven 40 = .ok (.goto 4, 3) := by decide +kernel
theorem dX3_uneven_43 : decode cX3_uneven 43 = .ok (.iload_n 1, 1) := by decide +kernel
theorem dX3_uneven_44 : decode cX3_uneven 44 = .ok (.istore_n 1, 1) := by decide +kernel
theorem dX3_uneven_45 : decode cX3_uneven 45 = .ok (.aload_n 0, 1) := by decide +kernel
theorem dX3_uneven_46 : decode cX3_uneven 46 = .ok (.getfield 22, 3) := by decide +kernel
theorem dX3_uneven_49 : decode cX3_uneven 49 = .ok (.iload_n 3, 1) := by decide +kernel
theorem dX3_uneven_50 : decode cX3_uneven 50 = .ok (.iaload, 1) := by decide +kernel
theorem dX3_uneven_51 : decode cX3_uneven 51 = .ok (.iload_n 2, 1) := by decide +kernel
theorem dX3_uneven_52 : decode cX3_uneven 52 = .ok (.if_icmp .ge 12, 3) := by decide +kernel
theorem dX3_uneven_55 : decode cX3_uneven 55 = .ok (.aload_n 0, 1) := by decide +kernel
theorem dX3_uneven_56 : decode cX3_uneven 56 = .ok (.getfield 22, 3) := by decide +kernel
theorem dX3_uneven_59 : decode cX3_uneven 59 = .ok (.iload_n 3, 1) := by decide +kernel
theorem dX3_uneven_60 : decode cX3_uneven 60 = .ok (.iaload, 1) := by decide +kernel
theorem dX3_uneven_61 : decode cX3_uneven 61 = .ok (.goto 4, 3) := by decide +kernel
theorem dX3_uneven_64 : decode cX3_uneven 64 = .ok (.iload_n 2, 1) := by decide +kernel
theorem dX3_uneven_65 : decode cX3_uneven 65 = .ok (.istore_n 2, 1) := by decide +kernel
theorem dX3_uneven_66 : decode cX3_uneven 66 = .ok (.iinc 3 1, 3) := by decide +kernel
theorem dX3_uneven_69 : decode cX3_uneven 69 = .ok (.goto (-53), 3) := by decide +kernel
theorem dX3_uneven_72 : decode cX3_uneven 72 = .ok (.iload_n 1, 1) := by decide +kernel
theorem dX3_uneven_73 : decode cX3_uneven 73 = .ok (.iload_n 2, 1) := by decide +kernel
theorem dX3_uneven_74 : decode cX3_uneven 74 = .ok (.isub, 1) := by decide +kernel
theorem dX3_uneven_75 : decode cX3_uneven 75 = .ok (.aload_n 0, 1) := by decide +kernel
theorem dX3_uneven_76 : decode cX3_uneven 76 = .ok (.getfield 41, 3) := by decide +kernel
theorem dX3_uneven_79 : decode cX3_uneven 79 = .ok (.if_icmp .le 7, 3) := by decide +kernel
theorem dX3_uneven_82 : decode cX3_uneven 82 = .ok (.iconst 1, 1) := by decide +kernel
theorem dX3_uneven_83 : decode cX3_uneven 83 = .ok (.goto 4, 3) := by decide +kernel
theorem dX3_uneven_86 : decode cX3_uneven 86 = .ok (.iconst 0, 1) := by decide +kernel
theorem dX3_uneven_87 : decode cX3_uneven 87 = .ok (.ireturn, 1) := by decide +kernel
theorem dX3_operates_0 : decode cX3_operates 0 = .ok (.aload_n 0, 1) := by decide +kernel
theorem dX3_operates_1 : decode cX3_operates 1 = .ok (.getfield 63, 3) := by decide +kernel
theorem dX3_operates_4 : decode cX3_operates 4 = .ok (.iconst 1, 1) := by decide +kernel
theorem dX3_operates_5 : decode cX3_operates 5 = .ok (.if_icmp .ne 15, 3) := by decide +kernel
theorem dX3_operates_8 : decode cX3_operates 8 = .ok (.aload_n 0, 1) := by decide +kernel
theorem dX3_operates_9 : decode cX3_operates 9 = .ok (.iconst 0, 1) := by decide +kernel
theorem dX3_operates_10 : decode cX3_operates 10 = .ok (.putfield 63, 3) := by decide +kernel
theorem dX3_operates_13 : decode cX3_operates 13 = .ok (.aload_n 0, 1) := by decide +kernel
theorem dX3_operates_14 : decode cX3_operates 14 = .ok (.iconst 1, 1) := by decide +kernel
theorem dX3_operates_15 : decode cX3_operates 15 = .ok (.putfield 66, 3) := by decide +kernel
theorem dX3_operates_18 : decode cX3_operates 18 = .ok (.iconst 0, 1) := by decide +kernel
theorem dX3_operates_19 : decode cX3_operates 19 = .ok (.ireturn, 1) := by decide +kernel
theorem dX3_operates_20 : decode cX3_operates 20 = .ok (.aload_n 0, 1) := by decide +kernel
theorem dX3_operates_21 : decode cX3_operates 21 = .ok (.aload_n 0, 1) := by decide +kernel
theorem dX3_operates_22 : decode cX3_operates 22 = .ok (.getfield 63, 3) := by decide +kernel
theorem dX3_operates_25 : decode cX3_operates 25 = .ok (.ifCond .le 12, 3) := by decide +kernel
theorem dX3_operates_28 : decode cX3_operates 28 = .ok (.aload_n 0, 1) := by decide +kernel
theorem dX3_operates_29 : decode cX3_operates 29 = .ok (.getfield 63, 3) := by decide +kernel
theorem dX3_operates_32 : decode cX3_operates 32 = .ok (.iconst 1, 1) := by decide +kernel
theorem dX3_operates_33 : decode cX3_operates 33 = .ok (.isub, 1) := by decide +kernel
theorem dX3_operates_34 : decode cX3_operates 34 = .ok (.goto 4, 3) := by decide +kernel
theorem dX3_operates_37 : decode cX3_operates 37 = .ok (.iconst 0, 1) := by decide +kernel
theorem dX3_operates_38 : decode cX3_operates 38 = .ok (.putfield 63, 3) := by decide +kernel
theorem dX3_operates_41 : decode cX3_operates 41 = .ok (.aload_n 0, 1) := by decide +kernel
theorem dX3_operates_42 : decode cX3_operates 42 = .ok (.dup, 1) := by decide +kernel
theorem dX3_operates_43 : decode cX3_operates 43 = .ok (.getfield 70, 3) := by decide +kernel
theorem dX3_operates_46 : decode cX3_operates 46 = .ok (.iconst 1, 1) := by decide +kernel
theorem dX3_operates_47 : decode cX3_operates 47 = .ok (.iadd, 1) := by decide +kernel
theorem dX3_operates_48 : decode cX3_operates 48 = .ok (.putfield 70, 3) := by decide +kernel
theorem dX3_operates_51 : decode cX3_operates 51 = .ok (.iconst 1, 1) := by decide +kernel
theorem dX3_operates_52 : decode cX3_operates 52 = .ok (.ireturn, 1) := by decide +kernel
set_option maxRecDepth 20000 in
theorem ggX3_put_X3_operates : GoodIn wsX3_put wsX3_operates := goodIn_r _ [11, 12, 13, 14, 15, 16, 17, 18, 19, 20, 21, 22, 23, 24, 25, 26, 27, 28, 29, 30] (by decide +kernel) (by decide +kernel)
set_option maxRecDepth 20000 in
theorem gX3_put_X3_operates : GoodIn wsX3_put (wsV RX3 73 RX3 yX3_operates wsX3_operates) := goodIn_app (goodIn_of _ (by decide +kernel)) ggX3_put_X3_operates
theorem dX3_put_0 : decode cX3_put 0 = .ok (.iconst 4, 1) := by decide +kernel
theorem dX3_put_1 : decode cX3_put 1 = .ok (.aload_n 0, 1) := by decide +kernel
theorem dX3_put_2 : decode cX3_put 2 = .ok (.getfield 25, 3) := by decide +kernel
theorem dX3_put_5 : decode cX3_put 5 = .ok (.imul, 1) := by decide +kernel
theorem dX3_put_6 : decode cX3_put 6 = .ok (.istore 4, 2) := by decide +kernel
theorem dX3_put_8 : decode cX3_put 8 = .ok (.iload 4, 2) := by decide +kernel
theorem dX3_put_10 : decode cX3_put 10 = .ok (.iconst 4, 1) := by decide +kernel
theorem dX3_put_11 : decode cX3_put 11 = .ok (.aload_n 0, 1) := by decide +kernel
theorem dX3_put_12 : decode cX3_put 12 = .ok (.getfield 25, 3) := by decide +kernel
theorem dX3_put_15 : decode cX3_put 15 = .ok (.imul, 1) := by decide +kernel
theorem dX3_put_16 : decode cX3_put 16 = .ok (.iconst 3, 1) := by decide +kernel
theorem dX3_put_17 : decode cX3_put 17 = .ok (.iadd, 1) := by decide +kernel
theorem dX3_put_18 : decode cX3_put 18 = .ok (.if_icmp .ge 20, 3) := by decide +kernel
theorem dX3_put_21 : decode cX3_put 21 = .ok (.aload_n 0, 1) := by decide +kernel
theorem dX3_put_22 : decode cX3_put 22 = .ok (.getfield 7, 3) := by decide +kernel
theorem dX3_put_25 : decode cX3_put 25 = .ok (.iload 4, 2) := by decide +kernel
theorem dX3_put_27 : decode cX3_put 27 = .ok (.iaload, 1) := by decide +kernel
theorem dX3_put_28 : decode cX3_put 28 = .ok (.iconst (-1), 1) := by decide +kernel
theorem dX3_put_29 : decode cX3_put 29 = .ok (.if_icmp .eq 9, 3) := by decide +kernel
theorem dX3_put_32 : decode cX3_put 32 = .ok (.iinc 4 1, 3) := by decide +kernel
theorem dX3_put_35 : decode cX3_put 35 = .ok (.goto (-27), 3) := by decide +kernel
theorem dX3_put_38 : decode cX3_put 38 = .ok (.aload_n 0, 1) := by decide +kernel
theorem dX3_put_39 : decode cX3_put 39 = .ok (.invokevirtual 73, 3) := by decide +kernel
theorem dX3_put_42 : decode cX3_put 42 = .ok (.ifCond .ne 5, 3) := by decide +kernel
theorem dX3_put_45 : decode cX3_put 45 = .ok (.iconst 0, 1) := by decide +kernel
theorem dX3_put_46 : decode cX3_put 46 = .ok (.ireturn, 1) := by decide +kernel
theorem dX3_put_47 : decode cX3_put 47 = .ok (.aload_n 0, 1) := by decide +kernel
theorem dX3_put_48 : decode cX3_put 48 = .ok (.getfield 7, 3) := by decide +kernel
theorem dX3_put_51 : decode cX3_put 51 = .ok (.iload 4, 2) := by decide +kernel
theorem dX3_put_53 : decode cX3_put 53 = .ok (.iload_n 1, 1) := by decide +kernel
theorem dX3_put_54 : decode cX3_put 54 = .ok (.iastore, 1) := by decide +kernel
theorem dX3_put_55 : decode cX3_put 55 = .ok (.aload_n 0, 1) := by decide +kernel
theorem dX3_put_56 : decode cX3_put 56 = .ok (.getfield 13, 3) := by decide +kernel
theorem dX3_put_59 : decode cX3_put 59 = .ok (.iload 4, 2) := by decide +kernel
theorem dX3_put_61 : decode cX3_put 61 = .ok (.iload_n 2, 1) := by decide +kernel
theorem dX3_put_62 : decode cX3_put 62 = .ok (.iastore, 1) := by decide +kernel
theorem dX3_put_63 : decode cX3_put 63 = .ok (.aload_n 0, 1) := by decide +kernel
theorem dX3_put_64 : decode cX3_put 64 = .ok (.getfield 19, 3) := by decide +kernel
theorem dX3_put_67 : decode cX3_put 67 = .ok (.iload 4, 2) := by decide +kernel
theorem dX3_put_69 : decode cX3_put 69 = .ok (.iload_n 3, 1) := by decide +kernel
theorem dX3_put_70 : decode cX3_put 70 = .ok (.iastore, 1) := by decide +kernel
theorem dX3_put_71 : decode cX3_put 71 = .ok (.aload_n 0, 1) := by decide +kernel
theorem dX3_put_72 : decode cX3_put 72 = .ok (.getfield 16, 3) := by decide +kernel
theorem dX3_put_75 : decode cX3_put 75 = .ok (.iload 4, 2) := by decide +kernel
theorem dX3_put_77 : decode cX3_put 77 = .ok (.aload_n 0, 1) := by decide +kernel
theorem dX3_put_78 : decode cX3_put 78 = .ok (.getfield 77, 3) := by decide +kernel
theorem dX3_put_81 : decode cX3_put 81 = .ok (.iastore, 1) := by decide +kernel
theorem dX3_put_82 : decode cX3_put 82 = .ok (.aload_n 0, 1) := by decide +kernel
theorem dX3_put_83 : decode cX3_put 83 = .ok (.dup, 1) := by decide +kernel
theorem dX3_put_84 : decode cX3_put 84 = .ok (.getfield 77, 3) := by decide +kernel
theorem dX3_put_87 : decode cX3_put 87 = .ok (.iconst 1, 1) := by decide +kernel
theorem dX3_put_88 : decode cX3_put 88 = .ok (.iadd, 1) := by decide +kernel
theorem dX3_put_89 : decode cX3_put 89 = .ok (.putfield 77, 3) := by decide +kernel
theorem dX3_put_92 : decode cX3_put 92 = .ok (.iconst 1, 1) := by decide +kernel
theorem dX3_put_93 : decode cX3_put 93 = .ok (.ireturn, 1) := by decide +kernel
set_option maxRecDepth 20000 in
theorem ggX3_collect_X3_isValid : GoodIn wsX3_collect wsX3_isValid := goodIn_r _ [9, 1, 10, 11, 12, 8, 13, 14, 15, 29, 30, 31, 32, 33, 34, 35, 36, 37, 38, 39, 40, 41, 42, 43, 44] (by decide +kernel) (by decide +kernel)
set_option maxRecDepth 20000 in
theorem gX3_collect_X3_isValid : GoodIn wsX3_collect (wsV RX3 52 RX3 yX3_isValid wsX3_isValid) := goodIn_app (goodIn_of _ (by decide +kernel)) ggX3_collect_X3_isValid
set_option maxRecDepth 20000 in
theorem ggX3_collect_X3_put : GoodIn wsX3_collect wsX3_put := goodIn_r _ [19, 20, 1, 2, 3, 15, 21, 22, 23, 24, 8, 25, 26, 27, 28, 29, 30, 31, 32, 33, 34, 35, 36, 37, 38, 39, 40, 41, 42, 43, 44] (by decide +kernel) (by decide +kernel)
set_option maxRecDepth 20000 in
theorem gX3_collect_X3_put : GoodIn wsX3_collect (wsV RX3 80 RX3 yX3_put wsX3_put) := goodIn_app (goodIn_of _ (by decide +kernel)) ggX3_collect_X3_put
set_option maxRecDepth 20000 in
theorem ggX3_collect_X3_operates : GoodIn wsX3_collect wsX3_operates := goodIn_r _ [25, 26, 27, 28, 29, 30, 31, 32, 33, 34, 35, 36, 37, 38, 39, 40, 41, 42, 43, 44] (by decide +kernel) (by decide +kernel)
set_option maxRecDepth 20000 in
theorem gX3_collect_X3_operates : GoodIn wsX3_collect (wsV RX3 73 RX3 yX3_operates wsX3_operates) := goodIn_app (goodIn_of _ (by decide +kernel)) ggX3_collect_X3_operates
theorem dX3_collect_0 : decode cX3_collect 0 = .ok (.iconst 4, 1) := by decide +kernel
theorem dX3_collect_1 : decode cX3_collect 1 = .ok (.iload_n 1, 1) := by decide +kernel
theorem dX3_collect_2 : decode cX3_collect 2 = .ok (.imul, 1) := by decide +kernel
theorem dX3_collect_3 : decode cX3_collect 3 = .ok (.istore_n 2, 1) := by decide +kernel
theorem dX3_collect_4 : decode cX3_collect 4 = .ok (.iload_n 2, 1) := by decide +kernel
theorem dX3_collect_5 : decode cX3_collect 5 = .ok (.iconst 4, 1) := by decide +kernel
theorem dX3_collect_6 : decode cX3_collect 6 = .ok (.iload_n 1, 1) := by decide +kernel
theorem dX3_collect_7 : decode cX3_collect 7 = .ok (.imul, 1) := by decide +kernel
theorem dX3_collect_8 : decode cX3_collect 8 = .ok (.iconst 4, 1) := by decide +kernel
theorem dX3_collect_9 : decode cX3_collect 9 = .ok (.iadd, 1) := by decide +kernel
theorem dX3_collect_10 : decode cX3_collect 10 = .ok (.if_icmp .ge 44, 3) := by decide +kernel
theorem dX3_collect_13 : decode cX3_collect 13 = .ok (.aload_n 0, 1) := by decide +kernel
theorem dX3_collect_14 : decode cX3_collect 14 = .ok (.iload_n 2, 1) := by decide +kernel
theorem dX3_collect_15 : decode cX3_collect 15 = .ok (.invokevirtual 52, 3) := by decide +kernel
theorem dX3_collect_18 : decode cX3_collect 18 = .ok (.ifCond .eq 30, 3) := by decide +kernel
theorem dX3_collect_21 : decode cX3_collect 21 = .ok (.aload_n 0, 1) := by decide +kernel
theorem dX3_collect_22 : decode cX3_collect 22 = .ok (.aload_n 0, 1) := by decide +kernel
theorem dX3_collect_23 : decode cX3_collect 23 = .ok (.getfield 7, 3) := by decide +kernel
theorem dX3_collect_26 : decode cX3_collect 26 = .ok (.iload_n 2, 1) := by decide +kernel
end
section
theorem dX3_collect_27 : decode cX3_collect 27 = .ok (.iaload, 1) := by decide +kernel
theorem dX3_collect_28 : decode cX3_collect 28 = .ok (.aload_n 0, 1) := by decide +kernel
theorem dX3_collect_29 : decode cX3_collect 29 = .ok (.getfield 13, 3) := by decide +kernel
theorem dX3_collect_32 : decode cX3_collect 32 = .ok (.iload_n 2, 1) := by decide +kernel
theorem dX3_collect_33 : decode cX3_collect 33 = .ok (.iaload, 1) := by decide +kernel
theorem dX3_collect_34 : decode cX3_collect 34 = .ok (.aload_n 0, 1) := by decide +kernel
theorem dX3_collect_35 : decode cX3_collect 35 = .ok (.getfield 19, 3) := by decide +kernel
theorem dX3_collect_38 : decode cX3_collect 38 = .ok (.iload_n 2, 1) := by decide +kernel
theorem dX3_collect_39 : decode cX3_collect 39 = .ok (.iaload, 1) := by decide +kernel
theorem dX3_collect_40 : decode cX3_collect 40 = .ok (.invokevirtual 80, 3) := by decide +kernel
theorem dX3_collect_43 : decode cX3_collect 43 = .ok (.ifCond .ne 5, 3) := by decide +kernel
theorem dX3_collect_46 : decode cX3_collect 46 = .ok (.iconst 0, 1) := by decide +kernel
theorem dX3_collect_47 : decode cX3_collect 47 = .ok (.ireturn, 1) := by decide +kernel
theorem dX3_collect_48 : decode cX3_collect 48 = .ok (.iinc 2 1, 3) := by decide +kernel
theorem dX3_collect_51 : decode cX3_collect 51 = .ok (.goto (-47), 3) := by decide +kernel
theorem dX3_collect_54 : decode cX3_collect 54 = .ok (.aload_n 0, 1) := by decide +kernel
theorem dX3_collect_55 : decode cX3_collect 55 = .ok (.invokevirtual 73, 3) := by decide +kernel
theorem dX3_collect_58 : decode cX3_collect 58 = .ok (.ifCond .ne 5, 3) := by decide +kernel
theorem dX3_collect_61 : decode cX3_collect 61 = .ok (.iconst 0, 1) := by decide +kernel
theorem dX3_collect_62 : decode cX3_collect 62 = .ok (.ireturn, 1) := by decide +kernel
theorem dX3_collect_63 : decode cX3_collect 63 = .ok (.iconst 4, 1) := by decide +kernel
theorem dX3_collect_64 : decode cX3_collect 64 = .ok (.iload_n 1, 1) := by decide +kernel
theorem dX3_collect_65 : decode cX3_collect 65 = .ok (.imul, 1) := by decide +kernel
theorem dX3_collect_66 : decode cX3_collect 66 = .ok (.istore_n 2, 1) := by decide +kernel
theorem dX3_collect_67 : decode cX3_collect 67 = .ok (.iload_n 2, 1) := by decide +kernel
theorem dX3_collect_68 : decode cX3_collect 68 = .ok (.iconst 4, 1) := by decide +kernel
theorem dX3_collect_69 : decode cX3_collect 69 = .ok (.iload_n 1, 1) := by decide +kernel
theorem dX3_collect_70 : decode cX3_collect 70 = .ok (.imul, 1) := by decide +kernel
theorem dX3_collect_71 : decode cX3_collect 71 = .ok (.iconst 4, 1) := by decide +kernel
theorem dX3_collect_72 : decode cX3_collect 72 = .ok (.iadd, 1) := by decide +kernel
theorem dX3_collect_73 : decode cX3_collect 73 = .ok (.if_icmp .ge 16, 3) := by decide +kernel
theorem dX3_collect_76 : decode cX3_collect 76 = .ok (.aload_n 0, 1) := by decide +kernel
theorem dX3_collect_77 : decode cX3_collect 77 = .ok (.getfield 7, 3) := by decide +kernel
theorem dX3_collect_80 : decode cX3_collect 80 = .ok (.iload_n 2, 1) := by decide +kernel
theorem dX3_collect_81 : decode cX3_collect 81 = .ok (.iconst (-1), 1) := by decide +kernel
theorem dX3_collect_82 : decode cX3_collect 82 = .ok (.iastore, 1) := by decide +kernel
theorem dX3_collect_83 : decode cX3_collect 83 = .ok (.iinc 2 1, 3) := by decide +kernel
theorem dX3_collect_86 : decode cX3_collect 86 = .ok (.goto (-19), 3) := by decide +kernel
theorem dX3_collect_89 : decode cX3_collect 89 = .ok (.aload_n 0, 1) := by decide +kernel
theorem dX3_collect_90 : decode cX3_collect 90 = .ok (.getfield 22, 3) := by decide +kernel
theorem dX3_collect_93 : decode cX3_collect 93 = .ok (.iload_n 1, 1) := by decide +kernel
theorem dX3_collect_94 : decode cX3_collect 94 = .ok (.dup2, 1) := by decide +kernel
theorem dX3_collect_95 : decode cX3_collect 95 = .ok (.iaload, 1) := by decide +kernel
theorem dX3_collect_96 : decode cX3_collect 96 = .ok (.iconst 1, 1) := by decide +kernel
theorem dX3_collect_97 : decode cX3_collect 97 = .ok (.iadd, 1) := by decide +kernel
theorem dX3_collect_98 : decode cX3_collect 98 = .ok (.iastore, 1) := by decide +kernel
theorem dX3_collect_99 : decode cX3_collect 99 = .ok (.iconst 1, 1) := by decide +kernel
theorem dX3_collect_100 : decode cX3_collect 100 = .ok (.ireturn, 1) := by decide +kernel
set_option maxRecDepth 20000 in
theorem ggX3_room_X3_programmed : GoodIn wsX3_room wsX3_programmed := goodIn_r _ [6, 7, 55, 56, 57, 58, 59, 60, 61, 62, 63, 64, 65, 66, 67, 68, 69, 70] (by decide +kernel) (by decide +kernel)
set_option maxRecDepth 20000 in
theorem gX3_room_X3_programmed : GoodIn wsX3_room (wsV RX3 56 RX3 yX3_programmed wsX3_programmed) := goodIn_app (goodIn_of _ (by decide +kernel)) ggX3_room_X3_programmed
set_option maxRecDepth 20000 in
theorem ggX3_room_X3_freeBlocks : GoodIn wsX3_room wsX3_freeBlocks := goodIn_r _ [11, 12, 2, 3, 4, 5, 6, 7, 55, 56, 57, 58, 59, 60, 61, 62, 63, 64, 65, 66, 67, 68, 69, 70] (by decide +kernel) (by decide +kernel)
set_option maxRecDepth 20000 in
theorem gX3_room_X3_freeBlocks : GoodIn wsX3_room (wsV RX3 84 RX3 yX3_freeBlocks wsX3_freeBlocks) := goodIn_app (goodIn_of _ (by decide +kernel)) ggX3_room_X3_freeBlocks
set_option maxRecDepth 20000 in
theorem ggX3_room_X3_pick : GoodIn wsX3_room wsX3_pick := goodIn_r _ [16, 12, 17, 18, 19, 20, 21, 5, 22, 23, 24, 25, 26, 7, 27, 28, 29, 30, 31, 2, 3, 4, 6, 55, 56, 57, 58, 59, 60, 61, 62, 63, 64, 65, 66, 67, 68, 69, 70] (by decide +kernel) (by decide +kernel)
set_option maxRecDepth 20000 in
theorem gX3_room_X3_pick : GoodIn wsX3_room (wsV RX3 87 RX3 yX3_pick wsX3_pick) := goodIn_app (goodIn_of _ (by decide +kernel)) ggX3_room_X3_pick
set_option maxRecDepth 20000 in
theorem ggX3_room_X3_uneven : GoodIn wsX3_room wsX3_uneven := goodIn_r _ [35, 17, 12, 36, 55, 56, 57, 58, 59, 60, 61, 62, 63, 64, 65, 66, 67, 68, 69, 70] (by decide +kernel) (by decide +kernel)
set_option maxRecDepth 20000 in
theorem gX3_room_X3_uneven : GoodIn wsX3_room (wsV RX3 91 RX3 yX3_uneven wsX3_uneven) := goodIn_app (goodIn_of _ (by decide +kernel)) ggX3_room_X3_uneven
set_option maxRecDepth 20000 in
theorem ggX3_room_X3_collect : GoodIn wsX3_room wsX3_collect := goodIn_r _ [40, 7, 41, 42, 17, 23, 24, 25, 5, 26, 27, 28, 29, 30, 12, 31, 43, 44, 45, 46, 1, 47, 48, 49, 50, 51, 52, 53, 54, 55, 56, 57, 58, 59, 60, 61, 62, 63, 64, 65, 66, 67, 68, 69, 70] (by decide +kernel) (by decide +kernel)
set_option maxRecDepth 20000 in
theorem gX3_room_X3_collect : GoodIn wsX3_room (wsV RX3 94 RX3 yX3_collect wsX3_collect) := goodIn_app (goodIn_of _ (by decide +kernel)) ggX3_room_X3_collect
theorem dX3_room_0 : decode cX3_room 0 = .ok (.iconst 0, 1) := by decide +kernel
theorem dX3_room_1 : decode cX3_room 1 = .ok (.istore_n 1, 1) := by decide +kernel
theorem dX3_room_2 : decode cX3_room 2 = .ok (.iconst 0, 1) := by decide +kernel
theorem dX3_room_3 : decode cX3_room 3 = .ok (.istore_n 2, 1) := by decide +kernel
theorem dX3_room_4 : decode cX3_room 4 = .ok (.iload_n 2, 1) := by decide +kernel
theorem dX3_room_5 : decode cX3_room 5 = .ok (.sipush 1000, 3) := by decide +kernel
theorem dX3_room_8 : decode cX3_room 8 = .ok (.if_icmp .ge 114, 3) := by decide +kernel
theorem dX3_room_11 : decode cX3_room 11 = .ok (.aload_n 0, 1) := by decide +kernel
theorem dX3_room_12 : decode cX3_room 12 = .ok (.getfield 25, 3) := by decide +kernel
theorem dX3_room_15 : decode cX3_room 15 = .ok (.iconst (-1), 1) := by decide +kernel
theorem dX3_room_16 : decode cX3_room 16 = .ok (.if_icmp .eq 15, 3) := by decide +kernel
theorem dX3_room_19 : decode cX3_room 19 = .ok (.aload_n 0, 1) := by decide +kernel
theorem dX3_room_20 : decode cX3_room 20 = .ok (.aload_n 0, 1) := by decide +kernel
theorem dX3_room_21 : decode cX3_room 21 = .ok (.getfield 25, 3) := by decide +kernel
theorem dX3_room_24 : decode cX3_room 24 = .ok (.invokevirtual 56, 3) := by decide +kernel
theorem dX3_room_27 : decode cX3_room 27 = .ok (.iconst 4, 1) := by decide +kernel
theorem dX3_room_28 : decode cX3_room 28 = .ok (.if_icmp .ne 94, 3) := by decide +kernel
theorem dX3_room_31 : decode cX3_room 31 = .ok (.aload_n 0, 1) := by decide +kernel
theorem dX3_room_32 : decode cX3_room 32 = .ok (.invokevirtual 84, 3) := by decide +kernel
theorem dX3_room_35 : decode cX3_room 35 = .ok (.iconst 2, 1) := by decide +kernel
theorem dX3_room_36 : decode cX3_room 36 = .ok (.if_icmp .ge 7, 3) := by decide +kernel
theorem dX3_room_39 : decode cX3_room 39 = .ok (.iconst 1, 1) := by decide +kernel
theorem dX3_room_40 : decode cX3_room 40 = .ok (.goto 4, 3) := by decide +kernel
theorem dX3_room_43 : decode cX3_room 43 = .ok (.iconst 0, 1) := by decide +kernel
theorem dX3_room_44 : decode cX3_room 44 = .ok (.istore_n 3, 1) := by decide +kernel
theorem dX3_room_45 : decode cX3_room 45 = .ok (.aload_n 0, 1) := by decide +kernel
theorem dX3_room_46 : decode cX3_room 46 = .ok (.aload_n 0, 1) := by decide +kernel
theorem dX3_room_47 : decode cX3_room 47 = .ok (.iconst 0, 1) := by decide +kernel
theorem dX3_room_48 : decode cX3_room 48 = .ok (.iconst 0, 1) := by decide +kernel
theorem dX3_room_49 : decode cX3_room 49 = .ok (.invokevirtual 87, 3) := by decide +kernel
theorem dX3_room_52 : decode cX3_room 52 = .ok (.putfield 25, 3) := by decide +kernel
theorem dX3_room_55 : decode cX3_room 55 = .ok (.iload_n 3, 1) := by decide +kernel
theorem dX3_room_56 : decode cX3_room 56 = .ok (.ifCond .eq 60, 3) := by decide +kernel
theorem dX3_room_59 : decode cX3_room 59 = .ok (.iload_n 1, 1) := by decide +kernel
theorem dX3_room_60 : decode cX3_room 60 = .ok (.ifCond .ne 14, 3) := by decide +kernel
theorem dX3_room_63 : decode cX3_room 63 = .ok (.aload_n 0, 1) := by decide +kernel
theorem dX3_room_64 : decode cX3_room 64 = .ok (.invokevirtual 91, 3) := by decide +kernel
theorem dX3_room_67 : decode cX3_room 67 = .ok (.ifCond .eq 7, 3) := by decide +kernel
theorem dX3_room_70 : decode cX3_room 70 = .ok (.iconst 1, 1) := by decide +kernel
theorem dX3_room_71 : decode cX3_room 71 = .ok (.goto 4, 3) := by decide +kernel
theorem dX3_room_74 : decode cX3_room 74 = .ok (.iconst 0, 1) := by decide +kernel
theorem dX3_room_75 : decode cX3_room 75 = .ok (.istore 4, 2) := by decide +kernel
theorem dX3_room_77 : decode cX3_room 77 = .ok (.iload_n 1, 1) := by decide +kernel
theorem dX3_room_78 : decode cX3_room 78 = .ok (.ifCond .ne 8, 3) := by decide +kernel
theorem dX3_room_81 : decode cX3_room 81 = .ok (.iload 4, 2) := by decide +kernel
theorem dX3_room_83 : decode cX3_room 83 = .ok (.ifCond .eq 7, 3) := by decide +kernel
theorem dX3_room_86 : decode cX3_room 86 = .ok (.iconst 1, 1) := by decide +kernel
theorem dX3_room_87 : decode cX3_room 87 = .ok (.goto 4, 3) := by decide +kernel
theorem dX3_room_90 : decode cX3_room 90 = .ok (.iconst 0, 1) := by decide +kernel
theorem dX3_room_91 : decode cX3_room 91 = .ok (.istore_n 1, 1) := by decide +kernel
theorem dX3_room_92 : decode cX3_room 92 = .ok (.aload_n 0, 1) := by decide +kernel
theorem dX3_room_93 : decode cX3_room 93 = .ok (.aload_n 0, 1) := by decide +kernel
theorem dX3_room_94 : decode cX3_room 94 = .ok (.iconst 4, 1) := by decide +kernel
theorem dX3_room_95 : decode cX3_room 95 = .ok (.iload 4, 2) := by decide +kernel
theorem dX3_room_97 : decode cX3_room 97 = .ok (.ifCond .ne 7, 3) := by decide +kernel
theorem dX3_room_100 : decode cX3_room 100 = .ok (.iconst 1, 1) := by decide +kernel
theorem dX3_room_101 : decode cX3_room 101 = .ok (.goto 4, 3) := by decide +kernel
theorem dX3_room_104 : decode cX3_room 104 = .ok (.iconst 0, 1) := by decide +kernel
theorem dX3_room_105 : decode cX3_room 105 = .ok (.invokevirtual 87, 3) := by decide +kernel
theorem dX3_room_108 : decode cX3_room 108 = .ok (.invokevirtual 94, 3) := by decide +kernel
theorem dX3_room_111 : decode cX3_room 111 = .ok (.ifCond .ne 5, 3) := by decide +kernel
theorem dX3_room_114 : decode cX3_room 114 = .ok (.iconst 0, 1) := by decide +kernel
theorem dX3_room_115 : decode cX3_room 115 = .ok (.ireturn, 1) := by decide +kernel
theorem dX3_room_116 : decode cX3_room 116 = .ok (.iinc 2 1, 3) := by decide +kernel
theorem dX3_room_119 : decode cX3_room 119 = .ok (.goto (-115), 3) := by decide +kernel
theorem dX3_room_122 : decode cX3_room 122 = .ok (.iconst 1, 1) := by decide +kernel
theorem dX3_room_123 : decode cX3_room 123 = .ok (.ireturn, 1) := by decide +kernel
set_option maxRecDepth 20000 in
theorem ggX3_store_X3_room : GoodIn wsX3_store wsX3_room := goodIn_r _ [9, 10, 11, 12, 13, 8, 14, 15, 16, 17, 18, 19, 20, 21, 22, 23, 24, 25, 26, 27, 28, 29, 30, 31, 32, 33, 34, 35, 36, 37, 38, 39, 40, 41, 42, 43, 44, 45, 46, 47, 48, 49, 50, 51, 52, 53, 54, 55, 56, 57, 58, 59, 60, 61, 62, 63, 64, 65, 66, 67, 68, 69, 70, 71, 72, 73, 74, 75, 76, 77, 78] (by decide +kernel) (by decide +kernel)
set_option maxRecDepth 20000 in
theorem gX3_store_X3_room : GoodIn wsX3_store (wsV RX3 97 RX3 yX3_room wsX3_room) := goodIn_app (goodIn_of _ (by decide +kernel)) ggX3_store_X3_room
set_option maxRecDepth 20000 in
theorem ggX3_store_X3_put : GoodIn wsX3_store wsX3_put := goodIn_r _ [54, 10, 15, 49, 50, 39, 55, 56, 57, 58, 8, 59, 60, 61, 62, 63, 64, 65, 66, 67, 68, 69, 70, 71, 72, 73, 74, 75, 76, 77, 78] (by decide +kernel) (by decide +kernel)
set_option maxRecDepth 20000 in
theorem gX3_store_X3_put : GoodIn wsX3_store (wsV RX3 80 RX3 yX3_put wsX3_put) := goodIn_app (goodIn_of _ (by decide +kernel)) ggX3_store_X3_put
theorem dX3_store_0 : decode cX3_store 0 = .ok (.aload_n 0, 1) := by decide +kernel
theorem dX3_store_1 : decode cX3_store 1 = .ok (.invokevirtual 97, 3) := by decide +kernel
theorem dX3_store_4 : decode cX3_store 4 = .ok (.ifCond .eq 28, 3) := by decide +kernel
theorem dX3_store_7 : decode cX3_store 7 = .ok (.aload_n 0, 1) := by decide +kernel
theorem dX3_store_8 : decode cX3_store 8 = .ok (.aload_n 0, 1) := by decide +kernel
theorem dX3_store_9 : decode cX3_store 9 = .ok (.getfield 29, 3) := by decide +kernel
theorem dX3_store_12 : decode cX3_store 12 = .ok (.iconst 0, 1) := by decide +kernel
theorem dX3_store_13 : decode cX3_store 13 = .ok (.iaload, 1) := by decide +kernel
theorem dX3_store_14 : decode cX3_store 14 = .ok (.aload_n 0, 1) := by decide +kernel
theorem dX3_store_15 : decode cX3_store 15 = .ok (.getfield 32, 3) := by decide +kernel
theorem dX3_store_18 : decode cX3_store 18 = .ok (.iconst 0, 1) := by decide +kernel
theorem dX3_store_19 : decode cX3_store 19 = .ok (.iaload, 1) := by decide +kernel
theorem dX3_store_20 : decode cX3_store 20 = .ok (.aload_n 0, 1) := by decide +kernel
theorem dX3_store_21 : decode cX3_store 21 = .ok (.getfield 35, 3) := by decide +kernel
theorem dX3_store_24 : decode cX3_store 24 = .ok (.iconst 0, 1) := by decide +kernel
theorem dX3_store_25 : decode cX3_store 25 = .ok (.iaload, 1) := by decide +kernel
theorem dX3_store_26 : decode cX3_store 26 = .ok (.invokevirtual 80, 3) := by decide +kernel
theorem dX3_store_29 : decode cX3_store 29 = .ok (.ifCond .ne 5, 3) := by decide +kernel
theorem dX3_store_32 : decode cX3_store 32 = .ok (.iconst 0, 1) := by decide +kernel
theorem dX3_store_33 : decode cX3_store 33 = .ok (.ireturn, 1) := by decide +kernel
theorem dX3_store_34 : decode cX3_store 34 = .ok (.aload_n 0, 1) := by decide +kernel
theorem dX3_store_35 : decode cX3_store 35 = .ok (.dup, 1) := by decide +kernel
theorem dX3_store_36 : decode cX3_store 36 = .ok (.getfield 100, 3) := by decide +kernel
theorem dX3_store_39 : decode cX3_store 39 = .ok (.iconst 1, 1) := by decide +kernel
theorem dX3_store_40 : decode cX3_store 40 = .ok (.isub, 1) := by decide +kernel
theorem dX3_store_41 : decode cX3_store 41 = .ok (.putfield 100, 3) := by decide +kernel
theorem dX3_store_44 : decode cX3_store 44 = .ok (.iconst 0, 1) := by decide +kernel
theorem dX3_store_45 : decode cX3_store 45 = .ok (.istore_n 1, 1) := by decide +kernel
theorem dX3_store_46 : decode cX3_store 46 = .ok (.iload_n 1, 1) := by decide +kernel
theorem dX3_store_47 : decode cX3_store 47 = .ok (.aload_n 0, 1) := by decide +kernel
theorem dX3_store_48 : decode cX3_store 48 = .ok (.getfield 100, 3) := by decide +kernel
theorem dX3_store_51 : decode cX3_store 51 = .ok (.if_icmp .ge 51, 3) := by decide +kernel
theorem dX3_store_54 : decode cX3_store 54 = .ok (.aload_n 0, 1) := by decide +kernel
theorem dX3_store_55 : decode cX3_store 55 = .ok (.getfield 29, 3) := by decide +kernel
theorem dX3_store_58 : decode cX3_store 58 = .ok (.iload_n 1, 1) := by decide +kernel
theorem dX3_store_59 : decode cX3_store 59 = .ok (.aload_n 0, 1) := by decide +kernel
theorem dX3_store_60 : decode cX3_store 60 = .ok (.getfield 29, 3) := by decide +kernel
theorem dX3_store_63 : decode cX3_store 63 = .ok (.iload_n 1, 1) := by decide +kernel
theorem dX3_store_64 : decode cX3_store 64 = .ok (.iconst 1, 1) := by decide +kernel
theorem dX3_store_65 : decode cX3_store 65 = .ok (.iadd, 1) := by decide +kernel
theorem dX3_store_66 : decode cX3_store 66 = .ok (.iaload, 1) := by decide +kernel
theorem dX3_store_67 : decode cX3_store 67 = .ok (.iastore, 1) := by decide +kernel
theorem dX3_store_68 : decode cX3_store 68 = .ok (.aload_n 0, 1) := by decide +kernel
theorem dX3_store_69 : decode cX3_store 69 = .ok (.getfield 32, 3) := by decide +kernel
theorem dX3_store_72 : decode cX3_store 72 = .ok (.iload_n 1, 1) := by decide +kernel
theorem dX3_store_73 : decode cX3_store 73 = .ok (.aload_n 0, 1) := by decide +kernel
theorem dX3_store_74 : decode cX3_store 74 = .ok (.getfield 32, 3) := by decide +kernel
theorem dX3_store_77 : decode cX3_store 77 = .ok (.iload_n 1, 1) := by decide +kernel
theorem dX3_store_78 : decode cX3_store 78 = .ok (.iconst 1, 1) := by decide +kernel
theorem dX3_store_79 : decode cX3_store 79 = .ok (.iadd, 1) := by decide +kernel
theorem dX3_store_80 : decode cX3_store 80 = .ok (.iaload, 1) := by decide +kernel
theorem dX3_store_81 : decode cX3_store 81 = .ok (.iastore, 1) := by decide +kernel
theorem dX3_store_82 : decode cX3_store 82 = .ok (.aload_n 0, 1) := by decide +kernel
theorem dX3_store_83 : decode cX3_store 83 = .ok (.getfield 35, 3) := by decide +kernel
theorem dX3_store_86 : decode cX3_store 86 = .ok (.iload_n 1, 1) := by decide +kernel
theorem dX3_store_87 : decode cX3_store 87 = .ok (.aload_n 0, 1) := by decide +kernel
theorem dX3_store_88 : decode cX3_store 88 = .ok (.getfield 35, 3) := by decide +kernel
theorem dX3_store_91 : decode cX3_store 91 = .ok (.iload_n 1, 1) := by decide +kernel
theorem dX3_store_92 : decode cX3_store 92 = .ok (.iconst 1, 1) := by decide +kernel
theorem dX3_store_93 : decode cX3_store 93 = .ok (.iadd, 1) := by decide +kernel
theorem dX3_store_94 : decode cX3_store 94 = .ok (.iaload, 1) := by decide +kernel
theorem dX3_store_95 : decode cX3_store 95 = .ok (.iastore, 1) := by decide +kernel
theorem dX3_store_96 : decode cX3_store 96 = .ok (.iinc 1 1, 3) := by decide +kernel
theorem dX3_store_99 : decode cX3_store 99 = .ok (.goto (-53), 3) := by decide +kernel
theorem dX3_store_102 : decode cX3_store 102 = .ok (.iconst 1, 1) := by decide +kernel
theorem dX3_store_103 : decode cX3_store 103 = .ok (.ireturn, 1) := by decide +kernel
set_option maxRecDepth 20000 in
theorem ggX3_cut_X3_programmed : GoodIn wsX3_cut wsX3_programmed := goodIn_r _ [12, 6, 51, 52, 53, 54, 55, 56, 57, 58, 59, 60, 61, 62, 63, 64, 65, 66] (by decide +kernel) (by decide +kernel)
set_option maxRecDepth 20000 in
theorem gX3_cut_X3_programmed : GoodIn wsX3_cut (wsV RX3 56 RX3 yX3_programmed wsX3_programmed) := goodIn_app (goodIn_of _ (by decide +kernel)) ggX3_cut_X3_programmed
set_option maxRecDepth 20000 in
theorem ggX3_cut_X3_freeBlocks : GoodIn wsX3_cut wsX3_freeBlocks := goodIn_r _ [16, 5, 8, 9, 10, 11, 12, 6, 51, 52, 53, 54, 55, 56, 57, 58, 59, 60, 61, 62, 63, 64, 65, 66] (by decide +kernel) (by decide +kernel)
set_option maxRecDepth 20000 in
theorem gX3_cut_X3_freeBlocks : GoodIn wsX3_cut (wsV RX3 84 RX3 yX3_freeBlocks wsX3_freeBlocks) := goodIn_app (goodIn_of _ (by decide +kernel)) ggX3_cut_X3_freeBlocks
set_option maxRecDepth 20000 in
theorem ggX3_cut_X3_pick : GoodIn wsX3_cut wsX3_pick := goodIn_r _ [20, 5, 21, 22, 23, 24, 25, 11, 26, 27, 28, 29, 30, 6, 31, 32, 33, 34, 7, 8, 9, 10, 12, 51, 52, 53, 54, 55, 56, 57, 58, 59, 60, 61, 62, 63, 64, 65, 66] (by decide +kernel) (by decide +kernel)
set_option maxRecDepth 20000 in
theorem gX3_cut_X3_pick : GoodIn wsX3_cut (wsV RX3 87 RX3 yX3_pick wsX3_pick) := goodIn_app (goodIn_of _ (by decide +kernel)) ggX3_cut_X3_pick
set_option maxRecDepth 20000 in
theorem ggX3_cut_X3_collect : GoodIn wsX3_cut wsX3_collect := goodIn_r _ [38, 6, 39, 40, 21, 27, 28, 29, 11, 30, 31, 32, 33, 34, 5, 7, 41, 42, 43, 44, 3, 4, 45, 46, 47, 48, 49, 1, 50, 51, 52, 53, 54, 55, 56, 57, 58, 59, 60, 61, 62, 63, 64, 65, 66] (by decide +kernel) (by decide +kernel)
set_option maxRecDepth 20000 in
theorem gX3_cut_X3_collect : GoodIn wsX3_cut (wsV RX3 94 RX3 yX3_collect wsX3_collect) := goodIn_app (goodIn_of _ (by decide +kernel)) ggX3_cut_X3_collect
theorem dX3_cut_0 : decode cX3_cut 0 = .ok (.aload_n 0, 1) := by decide +kernel
theorem dX3_cut_1 : decode cX3_cut 1 = .ok (.iconst 1, 1) := by decide +kernel
theorem dX3_cut_2 : decode cX3_cut 2 = .ok (.putfield 66, 3) := by decide +kernel
theorem dX3_cut_5 : decode cX3_cut 5 = .ok (.aload_n 0, 1) := by decide +kernel
theorem dX3_cut_6 : decode cX3_cut 6 = .ok (.getfield 66, 3) := by decide +kernel
theorem dX3_cut_9 : decode cX3_cut 9 = .ok (.ifCond .eq 168, 3) := by decide +kernel
theorem dX3_cut_12 : decode cX3_cut 12 = .ok (.aload_n 0, 1) := by decide +kernel
theorem dX3_cut_13 : decode cX3_cut 13 = .ok (.iconst 0, 1) := by decide +kernel
theorem dX3_cut_14 : decode cX3_cut 14 = .ok (.putfield 66, 3) := by decide +kernel
theorem dX3_cut_17 : decode cX3_cut 17 = .ok (.aload_n 0, 1) := by decide +kernel
theorem dX3_cut_18 : decode cX3_cut 18 = .ok (.iconst 0, 1) := by decide +kernel
theorem dX3_cut_19 : decode cX3_cut 19 = .ok (.putfield 100, 3) := by decide +kernel
theorem dX3_cut_22 : decode cX3_cut 22 = .ok (.aload_n 0, 1) := by decide +kernel
theorem dX3_cut_23 : decode cX3_cut 23 = .ok (.iconst (-1), 1) := by decide +kernel
theorem dX3_cut_24 : decode cX3_cut 24 = .ok (.putfield 25, 3) := by decide +kernel
theorem dX3_cut_27 : decode cX3_cut 27 = .ok (.aload_n 0, 1) := by decide +kernel
theorem dX3_cut_28 : decode cX3_cut 28 = .ok (.iconst 0, 1) := by decide +kernel
theorem dX3_cut_29 : decode cX3_cut 29 = .ok (.putfield 77, 3) := by decide +kernel
theorem dX3_cut_32 : decode cX3_cut 32 = .ok (.iconst 0, 1) := by decide +kernel
theorem dX3_cut_33 : decode cX3_cut 33 = .ok (.istore_n 1, 1) := by decide +kernel
theorem dX3_cut_34 : decode cX3_cut 34 = .ok (.iload_n 1, 1) := by decide +kernel
theorem dX3_cut_35 : decode cX3_cut 35 = .ok (.aload_n 0, 1) := by decide +kernel
theorem dX3_cut_36 : decode cX3_cut 36 = .ok (.getfield 38, 3) := by decide +kernel
theorem dX3_cut_39 : decode cX3_cut 39 = .ok (.if_icmp .ge 36, 3) := by decide +kernel
theorem dX3_cut_42 : decode cX3_cut 42 = .ok (.aload_n 0, 1) := by decide +kernel
theorem dX3_cut_43 : decode cX3_cut 43 = .ok (.iload_n 1, 1) := by decide +kernel
theorem dX3_cut_44 : decode cX3_cut 44 = .ok (.invokevirtual 56, 3) := by decide +kernel
theorem dX3_cut_47 : decode cX3_cut 47 = .ok (.istore_n 2, 1) := by decide +kernel
theorem dX3_cut_48 : decode cX3_cut 48 = .ok (.aload_n 0, 1) := by decide +kernel
theorem dX3_cut_49 : decode cX3_cut 49 = .ok (.iload_n 2, 1) := by decide +kernel
theorem dX3_cut_50 : decode cX3_cut 50 = .ok (.ifCond .le 12, 3) := by decide +kernel
theorem dX3_cut_53 : decode cX3_cut 53 = .ok (.iload_n 2, 1) := by decide +kernel
theorem dX3_cut_54 : decode cX3_cut 54 = .ok (.iconst 4, 1) := by decide +kernel
theorem dX3_cut_55 : decode cX3_cut 55 = .ok (.if_icmp .ge 7, 3) := by decide +kernel
theorem dX3_cut_58 : decode cX3_cut 58 = .ok (.iload_n 1, 1) := by decide +kernel
theorem dX3_cut_59 : decode cX3_cut 59 = .ok (.goto 7, 3) := by decide +kernel
theorem dX3_cut_62 : decode cX3_cut 62 = .ok (.aload_n 0, 1) := by decide +kernel
theorem dX3_cut_63 : decode cX3_cut 63 = .ok (.getfield 25, 3) := by decide +kernel
theorem dX3_cut_66 : decode cX3_cut 66 = .ok (.putfield 25, 3) := by decide +kernel
theorem dX3_cut_69 : decode cX3_cut 69 = .ok (.iinc 1 1, 3) := by decide +kernel
theorem dX3_cut_72 : decode cX3_cut 72 = .ok (.goto (-38), 3) := by decide +kernel
theorem dX3_cut_75 : decode cX3_cut 75 = .ok (.iconst 0, 1) := by decide +kernel
theorem dX3_cut_76 : decode cX3_cut 76 = .ok (.istore_n 1, 1) := by decide +kernel
theorem dX3_cut_77 : decode cX3_cut 77 = .ok (.iload_n 1, 1) := by decide +kernel
theorem dX3_cut_78 : decode cX3_cut 78 = .ok (.iconst 4, 1) := by decide +kernel
theorem dX3_cut_79 : decode cX3_cut 79 = .ok (.aload_n 0, 1) := by decide +kernel
theorem dX3_cut_80 : decode cX3_cut 80 = .ok (.getfield 38, 3) := by decide +kernel
theorem dX3_cut_83 : decode cX3_cut 83 = .ok (.imul, 1) := by decide +kernel
theorem dX3_cut_84 : decode cX3_cut 84 = .ok (.if_icmp .ge 51, 3) := by decide +kernel
theorem dX3_cut_87 : decode cX3_cut 87 = .ok (.aload_n 0, 1) := by decide +kernel
theorem dX3_cut_88 : decode cX3_cut 88 = .ok (.aload_n 0, 1) := by decide +kernel
theorem dX3_cut_89 : decode cX3_cut 89 = .ok (.getfield 7, 3) := by decide +kernel
theorem dX3_cut_92 : decode cX3_cut 92 = .ok (.iload_n 1, 1) := by decide +kernel
theorem dX3_cut_93 : decode cX3_cut 93 = .ok (.iaload, 1) := by decide +kernel
theorem dX3_cut_94 : decode cX3_cut 94 = .ok (.iconst (-1), 1) := by decide +kernel
theorem dX3_cut_95 : decode cX3_cut 95 = .ok (.if_icmp .eq 27, 3) := by decide +kernel
theorem dX3_cut_98 : decode cX3_cut 98 = .ok (.aload_n 0, 1) := by decide +kernel
theorem dX3_cut_99 : decode cX3_cut 99 = .ok (.getfield 16, 3) := by decide +kernel
theorem dX3_cut_102 : decode cX3_cut 102 = .ok (.iload_n 1, 1) := by decide +kernel
theorem dX3_cut_103 : decode cX3_cut 103 = .ok (.iaload, 1) := by decide +kernel
theorem dX3_cut_104 : decode cX3_cut 104 = .ok (.aload_n 0, 1) := by decide +kernel
theorem dX3_cut_105 : decode cX3_cut 105 = .ok (.getfield 77, 3) := by decide +kernel
theorem dX3_cut_108 : decode cX3_cut 108 = .ok (.if_icmp .lt 14, 3) := by decide +kernel
theorem dX3_cut_111 : decode cX3_cut 111 = .ok (.aload_n 0, 1) := by decide +kernel
theorem dX3_cut_112 : decode cX3_cut 112 = .ok (.getfield 16, 3) := by decide +kernel
theorem dX3_cut_115 : decode cX3_cut 115 = .ok (.iload_n 1, 1) := by decide +kernel
theorem dX3_cut_116 : decode cX3_cut 116 = .ok (.iaload, 1) := by decide +kernel
theorem dX3_cut_117 : decode cX3_cut 117 = .ok (.iconst 1, 1) := by decide +kernel
theorem dX3_cut_118 : decode cX3_cut 118 = .ok (.iadd, 1) := by decide +kernel
theorem dX3_cut_119 : decode cX3_cut 119 = .ok (.goto 7, 3) := by decide +kernel
theorem dX3_cut_122 : decode cX3_cut 122 = .ok (.aload_n 0, 1) := by decide +kernel
theorem dX3_cut_123 : decode cX3_cut 123 = .ok (.getfield 77, 3) := by decide +kernel
theorem dX3_cut_126 : decode cX3_cut 126 = .ok (.putfield 77, 3) := by decide +kernel
theorem dX3_cut_129 : decode cX3_cut 129 = .ok (.iinc 1 1, 3) := by decide +kernel
theorem dX3_cut_132 : decode cX3_cut 132 = .ok (.goto (-55), 3) := by decide +kernel
theorem dX3_cut_135 : decode cX3_cut 135 = .ok (.aload_n 0, 1) := by decide +kernel
theorem dX3_cut_136 : decode cX3_cut 136 = .ok (.invokevirtual 84, 3) := by decide +kernel
theorem dX3_cut_139 : decode cX3_cut 139 = .ok (.ifCond .gt 16, 3) := by decide +kernel
theorem dX3_cut_142 : decode cX3_cut 142 = .ok (.aload_n 0, 1) := by decide +kernel
theorem dX3_cut_143 : decode cX3_cut 143 = .ok (.aload_n 0, 1) := by decide +kernel
theorem dX3_cut_144 : decode cX3_cut 144 = .ok (.iconst 4, 1) := by decide +kernel
theorem dX3_cut_145 : decode cX3_cut 145 = .ok (.iconst 1, 1) := by decide +kernel
theorem dX3_cut_146 : decode cX3_cut 146 = .ok (.invokevirtual 87, 3) := by decide +kernel
theorem dX3_cut_149 : decode cX3_cut 149 = .ok (.invokevirtual 94, 3) := by decide +kernel
theorem dX3_cut_152 : decode cX3_cut 152 = .ok (.ifCond .eq 7, 3) := by decide +kernel
theorem dX3_cut_155 : decode cX3_cut 155 = .ok (.iconst 1, 1) := by decide +kernel
theorem dX3_cut_156 : decode cX3_cut 156 = .ok (.goto 4, 3) := by decide +kernel
theorem dX3_cut_159 : decode cX3_cut 159 = .ok (.iconst 0, 1) := by decide +kernel
theorem dX3_cut_160 : decode cX3_cut 160 = .ok (.istore_n 1, 1) := by decide +kernel
theorem dX3_cut_161 : decode cX3_cut 161 = .ok (.aload_n 0, 1) := by decide +kernel
theorem dX3_cut_162 : decode cX3_cut 162 = .ok (.iload_n 1, 1) := by decide +kernel
theorem dX3_cut_163 : decode cX3_cut 163 = .ok (.ifCond .ne 7, 3) := by decide +kernel
theorem dX3_cut_166 : decode cX3_cut 166 = .ok (.iconst 1, 1) := by decide +kernel
theorem dX3_cut_167 : decode cX3_cut 167 = .ok (.goto 4, 3) := by decide +kernel
theorem dX3_cut_170 : decode cX3_cut 170 = .ok (.iconst 0, 1) := by decide +kernel
theorem dX3_cut_171 : decode cX3_cut 171 = .ok (.putfield 66, 3) := by decide +kernel
theorem dX3_cut_174 : decode cX3_cut 174 = .ok (.goto (-169), 3) := by decide +kernel
theorem dX3_cut_177 : decode cX3_cut 177 = .ok (.return_, 1) := by decide +kernel
theorem dX3_find_0 : decode cX3_find 0 = .ok (.iconst 0, 1) := by decide +kernel
theorem dX3_find_1 : decode cX3_find 1 = .ok (.istore_n 2, 1) := by decide +kernel
theorem dX3_find_2 : decode cX3_find 2 = .ok (.iload_n 2, 1) := by decide +kernel
theorem dX3_find_3 : decode cX3_find 3 = .ok (.aload_n 0, 1) := by decide +kernel
theorem dX3_find_4 : decode cX3_find 4 = .ok (.getfield 100, 3) := by decide +kernel
theorem dX3_find_7 : decode cX3_find 7 = .ok (.if_icmp .ge 21, 3) := by decide +kernel
theorem dX3_find_10 : decode cX3_find 10 = .ok (.aload_n 0, 1) := by decide +kernel
theorem dX3_find_11 : decode cX3_find 11 = .ok (.getfield 29, 3) := by decide +kernel
theorem dX3_find_14 : decode cX3_find 14 = .ok (.iload_n 2, 1) := by decide +kernel
theorem dX3_find_15 : decode cX3_find 15 = .ok (.iaload, 1) := by decide +kernel
theorem dX3_find_16 : decode cX3_find 16 = .ok (.iload_n 1, 1) := by decide +kernel
theorem dX3_find_17 : decode cX3_find 17 = .ok (.if_icmp .ne 5, 3) := by decide +kernel
theorem dX3_find_20 : decode cX3_find 20 = .ok (.iload_n 2, 1) := by decide +kernel
theorem dX3_find_21 : decode cX3_find 21 = .ok (.ireturn, 1) := by decide +kernel
theorem dX3_find_22 : decode cX3_find 22 = .ok (.iinc 2 1, 3) := by decide +kernel
theorem dX3_find_25 : decode cX3_find 25 = .ok (.goto (-23), 3) := by decide +kernel
theorem dX3_find_28 : decode cX3_find 28 = .ok (.iconst (-1), 1) := by decide +kernel
theorem dX3_find_29 : decode cX3_find 29 = .ok (.ireturn, 1) := by decide +kernel
set_option maxRecDepth 20000 in
theorem ggX3_change_X3_isSector : GoodIn wsX3_change wsX3_isSector := goodIn_r _ [9, 10, 11, 12, 8, 13, 14, 83, 84, 85, 86, 87, 88, 89, 90, 91, 92, 93, 94, 95, 96, 97, 98] (by decide +kernel) (by decide +kernel)
set_option maxRecDepth 20000 in
theorem gX3_change_X3_isSector : GoodIn wsX3_change (wsV RX3 103 RX3 yX3_isSector wsX3_isSector) := goodIn_app (goodIn_of _ (by decide +kernel)) ggX3_change_X3_isSector
set_option maxRecDepth 20000 in
theorem ggX3_change_X3_find : GoodIn wsX3_change wsX3_find := goodIn_r _ [18, 1, 2, 83, 84, 85, 86, 87, 88, 89, 90, 91, 92, 93, 94, 95, 96, 97, 98] (by decide +kernel) (by decide +kernel)
set_option maxRecDepth 20000 in
theorem gX3_change_X3_find : GoodIn wsX3_change (wsV RX3 106 RX3 yX3_find wsX3_find) := goodIn_app (goodIn_of _ (by decide +kernel)) ggX3_change_X3_find
set_option maxRecDepth 20000 in
theorem ggX3_change_X3_store : GoodIn wsX3_change wsX3_store := goodIn_r _ [22, 2, 3, 4, 1, 23, 24, 25, 8, 26, 27, 28, 29, 30, 31, 32, 33, 34, 35, 36, 14, 37, 38, 39, 40, 41, 42, 43, 44, 45, 46, 47, 48, 49, 50, 51, 52, 53, 54, 55, 56, 57, 58, 59, 60, 61, 62, 63, 64, 65, 66, 67, 68, 69, 70, 71, 72, 73, 74, 75, 76, 77, 78, 83, 84, 85, 86, 87, 88, 89, 90, 91, 92, 93, 94, 95, 96, 97, 98] (by decide +kernel) (by decide +kernel)
set_option maxRecDepth 20000 in
theorem gX3_change_X3_store : GoodIn wsX3_change (wsV RX3 109 RX3 yX3_store wsX3_store) := goodIn_app (goodIn_of _ (by decide +kernel)) ggX3_change_X3_store
set_option maxRecDepth 20000 in
theorem ggX3_change_X3_cut : GoodIn wsX3_change wsX3_cut := goodIn_r _ [82, 77, 1, 27, 71, 14, 32, 55, 28, 29, 30, 8, 31, 33, 34, 35, 36, 37, 38, 39, 40, 41, 42, 43, 44, 45, 46, 47, 48, 49, 50, 51, 52, 53, 54, 61, 62, 63, 64, 65, 66, 67, 68, 69, 70, 72, 73, 74, 75, 76, 78, 83, 84, 85, 86, 87, 88, 89, 90, 91, 92, 93, 94, 95, 96, 97, 98] (by decide +kernel) (by decide +kernel)
set_option maxRecDepth 20000 in
theorem gX3_change_X3_cut : GoodIn wsX3_change (wsV RX3 112 RX3 yX3_cut wsX3_cut) := goodIn_app (goodIn_of _ (by decide +kernel)) ggX3_change_X3_cut
theorem dX3_change_0 : decode cX3_change 0 = .ok (.aload_n 0, 1) := by decide +kernel
theorem dX3_change_1 : decode cX3_change 1 = .ok (.iload_n 1, 1) := by decide +kernel
theorem dX3_change_2 : decode cX3_change 2 = .ok (.invokevirtual 103, 3) := by decide +kernel
theorem dX3_change_5 : decode cX3_change 5 = .ok (.ifCond .ne 5, 3) := by decide +kernel
theorem dX3_change_8 : decode cX3_change 8 = .ok (.iconst (-1), 1) := by decide +kernel
theorem dX3_change_9 : decode cX3_change 9 = .ok (.ireturn, 1) := by decide +kernel
theorem dX3_change_10 : decode cX3_change 10 = .ok (.aload_n 0, 1) := by decide +kernel
theorem dX3_change_11 : decode cX3_change 11 = .ok (.iload_n 1, 1) := by decide +kernel
theorem dX3_change_12 : decode cX3_change 12 = .ok (.invokevirtual 106, 3) := by decide +kernel
theorem dX3_change_15 : decode cX3_change 15 = .ok (.istore 4, 2) := by decide +kernel
theorem dX3_change_17 : decode cX3_change 17 = .ok (.iload 4, 2) := by decide +kernel
theorem dX3_change_19 : decode cX3_change 19 = .ok (.iconst (-1), 1) := by decide +kernel
theorem dX3_change_20 : decode cX3_change 20 = .ok (.if_icmp .ne 24, 3) := by decide +kernel
theorem dX3_change_23 : decode cX3_change 23 = .ok (.aload_n 0, 1) := by decide +kernel
theorem dX3_change_24 : decode cX3_change 24 = .ok (.getfield 100, 3) := by decide +kernel
theorem dX3_change_27 : decode cX3_change 27 = .ok (.iconst 3, 1) := by decide +kernel
theorem dX3_change_28 : decode cX3_change 28 = .ok (.if_icmp .ne 16, 3) := by decide +kernel
theorem dX3_change_31 : decode cX3_change 31 = .ok (.aload_n 0, 1) := by decide +kernel
theorem dX3_change_32 : decode cX3_change 32 = .ok (.invokevirtual 109, 3) := by decide +kernel
theorem dX3_change_35 : decode cX3_change 35 = .ok (.ifCond .ne 9, 3) := by decide +kernel
theorem dX3_change_38 : decode cX3_change 38 = .ok (.aload_n 0, 1) := by decide +kernel
theorem dX3_change_39 : decode cX3_change 39 = .ok (.invokevirtual 112, 3) := by decide +kernel
theorem dX3_change_42 : decode cX3_change 42 = .ok (.iconst 1, 1) := by decide +kernel
theorem dX3_change_43 : decode cX3_change 43 = .ok (.ireturn, 1) := by decide +kernel
theorem dX3_change_44 : decode cX3_change 44 = .ok (.iload 4, 2) := by decide +kernel
theorem dX3_change_46 : decode cX3_change 46 = .ok (.iconst (-1), 1) := by decide +kernel
theorem dX3_change_47 : decode cX3_change 47 = .ok (.if_icmp .ne 19, 3) := by decide +kernel
theorem dX3_change_50 : decode cX3_change 50 = .ok (.aload_n 0, 1) := by decide +kernel
theorem dX3_change_51 : decode cX3_change 51 = .ok (.getfield 100, 3) := by decide +kernel
theorem dX3_change_54 : decode cX3_change 54 = .ok (.istore 4, 2) := by decide +kernel
theorem dX3_change_56 : decode cX3_change 56 = .ok (.aload_n 0, 1) := by decide +kernel
theorem dX3_change_57 : decode cX3_change 57 = .ok (.dup, 1) := by decide +kernel
theorem dX3_change_58 : decode cX3_change 58 = .ok (.getfield 100, 3) := by decide +kernel
theorem dX3_change_61 : decode cX3_change 61 = .ok (.iconst 1, 1) := by decide +kernel
theorem dX3_change_62 : decode cX3_change 62 = .ok (.iadd, 1) := by decide +kernel
theorem dX3_change_63 : decode cX3_change 63 = .ok (.putfield 100, 3) := by decide +kernel
theorem dX3_change_66 : decode cX3_change 66 = .ok (.aload_n 0, 1) := by decide +kernel
theorem dX3_change_67 : decode cX3_change 67 = .ok (.getfield 29, 3) := by decide +kernel
theorem dX3_change_70 : decode cX3_change 70 = .ok (.iload 4, 2) := by decide +kernel
theorem dX3_change_72 : decode cX3_change 72 = .ok (.iload_n 1, 1) := by decide +kernel
theorem dX3_change_73 : decode cX3_change 73 = .ok (.iastore, 1) := by decide +kernel
theorem dX3_change_74 : decode cX3_change 74 = .ok (.aload_n 0, 1) := by decide +kernel
theorem dX3_change_75 : decode cX3_change 75 = .ok (.getfield 32, 3) := by decide +kernel
theorem dX3_change_78 : decode cX3_change 78 = .ok (.iload 4, 2) := by decide +kernel
theorem dX3_change_80 : decode cX3_change 80 = .ok (.iload_n 2, 1) := by decide +kernel
theorem dX3_change_81 : decode cX3_change 81 = .ok (.iastore, 1) := by decide +kernel
theorem dX3_change_82 : decode cX3_change 82 = .ok (.aload_n 0, 1) := by decide +kernel
theorem dX3_change_83 : decode cX3_change 83 = .ok (.getfield 35, 3) := by decide +kernel
theorem dX3_change_86 : decode cX3_change 86 = .ok (.iload 4, 2) := by decide +kernel
theorem dX3_change_88 : decode cX3_change 88 = .ok (.iload_n 3, 1) := by decide +kernel
theorem dX3_change_89 : decode cX3_change 89 = .ok (.iastore, 1) := by decide +kernel
theorem dX3_change_90 : decode cX3_change 90 = .ok (.iconst 0, 1) := by decide +kernel
theorem dX3_change_91 : decode cX3_change 91 = .ok (.ireturn, 1) := by decide +kernel
set_option maxRecDepth 20000 in
theorem ggX3_write_X3_change : GoodIn wsX3_write wsX3_change := goodIn_r _ [5, 6, 7, 8, 9, 10, 11, 12, 4, 13, 14, 15, 16, 17, 18, 19, 20, 21, 22, 23, 24, 25, 26, 27, 28, 29, 30, 31, 32, 33, 34, 35, 36, 37, 38, 39, 40, 41, 42, 43, 44, 45, 46, 47, 48, 49, 50, 51, 52, 53, 54, 55, 56, 57, 58, 59, 60, 61, 62, 63, 64, 65, 66, 67, 68, 69, 70, 71, 72, 73, 74, 75, 76, 77, 78, 79, 80, 81, 82, 83, 84, 85, 86, 87, 88, 89, 90, 91, 92, 93, 94, 95, 96, 97, 98, 99, 100, 101, 102] (by decide +kernel) (by decide +kernel)
set_option maxRecDepth 20000 in
theorem gX3_write_X3_change : GoodIn wsX3_write (wsV RX3 115 RX3 yX3_change wsX3_change) := goodIn_app (goodIn_of _ (by decide +kernel)) ggX3_write_X3_change
theorem dX3_write_0 : decode cX3_write 0 = .ok (.aload_n 0, 1) := by decide +kernel
theorem dX3_write_1 : decode cX3_write 1 = .ok (.iload_n 1, 1) := by decide +kernel
theorem dX3_write_2 : decode cX3_write 2 = .ok (.iload_n 2, 1) := by decide +kernel
theorem dX3_write_3 : decode cX3_write 3 = .ok (.iconst 1, 1) := by decide +kernel
theorem dX3_write_4 : decode cX3_write 4 = .ok (.invokevirtual 115, 3) := by decide +kernel
theorem dX3_write_7 : decode cX3_write 7 = .ok (.ireturn, 1) := by decide +kernel
set_option maxRecDepth 20000 in
theorem ggX3_trim_X3_change : GoodIn wsX3_trim wsX3_change := goodIn_r _ [5, 6, 7, 8, 9, 10, 11, 12, 4, 13, 14, 15, 16, 17, 18, 19, 20, 21, 22, 23, 24, 25, 26, 27, 28, 29, 30, 31, 32, 33, 34, 35, 36, 37, 38, 39, 40, 41, 42, 43, 44, 45, 46, 47, 48, 49, 50, 51, 52, 53, 54, 55, 56, 57, 58, 59, 60, 61, 62, 63, 64, 65, 66, 67, 68, 69, 70, 71, 72, 73, 74, 75, 76, 77, 78, 79, 80, 81, 82, 83, 84, 85, 86, 87, 88, 89, 90, 91, 92, 93, 94, 95, 96, 97, 98, 99, 100, 101, 102] (by decide +kernel) (by decide +kernel)
set_option maxRecDepth 20000 in
theorem gX3_trim_X3_change : GoodIn wsX3_trim (wsV RX3 115 RX3 yX3_change wsX3_change) := goodIn_app (goodIn_of _ (by decide +kernel)) ggX3_trim_X3_change
theorem dX3_trim_0 : decode cX3_trim 0 = .ok (.aload_n 0, 1) := by decide +kernel
theorem dX3_trim_1 : decode cX3_trim 1 = .ok (.iload_n 1, 1) := by decide +kernel
theorem dX3_trim_2 : decode cX3_trim 2 = .ok (.iconst 0, 1) := by decide +kernel
theorem dX3_trim_3 : decode cX3_trim 3 = .ok (.iconst 2, 1) := by decide +kernel
theorem dX3_trim_4 : decode cX3_trim 4 = .ok (.invokevirtual 115, 3) := by decide +kernel
theorem dX3_trim_7 : decode cX3_trim 7 = .ok (.ireturn, 1) := by decide +kernel
set_option maxRecDepth 20000 in
theorem ggX3_flush_X3_store : GoodIn wsX3_flush wsX3_store := goodIn_r _ [6, 7, 8, 9, 1, 10, 11, 12, 5, 13, 14, 15, 16, 17, 18, 19, 20, 21, 22, 23, 24, 25, 26, 27, 28, 29, 30, 31, 32, 33, 34, 35, 36, 37, 38, 39, 40, 41, 42, 43, 44, 45, 46, 47, 48, 49, 50, 51, 52, 53, 54, 55, 56, 57, 58, 59, 60, 61, 62, 63, 64, 65, 66, 71, 72, 73, 74, 75, 76, 77, 78, 79, 80, 81, 82, 83, 84, 85, 86] (by decide +kernel) (by decide +kernel)
set_option maxRecDepth 20000 in
theorem gX3_flush_X3_store : GoodIn wsX3_flush (wsV RX3 109 RX3 yX3_store wsX3_store) := goodIn_app (goodIn_of _ (by decide +kernel)) ggX3_flush_X3_store
set_option maxRecDepth 20000 in
theorem ggX3_flush_X3_cut : GoodIn wsX3_flush wsX3_cut := goodIn_r _ [70, 65, 1, 14, 59, 24, 19, 43, 15, 16, 17, 5, 18, 20, 21, 22, 23, 25, 26, 27, 28, 29, 30, 31, 32, 33, 34, 35, 36, 37, 38, 39, 40, 41, 42, 49, 50, 51, 52, 53, 54, 55, 56, 57, 58, 60, 61, 62, 63, 64, 66, 71, 72, 73, 74, 75, 76, 77, 78, 79, 80, 81, 82, 83, 84, 85, 86] (by decide +kernel) (by decide +kernel)
set_option maxRecDepth 20000 in
theorem gX3_flush_X3_cut : GoodIn wsX3_flush (wsV RX3 112 RX3 yX3_cut wsX3_cut) := goodIn_app (goodIn_of _ (by decide +kernel)) ggX3_flush_X3_cut
theorem dX3_flush_0 : decode cX3_flush 0 = .ok (.aload_n 0, 1) := by decide +kernel
theorem dX3_flush_1 : decode cX3_flush 1 = .ok (.getfield 100, 3) := by decide +kernel
theorem dX3_flush_4 : decode cX3_flush 4 = .ok (.ifCond .le 16, 3) := by decide +kernel
theorem dX3_flush_7 : decode cX3_flush 7 = .ok (.aload_n 0, 1) := by decide +kernel
theorem dX3_flush_8 : decode cX3_flush 8 = .ok (.invokevirtual 109, 3) := by decide +kernel
theorem dX3_flush_11 : decode cX3_flush 11 = .ok (.ifCond .ne (-11), 3) := by decide +kernel
theorem dX3_flush_14 : decode cX3_flush 14 = .ok (.aload_n 0, 1) := by decide +kernel
theorem dX3_flush_15 : decode cX3_flush 15 = .ok (.invokevirtual 112, 3) := by decide +kernel
theorem dX3_flush_18 : decode cX3_flush 18 = .ok (.iconst 1, 1) := by decide +kernel
theorem dX3_flush_19 : decode cX3_flush 19 = .ok (.ireturn, 1) := by decide +kernel
theorem dX3_flush_20 : decode cX3_flush 20 = .ok (.iconst 0, 1) := by decide +kernel
theorem dX3_flush_21 : decode cX3_flush 21 = .ok (.ireturn, 1) := by decide +kernel
theorem dX3_fuse_0 : decode cX3_fuse 0 = .ok (.iload_n 1, 1) := by decide +kernel
theorem dX3_fuse_1 : decode cX3_fuse 1 = .ok (.ifCond .lt 10, 3) := by decide +kernel
theorem dX3_fuse_4 : decode cX3_fuse 4 = .ok (.iload_n 1, 1) := by decide +kernel
theorem dX3_fuse_5 : decode cX3_fuse 5 = .ok (.sipush 1000, 3) := by decide +kernel
theorem dX3_fuse_8 : decode cX3_fuse 8 = .ok (.if_icmp .le 5, 3) := by decide +kernel
theorem dX3_fuse_11 : decode cX3_fuse 11 = .ok (.iconst 0, 1) := by decide +kernel
theorem dX3_fuse_12 : decode cX3_fuse 12 = .ok (.ireturn, 1) := by decide +kernel
theorem dX3_fuse_13 : decode cX3_fuse 13 = .ok (.aload_n 0, 1) := by decide +kernel
theorem dX3_fuse_14 : decode cX3_fuse 14 = .ok (.iload_n 1, 1) := by decide +kernel
theorem dX3_fuse_15 : decode cX3_fuse 15 = .ok (.putfield 63, 3) := by decide +kernel
theorem dX3_fuse_18 : decode cX3_fuse 18 = .ok (.iconst 1, 1) := by decide +kernel
theorem dX3_fuse_19 : decode cX3_fuse 19 = .ok (.ireturn, 1) := by decide +kernel
set_option maxRecDepth 20000 in
theorem ggX3_read_X3_isSector : GoodIn wsX3_read wsX3_isSector := goodIn_r _ [7, 8, 9, 10, 6, 11, 12, 25, 26, 27, 28, 29, 30, 31, 32, 33, 34, 35, 36, 37, 38, 39, 40] (by decide +kernel) (by decide +kernel)
set_option maxRecDepth 20000 in
theorem gX3_read_X3_isSector : GoodIn wsX3_read (wsV RX3 103 RX3 yX3_isSector wsX3_isSector) := goodIn_app (goodIn_of _ (by decide +kernel)) ggX3_read_X3_isSector
set_option maxRecDepth 20000 in
theorem ggX3_read_X3_find : GoodIn wsX3_read wsX3_find := goodIn_r _ [16, 17, 18, 25, 26, 27, 28, 29, 30, 31, 32, 33, 34, 35, 36, 37, 38, 39, 40] (by decide +kernel) (by decide +kernel)
set_option maxRecDepth 20000 in
theorem gX3_read_X3_find : GoodIn wsX3_read (wsV RX3 106 RX3 yX3_find wsX3_find) := goodIn_app (goodIn_of _ (by decide +kernel)) ggX3_read_X3_find
set_option maxRecDepth 20000 in
theorem ggX3_read_X3_newest : GoodIn wsX3_read wsX3_newest := goodIn_r _ [22, 12, 23, 24, 25, 26, 27, 28, 29, 30, 31, 32, 33, 34, 35, 36, 37, 38, 39, 40] (by decide +kernel) (by decide +kernel)
set_option maxRecDepth 20000 in
theorem gX3_read_X3_newest : GoodIn wsX3_read (wsV RX3 48 RX3 yX3_newest wsX3_newest) := goodIn_app (goodIn_of _ (by decide +kernel)) ggX3_read_X3_newest
theorem dX3_read_0 : decode cX3_read 0 = .ok (.aload_n 0, 1) := by decide +kernel
theorem dX3_read_1 : decode cX3_read 1 = .ok (.iload_n 1, 1) := by decide +kernel
theorem dX3_read_2 : decode cX3_read 2 = .ok (.invokevirtual 103, 3) := by decide +kernel
theorem dX3_read_5 : decode cX3_read 5 = .ok (.ifCond .eq 11, 3) := by decide +kernel
theorem dX3_read_8 : decode cX3_read 8 = .ok (.aload_n 0, 1) := by decide +kernel
theorem dX3_read_9 : decode cX3_read 9 = .ok (.iload_n 1, 1) := by decide +kernel
theorem dX3_read_10 : decode cX3_read 10 = .ok (.invokevirtual 106, 3) := by decide +kernel
theorem dX3_read_13 : decode cX3_read 13 = .ok (.goto 4, 3) := by decide +kernel
theorem dX3_read_16 : decode cX3_read 16 = .ok (.iconst (-1), 1) := by decide +kernel
theorem dX3_read_17 : decode cX3_read 17 = .ok (.istore_n 2, 1) := by decide +kernel
theorem dX3_read_18 : decode cX3_read 18 = .ok (.iload_n 2, 1) := by decide +kernel
theorem dX3_read_19 : decode cX3_read 19 = .ok (.iconst (-1), 1) := by decide +kernel
theorem dX3_read_20 : decode cX3_read 20 = .ok (.if_icmp .eq 10, 3) := by decide +kernel
theorem dX3_read_23 : decode cX3_read 23 = .ok (.aload_n 0, 1) := by decide +kernel
theorem dX3_read_24 : decode cX3_read 24 = .ok (.getfield 32, 3) := by decide +kernel
theorem dX3_read_27 : decode cX3_read 27 = .ok (.iload_n 2, 1) := by decide +kernel
theorem dX3_read_28 : decode cX3_read 28 = .ok (.iaload, 1) := by decide +kernel
theorem dX3_read_29 : decode cX3_read 29 = .ok (.ireturn, 1) := by decide +kernel
theorem dX3_read_30 : decode cX3_read 30 = .ok (.aload_n 0, 1) := by decide +kernel
theorem dX3_read_31 : decode cX3_read 31 = .ok (.iload_n 1, 1) := by decide +kernel
theorem dX3_read_32 : decode cX3_read 32 = .ok (.invokevirtual 103, 3) := by decide +kernel
theorem dX3_read_35 : decode cX3_read 35 = .ok (.ifCond .eq 11, 3) := by decide +kernel
theorem dX3_read_38 : decode cX3_read 38 = .ok (.aload_n 0, 1) := by decide +kernel
theorem dX3_read_39 : decode cX3_read 39 = .ok (.iload_n 1, 1) := by decide +kernel
theorem dX3_read_40 : decode cX3_read 40 = .ok (.invokevirtual 48, 3) := by decide +kernel
theorem dX3_read_43 : decode cX3_read 43 = .ok (.goto 4, 3) := by decide +kernel
theorem dX3_read_46 : decode cX3_read 46 = .ok (.iconst (-1), 1) := by decide +kernel
theorem dX3_read_47 : decode cX3_read 47 = .ok (.istore_n 3, 1) := by decide +kernel
theorem dX3_read_48 : decode cX3_read 48 = .ok (.iload_n 3, 1) := by decide +kernel
theorem dX3_read_49 : decode cX3_read 49 = .ok (.iconst (-1), 1) := by decide +kernel
theorem dX3_read_50 : decode cX3_read 50 = .ok (.if_icmp .ne 7, 3) := by decide +kernel
theorem dX3_read_53 : decode cX3_read 53 = .ok (.iconst 0, 1) := by decide +kernel
theorem dX3_read_54 : decode cX3_read 54 = .ok (.goto 9, 3) := by decide +kernel
theorem dX3_read_57 : decode cX3_read 57 = .ok (.aload_n 0, 1) := by decide +kernel
theorem dX3_read_58 : decode cX3_read 58 = .ok (.getfield 13, 3) := by decide +kernel
theorem dX3_read_61 : decode cX3_read 61 = .ok (.iload_n 3, 1) := by decide +kernel
theorem dX3_read_62 : decode cX3_read 62 = .ok (.iaload, 1) := by decide +kernel
theorem dX3_read_63 : decode cX3_read 63 = .ok (.ireturn, 1) := by decide +kernel
set_option maxRecDepth 20000 in
theorem ggX3_holds_X3_isSector : GoodIn wsX3_holds wsX3_isSector := goodIn_r _ [7, 8, 9, 10, 6, 11, 12, 25, 26, 27, 28, 29, 30, 31, 32, 33, 34, 35, 36, 37, 38, 39, 40] (by decide +kernel) (by decide +kernel)
set_option maxRecDepth 20000 in
theorem gX3_holds_X3_isSector : GoodIn wsX3_holds (wsV RX3 103 RX3 yX3_isSector wsX3_isSector) := goodIn_app (goodIn_of _ (by decide +kernel)) ggX3_holds_X3_isSector
set_option maxRecDepth 20000 in
theorem ggX3_holds_X3_find : GoodIn wsX3_holds wsX3_find := goodIn_r _ [16, 17, 18, 25, 26, 27, 28, 29, 30, 31, 32, 33, 34, 35, 36, 37, 38, 39, 40] (by decide +kernel) (by decide +kernel)
set_option maxRecDepth 20000 in
theorem gX3_holds_X3_find : GoodIn wsX3_holds (wsV RX3 106 RX3 yX3_find wsX3_find) := goodIn_app (goodIn_of _ (by decide +kernel)) ggX3_holds_X3_find
set_option maxRecDepth 20000 in
theorem ggX3_holds_X3_newest : GoodIn wsX3_holds wsX3_newest := goodIn_r _ [22, 12, 23, 24, 25, 26, 27, 28, 29, 30, 31, 32, 33, 34, 35, 36, 37, 38, 39, 40] (by decide +kernel) (by decide +kernel)
set_option maxRecDepth 20000 in
theorem gX3_holds_X3_newest : GoodIn wsX3_holds (wsV RX3 48 RX3 yX3_newest wsX3_newest) := goodIn_app (goodIn_of _ (by decide +kernel)) ggX3_holds_X3_newest
theorem dX3_holds_0 : decode cX3_holds 0 = .ok (.aload_n 0, 1) := by decide +kernel
theorem dX3_holds_1 : decode cX3_holds 1 = .ok (.iload_n 1, 1) := by decide +kernel
theorem dX3_holds_2 : decode cX3_holds 2 = .ok (.invokevirtual 103, 3) := by decide +kernel
theorem dX3_holds_5 : decode cX3_holds 5 = .ok (.ifCond .eq 11, 3) := by decide +kernel
theorem dX3_holds_8 : decode cX3_holds 8 = .ok (.aload_n 0, 1) := by decide +kernel
theorem dX3_holds_9 : decode cX3_holds 9 = .ok (.iload_n 1, 1) := by decide +kernel
theorem dX3_holds_10 : decode cX3_holds 10 = .ok (.invokevirtual 106, 3) := by decide +kernel
theorem dX3_holds_13 : decode cX3_holds 13 = .ok (.goto 4, 3) := by decide +kernel
theorem dX3_holds_16 : decode cX3_holds 16 = .ok (.iconst (-1), 1) := by decide +kernel
theorem dX3_holds_17 : decode cX3_holds 17 = .ok (.istore_n 2, 1) := by decide +kernel
theorem dX3_holds_18 : decode cX3_holds 18 = .ok (.iload_n 2, 1) := by decide +kernel
theorem dX3_holds_19 : decode cX3_holds 19 = .ok (.iconst (-1), 1) := by decide +kernel
theorem dX3_holds_20 : decode cX3_holds 20 = .ok (.if_icmp .eq 10, 3) := by decide +kernel
theorem dX3_holds_23 : decode cX3_holds 23 = .ok (.aload_n 0, 1) := by decide +kernel
theorem dX3_holds_24 : decode cX3_holds 24 = .ok (.getfield 35, 3) := by decide +kernel
theorem dX3_holds_27 : decode cX3_holds 27 = .ok (.iload_n 2, 1) := by decide +kernel
theorem dX3_holds_28 : decode cX3_holds 28 = .ok (.iaload, 1) := by decide +kernel
theorem dX3_holds_29 : decode cX3_holds 29 = .ok (.ireturn, 1) := by decide +kernel
theorem dX3_holds_30 : decode cX3_holds 30 = .ok (.aload_n 0, 1) := by decide +kernel
theorem dX3_holds_31 : decode cX3_holds 31 = .ok (.iload_n 1, 1) := by decide +kernel
theorem dX3_holds_32 : decode cX3_holds 32 = .ok (.invokevirtual 103, 3) := by decide +kernel
theorem dX3_holds_35 : decode cX3_holds 35 = .ok (.ifCond .eq 11, 3) := by decide +kernel
theorem dX3_holds_38 : decode cX3_holds 38 = .ok (.aload_n 0, 1) := by decide +kernel
theorem dX3_holds_39 : decode cX3_holds 39 = .ok (.iload_n 1, 1) := by decide +kernel
theorem dX3_holds_40 : decode cX3_holds 40 = .ok (.invokevirtual 48, 3) := by decide +kernel
theorem dX3_holds_43 : decode cX3_holds 43 = .ok (.goto 4, 3) := by decide +kernel
theorem dX3_holds_46 : decode cX3_holds 46 = .ok (.iconst (-1), 1) := by decide +kernel
theorem dX3_holds_47 : decode cX3_holds 47 = .ok (.istore_n 3, 1) := by decide +kernel
end
section
theorem dX3_holds_48 : decode cX3_holds 48 = .ok (.iload_n 3, 1) := by decide +kernel
theorem dX3_holds_49 : decode cX3_holds 49 = .ok (.iconst (-1), 1) := by decide +kernel
theorem dX3_holds_50 : decode cX3_holds 50 = .ok (.if_icmp .ne 7, 3) := by decide +kernel
theorem dX3_holds_53 : decode cX3_holds 53 = .ok (.iconst 0, 1) := by decide +kernel
theorem dX3_holds_54 : decode cX3_holds 54 = .ok (.goto 9, 3) := by decide +kernel
theorem dX3_holds_57 : decode cX3_holds 57 = .ok (.aload_n 0, 1) := by decide +kernel
theorem dX3_holds_58 : decode cX3_holds 58 = .ok (.getfield 19, 3) := by decide +kernel
theorem dX3_holds_61 : decode cX3_holds 61 = .ok (.iload_n 3, 1) := by decide +kernel
theorem dX3_holds_62 : decode cX3_holds 62 = .ok (.iaload, 1) := by decide +kernel
theorem dX3_holds_63 : decode cX3_holds 63 = .ok (.ireturn, 1) := by decide +kernel
theorem dX3_buffered_0 : decode cX3_buffered 0 = .ok (.aload_n 0, 1) := by decide +kernel
theorem dX3_buffered_1 : decode cX3_buffered 1 = .ok (.getfield 100, 3) := by decide +kernel
theorem dX3_buffered_4 : decode cX3_buffered 4 = .ok (.ireturn, 1) := by decide +kernel
set_option maxRecDepth 20000 in
theorem ggX3_place_X3_isSector : GoodIn wsX3_place wsX3_isSector := goodIn_r _ [5, 6, 7, 8, 4, 9, 10, 17, 18, 19, 20, 21, 22, 23, 24, 25, 26, 27, 28, 29, 30, 31, 32] (by decide +kernel) (by decide +kernel)
set_option maxRecDepth 20000 in
theorem gX3_place_X3_isSector : GoodIn wsX3_place (wsV RX3 103 RX3 yX3_isSector wsX3_isSector) := goodIn_app (goodIn_of _ (by decide +kernel)) ggX3_place_X3_isSector
set_option maxRecDepth 20000 in
theorem ggX3_place_X3_newest : GoodIn wsX3_place wsX3_newest := goodIn_r _ [14, 10, 15, 16, 17, 18, 19, 20, 21, 22, 23, 24, 25, 26, 27, 28, 29, 30, 31, 32] (by decide +kernel) (by decide +kernel)
set_option maxRecDepth 20000 in
theorem gX3_place_X3_newest : GoodIn wsX3_place (wsV RX3 48 RX3 yX3_newest wsX3_newest) := goodIn_app (goodIn_of _ (by decide +kernel)) ggX3_place_X3_newest
theorem dX3_place_0 : decode cX3_place 0 = .ok (.aload_n 0, 1) := by decide +kernel
theorem dX3_place_1 : decode cX3_place 1 = .ok (.iload_n 1, 1) := by decide +kernel
theorem dX3_place_2 : decode cX3_place 2 = .ok (.invokevirtual 103, 3) := by decide +kernel
theorem dX3_place_5 : decode cX3_place 5 = .ok (.ifCond .eq 11, 3) := by decide +kernel
theorem dX3_place_8 : decode cX3_place 8 = .ok (.aload_n 0, 1) := by decide +kernel
theorem dX3_place_9 : decode cX3_place 9 = .ok (.iload_n 1, 1) := by decide +kernel
theorem dX3_place_10 : decode cX3_place 10 = .ok (.invokevirtual 48, 3) := by decide +kernel
theorem dX3_place_13 : decode cX3_place 13 = .ok (.goto 4, 3) := by decide +kernel
theorem dX3_place_16 : decode cX3_place 16 = .ok (.iconst (-1), 1) := by decide +kernel
theorem dX3_place_17 : decode cX3_place 17 = .ok (.ireturn, 1) := by decide +kernel
set_option maxRecDepth 20000 in
theorem ggX3_tag_X3_isPlace : GoodIn wsX3_tag wsX3_isPlace := goodIn_r _ [6, 7, 8, 9, 10, 11, 12, 13, 14, 15, 16, 17, 18, 19, 20, 21, 22, 23] (by decide +kernel) (by decide +kernel)
set_option maxRecDepth 20000 in
theorem gX3_tag_X3_isPlace : GoodIn wsX3_tag (wsV RX3 119 RX3 yX3_isPlace wsX3_isPlace) := goodIn_app (goodIn_of _ (by decide +kernel)) ggX3_tag_X3_isPlace
theorem dX3_tag_0 : decode cX3_tag 0 = .ok (.aload_n 0, 1) := by decide +kernel
theorem dX3_tag_1 : decode cX3_tag 1 = .ok (.iload_n 1, 1) := by decide +kernel
theorem dX3_tag_2 : decode cX3_tag 2 = .ok (.invokevirtual 119, 3) := by decide +kernel
theorem dX3_tag_5 : decode cX3_tag 5 = .ok (.ifCond .eq 12, 3) := by decide +kernel
theorem dX3_tag_8 : decode cX3_tag 8 = .ok (.aload_n 0, 1) := by decide +kernel
theorem dX3_tag_9 : decode cX3_tag 9 = .ok (.getfield 7, 3) := by decide +kernel
theorem dX3_tag_12 : decode cX3_tag 12 = .ok (.iload_n 1, 1) := by decide +kernel
theorem dX3_tag_13 : decode cX3_tag 13 = .ok (.iaload, 1) := by decide +kernel
theorem dX3_tag_14 : decode cX3_tag 14 = .ok (.goto 4, 3) := by decide +kernel
theorem dX3_tag_17 : decode cX3_tag 17 = .ok (.iconst (-1), 1) := by decide +kernel
theorem dX3_tag_18 : decode cX3_tag 18 = .ok (.ireturn, 1) := by decide +kernel
set_option maxRecDepth 20000 in
theorem ggX3_serial_X3_isPlace : GoodIn wsX3_serial wsX3_isPlace := goodIn_r _ [7, 8, 9, 10, 11, 12, 13, 14, 15, 16, 17, 18, 19, 20, 21, 22, 23, 24] (by decide +kernel) (by decide +kernel)
set_option maxRecDepth 20000 in
theorem gX3_serial_X3_isPlace : GoodIn wsX3_serial (wsV RX3 119 RX3 yX3_isPlace wsX3_isPlace) := goodIn_app (goodIn_of _ (by decide +kernel)) ggX3_serial_X3_isPlace
theorem dX3_serial_0 : decode cX3_serial 0 = .ok (.aload_n 0, 1) := by decide +kernel
theorem dX3_serial_1 : decode cX3_serial 1 = .ok (.iload_n 1, 1) := by decide +kernel
theorem dX3_serial_2 : decode cX3_serial 2 = .ok (.invokevirtual 119, 3) := by decide +kernel
theorem dX3_serial_5 : decode cX3_serial 5 = .ok (.ifCond .eq 22, 3) := by decide +kernel
theorem dX3_serial_8 : decode cX3_serial 8 = .ok (.aload_n 0, 1) := by decide +kernel
theorem dX3_serial_9 : decode cX3_serial 9 = .ok (.getfield 7, 3) := by decide +kernel
theorem dX3_serial_12 : decode cX3_serial 12 = .ok (.iload_n 1, 1) := by decide +kernel
theorem dX3_serial_13 : decode cX3_serial 13 = .ok (.iaload, 1) := by decide +kernel
theorem dX3_serial_14 : decode cX3_serial 14 = .ok (.iconst (-1), 1) := by decide +kernel
theorem dX3_serial_15 : decode cX3_serial 15 = .ok (.if_icmp .eq 12, 3) := by decide +kernel
theorem dX3_serial_18 : decode cX3_serial 18 = .ok (.aload_n 0, 1) := by decide +kernel
theorem dX3_serial_19 : decode cX3_serial 19 = .ok (.getfield 16, 3) := by decide +kernel
theorem dX3_serial_22 : decode cX3_serial 22 = .ok (.iload_n 1, 1) := by decide +kernel
theorem dX3_serial_23 : decode cX3_serial 23 = .ok (.iaload, 1) := by decide +kernel
theorem dX3_serial_24 : decode cX3_serial 24 = .ok (.goto 4, 3) := by decide +kernel
theorem dX3_serial_27 : decode cX3_serial 27 = .ok (.iconst (-1), 1) := by decide +kernel
theorem dX3_serial_28 : decode cX3_serial 28 = .ok (.ireturn, 1) := by decide +kernel
set_option maxRecDepth 20000 in
theorem ggX3_valid_X3_isBlock : GoodIn wsX3_valid wsX3_isBlock := goodIn_r _ [5, 6, 21, 22, 23, 24, 25, 26, 27, 28, 29, 30, 31, 32, 33, 34, 35, 36] (by decide +kernel) (by decide +kernel)
set_option maxRecDepth 20000 in
theorem gX3_valid_X3_isBlock : GoodIn wsX3_valid (wsV RX3 122 RX3 yX3_isBlock wsX3_isBlock) := goodIn_app (goodIn_of _ (by decide +kernel)) ggX3_valid_X3_isBlock
set_option maxRecDepth 20000 in
theorem ggX3_valid_X3_validIn : GoodIn wsX3_valid wsX3_validIn := goodIn_r _ [10, 11, 12, 13, 4, 14, 15, 16, 17, 18, 19, 6, 20, 21, 22, 23, 24, 25, 26, 27, 28, 29, 30, 31, 32, 33, 34, 35, 36] (by decide +kernel) (by decide +kernel)
set_option maxRecDepth 20000 in
theorem gX3_valid_X3_validIn : GoodIn wsX3_valid (wsV RX3 60 RX3 yX3_validIn wsX3_validIn) := goodIn_app (goodIn_of _ (by decide +kernel)) ggX3_valid_X3_validIn
theorem dX3_valid_0 : decode cX3_valid 0 = .ok (.aload_n 0, 1) := by decide +kernel
theorem dX3_valid_1 : decode cX3_valid 1 = .ok (.iload_n 1, 1) := by decide +kernel
theorem dX3_valid_2 : decode cX3_valid 2 = .ok (.invokevirtual 122, 3) := by decide +kernel
theorem dX3_valid_5 : decode cX3_valid 5 = .ok (.ifCond .eq 11, 3) := by decide +kernel
theorem dX3_valid_8 : decode cX3_valid 8 = .ok (.aload_n 0, 1) := by decide +kernel
theorem dX3_valid_9 : decode cX3_valid 9 = .ok (.iload_n 1, 1) := by decide +kernel
theorem dX3_valid_10 : decode cX3_valid 10 = .ok (.invokevirtual 60, 3) := by decide +kernel
theorem dX3_valid_13 : decode cX3_valid 13 = .ok (.goto 4, 3) := by decide +kernel
theorem dX3_valid_16 : decode cX3_valid 16 = .ok (.iconst (-1), 1) := by decide +kernel
theorem dX3_valid_17 : decode cX3_valid 17 = .ok (.ireturn, 1) := by decide +kernel
set_option maxRecDepth 20000 in
theorem ggX3_erasures_X3_isBlock : GoodIn wsX3_erasures wsX3_isBlock := goodIn_r _ [6, 7, 8, 9, 10, 11, 12, 13, 14, 15, 16, 17, 18, 19, 20, 21, 22, 23] (by decide +kernel) (by decide +kernel)
set_option maxRecDepth 20000 in
theorem gX3_erasures_X3_isBlock : GoodIn wsX3_erasures (wsV RX3 122 RX3 yX3_isBlock wsX3_isBlock) := goodIn_app (goodIn_of _ (by decide +kernel)) ggX3_erasures_X3_isBlock
theorem dX3_erasures_0 : decode cX3_erasures 0 = .ok (.aload_n 0, 1) := by decide +kernel
theorem dX3_erasures_1 : decode cX3_erasures 1 = .ok (.iload_n 1, 1) := by decide +kernel
theorem dX3_erasures_2 : decode cX3_erasures 2 = .ok (.invokevirtual 122, 3) := by decide +kernel
theorem dX3_erasures_5 : decode cX3_erasures 5 = .ok (.ifCond .eq 12, 3) := by decide +kernel
theorem dX3_erasures_8 : decode cX3_erasures 8 = .ok (.aload_n 0, 1) := by decide +kernel
theorem dX3_erasures_9 : decode cX3_erasures 9 = .ok (.getfield 22, 3) := by decide +kernel
theorem dX3_erasures_12 : decode cX3_erasures 12 = .ok (.iload_n 1, 1) := by decide +kernel
theorem dX3_erasures_13 : decode cX3_erasures 13 = .ok (.iaload, 1) := by decide +kernel
theorem dX3_erasures_14 : decode cX3_erasures 14 = .ok (.goto 4, 3) := by decide +kernel
theorem dX3_erasures_17 : decode cX3_erasures 17 = .ok (.iconst (-1), 1) := by decide +kernel
theorem dX3_erasures_18 : decode cX3_erasures 18 = .ok (.ireturn, 1) := by decide +kernel
theorem dX3_open_0 : decode cX3_open 0 = .ok (.aload_n 0, 1) := by decide +kernel
theorem dX3_open_1 : decode cX3_open 1 = .ok (.getfield 25, 3) := by decide +kernel
theorem dX3_open_4 : decode cX3_open 4 = .ok (.ireturn, 1) := by decide +kernel
set_option maxRecDepth 20000 in
theorem ggX3_free_X3_freeBlocks : GoodIn wsX3_free wsX3_freeBlocks := goodIn_r _ [5, 6, 7, 8, 9, 4, 10, 11, 12, 13, 14, 15, 16, 17, 18, 19, 20, 21, 22, 23, 24, 25, 26, 27] (by decide +kernel) (by decide +kernel)
set_option maxRecDepth 20000 in
theorem gX3_free_X3_freeBlocks : GoodIn wsX3_free (wsV RX3 84 RX3 yX3_freeBlocks wsX3_freeBlocks) := goodIn_app (goodIn_of _ (by decide +kernel)) ggX3_free_X3_freeBlocks
theorem dX3_free_0 : decode cX3_free 0 = .ok (.aload_n 0, 1) := by decide +kernel
theorem dX3_free_1 : decode cX3_free 1 = .ok (.invokevirtual 84, 3) := by decide +kernel
theorem dX3_free_4 : decode cX3_free 4 = .ok (.ireturn, 1) := by decide +kernel
theorem dX3_operations_0 : decode cX3_operations 0 = .ok (.aload_n 0, 1) := by decide +kernel
theorem dX3_operations_1 : decode cX3_operations 1 = .ok (.getfield 70, 3) := by decide +kernel
theorem dX3_operations_4 : decode cX3_operations 4 = .ok (.ireturn, 1) := by decide +kernel
theorem dJ9_max_7cf53_0 : decode cJ9_max_7cf53 0 = .ok (.iload_n 0, 1) := by decide +kernel
theorem dJ9_max_7cf53_1 : decode cJ9_max_7cf53 1 = .ok (.iload_n 1, 1) := by decide +kernel
theorem dJ9_max_7cf53_2 : decode cJ9_max_7cf53 2 = .ok (.if_icmp .lt 7, 3) := by decide +kernel
theorem dJ9_max_7cf53_5 : decode cJ9_max_7cf53 5 = .ok (.iload_n 0, 1) := by decide +kernel
theorem dJ9_max_7cf53_6 : decode cJ9_max_7cf53 6 = .ok (.goto 4, 3) := by decide +kernel
theorem dJ9_max_7cf53_9 : decode cJ9_max_7cf53 9 = .ok (.iload_n 1, 1) := by decide +kernel
theorem dJ9_max_7cf53_10 : decode cJ9_max_7cf53 10 = .ok (.ireturn, 1) := by decide +kernel
theorem dJ9_min_7cf53_0 : decode cJ9_min_7cf53 0 = .ok (.iload_n 0, 1) := by decide +kernel
theorem dJ9_min_7cf53_1 : decode cJ9_min_7cf53 1 = .ok (.iload_n 1, 1) := by decide +kernel
theorem dJ9_min_7cf53_2 : decode cJ9_min_7cf53 2 = .ok (.if_icmp .gt 7, 3) := by decide +kernel
theorem dJ9_min_7cf53_5 : decode cJ9_min_7cf53 5 = .ok (.iload_n 0, 1) := by decide +kernel
theorem dJ9_min_7cf53_6 : decode cJ9_min_7cf53 6 = .ok (.goto 4, 3) := by decide +kernel
theorem dJ9_min_7cf53_9 : decode cJ9_min_7cf53 9 = .ok (.iload_n 1, 1) := by decide +kernel
theorem dJ9_min_7cf53_10 : decode cJ9_min_7cf53 10 = .ok (.ireturn, 1) := by decide +kernel
theorem dL_cell_0 : decode cL_cell 0 = .ok (.iload_n 1, 1) := by decide +kernel
theorem dL_cell_1 : decode cL_cell 1 = .ok (.aload_n 0, 1) := by decide +kernel
theorem dL_cell_2 : decode cL_cell 2 = .ok (.arraylength, 1) := by decide +kernel
theorem dL_cell_3 : decode cL_cell 3 = .ok (.if_icmp .ge 9, 3) := by decide +kernel
theorem dL_cell_6 : decode cL_cell 6 = .ok (.aload_n 0, 1) := by decide +kernel
theorem dL_cell_7 : decode cL_cell 7 = .ok (.iload_n 1, 1) := by decide +kernel
theorem dL_cell_8 : decode cL_cell 8 = .ok (.iaload, 1) := by decide +kernel
theorem dL_cell_9 : decode cL_cell 9 = .ok (.goto 4, 3) := by decide +kernel
theorem dL_cell_12 : decode cL_cell 12 = .ok (.iconst 0, 1) := by decide +kernel
theorem dL_cell_13 : decode cL_cell 13 = .ok (.ireturn, 1) := by decide +kernel
set_option maxRecDepth 20000 in
theorem ggL_law_L_cell : GoodIn wsL_law wsL_cell := goodIn_r _ [9] (by decide +kernel) (by decide +kernel)
set_option maxRecDepth 20000 in
theorem gL_law_L_cell : GoodIn wsL_law (va_wsS RL 9 yL_cell wsL_cell) := goodIn_app (goodIn_of _ (by decide +kernel)) ggL_law_L_cell
set_option maxRecDepth 20000 in
theorem ggL_law_X2_init : GoodIn wsL_law wsX2_init := goodIn_r _ [12, 13, 14, 15, 16, 17, 18, 19, 20, 21, 22, 23, 24, 25, 26, 27, 28, 29, 30, 31, 32, 33, 34, 35, 36, 37, 38, 39, 40, 41, 42, 43, 44, 413, 414, 415, 416, 417, 418, 419, 420, 421, 422, 423, 393, 394, 395, 396, 424, 425, 426, 427] (by decide +kernel) (by decide +kernel)
set_option maxRecDepth 20000 in
theorem gL_law_X2_init : GoodIn wsL_law (wsX2_init) := ggL_law_X2_init
set_option maxRecDepth 20000 in
theorem ggL_law_X3_init : GoodIn wsL_law wsX3_init := goodIn_r _ [47, 48, 14, 15, 31, 49, 50, 51, 52, 53, 54, 55, 56, 57, 58, 59, 397, 398, 399, 400, 401, 402, 403, 404, 405, 406, 407, 408, 409, 410, 411, 412] (by decide +kernel) (by decide +kernel)
set_option maxRecDepth 20000 in
theorem gL_law_X3_init : GoodIn wsL_law (wsX3_init) := ggL_law_X3_init
set_option maxRecDepth 20000 in
theorem ggL_law_X2_sectors : GoodIn wsL_law wsX2_sectors := goodIn_r _ [63, 19, 393, 394, 395, 396, 413, 414, 415, 416, 417, 418, 419, 420, 421, 422, 423] (by decide +kernel) (by decide +kernel)
set_option maxRecDepth 20000 in
theorem gL_law_X2_sectors : GoodIn wsL_law (wsV RL 21 RX2 yX2_sectors wsX2_sectors) := goodIn_app (goodIn_of _ (by decide +kernel)) ggL_law_X2_sectors
set_option maxRecDepth 20000 in
theorem ggL_law_X3_sectors : GoodIn wsL_law wsX3_sectors := goodIn_r _ [67, 58, 397, 398, 399, 400, 401, 402, 403, 404, 405, 406, 407, 408, 409, 410, 411, 412] (by decide +kernel) (by decide +kernel)
set_option maxRecDepth 20000 in
theorem gL_law_X3_sectors : GoodIn wsL_law (wsV RL 25 RX3 yX3_sectors wsX3_sectors) := goodIn_app (goodIn_of _ (by decide +kernel)) ggL_law_X3_sectors
set_option maxRecDepth 20000 in
theorem ggL_law_X2_write : GoodIn wsL_law wsX2_write := goodIn_r _ [71, 72, 73, 74, 2, 75, 23, 76, 77, 78, 79, 19, 80, 81, 82, 22, 83, 84, 42, 85, 86, 87, 88, 43, 44, 89, 90, 91, 92, 93, 94, 95, 96, 25, 97, 98, 99, 100, 24, 101, 102, 103, 18, 104, 30, 36, 105, 106, 107, 108, 109, 110, 111, 112, 37, 113, 114, 115, 116, 117, 118, 119, 120, 121, 122, 123, 124, 125, 126, 127, 128, 129, 130, 131, 132, 133, 134, 135, 34, 38, 32, 136, 137, 138, 139, 140, 141, 142, 143, 144, 33, 35, 145, 146, 147, 148, 149, 150, 151, 152, 153, 154, 155, 156, 157, 158, 159, 160, 161, 162, 163, 164, 165, 166, 167, 168, 169, 170, 171, 172, 173, 174, 175, 176, 177, 178, 179, 180, 181, 182, 393, 394, 395, 396, 413, 414, 415, 416, 417, 418, 419, 420, 421, 422, 423, 424, 425, 426, 427] (by decide +kernel) (by decide +kernel)
set_option maxRecDepth 20000 in
theorem gL_law_X2_write : GoodIn wsL_law (wsV RL 26 RX2 yX2_write wsX2_write) := goodIn_app (goodIn_of _ (by decide +kernel)) ggL_law_X2_write
set_option maxRecDepth 20000 in
theorem ggL_law_X3_write : GoodIn wsL_law wsX3_write := goodIn_r _ [186, 187, 188, 189, 5, 190, 191, 55, 56, 57, 192, 193, 194, 195, 196, 65, 66, 67, 58, 197, 198, 199, 200, 201, 202, 203, 204, 205, 206, 207, 208, 54, 209, 210, 211, 212, 49, 213, 214, 215, 216, 217, 218, 219, 220, 53, 221, 222, 223, 224, 225, 226, 227, 228, 229, 230, 231, 232, 233, 51, 234, 235, 236, 237, 59, 238, 239, 240, 241, 50, 52, 242, 243, 244, 245, 246, 247, 248, 249, 250, 251, 252, 253, 254, 255, 256, 257, 397, 398, 399, 400, 401, 402, 403, 404, 405, 406, 407, 408, 409, 410, 411, 412] (by decide +kernel) (by decide +kernel)
set_option maxRecDepth 20000 in
theorem gL_law_X3_write : GoodIn wsL_law (wsV RL 30 RX3 yX3_write wsX3_write) := goodIn_app (goodIn_of _ (by decide +kernel)) ggL_law_X3_write
set_option maxRecDepth 20000 in
theorem ggL_law_X2_trim : GoodIn wsL_law wsX2_trim := goodIn_r _ [261, 72, 73, 74, 2, 75, 23, 76, 77, 78, 79, 19, 80, 81, 82, 22, 83, 84, 42, 85, 86, 87, 88, 43, 44, 89, 90, 91, 92, 93, 94, 95, 96, 25, 97, 98, 99, 100, 24, 101, 102, 103, 18, 104, 30, 36, 105, 106, 107, 108, 109, 110, 111, 112, 37, 113, 114, 115, 116, 117, 118, 119, 120, 121, 122, 123, 124, 125, 126, 127, 128, 129, 130, 131, 132, 133, 134, 135, 34, 38, 32, 136, 137, 138, 139, 140, 141, 142, 143, 144, 33, 35, 145, 146, 147, 148, 149, 150, 151, 152, 153, 154, 155, 156, 157, 158, 159, 160, 161, 162, 163, 164, 165, 166, 167, 168, 169, 170, 171, 172, 173, 174, 175, 176, 177, 178, 179, 180, 181, 182, 393, 394, 395, 396, 413, 414, 415, 416, 417, 418, 419, 420, 421, 422, 423, 424, 425, 426, 427] (by decide +kernel) (by decide +kernel)
set_option maxRecDepth 20000 in
theorem gL_law_X2_trim : GoodIn wsL_law (wsV RL 31 RX2 yX2_trim wsX2_trim) := goodIn_app (goodIn_of _ (by decide +kernel)) ggL_law_X2_trim
set_option maxRecDepth 20000 in
theorem ggL_law_X3_trim : GoodIn wsL_law wsX3_trim := goodIn_r _ [265, 187, 188, 189, 5, 190, 191, 55, 56, 57, 192, 193, 194, 195, 196, 65, 66, 67, 58, 197, 198, 199, 200, 201, 202, 203, 204, 205, 206, 207, 208, 54, 209, 210, 211, 212, 49, 213, 214, 215, 216, 217, 218, 219, 220, 53, 221, 222, 223, 224, 225, 226, 227, 228, 229, 230, 231, 232, 233, 51, 234, 235, 236, 237, 59, 238, 239, 240, 241, 50, 52, 242, 243, 244, 245, 246, 247, 248, 249, 250, 251, 252, 253, 254, 255, 256, 257, 397, 398, 399, 400, 401, 402, 403, 404, 405, 406, 407, 408, 409, 410, 411, 412] (by decide +kernel) (by decide +kernel)
set_option maxRecDepth 20000 in
theorem gL_law_X3_trim : GoodIn wsL_law (wsV RL 35 RX3 yX3_trim wsX3_trim) := goodIn_app (goodIn_of _ (by decide +kernel)) ggL_law_X3_trim
set_option maxRecDepth 20000 in
theorem ggL_law_X2_flush : GoodIn wsL_law wsX2_flush := goodIn_r _ [269, 23, 93, 94, 95, 2, 96, 19, 25, 97, 98, 99, 100, 24, 101, 102, 103, 18, 104, 30, 36, 105, 106, 107, 108, 109, 110, 111, 112, 37, 113, 114, 115, 116, 117, 118, 119, 120, 121, 122, 123, 124, 125, 126, 127, 128, 129, 130, 131, 132, 133, 134, 135, 34, 38, 32, 136, 137, 138, 139, 140, 141, 142, 143, 144, 33, 35, 145, 146, 147, 148, 149, 150, 151, 152, 153, 154, 155, 156, 157, 158, 159, 22, 160, 84, 42, 43, 44, 161, 162, 163, 164, 165, 166, 167, 168, 169, 170, 171, 172, 173, 174, 175, 176, 393, 394, 395, 396, 424, 425, 426, 427, 413, 414, 415, 416, 417, 418, 419, 420, 421, 422, 423] (by decide +kernel) (by decide +kernel)
set_option maxRecDepth 20000 in
theorem gL_law_X2_flush : GoodIn wsL_law (wsV RL 36 RX2 yX2_flush wsX2_flush) := goodIn_app (goodIn_of _ (by decide +kernel)) ggL_law_X2_flush
set_option maxRecDepth 20000 in
theorem ggL_law_X3_flush : GoodIn wsL_law wsX3_flush := goodIn_r _ [273, 191, 201, 202, 203, 5, 204, 55, 56, 57, 205, 206, 207, 208, 54, 209, 210, 211, 212, 49, 213, 214, 215, 216, 58, 217, 218, 219, 220, 53, 221, 222, 223, 224, 225, 226, 227, 228, 229, 230, 231, 232, 233, 51, 234, 235, 236, 237, 59, 238, 239, 240, 241, 50, 52, 242, 243, 244, 245, 246, 247, 248, 249, 250, 251, 252, 253, 254, 255, 256, 257, 397, 398, 399, 400, 401, 402, 403, 404, 405, 406, 407, 408, 409, 410, 411, 412] (by decide +kernel) (by decide +kernel)
set_option maxRecDepth 20000 in
theorem gL_law_X3_flush : GoodIn wsL_law (wsV RL 39 RX3 yX3_flush wsX3_flush) := goodIn_app (goodIn_of _ (by decide +kernel)) ggL_law_X3_flush
set_option maxRecDepth 20000 in
theorem ggL_law_X2_cut : GoodIn wsL_law wsX2_cut := goodIn_r _ [277, 161, 162, 163, 2, 164, 165, 166, 167, 168, 23, 19, 25, 169, 170, 171, 18, 172, 30, 36, 173, 174, 175, 176, 35, 34, 121, 122, 119, 123, 105, 106, 107, 108, 124, 125, 126, 127, 37, 128, 129, 130, 131, 132, 133, 134, 135, 38, 32, 136, 137, 138, 139, 140, 141, 142, 143, 144, 33, 145, 146, 102, 103, 104, 147, 148, 149, 150, 151, 152, 153, 154, 155, 156, 393, 394, 395, 396, 424, 425, 426, 427, 413, 414, 415, 416, 417, 418, 419, 420, 421, 422, 423] (by decide +kernel) (by decide +kernel)
set_option maxRecDepth 20000 in
theorem gL_law_X2_cut : GoodIn wsL_law (wsV RL 40 RX2 yX2_cut wsX2_cut) := goodIn_app (goodIn_of _ (by decide +kernel)) ggL_law_X2_cut
set_option maxRecDepth 20000 in
theorem ggL_law_X3_cut : GoodIn wsL_law wsX3_cut := goodIn_r _ [257, 252, 191, 54, 246, 58, 49, 51, 209, 210, 211, 5, 212, 213, 214, 215, 216, 217, 218, 219, 220, 53, 221, 222, 223, 224, 225, 226, 227, 228, 229, 230, 231, 232, 233, 238, 239, 240, 241, 50, 52, 242, 243, 244, 245, 247, 248, 249, 250, 251, 253, 397, 398, 399, 400, 401, 402, 403, 404, 405, 406, 407, 408, 409, 410, 411, 412] (by decide +kernel) (by decide +kernel)
set_option maxRecDepth 20000 in
theorem gL_law_X3_cut : GoodIn wsL_law (wsV RL 43 RX3 yX3_cut wsX3_cut) := goodIn_app (goodIn_of _ (by decide +kernel)) ggL_law_X3_cut
set_option maxRecDepth 20000 in
theorem ggL_law_X2_fuse : GoodIn wsL_law wsX2_fuse := goodIn_r _ [282, 19, 393, 394, 395, 396, 413, 414, 415, 416, 417, 418, 419, 420, 421, 422, 423] (by decide +kernel) (by decide +kernel)
set_option maxRecDepth 20000 in
theorem gL_law_X2_fuse : GoodIn wsL_law (wsV RL 44 RX2 yX2_fuse wsX2_fuse) := goodIn_app (goodIn_of _ (by decide +kernel)) ggL_law_X2_fuse
set_option maxRecDepth 20000 in
theorem ggL_law_X3_fuse : GoodIn wsL_law wsX3_fuse := goodIn_r _ [286, 251, 397, 398, 399, 400, 401, 402, 403, 404, 405, 406, 407, 408, 409, 410, 411, 412] (by decide +kernel) (by decide +kernel)
set_option maxRecDepth 20000 in
theorem gL_law_X3_fuse : GoodIn wsL_law (wsV RL 48 RX3 yX3_fuse wsX3_fuse) := goodIn_app (goodIn_of _ (by decide +kernel)) ggL_law_X3_fuse
set_option maxRecDepth 20000 in
theorem ggL_law_X2_read : GoodIn wsL_law wsX2_read := goodIn_r _ [290, 23, 19, 80, 81, 82, 22, 83, 84, 42, 291, 292, 293, 2, 294, 76, 77, 78, 79, 393, 394, 395, 396, 424, 425, 426, 427, 413, 414, 415, 416, 417, 418, 419, 420, 421, 422, 423] (by decide +kernel) (by decide +kernel)
set_option maxRecDepth 20000 in
theorem gL_law_X2_read : GoodIn wsL_law (wsV RL 49 RX2 yX2_read wsX2_read) := goodIn_app (goodIn_of _ (by decide +kernel)) ggL_law_X2_read
set_option maxRecDepth 20000 in
theorem ggL_law_X3_read : GoodIn wsL_law wsX3_read := goodIn_r _ [298, 56, 50, 192, 193, 194, 5, 195, 196, 65, 66, 67, 58, 197, 198, 199, 200, 191, 55, 230, 231, 232, 233, 49, 51, 397, 398, 399, 400, 401, 402, 403, 404, 405, 406, 407, 408, 409, 410, 411, 412] (by decide +kernel) (by decide +kernel)
set_option maxRecDepth 20000 in
theorem gL_law_X3_read : GoodIn wsL_law (wsV RL 52 RX3 yX3_read wsX3_read) := goodIn_app (goodIn_of _ (by decide +kernel)) ggL_law_X3_read
set_option maxRecDepth 20000 in
theorem ggL_law_X2_holds : GoodIn wsL_law wsX2_holds := goodIn_r _ [302, 23, 19, 80, 81, 82, 22, 83, 84, 42, 291, 292, 293, 2, 294, 76, 77, 78, 79, 393, 394, 395, 396, 424, 425, 426, 427, 413, 414, 415, 416, 417, 418, 419, 420, 421, 422, 423] (by decide +kernel) (by decide +kernel)
set_option maxRecDepth 20000 in
theorem gL_law_X2_holds : GoodIn wsL_law (wsV RL 53 RX2 yX2_holds wsX2_holds) := goodIn_app (goodIn_of _ (by decide +kernel)) ggL_law_X2_holds
set_option maxRecDepth 20000 in
theorem ggL_law_X3_holds : GoodIn wsL_law wsX3_holds := goodIn_r _ [306, 57, 52, 192, 193, 194, 5, 195, 196, 65, 66, 67, 58, 197, 198, 199, 200, 191, 55, 230, 231, 232, 233, 49, 51, 397, 398, 399, 400, 401, 402, 403, 404, 405, 406, 407, 408, 409, 410, 411, 412] (by decide +kernel) (by decide +kernel)
set_option maxRecDepth 20000 in
theorem gL_law_X3_holds : GoodIn wsL_law (wsV RL 56 RX3 yX3_holds wsX3_holds) := goodIn_app (goodIn_of _ (by decide +kernel)) ggL_law_X3_holds
set_option maxRecDepth 20000 in
theorem ggL_law_X2_buffered : GoodIn wsL_law wsX2_buffered := goodIn_r _ [310, 23, 393, 394, 395, 396, 424, 425, 426, 427] (by decide +kernel) (by decide +kernel)
set_option maxRecDepth 20000 in
theorem gL_law_X2_buffered : GoodIn wsL_law (wsV RL 57 RX2 yX2_buffered wsX2_buffered) := goodIn_app (goodIn_of _ (by decide +kernel)) ggL_law_X2_buffered
set_option maxRecDepth 20000 in
theorem ggL_law_X3_buffered : GoodIn wsL_law wsX3_buffered := goodIn_r _ [314, 191, 397, 398, 399, 400, 401, 402, 403, 404, 405, 406, 407, 408, 409, 410, 411, 412] (by decide +kernel) (by decide +kernel)
set_option maxRecDepth 20000 in
theorem gL_law_X3_buffered : GoodIn wsL_law (wsV RL 60 RX3 yX3_buffered wsX3_buffered) := goodIn_app (goodIn_of _ (by decide +kernel)) ggL_law_X3_buffered
set_option maxRecDepth 20000 in
theorem ggL_law_X2_place : GoodIn wsL_law wsX2_place := goodIn_r _ [294, 19, 76, 77, 78, 2, 79, 393, 394, 395, 396, 413, 414, 415, 416, 417, 418, 419, 420, 421, 422, 423] (by decide +kernel) (by decide +kernel)
set_option maxRecDepth 20000 in
theorem gL_law_X2_place : GoodIn wsL_law (wsV RL 61 RX2 yX2_place wsX2_place) := goodIn_app (goodIn_of _ (by decide +kernel)) ggL_law_X2_place
set_option maxRecDepth 20000 in
theorem ggL_law_X3_place : GoodIn wsL_law wsX3_place := goodIn_r _ [319, 192, 193, 194, 5, 195, 196, 65, 66, 67, 58, 230, 231, 232, 233, 49, 51, 397, 398, 399, 400, 401, 402, 403, 404, 405, 406, 407, 408, 409, 410, 411, 412] (by decide +kernel) (by decide +kernel)
set_option maxRecDepth 20000 in
theorem gL_law_X3_place : GoodIn wsL_law (wsV RL 64 RX3 yX3_place wsX3_place) := goodIn_app (goodIn_of _ (by decide +kernel)) ggL_law_X3_place
set_option maxRecDepth 20000 in
theorem ggL_law_X2_tag : GoodIn wsL_law wsX2_tag := goodIn_r _ [323, 19, 324, 325, 326, 18, 327, 34, 393, 394, 395, 396, 413, 414, 415, 416, 417, 418, 419, 420, 421, 422, 423] (by decide +kernel) (by decide +kernel)
set_option maxRecDepth 20000 in
theorem gL_law_X2_tag : GoodIn wsL_law (wsV RL 65 RX2 yX2_tag wsX2_tag) := goodIn_app (goodIn_of _ (by decide +kernel)) ggL_law_X2_tag
set_option maxRecDepth 20000 in
theorem ggL_law_X3_tag : GoodIn wsL_law wsX3_tag := goodIn_r _ [331, 49, 332, 333, 334, 5, 335, 58, 397, 398, 399, 400, 401, 402, 403, 404, 405, 406, 407, 408, 409, 410, 411, 412] (by decide +kernel) (by decide +kernel)
set_option maxRecDepth 20000 in
theorem gL_law_X3_tag : GoodIn wsL_law (wsV RL 68 RX3 yX3_tag wsX3_tag) := goodIn_app (goodIn_of _ (by decide +kernel)) ggL_law_X3_tag
set_option maxRecDepth 20000 in
theorem ggL_law_X2_serial : GoodIn wsL_law wsX2_serial := goodIn_r _ [339, 19, 324, 325, 326, 18, 327, 34, 393, 394, 395, 396, 413, 414, 415, 416, 417, 418, 419, 420, 421, 422, 423] (by decide +kernel) (by decide +kernel)
set_option maxRecDepth 20000 in
theorem gL_law_X2_serial : GoodIn wsL_law (wsV RL 69 RX2 yX2_serial wsX2_serial) := goodIn_app (goodIn_of _ (by decide +kernel)) ggL_law_X2_serial
set_option maxRecDepth 20000 in
theorem ggL_law_X3_serial : GoodIn wsL_law wsX3_serial := goodIn_r _ [343, 49, 51, 332, 333, 334, 5, 335, 58, 397, 398, 399, 400, 401, 402, 403, 404, 405, 406, 407, 408, 409, 410, 411, 412] (by decide +kernel) (by decide +kernel)
set_option maxRecDepth 20000 in
theorem gL_law_X3_serial : GoodIn wsL_law (wsV RL 72 RX3 yX3_serial wsX3_serial) := goodIn_app (goodIn_of _ (by decide +kernel)) ggL_law_X3_serial
set_option maxRecDepth 20000 in
theorem ggL_law_X2_valid : GoodIn wsL_law wsX2_valid := goodIn_r _ [347, 19, 348, 349, 350, 18, 351, 30, 352, 129, 130, 131, 132, 133, 134, 135, 34, 38, 32, 393, 394, 395, 396, 413, 414, 415, 416, 417, 418, 419, 420, 421, 422, 423] (by decide +kernel) (by decide +kernel)
set_option maxRecDepth 20000 in
theorem gL_law_X2_valid : GoodIn wsL_law (wsV RL 73 RX2 yX2_valid wsX2_valid) := goodIn_app (goodIn_of _ (by decide +kernel)) ggL_law_X2_valid
set_option maxRecDepth 20000 in
theorem ggL_law_X3_valid : GoodIn wsL_law wsX3_valid := goodIn_r _ [356, 357, 358, 359, 5, 360, 58, 222, 223, 224, 225, 226, 227, 228, 229, 49, 230, 231, 232, 233, 51, 397, 398, 399, 400, 401, 402, 403, 404, 405, 406, 407, 408, 409, 410, 411, 412] (by decide +kernel) (by decide +kernel)
set_option maxRecDepth 20000 in
theorem gL_law_X3_valid : GoodIn wsL_law (wsV RL 76 RX3 yX3_valid wsX3_valid) := goodIn_app (goodIn_of _ (by decide +kernel)) ggL_law_X3_valid
set_option maxRecDepth 20000 in
theorem ggL_law_X2_erasures : GoodIn wsL_law wsX2_erasures := goodIn_r _ [364, 19, 348, 349, 350, 18, 351, 30, 393, 394, 395, 396, 413, 414, 415, 416, 417, 418, 419, 420, 421, 422, 423] (by decide +kernel) (by decide +kernel)
set_option maxRecDepth 20000 in
theorem gL_law_X2_erasures : GoodIn wsL_law (wsV RL 77 RX2 yX2_erasures wsX2_erasures) := goodIn_app (goodIn_of _ (by decide +kernel)) ggL_law_X2_erasures
set_option maxRecDepth 20000 in
theorem ggL_law_X3_erasures : GoodIn wsL_law wsX3_erasures := goodIn_r _ [368, 53, 357, 358, 359, 5, 360, 58, 397, 398, 399, 400, 401, 402, 403, 404, 405, 406, 407, 408, 409, 410, 411, 412] (by decide +kernel) (by decide +kernel)
set_option maxRecDepth 20000 in
theorem gL_law_X3_erasures : GoodIn wsL_law (wsV RL 80 RX3 yX3_erasures wsX3_erasures) := goodIn_app (goodIn_of _ (by decide +kernel)) ggL_law_X3_erasures
set_option maxRecDepth 20000 in
theorem ggL_law_X2_open : GoodIn wsL_law wsX2_open := goodIn_r _ [372, 25, 393, 394, 395, 396] (by decide +kernel) (by decide +kernel)
set_option maxRecDepth 20000 in
theorem gL_law_X2_open : GoodIn wsL_law (wsV RL 81 RX2 yX2_open wsX2_open) := goodIn_app (goodIn_of _ (by decide +kernel)) ggL_law_X2_open
set_option maxRecDepth 20000 in
theorem ggL_law_X3_open : GoodIn wsL_law wsX3_open := goodIn_r _ [376, 54, 397, 398, 399, 400, 401, 402, 403, 404, 405, 406, 407, 408, 409, 410, 411, 412] (by decide +kernel) (by decide +kernel)
set_option maxRecDepth 20000 in
theorem gL_law_X3_open : GoodIn wsL_law (wsV RL 84 RX3 yX3_open wsX3_open) := goodIn_app (goodIn_of _ (by decide +kernel)) ggL_law_X3_open
set_option maxRecDepth 20000 in
theorem ggL_law_X2_free : GoodIn wsL_law wsX2_free := goodIn_r _ [380, 19, 105, 106, 107, 18, 108, 30, 36, 393, 394, 395, 396, 413, 414, 415, 416, 417, 418, 419, 420, 421, 422, 423] (by decide +kernel) (by decide +kernel)
set_option maxRecDepth 20000 in
theorem gL_law_X2_free : GoodIn wsL_law (wsV RL 85 RX2 yX2_free wsX2_free) := goodIn_app (goodIn_of _ (by decide +kernel)) ggL_law_X2_free
set_option maxRecDepth 20000 in
theorem ggL_law_X3_free : GoodIn wsL_law wsX3_free := goodIn_r _ [384, 213, 214, 215, 5, 216, 58, 209, 210, 211, 212, 49, 397, 398, 399, 400, 401, 402, 403, 404, 405, 406, 407, 408, 409, 410, 411, 412] (by decide +kernel) (by decide +kernel)
set_option maxRecDepth 20000 in
theorem gL_law_X3_free : GoodIn wsL_law (wsV RL 88 RX3 yX3_free wsX3_free) := goodIn_app (goodIn_of _ (by decide +kernel)) ggL_law_X3_free
set_option maxRecDepth 20000 in
theorem ggL_law_X2_operations : GoodIn wsL_law wsX2_operations := goodIn_r _ [388, 19, 393, 394, 395, 396, 413, 414, 415, 416, 417, 418, 419, 420, 421, 422, 423] (by decide +kernel) (by decide +kernel)
set_option maxRecDepth 20000 in
theorem gL_law_X2_operations : GoodIn wsL_law (wsV RL 89 RX2 yX2_operations wsX2_operations) := goodIn_app (goodIn_of _ (by decide +kernel)) ggL_law_X2_operations
set_option maxRecDepth 20000 in
theorem ggL_law_X3_operations : GoodIn wsL_law wsX3_operations := goodIn_r _ [392, 253, 397, 398, 399, 400, 401, 402, 403, 404, 405, 406, 407, 408, 409, 410, 411, 412] (by decide +kernel) (by decide +kernel)
set_option maxRecDepth 20000 in
theorem gL_law_X3_operations : GoodIn wsL_law (wsV RL 92 RX3 yX3_operations wsX3_operations) := goodIn_app (goodIn_of _ (by decide +kernel)) ggL_law_X3_operations
theorem dL_law_0 : decode cL_law 0 = .ok (.new 7, 3) := by decide +kernel
theorem dL_law_3 : decode cL_law 3 = .ok (.dup, 1) := by decide +kernel
theorem dL_law_4 : decode cL_law 4 = .ok (.aload_n 0, 1) := by decide +kernel
theorem dL_law_5 : decode cL_law 5 = .ok (.iconst 0, 1) := by decide +kernel
theorem dL_law_6 : decode cL_law 6 = .ok (.invokestatic 9, 3) := by decide +kernel
theorem dL_law_9 : decode cL_law 9 = .ok (.aload_n 0, 1) := by decide +kernel
theorem dL_law_10 : decode cL_law 10 = .ok (.iconst 1, 1) := by decide +kernel
theorem dL_law_11 : decode cL_law 11 = .ok (.invokestatic 9, 3) := by decide +kernel
theorem dL_law_14 : decode cL_law 14 = .ok (.invokespecial 15, 3) := by decide +kernel
theorem dL_law_17 : decode cL_law 17 = .ok (.astore_n 1, 1) := by decide +kernel
theorem dL_law_18 : decode cL_law 18 = .ok (.new 18, 3) := by decide +kernel
theorem dL_law_21 : decode cL_law 21 = .ok (.dup, 1) := by decide +kernel
theorem dL_law_22 : decode cL_law 22 = .ok (.aload_n 0, 1) := by decide +kernel
theorem dL_law_23 : decode cL_law 23 = .ok (.iconst 0, 1) := by decide +kernel
theorem dL_law_24 : decode cL_law 24 = .ok (.invokestatic 9, 3) := by decide +kernel
theorem dL_law_27 : decode cL_law 27 = .ok (.aload_n 0, 1) := by decide +kernel
theorem dL_law_28 : decode cL_law 28 = .ok (.iconst 1, 1) := by decide +kernel
theorem dL_law_29 : decode cL_law 29 = .ok (.invokestatic 9, 3) := by decide +kernel
theorem dL_law_32 : decode cL_law 32 = .ok (.invokespecial 20, 3) := by decide +kernel
theorem dL_law_35 : decode cL_law 35 = .ok (.astore_n 2, 1) := by decide +kernel
theorem dL_law_36 : decode cL_law 36 = .ok (.iconst 2, 1) := by decide +kernel
theorem dL_law_37 : decode cL_law 37 = .ok (.istore_n 3, 1) := by decide +kernel
theorem dL_law_38 : decode cL_law 38 = .ok (.iload_n 3, 1) := by decide +kernel
theorem dL_law_39 : decode cL_law 39 = .ok (.aload_n 0, 1) := by decide +kernel
theorem dL_law_40 : decode cL_law 40 = .ok (.arraylength, 1) := by decide +kernel
theorem dL_law_41 : decode cL_law 41 = .ok (.iconst 3, 1) := by decide +kernel
theorem dL_law_42 : decode cL_law 42 = .ok (.isub, 1) := by decide +kernel
theorem dL_law_43 : decode cL_law 43 = .ok (.if_icmp .gt 428, 3) := by decide +kernel
theorem dL_law_46 : decode cL_law 46 = .ok (.aload_n 0, 1) := by decide +kernel
theorem dL_law_47 : decode cL_law 47 = .ok (.iload_n 3, 1) := by decide +kernel
theorem dL_law_48 : decode cL_law 48 = .ok (.iaload, 1) := by decide +kernel
theorem dL_law_49 : decode cL_law 49 = .ok (.bipush 31, 2) := by decide +kernel
theorem dL_law_51 : decode cL_law 51 = .ok (.iand, 1) := by decide +kernel
theorem dL_law_52 : decode cL_law 52 = .ok (.tableswitch 413 0 16 #[84, 97, 130, 153, 166, 177, 200, 223, 246, 259, 282, 305, 328, 351, 374, 387, 400], 84) := by decide +kernel
theorem dL_law_136 : decode cL_law 136 = .ok (.aload_n 1, 1) := by decide +kernel
theorem dL_law_137 : decode cL_law 137 = .ok (.invokevirtual 21, 3) := by decide +kernel
theorem dL_law_140 : decode cL_law 140 = .ok (.aload_n 2, 1) := by decide +kernel
theorem dL_law_141 : decode cL_law 141 = .ok (.invokevirtual 25, 3) := by decide +kernel
theorem dL_law_144 : decode cL_law 144 = .ok (.if_icmp .eq 321, 3) := by decide +kernel
theorem dL_law_147 : decode cL_law 147 = .ok (.iconst 0, 1) := by decide +kernel
theorem dL_law_148 : decode cL_law 148 = .ok (.ireturn, 1) := by decide +kernel
theorem dL_law_149 : decode cL_law 149 = .ok (.aload_n 1, 1) := by decide +kernel
theorem dL_law_150 : decode cL_law 150 = .ok (.aload_n 0, 1) := by decide +kernel
theorem dL_law_151 : decode cL_law 151 = .ok (.iload_n 3, 1) := by decide +kernel
theorem dL_law_152 : decode cL_law 152 = .ok (.iconst 1, 1) := by decide +kernel
theorem dL_law_153 : decode cL_law 153 = .ok (.iadd, 1) := by decide +kernel
theorem dL_law_154 : decode cL_law 154 = .ok (.iaload, 1) := by decide +kernel
theorem dL_law_155 : decode cL_law 155 = .ok (.aload_n 0, 1) := by decide +kernel
theorem dL_law_156 : decode cL_law 156 = .ok (.iload_n 3, 1) := by decide +kernel
theorem dL_law_157 : decode cL_law 157 = .ok (.iconst 2, 1) := by decide +kernel
theorem dL_law_158 : decode cL_law 158 = .ok (.iadd, 1) := by decide +kernel
theorem dL_law_159 : decode cL_law 159 = .ok (.iaload, 1) := by decide +kernel
theorem dL_law_160 : decode cL_law 160 = .ok (.invokevirtual 26, 3) := by decide +kernel
theorem dL_law_163 : decode cL_law 163 = .ok (.aload_n 2, 1) := by decide +kernel
theorem dL_law_164 : decode cL_law 164 = .ok (.aload_n 0, 1) := by decide +kernel
theorem dL_law_165 : decode cL_law 165 = .ok (.iload_n 3, 1) := by decide +kernel
theorem dL_law_166 : decode cL_law 166 = .ok (.iconst 1, 1) := by decide +kernel
theorem dL_law_167 : decode cL_law 167 = .ok (.iadd, 1) := by decide +kernel
theorem dL_law_168 : decode cL_law 168 = .ok (.iaload, 1) := by decide +kernel
theorem dL_law_169 : decode cL_law 169 = .ok (.aload_n 0, 1) := by decide +kernel
theorem dL_law_170 : decode cL_law 170 = .ok (.iload_n 3, 1) := by decide +kernel
theorem dL_law_171 : decode cL_law 171 = .ok (.iconst 2, 1) := by decide +kernel
theorem dL_law_172 : decode cL_law 172 = .ok (.iadd, 1) := by decide +kernel
theorem dL_law_173 : decode cL_law 173 = .ok (.iaload, 1) := by decide +kernel
theorem dL_law_174 : decode cL_law 174 = .ok (.invokevirtual 30, 3) := by decide +kernel
theorem dL_law_177 : decode cL_law 177 = .ok (.if_icmp .eq 288, 3) := by decide +kernel
theorem dL_law_180 : decode cL_law 180 = .ok (.iconst 0, 1) := by decide +kernel
theorem dL_law_181 : decode cL_law 181 = .ok (.ireturn, 1) := by decide +kernel
theorem dL_law_182 : decode cL_law 182 = .ok (.aload_n 1, 1) := by decide +kernel
theorem dL_law_183 : decode cL_law 183 = .ok (.aload_n 0, 1) := by decide +kernel
theorem dL_law_184 : decode cL_law 184 = .ok (.iload_n 3, 1) := by decide +kernel
theorem dL_law_185 : decode cL_law 185 = .ok (.iconst 1, 1) := by decide +kernel
theorem dL_law_186 : decode cL_law 186 = .ok (.iadd, 1) := by decide +kernel
theorem dL_law_187 : decode cL_law 187 = .ok (.iaload, 1) := by decide +kernel
theorem dL_law_188 : decode cL_law 188 = .ok (.invokevirtual 31, 3) := by decide +kernel
theorem dL_law_191 : decode cL_law 191 = .ok (.aload_n 2, 1) := by decide +kernel
theorem dL_law_192 : decode cL_law 192 = .ok (.aload_n 0, 1) := by decide +kernel
theorem dL_law_193 : decode cL_law 193 = .ok (.iload_n 3, 1) := by decide +kernel
theorem dL_law_194 : decode cL_law 194 = .ok (.iconst 1, 1) := by decide +kernel
theorem dL_law_195 : decode cL_law 195 = .ok (.iadd, 1) := by decide +kernel
theorem dL_law_196 : decode cL_law 196 = .ok (.iaload, 1) := by decide +kernel
theorem dL_law_197 : decode cL_law 197 = .ok (.invokevirtual 35, 3) := by decide +kernel
theorem dL_law_200 : decode cL_law 200 = .ok (.if_icmp .eq 265, 3) := by decide +kernel
theorem dL_law_203 : decode cL_law 203 = .ok (.iconst 0, 1) := by decide +kernel
theorem dL_law_204 : decode cL_law 204 = .ok (.ireturn, 1) := by decide +kernel
theorem dL_law_205 : decode cL_law 205 = .ok (.aload_n 1, 1) := by decide +kernel
theorem dL_law_206 : decode cL_law 206 = .ok (.invokevirtual 36, 3) := by decide +kernel
theorem dL_law_209 : decode cL_law 209 = .ok (.aload_n 2, 1) := by decide +kernel
theorem dL_law_210 : decode cL_law 210 = .ok (.invokevirtual 39, 3) := by decide +kernel
theorem dL_law_213 : decode cL_law 213 = .ok (.if_icmp .eq 252, 3) := by decide +kernel
theorem dL_law_216 : decode cL_law 216 = .ok (.iconst 0, 1) := by decide +kernel
theorem dL_law_217 : decode cL_law 217 = .ok (.ireturn, 1) := by decide +kernel
theorem dL_law_218 : decode cL_law 218 = .ok (.aload_n 1, 1) := by decide +kernel
theorem dL_law_219 : decode cL_law 219 = .ok (.invokevirtual 40, 3) := by decide +kernel
theorem dL_law_222 : decode cL_law 222 = .ok (.aload_n 2, 1) := by decide +kernel
theorem dL_law_223 : decode cL_law 223 = .ok (.invokevirtual 43, 3) := by decide +kernel
theorem dL_law_226 : decode cL_law 226 = .ok (.goto 239, 3) := by decide +kernel
theorem dL_law_229 : decode cL_law 229 = .ok (.aload_n 1, 1) := by decide +kernel
theorem dL_law_230 : decode cL_law 230 = .ok (.aload_n 0, 1) := by decide +kernel
theorem dL_law_231 : decode cL_law 231 = .ok (.iload_n 3, 1) := by decide +kernel
theorem dL_law_232 : decode cL_law 232 = .ok (.iconst 1, 1) := by decide +kernel
theorem dL_law_233 : decode cL_law 233 = .ok (.iadd, 1) := by decide +kernel
theorem dL_law_234 : decode cL_law 234 = .ok (.iaload, 1) := by decide +kernel
theorem dL_law_235 : decode cL_law 235 = .ok (.invokevirtual 44, 3) := by decide +kernel
theorem dL_law_238 : decode cL_law 238 = .ok (.aload_n 2, 1) := by decide +kernel
theorem dL_law_239 : decode cL_law 239 = .ok (.aload_n 0, 1) := by decide +kernel
theorem dL_law_240 : decode cL_law 240 = .ok (.iload_n 3, 1) := by decide +kernel
theorem dL_law_241 : decode cL_law 241 = .ok (.iconst 1, 1) := by decide +kernel
theorem dL_law_242 : decode cL_law 242 = .ok (.iadd, 1) := by decide +kernel
theorem dL_law_243 : decode cL_law 243 = .ok (.iaload, 1) := by decide +kernel
theorem dL_law_244 : decode cL_law 244 = .ok (.invokevirtual 48, 3) := by decide +kernel
theorem dL_law_247 : decode cL_law 247 = .ok (.if_icmp .eq 218, 3) := by decide +kernel
theorem dL_law_250 : decode cL_law 250 = .ok (.iconst 0, 1) := by decide +kernel
theorem dL_law_251 : decode cL_law 251 = .ok (.ireturn, 1) := by decide +kernel
theorem dL_law_252 : decode cL_law 252 = .ok (.aload_n 1, 1) := by decide +kernel
theorem dL_law_253 : decode cL_law 253 = .ok (.aload_n 0, 1) := by decide +kernel
theorem dL_law_254 : decode cL_law 254 = .ok (.iload_n 3, 1) := by decide +kernel
theorem dL_law_255 : decode cL_law 255 = .ok (.iconst 1, 1) := by decide +kernel
theorem dL_law_256 : decode cL_law 256 = .ok (.iadd, 1) := by decide +kernel
theorem dL_law_257 : decode cL_law 257 = .ok (.iaload, 1) := by decide +kernel
theorem dL_law_258 : decode cL_law 258 = .ok (.invokevirtual 49, 3) := by decide +kernel
theorem dL_law_261 : decode cL_law 261 = .ok (.aload_n 2, 1) := by decide +kernel
theorem dL_law_262 : decode cL_law 262 = .ok (.aload_n 0, 1) := by decide +kernel
theorem dL_law_263 : decode cL_law 263 = .ok (.iload_n 3, 1) := by decide +kernel
theorem dL_law_264 : decode cL_law 264 = .ok (.iconst 1, 1) := by decide +kernel
theorem dL_law_265 : decode cL_law 265 = .ok (.iadd, 1) := by decide +kernel
theorem dL_law_266 : decode cL_law 266 = .ok (.iaload, 1) := by decide +kernel
theorem dL_law_267 : decode cL_law 267 = .ok (.invokevirtual 52, 3) := by decide +kernel
theorem dL_law_270 : decode cL_law 270 = .ok (.if_icmp .eq 195, 3) := by decide +kernel
theorem dL_law_273 : decode cL_law 273 = .ok (.iconst 0, 1) := by decide +kernel
theorem dL_law_274 : decode cL_law 274 = .ok (.ireturn, 1) := by decide +kernel
theorem dL_law_275 : decode cL_law 275 = .ok (.aload_n 1, 1) := by decide +kernel
theorem dL_law_276 : decode cL_law 276 = .ok (.aload_n 0, 1) := by decide +kernel
theorem dL_law_277 : decode cL_law 277 = .ok (.iload_n 3, 1) := by decide +kernel
theorem dL_law_278 : decode cL_law 278 = .ok (.iconst 1, 1) := by decide +kernel
theorem dL_law_279 : decode cL_law 279 = .ok (.iadd, 1) := by decide +kernel
theorem dL_law_280 : decode cL_law 280 = .ok (.iaload, 1) := by decide +kernel
theorem dL_law_281 : decode cL_law 281 = .ok (.invokevirtual 53, 3) := by decide +kernel
theorem dL_law_284 : decode cL_law 284 = .ok (.aload_n 2, 1) := by decide +kernel
theorem dL_law_285 : decode cL_law 285 = .ok (.aload_n 0, 1) := by decide +kernel
theorem dL_law_286 : decode cL_law 286 = .ok (.iload_n 3, 1) := by decide +kernel
theorem dL_law_287 : decode cL_law 287 = .ok (.iconst 1, 1) := by decide +kernel
theorem dL_law_288 : decode cL_law 288 = .ok (.iadd, 1) := by decide +kernel
theorem dL_law_289 : decode cL_law 289 = .ok (.iaload, 1) := by decide +kernel
theorem dL_law_290 : decode cL_law 290 = .ok (.invokevirtual 56, 3) := by decide +kernel
theorem dL_law_293 : decode cL_law 293 = .ok (.if_icmp .eq 172, 3) := by decide +kernel
theorem dL_law_296 : decode cL_law 296 = .ok (.iconst 0, 1) := by decide +kernel
theorem dL_law_297 : decode cL_law 297 = .ok (.ireturn, 1) := by decide +kernel
theorem dL_law_298 : decode cL_law 298 = .ok (.aload_n 1, 1) := by decide +kernel
theorem dL_law_299 : decode cL_law 299 = .ok (.invokevirtual 57, 3) := by decide +kernel
theorem dL_law_302 : decode cL_law 302 = .ok (.aload_n 2, 1) := by decide +kernel
theorem dL_law_303 : decode cL_law 303 = .ok (.invokevirtual 60, 3) := by decide +kernel
theorem dL_law_306 : decode cL_law 306 = .ok (.if_icmp .eq 159, 3) := by decide +kernel
theorem dL_law_309 : decode cL_law 309 = .ok (.iconst 0, 1) := by decide +kernel
theorem dL_law_310 : decode cL_law 310 = .ok (.ireturn, 1) := by decide +kernel
theorem dL_law_311 : decode cL_law 311 = .ok (.aload_n 1, 1) := by decide +kernel
theorem dL_law_312 : decode cL_law 312 = .ok (.aload_n 0, 1) := by decide +kernel
theorem dL_law_313 : decode cL_law 313 = .ok (.iload_n 3, 1) := by decide +kernel
theorem dL_law_314 : decode cL_law 314 = .ok (.iconst 1, 1) := by decide +kernel
theorem dL_law_315 : decode cL_law 315 = .ok (.iadd, 1) := by decide +kernel
theorem dL_law_316 : decode cL_law 316 = .ok (.iaload, 1) := by decide +kernel
theorem dL_law_317 : decode cL_law 317 = .ok (.invokevirtual 61, 3) := by decide +kernel
theorem dL_law_320 : decode cL_law 320 = .ok (.aload_n 2, 1) := by decide +kernel
theorem dL_law_321 : decode cL_law 321 = .ok (.aload_n 0, 1) := by decide +kernel
theorem dL_law_322 : decode cL_law 322 = .ok (.iload_n 3, 1) := by decide +kernel
theorem dL_law_323 : decode cL_law 323 = .ok (.iconst 1, 1) := by decide +kernel
theorem dL_law_324 : decode cL_law 324 = .ok (.iadd, 1) := by decide +kernel
theorem dL_law_325 : decode cL_law 325 = .ok (.iaload, 1) := by decide +kernel
theorem dL_law_326 : decode cL_law 326 = .ok (.invokevirtual 64, 3) := by decide +kernel
theorem dL_law_329 : decode cL_law 329 = .ok (.if_icmp .eq 136, 3) := by decide +kernel
theorem dL_law_332 : decode cL_law 332 = .ok (.iconst 0, 1) := by decide +kernel
theorem dL_law_333 : decode cL_law 333 = .ok (.ireturn, 1) := by decide +kernel
theorem dL_law_334 : decode cL_law 334 = .ok (.aload_n 1, 1) := by decide +kernel
theorem dL_law_335 : decode cL_law 335 = .ok (.aload_n 0, 1) := by decide +kernel
theorem dL_law_336 : decode cL_law 336 = .ok (.iload_n 3, 1) := by decide +kernel
theorem dL_law_337 : decode cL_law 337 = .ok (.iconst 1, 1) := by decide +kernel
theorem dL_law_338 : decode cL_law 338 = .ok (.iadd, 1) := by decide +kernel
theorem dL_law_339 : decode cL_law 339 = .ok (.iaload, 1) := by decide +kernel
theorem dL_law_340 : decode cL_law 340 = .ok (.invokevirtual 65, 3) := by decide +kernel
theorem dL_law_343 : decode cL_law 343 = .ok (.aload_n 2, 1) := by decide +kernel
theorem dL_law_344 : decode cL_law 344 = .ok (.aload_n 0, 1) := by decide +kernel
theorem dL_law_345 : decode cL_law 345 = .ok (.iload_n 3, 1) := by decide +kernel
theorem dL_law_346 : decode cL_law 346 = .ok (.iconst 1, 1) := by decide +kernel
theorem dL_law_347 : decode cL_law 347 = .ok (.iadd, 1) := by decide +kernel
theorem dL_law_348 : decode cL_law 348 = .ok (.iaload, 1) := by decide +kernel
theorem dL_law_349 : decode cL_law 349 = .ok (.invokevirtual 68, 3) := by decide +kernel
theorem dL_law_352 : decode cL_law 352 = .ok (.if_icmp .eq 113, 3) := by decide +kernel
theorem dL_law_355 : decode cL_law 355 = .ok (.iconst 0, 1) := by decide +kernel
theorem dL_law_356 : decode cL_law 356 = .ok (.ireturn, 1) := by decide +kernel
theorem dL_law_357 : decode cL_law 357 = .ok (.aload_n 1, 1) := by decide +kernel
theorem dL_law_358 : decode cL_law 358 = .ok (.aload_n 0, 1) := by decide +kernel
theorem dL_law_359 : decode cL_law 359 = .ok (.iload_n 3, 1) := by decide +kernel
theorem dL_law_360 : decode cL_law 360 = .ok (.iconst 1, 1) := by decide +kernel
theorem dL_law_361 : decode cL_law 361 = .ok (.iadd, 1) := by decide +kernel
theorem dL_law_362 : decode cL_law 362 = .ok (.iaload, 1) := by decide +kernel
theorem dL_law_363 : decode cL_law 363 = .ok (.invokevirtual 69, 3) := by decide +kernel
theorem dL_law_366 : decode cL_law 366 = .ok (.aload_n 2, 1) := by decide +kernel
theorem dL_law_367 : decode cL_law 367 = .ok (.aload_n 0, 1) := by decide +kernel
theorem dL_law_368 : decode cL_law 368 = .ok (.iload_n 3, 1) := by decide +kernel
theorem dL_law_369 : decode cL_law 369 = .ok (.iconst 1, 1) := by decide +kernel
theorem dL_law_370 : decode cL_law 370 = .ok (.iadd, 1) := by decide +kernel
theorem dL_law_371 : decode cL_law 371 = .ok (.iaload, 1) := by decide +kernel
theorem dL_law_372 : decode cL_law 372 = .ok (.invokevirtual 72, 3) := by decide +kernel
theorem dL_law_375 : decode cL_law 375 = .ok (.if_icmp .eq 90, 3) := by decide +kernel
theorem dL_law_378 : decode cL_law 378 = .ok (.iconst 0, 1) := by decide +kernel
theorem dL_law_379 : decode cL_law 379 = .ok (.ireturn, 1) := by decide +kernel
theorem dL_law_380 : decode cL_law 380 = .ok (.aload_n 1, 1) := by decide +kernel
theorem dL_law_381 : decode cL_law 381 = .ok (.aload_n 0, 1) := by decide +kernel
theorem dL_law_382 : decode cL_law 382 = .ok (.iload_n 3, 1) := by decide +kernel
theorem dL_law_383 : decode cL_law 383 = .ok (.iconst 1, 1) := by decide +kernel
theorem dL_law_384 : decode cL_law 384 = .ok (.iadd, 1) := by decide +kernel
theorem dL_law_385 : decode cL_law 385 = .ok (.iaload, 1) := by decide +kernel
theorem dL_law_386 : decode cL_law 386 = .ok (.invokevirtual 73, 3) := by decide +kernel
theorem dL_law_389 : decode cL_law 389 = .ok (.aload_n 2, 1) := by decide +kernel
theorem dL_law_390 : decode cL_law 390 = .ok (.aload_n 0, 1) := by decide +kernel
theorem dL_law_391 : decode cL_law 391 = .ok (.iload_n 3, 1) := by decide +kernel
theorem dL_law_392 : decode cL_law 392 = .ok (.iconst 1, 1) := by decide +kernel
theorem dL_law_393 : decode cL_law 393 = .ok (.iadd, 1) := by decide +kernel
theorem dL_law_394 : decode cL_law 394 = .ok (.iaload, 1) := by decide +kernel
theorem dL_law_395 : decode cL_law 395 = .ok (.invokevirtual 76, 3) := by decide +kernel
theorem dL_law_398 : decode cL_law 398 = .ok (.if_icmp .eq 67, 3) := by decide +kernel
theorem dL_law_401 : decode cL_law 401 = .ok (.iconst 0, 1) := by decide +kernel
theorem dL_law_402 : decode cL_law 402 = .ok (.ireturn, 1) := by decide +kernel
theorem dL_law_403 : decode cL_law 403 = .ok (.aload_n 1, 1) := by decide +kernel
theorem dL_law_404 : decode cL_law 404 = .ok (.aload_n 0, 1) := by decide +kernel
theorem dL_law_405 : decode cL_law 405 = .ok (.iload_n 3, 1) := by decide +kernel
theorem dL_law_406 : decode cL_law 406 = .ok (.iconst 1, 1) := by decide +kernel
theorem dL_law_407 : decode cL_law 407 = .ok (.iadd, 1) := by decide +kernel
theorem dL_law_408 : decode cL_law 408 = .ok (.iaload, 1) := by decide +kernel
theorem dL_law_409 : decode cL_law 409 = .ok (.invokevirtual 77, 3) := by decide +kernel
theorem dL_law_412 : decode cL_law 412 = .ok (.aload_n 2, 1) := by decide +kernel
theorem dL_law_413 : decode cL_law 413 = .ok (.aload_n 0, 1) := by decide +kernel
theorem dL_law_414 : decode cL_law 414 = .ok (.iload_n 3, 1) := by decide +kernel
theorem dL_law_415 : decode cL_law 415 = .ok (.iconst 1, 1) := by decide +kernel
theorem dL_law_416 : decode cL_law 416 = .ok (.iadd, 1) := by decide +kernel
theorem dL_law_417 : decode cL_law 417 = .ok (.iaload, 1) := by decide +kernel
theorem dL_law_418 : decode cL_law 418 = .ok (.invokevirtual 80, 3) := by decide +kernel
theorem dL_law_421 : decode cL_law 421 = .ok (.if_icmp .eq 44, 3) := by decide +kernel
theorem dL_law_424 : decode cL_law 424 = .ok (.iconst 0, 1) := by decide +kernel
theorem dL_law_425 : decode cL_law 425 = .ok (.ireturn, 1) := by decide +kernel
theorem dL_law_426 : decode cL_law 426 = .ok (.aload_n 1, 1) := by decide +kernel
theorem dL_law_427 : decode cL_law 427 = .ok (.invokevirtual 81, 3) := by decide +kernel
theorem dL_law_430 : decode cL_law 430 = .ok (.aload_n 2, 1) := by decide +kernel
theorem dL_law_431 : decode cL_law 431 = .ok (.invokevirtual 84, 3) := by decide +kernel
theorem dL_law_434 : decode cL_law 434 = .ok (.if_icmp .eq 31, 3) := by decide +kernel
theorem dL_law_437 : decode cL_law 437 = .ok (.iconst 0, 1) := by decide +kernel
theorem dL_law_438 : decode cL_law 438 = .ok (.ireturn, 1) := by decide +kernel
theorem dL_law_439 : decode cL_law 439 = .ok (.aload_n 1, 1) := by decide +kernel
theorem dL_law_440 : decode cL_law 440 = .ok (.invokevirtual 85, 3) := by decide +kernel
theorem dL_law_443 : decode cL_law 443 = .ok (.aload_n 2, 1) := by decide +kernel
theorem dL_law_444 : decode cL_law 444 = .ok (.invokevirtual 88, 3) := by decide +kernel
theorem dL_law_447 : decode cL_law 447 = .ok (.if_icmp .eq 18, 3) := by decide +kernel
theorem dL_law_450 : decode cL_law 450 = .ok (.iconst 0, 1) := by decide +kernel
theorem dL_law_451 : decode cL_law 451 = .ok (.ireturn, 1) := by decide +kernel
theorem dL_law_452 : decode cL_law 452 = .ok (.aload_n 1, 1) := by decide +kernel
theorem dL_law_453 : decode cL_law 453 = .ok (.invokevirtual 89, 3) := by decide +kernel
theorem dL_law_456 : decode cL_law 456 = .ok (.aload_n 2, 1) := by decide +kernel
theorem dL_law_457 : decode cL_law 457 = .ok (.invokevirtual 92, 3) := by decide +kernel
theorem dL_law_460 : decode cL_law 460 = .ok (.if_icmp .eq 5, 3) := by decide +kernel
theorem dL_law_463 : decode cL_law 463 = .ok (.iconst 0, 1) := by decide +kernel
theorem dL_law_464 : decode cL_law 464 = .ok (.ireturn, 1) := by decide +kernel
theorem dL_law_465 : decode cL_law 465 = .ok (.iinc 3 3, 3) := by decide +kernel
theorem dL_law_468 : decode cL_law 468 = .ok (.goto (-430), 3) := by decide +kernel
theorem dL_law_471 : decode cL_law 471 = .ok (.iconst 1, 1) := by decide +kernel
theorem dL_law_472 : decode cL_law 472 = .ok (.ireturn, 1) := by decide +kernel
abbrev vwCl : List vw_C := [(RX0, TX0, 4), (RX1, TX1, 11), (RX2, TX2, 4), (RX3, TX3, 16)]
end
section
/-! ===== a world whose cells stay: pure words for walks ===== -/
def zI (z : Int) : Int32 := Int32.ofInt z
def vg {α : Type} (i : Int32) (n : Nat) (x : Option α) : Option α := if i < 0 ∨ n ≤ i.toNatClampNeg then none else x
def vb {α : Type} (r : Int32) (x : Option α) : Option α := if r = 0 ∨ r = 1 then x else none
theorem vgs {α : Type} {i : Int32} {n : Nat} {x : Option α} {z : α} (h : vg i n x = some z) : vp_in i n ∧ x = some z := by
  unfold vg at h
  by_cases hc : i < 0 ∨ n ≤ i.toNatClampNeg
  · rw [if_pos hc] at h; cases h
  · rw [if_neg hc] at h; exact ⟨hc, h⟩
theorem vbs {α : Type} {r : Int32} {x : Option α} {z : α} (h : vb r x = some z) : narrow .boolean (.int r) = .int r ∧ x = some z := by
  unfold vb at h
  by_cases hc : r = 0 ∨ r = 1
  · rw [if_pos hc] at h
    rcases hc with rfl | rfl
    · exact ⟨rfl, h⟩
    · exact ⟨rfl, h⟩
  · rw [if_neg hc] at h; cases h
theorem ift {α : Type} {c : Prop} [Decidable c] {x y : Option α} {z : α} (hc : c) (h : (if c then x else y) = some z) : x = some z := by rwa [if_pos hc] at h
theorem iff_ {α : Type} {c : Prop} [Decidable c] {x y : Option α} {z : α} (hc : ¬ c) (h : (if c then x else y) = some z) : y = some z := by rwa [if_neg hc] at h
theorem bd {α β : Type} {x : Option α} {k : α → Option β} {y : β} (h : x.bind k = some y) : ∃ z, x = some z ∧ k z = some y := by
  cases x with
  | none => cases h
  | some z => exact ⟨z, rfl, h⟩
/-! the words of the nest mates' links: not among a method's words, carried by the start -/
def xNF : List (Nat × String × String × String) := [(75, "WornFlash$Flash", "owners", "[I"), (63, "WornFlash$Flash", "values", "[I"), (67, "WornFlash$Flash", "kinds", "[I"), (78, "WornFlash$Flash", "serials", "[I"), (87, "WornFlash$Flash", "wear", "[I"), (32, "WornFlash$Flash", "newestPlace", "[I"), (151, "WornFlash$Flash", "nextSerial", "I"), (94, "WornFlash$Flash", "operationsDone", "I"), (50, "WornFlash$Flash", "fuseLeft", "I"), (110, "WornFlash$Buffer", "sectors", "[I"), (57, "WornFlash$Buffer", "values", "[I"), (64, "WornFlash$Buffer", "kinds", "[I"), (40, "WornFlash$Buffer", "count", "I")]
def XNW (S : State) : Prop := (∀ q ∈ xNF, va_Nw (.fieldLinkNest RX2 q.1 q.2.1 q.2.2.1 q.2.2.2 "WornFlash") S) ∧ va_Nw (.methodLinkNest RX2 20 yX0_init "WornFlash") S
theorem XNW.at {S : State} {args : Array Value} (h : XNW S) (k : Nat) {i : Nat} {b n d : String} (hk : xNF[k]? = some (i, b, n, d)) : (Cond.fieldLinkNest RX2 i b n d "WornFlash").before args S = true := va_Nw.use rfl (h.1 (i, b, n, d) (List.mem_of_getElem? hk))
theorem XNW.warm {s U : State} (hW : s.WarmedH U.vm) (h : XNW s) : XNW U := ⟨fun q hq => va_Nw.warmF hW (h.1 q hq), va_Nw.warmM hW h.2⟩
theorem XNW.same {u U : State} (e : u.vm = U.vm) (h : XNW u) : XNW U := ⟨fun q hq => va_Nw.same rfl e (h.1 q hq), va_Nw.same rfl e h.2⟩
/-! contracts over a world that keeps its cells -/
def vzPre {U : Type} (D : va_G) (tys : List (ClassId × FieldType)) (Wf : U → va_W) (u : U) (sz : Nat) (S : State) : Prop := S.heap.size = sz ∧ XNW S ∧ va_P D vwCl (Wf u) S.heap ∧ va_K D vwCl tys S ∧ va_D (fun _ => True) (Wf u)
def vzPost {U : Type} (D : va_G) (tys : List (ClassId × FieldType)) (Wf : U → va_W) (A : Nat → Prop) (u : U) (t : State) : Prop := va_P D vwCl (Wf u) t.heap ∧ va_K D vwCl tys t ∧ va_D A (Wf u)
abbrev vzQ {U : Type} (D : va_G) (tys : List (ClassId × FieldType)) (Wf : U → va_W) (A : Nat → Prop) (r : Int32) (u2 : U) : Array Value → State → Outcome → State → Prop := va_Qi (fun r' u' => r' = r ∧ u' = u2) (vzPost D tys Wf A) A
abbrev vzQv {U : Type} (D : va_G) (tys : List (ClassId × FieldType)) (Wf : U → va_W) (A : Nat → Prop) (u2 : U) : Array Value → State → Outcome → State → Prop := va_Qv (fun u' => u' = u2) (vzPost D tys Wf A) A
def vzC {U : Type} (l : Launch) (D : va_G) (tys : List (ClassId × FieldType)) (Wf : U → va_W) (y : MethodName) (ws : List Cond) (rm : Room) (av : List Value) (u : U) (r : Int32) (u2 : U) : Prop :=
  ∀ sz : Nat, Met l y ws rm (va_Pc av (vzPre D tys Wf u sz)) (vzQ D tys Wf (va_A (Wf u) sz) r u2) 0 0 (va_A (Wf u) sz)
def vzV {U : Type} (l : Launch) (D : va_G) (tys : List (ClassId × FieldType)) (Wf : U → va_W) (y : MethodName) (ws : List Cond) (rm : Room) (av : List Value) (u : U) (u2 : U) : Prop :=
  ∀ sz : Nat, Met l y ws rm (va_Pc av (vzPre D tys Wf u sz)) (vzQv D tys Wf (va_A (Wf u) sz) u2) 0 0 (va_A (Wf u) sz)
/-- what a body knows -/
def vzX (D : va_G) (tys : List (ClassId × FieldType)) (A : Nat → Prop) (ws : List Cond) (cc : ByteArray) (maxL : Nat) (ret : Option FieldType) (own : String) (p : Program) (s : State) (m : MethodId) (args : Array Value) (meth : Method) (c : Code) : Prop :=
  p.tables.exec = Jvm.exec ∧ c.code = cc ∧ meth.sig.returnType = ret ∧ c.maxLocals = maxL ∧ s.vm.findClass own = some m.cls ∧ (∀ w ∈ ws, w.before args s = true) ∧ meth.locks = false ∧ XNW s ∧ va_K D vwCl tys s ∧ ∀ q : Nat, s.heap.size ≤ q → A q
theorem vzPre.blind {U : Type} {D : va_G} {tys : List (ClassId × FieldType)} {Wf : U → va_W} {u : U} {sz : Nat} {av : List Value} : FrameBlind (va_Pc av (vzPre D tys Wf u sz)) := fun a S g mk q => by
  obtain ⟨q0, q1, q2, qP, qK, qD⟩ := q
  exact ⟨q0, q1, XNW.same (u := S) (U := S.calling g mk a) rfl q2, qP, va_K.moved (u := S) (U := S.calling g mk a) (Vm.Alike.refl S.vm) qK, qD⟩
theorem vzC.of {U : Type} {l : Launch} {D : va_G} {tys : List (ClassId × FieldType)} {Wf : U → va_W} {y : MethodName} {ws ws' : List Cond} {rm : Room} {av : List Value} {u u2 : U} {r : Int32} {cc : ByteArray} {maxL : Nat} {ret : Option FieldType}
    (hy : plainName y.cls = true) (hw : ws = Cond.code y cc maxL ret :: ws') (hlen : (lg_sl av).length ≤ maxL)
    (body : ∀ (p : Program) (e : Env) (s : State) (m : MethodId) (below : List Frame) (meth : Method) (c : Code) (A : Nat → Prop) (ls : Array Slot), vzX D tys A ws cc maxL ret y.cls p s m av.toArray meth c → va_P D vwCl (Wf u) s.heap → va_D A (Wf u) → lv_has ls maxL (lv_args 0 av) →
      W p l e (headSpec ws rm).room s m av.toArray below meth c s.heap [] 0 0 (MQ below (vzQ D tys Wf A r u2) av.toArray s 0 0 A) (F0 m 0 ls [])) : vzC l D tys Wf y ws rm av u r u2 := by
  intro sz
  refine Met.ofW (cc := cc) (maxL := maxL) (ret := ret) hy hw ?_
  intro p e s m args below meth c s₁ B hml hv
  obtain ⟨rfl, hsz, hN, hP, hK, hD0⟩ := hv
  subst hsz
  have hD := hD0.self (sz := s.heap.size)
  generalize hAe : va_A (Wf u) s.heap.size = A at hD ⊢
  have hl := lv_entry av (n := maxL) hlen
  rw [lg_entry_eq]
  generalize (lg_sl av ++ List.replicate (maxL - (lg_sl av).length) Slot.unset).toArray = ls at hl ⊢
  exact body p e s m below meth c A ls ⟨B.exec, B.bytes, B.returns, hml, findClass_of_methodNamed B.named, atoms_spec (ws := ws) B.pre, B.notSynchronized, hN, hK, fun q h => by rw [← hAe]; exact Or.inr h⟩ hP hD hl
theorem vzV.of {U : Type} {l : Launch} {D : va_G} {tys : List (ClassId × FieldType)} {Wf : U → va_W} {y : MethodName} {ws ws' : List Cond} {rm : Room} {av : List Value} {u u2 : U} {cc : ByteArray} {maxL : Nat} {ret : Option FieldType}
    (hy : plainName y.cls = true) (hw : ws = Cond.code y cc maxL ret :: ws') (hlen : (lg_sl av).length ≤ maxL)
    (body : ∀ (p : Program) (e : Env) (s : State) (m : MethodId) (below : List Frame) (meth : Method) (c : Code) (A : Nat → Prop) (ls : Array Slot), vzX D tys A ws cc maxL ret y.cls p s m av.toArray meth c → va_P D vwCl (Wf u) s.heap → va_D A (Wf u) → lv_has ls maxL (lv_args 0 av) →
      W p l e (headSpec ws rm).room s m av.toArray below meth c s.heap [] 0 0 (MQ below (vzQv D tys Wf A u2) av.toArray s 0 0 A) (F0 m 0 ls [])) : vzV l D tys Wf y ws rm av u u2 := by
  intro sz
  refine Met.ofW (cc := cc) (maxL := maxL) (ret := ret) hy hw ?_
  intro p e s m args below meth c s₁ B hml hv
  obtain ⟨rfl, hsz, hN, hP, hK, hD0⟩ := hv
  subst hsz
  have hD := hD0.self (sz := s.heap.size)
  generalize hAe : va_A (Wf u) s.heap.size = A at hD ⊢
  have hl := lv_entry av (n := maxL) hlen
  rw [lg_entry_eq]
  generalize (lg_sl av ++ List.replicate (maxL - (lg_sl av).length) Slot.unset).toArray = ls at hl ⊢
  exact body p e s m below meth c A ls ⟨B.exec, B.bytes, B.returns, hml, findClass_of_methodNamed B.named, atoms_spec (ws := ws) B.pre, B.notSynchronized, hN, hK, fun q h => by rw [← hAe]; exact Or.inr h⟩ hP hD hl
section VZ
variable {p : Program} {l : Launch} {e : Env} {R : Room} {s : State} {m : MethodId} {args : Array Value} {below : List Frame} {meth : Method} {c : Code} {H : Heap} {locs : List Loc} {cells slots : Nat} {Q : State → Prop}
variable {U : Type} {D : va_G} {tys : List (ClassId × FieldType)} {A : Nat → Prop} {Wf : U → va_W} {Ts : List Cond} {cc : ByteArray} {nL : Nat} {retc : Option FieldType} {own : String} {pc : Nat} {ls : Array Slot}
theorem vz_freeA {u : U} (hD : va_D A (Wf u)) (hS : va_S A s.heap H locs) (hA : ∀ q : Nat, s.heap.size ≤ q → A q) : ∀ q, va_A (Wf u) H.size q → A q := by
  intro q h
  rcases h with ⟨k, e, h⟩ | h
  · exact hD.2 k (q, e) h
  · exact hA q (Nat.le_trans hS.1 h)
theorem vz_call {y : MethodName} {bytes : ByteArray} {maxL k index : Nat} {ret : Option FieldType} {wsy : List Cond} {rm : Room} {C : String} {b : Nat} {As rest st : List Value} {u u2 : U} {r : Int32} {fs : List Value} {T : u_T} {N' : Nat}
    (X : vzX D tys A Ts cc nL retc own p s m args meth c) (hC : vzC l D tys Wf y wsy rm (.ref b :: As) u r u2) (cw : CallW R s args own C index y bytes maxL ret wsy rm 0 0 k)
    (q0 ci : Nat) (he : (Wf u)[q0]? = some (b, .inr (ci, fs))) (hcl : vwCl[ci]? = some (C, T, N')) (hn : As.length = k) (hl : ls.size = nL) (hst : st = As.reverse ++ .ref b :: rest) (hw8 : (rest.map fun v => v.category).sum ≤ 8)
    (hdg : decode cc pc = .ok (.invokevirtual index, 3)) (hf : cells ≤ R.cells ∧ slots ≤ R.slots) (hP : va_P D vwCl (Wf u) H) (hD : va_D A (Wf u)) (hS : va_S A s.heap H locs)
    (kk : ∀ (H1 : Heap) (locs1 : List Loc), va_P D vwCl (Wf u2) H1 → va_D A (Wf u2) → va_S A s.heap H1 locs1 → W p l e R s m args below meth c H1 locs1 cells slots Q (F0 m (pc + 3) ls (.int r :: rest))) : W p l e R s m args below meth c H locs cells slots Q (F0 m pc ls st) := by
  obtain ⟨hx, hb, hr, hml, hown, hts, hlk, hN, hK, hA⟩ := X
  have hFc := vz_freeA hD hS hA
  refine va_calli (va_runV (As := As) (rest := rest) ⟨hx, hb, hml, hown, hts⟩ (hC H.size) cw ⟨vzPre.blind, va_recv hK hP hcl he, fun S hU hW => ⟨rfl, by rw [hU], XNW.warm hW hN, by rw [hU]; exact hP, va_K.moved hW.alike hK, hD.weaken (fun _ _ _ _ => trivial)⟩⟩ rfl hn hl hst (lv_room hw8) hdg hf) hS (fun q _ h => hFc q h) hFc (fun r' u' t H1 locs1 ht hvm hw hB hz1 hk1 hS1 => ?_)
  obtain ⟨rfl, rfl⟩ := hw
  obtain ⟨hP1, hK1, hD1⟩ := hB
  rw [ht] at hP1
  exact kk H1 locs1 hP1 (hD1.weaken (fun _ q _ h => hFc q.1 h)) hS1
theorem vz_callv {y : MethodName} {bytes : ByteArray} {maxL k index : Nat} {ret : Option FieldType} {wsy : List Cond} {rm : Room} {C : String} {b : Nat} {As rest st : List Value} {u u2 : U} {fs : List Value} {T : u_T} {N' : Nat}
    (X : vzX D tys A Ts cc nL retc own p s m args meth c) (hC : vzV l D tys Wf y wsy rm (.ref b :: As) u u2) (cw : CallW R s args own C index y bytes maxL ret wsy rm 0 0 k)
    (q0 ci : Nat) (he : (Wf u)[q0]? = some (b, .inr (ci, fs))) (hcl : vwCl[ci]? = some (C, T, N')) (hn : As.length = k) (hl : ls.size = nL) (hst : st = As.reverse ++ .ref b :: rest) (hw8 : (rest.map fun v => v.category).sum ≤ 8)
    (hdg : decode cc pc = .ok (.invokevirtual index, 3)) (hf : cells ≤ R.cells ∧ slots ≤ R.slots) (hP : va_P D vwCl (Wf u) H) (hD : va_D A (Wf u)) (hS : va_S A s.heap H locs)
    (kk : ∀ (H1 : Heap) (locs1 : List Loc), va_P D vwCl (Wf u2) H1 → va_D A (Wf u2) → va_S A s.heap H1 locs1 → W p l e R s m args below meth c H1 locs1 cells slots Q (F0 m (pc + 3) ls rest)) : W p l e R s m args below meth c H locs cells slots Q (F0 m pc ls st) := by
  obtain ⟨hx, hb, hr, hml, hown, hts, hlk, hN, hK, hA⟩ := X
  have hFc := vz_freeA hD hS hA
  refine va_callv (va_runV (As := As) (rest := rest) ⟨hx, hb, hml, hown, hts⟩ (hC H.size) cw ⟨vzPre.blind, va_recv hK hP hcl he, fun S hU hW => ⟨rfl, by rw [hU], XNW.warm hW hN, by rw [hU]; exact hP, va_K.moved hW.alike hK, hD.weaken (fun _ _ _ _ => trivial)⟩⟩ rfl hn hl hst (lv_room hw8) hdg hf) hS (fun q _ h => hFc q h) hFc (fun u' t H1 locs1 ht hvm hw hB hz1 hk1 hS1 => ?_)
  subst hw
  obtain ⟨hP1, hK1, hD1⟩ := hB
  rw [ht] at hP1
  exact kk H1 locs1 hP1 (hD1.weaken (fun _ q _ h => hFc q.1 h)) hS1
theorem vz_iret {u : U} {r : Int32} (X : vzX D tys A Ts cc nL (some .int) own p s m args meth c) (hP : va_P D vwCl (Wf u) H) (hD : va_D A (Wf u)) (hS : va_S A s.heap H locs) (hdg : decode cc pc = .ok (.ireturn, 1)) : W p l e R s m args below meth c H locs cells slots (MQ below (vzQ D tys Wf A r u) args s cells slots A) (F0 m pc ls [.int r]) := by
  obtain ⟨hx, hb, hr, hml, hown, hts, hlk, hN, hK, hA⟩ := X
  exact W.iret (v := r) hx hb hr (fun t ht hW => ⟨⟨r, u, rfl, ⟨rfl, rfl⟩, by rw [ht]; exact hP, va_K.moved hW.alike hK, hD⟩, hS.F ht⟩) hS.2.2 hdg hlk
theorem vz_zret {u : U} {r : Int32} (X : vzX D tys A Ts cc nL (some .boolean) own p s m args meth c) (hn : narrow .boolean (.int r) = .int r) (hP : va_P D vwCl (Wf u) H) (hD : va_D A (Wf u)) (hS : va_S A s.heap H locs) (hdg : decode cc pc = .ok (.ireturn, 1)) : W p l e R s m args below meth c H locs cells slots (MQ below (vzQ D tys Wf A r u) args s cells slots A) (F0 m pc ls [.int r]) := by
  obtain ⟨hx, hb, hr, hml, hown, hts, hlk, hN, hK, hA⟩ := X
  exact W.zret (v := r) (ty := .boolean) hx hb hr hn (fun t ht hW => ⟨⟨r, u, rfl, ⟨rfl, rfl⟩, by rw [ht]; exact hP, va_K.moved hW.alike hK, hD⟩, hS.F ht⟩) hS.2.2 hdg hlk
theorem vz_vret {u : U} (X : vzX D tys A Ts cc nL none own p s m args meth c) (hP : va_P D vwCl (Wf u) H) (hD : va_D A (Wf u)) (hS : va_S A s.heap H locs) (hdg : decode cc pc = .ok (.return_, 1)) : W p l e R s m args below meth c H locs cells slots (MQ below (vzQv D tys Wf A u) args s cells slots A) (F0 m pc ls []) := by
  obtain ⟨hx, hb, hr, hml, hown, hts, hlk, hN, hK, hA⟩ := X
  exact W.vret hx hb hr (fun t ht hW => ⟨⟨u, rfl, rfl, by rw [ht]; exact hP, va_K.moved hW.alike hK, hD⟩, hS.F ht⟩) hS.2.2 hdg hlk
end VZ
end
section
abbrev XU : Type := Int32 × Int32 × Int32 × Int32 × Int32 × Int32 × Int32 × (Nat → Int32) × (Nat → Int32) × (Nat → Int32) × (Nat → Int32) × (Nat → Int32) × (Nat → Int32) × (Nat → Int32) × (Nat → Int32) × (Nat → Int32) × (Nat → Int32)
abbrev xu_spr (u : XU) : Int32 := u.1
abbrev xu_opn (u : XU) : Int32 := u.2.1
abbrev xu_blk (u : XU) : Int32 := u.2.2.1
abbrev xu_nxt (u : XU) : Int32 := u.2.2.2.1
abbrev xu_ops (u : XU) : Int32 := u.2.2.2.2.1
abbrev xu_fus (u : XU) : Int32 := u.2.2.2.2.2.1
abbrev xu_cnt (u : XU) : Int32 := u.2.2.2.2.2.2.1
abbrev xu_own (u : XU) : (Nat → Int32) := u.2.2.2.2.2.2.2.1
abbrev xu_val (u : XU) : (Nat → Int32) := u.2.2.2.2.2.2.2.2.1
abbrev xu_kin (u : XU) : (Nat → Int32) := u.2.2.2.2.2.2.2.2.2.1
abbrev xu_ser (u : XU) : (Nat → Int32) := u.2.2.2.2.2.2.2.2.2.2.1
abbrev xu_prg (u : XU) : (Nat → Int32) := u.2.2.2.2.2.2.2.2.2.2.2.1
abbrev xu_wea (u : XU) : (Nat → Int32) := u.2.2.2.2.2.2.2.2.2.2.2.2.1
abbrev xu_new (u : XU) : (Nat → Int32) := u.2.2.2.2.2.2.2.2.2.2.2.2.2.1
abbrev xu_bse (u : XU) : (Nat → Int32) := u.2.2.2.2.2.2.2.2.2.2.2.2.2.2.1
abbrev xu_bva (u : XU) : (Nat → Int32) := u.2.2.2.2.2.2.2.2.2.2.2.2.2.2.2.1
abbrev xu_bki (u : XU) : (Nat → Int32) := u.2.2.2.2.2.2.2.2.2.2.2.2.2.2.2.2
abbrev xu_s_spr (u : XU) (v : Int32) : XU := (v, xu_opn u, xu_blk u, xu_nxt u, xu_ops u, xu_fus u, xu_cnt u, xu_own u, xu_val u, xu_kin u, xu_ser u, xu_prg u, xu_wea u, xu_new u, xu_bse u, xu_bva u, xu_bki u)
abbrev xu_s_opn (u : XU) (v : Int32) : XU := (xu_spr u, v, xu_blk u, xu_nxt u, xu_ops u, xu_fus u, xu_cnt u, xu_own u, xu_val u, xu_kin u, xu_ser u, xu_prg u, xu_wea u, xu_new u, xu_bse u, xu_bva u, xu_bki u)
abbrev xu_s_blk (u : XU) (v : Int32) : XU := (xu_spr u, xu_opn u, v, xu_nxt u, xu_ops u, xu_fus u, xu_cnt u, xu_own u, xu_val u, xu_kin u, xu_ser u, xu_prg u, xu_wea u, xu_new u, xu_bse u, xu_bva u, xu_bki u)
abbrev xu_s_nxt (u : XU) (v : Int32) : XU := (xu_spr u, xu_opn u, xu_blk u, v, xu_ops u, xu_fus u, xu_cnt u, xu_own u, xu_val u, xu_kin u, xu_ser u, xu_prg u, xu_wea u, xu_new u, xu_bse u, xu_bva u, xu_bki u)
abbrev xu_s_ops (u : XU) (v : Int32) : XU := (xu_spr u, xu_opn u, xu_blk u, xu_nxt u, v, xu_fus u, xu_cnt u, xu_own u, xu_val u, xu_kin u, xu_ser u, xu_prg u, xu_wea u, xu_new u, xu_bse u, xu_bva u, xu_bki u)
abbrev xu_s_fus (u : XU) (v : Int32) : XU := (xu_spr u, xu_opn u, xu_blk u, xu_nxt u, xu_ops u, v, xu_cnt u, xu_own u, xu_val u, xu_kin u, xu_ser u, xu_prg u, xu_wea u, xu_new u, xu_bse u, xu_bva u, xu_bki u)
abbrev xu_s_cnt (u : XU) (v : Int32) : XU := (xu_spr u, xu_opn u, xu_blk u, xu_nxt u, xu_ops u, xu_fus u, v, xu_own u, xu_val u, xu_kin u, xu_ser u, xu_prg u, xu_wea u, xu_new u, xu_bse u, xu_bva u, xu_bki u)
abbrev xu_s_own (u : XU) (v : (Nat → Int32)) : XU := (xu_spr u, xu_opn u, xu_blk u, xu_nxt u, xu_ops u, xu_fus u, xu_cnt u, v, xu_val u, xu_kin u, xu_ser u, xu_prg u, xu_wea u, xu_new u, xu_bse u, xu_bva u, xu_bki u)
abbrev xu_s_val (u : XU) (v : (Nat → Int32)) : XU := (xu_spr u, xu_opn u, xu_blk u, xu_nxt u, xu_ops u, xu_fus u, xu_cnt u, xu_own u, v, xu_kin u, xu_ser u, xu_prg u, xu_wea u, xu_new u, xu_bse u, xu_bva u, xu_bki u)
abbrev xu_s_kin (u : XU) (v : (Nat → Int32)) : XU := (xu_spr u, xu_opn u, xu_blk u, xu_nxt u, xu_ops u, xu_fus u, xu_cnt u, xu_own u, xu_val u, v, xu_ser u, xu_prg u, xu_wea u, xu_new u, xu_bse u, xu_bva u, xu_bki u)
abbrev xu_s_ser (u : XU) (v : (Nat → Int32)) : XU := (xu_spr u, xu_opn u, xu_blk u, xu_nxt u, xu_ops u, xu_fus u, xu_cnt u, xu_own u, xu_val u, xu_kin u, v, xu_prg u, xu_wea u, xu_new u, xu_bse u, xu_bva u, xu_bki u)
abbrev xu_s_prg (u : XU) (v : (Nat → Int32)) : XU := (xu_spr u, xu_opn u, xu_blk u, xu_nxt u, xu_ops u, xu_fus u, xu_cnt u, xu_own u, xu_val u, xu_kin u, xu_ser u, v, xu_wea u, xu_new u, xu_bse u, xu_bva u, xu_bki u)
abbrev xu_s_wea (u : XU) (v : (Nat → Int32)) : XU := (xu_spr u, xu_opn u, xu_blk u, xu_nxt u, xu_ops u, xu_fus u, xu_cnt u, xu_own u, xu_val u, xu_kin u, xu_ser u, xu_prg u, v, xu_new u, xu_bse u, xu_bva u, xu_bki u)
abbrev xu_s_new (u : XU) (v : (Nat → Int32)) : XU := (xu_spr u, xu_opn u, xu_blk u, xu_nxt u, xu_ops u, xu_fus u, xu_cnt u, xu_own u, xu_val u, xu_kin u, xu_ser u, xu_prg u, xu_wea u, v, xu_bse u, xu_bva u, xu_bki u)
abbrev xu_s_bse (u : XU) (v : (Nat → Int32)) : XU := (xu_spr u, xu_opn u, xu_blk u, xu_nxt u, xu_ops u, xu_fus u, xu_cnt u, xu_own u, xu_val u, xu_kin u, xu_ser u, xu_prg u, xu_wea u, xu_new u, v, xu_bva u, xu_bki u)
abbrev xu_s_bva (u : XU) (v : (Nat → Int32)) : XU := (xu_spr u, xu_opn u, xu_blk u, xu_nxt u, xu_ops u, xu_fus u, xu_cnt u, xu_own u, xu_val u, xu_kin u, xu_ser u, xu_prg u, xu_wea u, xu_new u, xu_bse u, v, xu_bki u)
abbrev xu_s_bki (u : XU) (v : (Nat → Int32)) : XU := (xu_spr u, xu_opn u, xu_blk u, xu_nxt u, xu_ops u, xu_fus u, xu_cnt u, xu_own u, xu_val u, xu_kin u, xu_ser u, xu_prg u, xu_wea u, xu_new u, xu_bse u, xu_bva u, v)
def XW (a n : Nat → Nat) (cA : Nat → ClassId) (u : XU) : va_W := [(a 0, .inr (2, [.ref (a 1), .ref (a 2), .int (xu_spr u), .int (xu_opn u)])), (a 1, .inr (1, [.int (xu_blk u), .ref (a 3), .ref (a 4), .ref (a 5), .ref (a 6), .ref (a 7), .ref (a 8), .ref (a 9), .int (xu_nxt u), .int (xu_ops u), .int (xu_fus u)])), (a 2, .inr (0, [.ref (a 10), .ref (a 11), .ref (a 12), .int (xu_cnt u)])), (a 3, .inl (cA 3, n 3, .inl (xu_own u))), (a 4, .inl (cA 4, n 4, .inl (xu_val u))), (a 5, .inl (cA 5, n 5, .inl (xu_kin u))), (a 6, .inl (cA 6, n 6, .inl (xu_ser u))), (a 7, .inl (cA 7, n 7, .inl (xu_prg u))), (a 8, .inl (cA 8, n 8, .inl (xu_wea u))), (a 9, .inl (cA 9, n 9, .inl (xu_new u))), (a 10, .inl (cA 10, n 10, .inl (xu_bse u))), (a 11, .inl (cA 11, n 11, .inl (xu_bva u))), (a 12, .inl (cA 12, n 12, .inl (xu_bki u)))]
def XT (cA : Nat → ClassId) : List (ClassId × FieldType) := [(cA 3, .int), (cA 4, .int), (cA 5, .int), (cA 6, .int), (cA 7, .int), (cA 8, .int), (cA 9, .int), (cA 10, .int), (cA 11, .int), (cA 12, .int)]
abbrev MU : Type := Int32 × Int32 × Int32 × Int32 × Int32 × Int32 × Int32 × Int32 × (Nat → Int32) × (Nat → Int32) × (Nat → Int32) × (Nat → Int32) × (Nat → Int32) × (Nat → Int32) × (Nat → Int32) × (Nat → Int32)
abbrev mu_blk (u : MU) : Int32 := u.1
abbrev mu_spr (u : MU) : Int32 := u.2.1
abbrev mu_nxt (u : MU) : Int32 := u.2.2.1
abbrev mu_opn (u : MU) : Int32 := u.2.2.2.1
abbrev mu_ops (u : MU) : Int32 := u.2.2.2.2.1
abbrev mu_fus (u : MU) : Int32 := u.2.2.2.2.2.1
abbrev mu_gon (u : MU) : Int32 := u.2.2.2.2.2.2.1
abbrev mu_ent (u : MU) : Int32 := u.2.2.2.2.2.2.2.1
abbrev mu_sec (u : MU) : (Nat → Int32) := u.2.2.2.2.2.2.2.2.1
abbrev mu_val (u : MU) : (Nat → Int32) := u.2.2.2.2.2.2.2.2.2.1
abbrev mu_ser (u : MU) : (Nat → Int32) := u.2.2.2.2.2.2.2.2.2.2.1
abbrev mu_sor (u : MU) : (Nat → Int32) := u.2.2.2.2.2.2.2.2.2.2.2.1
abbrev mu_era (u : MU) : (Nat → Int32) := u.2.2.2.2.2.2.2.2.2.2.2.2.1
abbrev mu_ese (u : MU) : (Nat → Int32) := u.2.2.2.2.2.2.2.2.2.2.2.2.2.1
abbrev mu_eva (u : MU) : (Nat → Int32) := u.2.2.2.2.2.2.2.2.2.2.2.2.2.2.1
abbrev mu_eso (u : MU) : (Nat → Int32) := u.2.2.2.2.2.2.2.2.2.2.2.2.2.2.2
abbrev mu_s_blk (u : MU) (v : Int32) : MU := (v, mu_spr u, mu_nxt u, mu_opn u, mu_ops u, mu_fus u, mu_gon u, mu_ent u, mu_sec u, mu_val u, mu_ser u, mu_sor u, mu_era u, mu_ese u, mu_eva u, mu_eso u)
abbrev mu_s_spr (u : MU) (v : Int32) : MU := (mu_blk u, v, mu_nxt u, mu_opn u, mu_ops u, mu_fus u, mu_gon u, mu_ent u, mu_sec u, mu_val u, mu_ser u, mu_sor u, mu_era u, mu_ese u, mu_eva u, mu_eso u)
abbrev mu_s_nxt (u : MU) (v : Int32) : MU := (mu_blk u, mu_spr u, v, mu_opn u, mu_ops u, mu_fus u, mu_gon u, mu_ent u, mu_sec u, mu_val u, mu_ser u, mu_sor u, mu_era u, mu_ese u, mu_eva u, mu_eso u)
abbrev mu_s_opn (u : MU) (v : Int32) : MU := (mu_blk u, mu_spr u, mu_nxt u, v, mu_ops u, mu_fus u, mu_gon u, mu_ent u, mu_sec u, mu_val u, mu_ser u, mu_sor u, mu_era u, mu_ese u, mu_eva u, mu_eso u)
abbrev mu_s_ops (u : MU) (v : Int32) : MU := (mu_blk u, mu_spr u, mu_nxt u, mu_opn u, v, mu_fus u, mu_gon u, mu_ent u, mu_sec u, mu_val u, mu_ser u, mu_sor u, mu_era u, mu_ese u, mu_eva u, mu_eso u)
abbrev mu_s_fus (u : MU) (v : Int32) : MU := (mu_blk u, mu_spr u, mu_nxt u, mu_opn u, mu_ops u, v, mu_gon u, mu_ent u, mu_sec u, mu_val u, mu_ser u, mu_sor u, mu_era u, mu_ese u, mu_eva u, mu_eso u)
abbrev mu_s_gon (u : MU) (v : Int32) : MU := (mu_blk u, mu_spr u, mu_nxt u, mu_opn u, mu_ops u, mu_fus u, v, mu_ent u, mu_sec u, mu_val u, mu_ser u, mu_sor u, mu_era u, mu_ese u, mu_eva u, mu_eso u)
abbrev mu_s_ent (u : MU) (v : Int32) : MU := (mu_blk u, mu_spr u, mu_nxt u, mu_opn u, mu_ops u, mu_fus u, mu_gon u, v, mu_sec u, mu_val u, mu_ser u, mu_sor u, mu_era u, mu_ese u, mu_eva u, mu_eso u)
abbrev mu_s_sec (u : MU) (v : (Nat → Int32)) : MU := (mu_blk u, mu_spr u, mu_nxt u, mu_opn u, mu_ops u, mu_fus u, mu_gon u, mu_ent u, v, mu_val u, mu_ser u, mu_sor u, mu_era u, mu_ese u, mu_eva u, mu_eso u)
abbrev mu_s_val (u : MU) (v : (Nat → Int32)) : MU := (mu_blk u, mu_spr u, mu_nxt u, mu_opn u, mu_ops u, mu_fus u, mu_gon u, mu_ent u, mu_sec u, v, mu_ser u, mu_sor u, mu_era u, mu_ese u, mu_eva u, mu_eso u)
abbrev mu_s_ser (u : MU) (v : (Nat → Int32)) : MU := (mu_blk u, mu_spr u, mu_nxt u, mu_opn u, mu_ops u, mu_fus u, mu_gon u, mu_ent u, mu_sec u, mu_val u, v, mu_sor u, mu_era u, mu_ese u, mu_eva u, mu_eso u)
abbrev mu_s_sor (u : MU) (v : (Nat → Int32)) : MU := (mu_blk u, mu_spr u, mu_nxt u, mu_opn u, mu_ops u, mu_fus u, mu_gon u, mu_ent u, mu_sec u, mu_val u, mu_ser u, v, mu_era u, mu_ese u, mu_eva u, mu_eso u)
abbrev mu_s_era (u : MU) (v : (Nat → Int32)) : MU := (mu_blk u, mu_spr u, mu_nxt u, mu_opn u, mu_ops u, mu_fus u, mu_gon u, mu_ent u, mu_sec u, mu_val u, mu_ser u, mu_sor u, v, mu_ese u, mu_eva u, mu_eso u)
abbrev mu_s_ese (u : MU) (v : (Nat → Int32)) : MU := (mu_blk u, mu_spr u, mu_nxt u, mu_opn u, mu_ops u, mu_fus u, mu_gon u, mu_ent u, mu_sec u, mu_val u, mu_ser u, mu_sor u, mu_era u, v, mu_eva u, mu_eso u)
abbrev mu_s_eva (u : MU) (v : (Nat → Int32)) : MU := (mu_blk u, mu_spr u, mu_nxt u, mu_opn u, mu_ops u, mu_fus u, mu_gon u, mu_ent u, mu_sec u, mu_val u, mu_ser u, mu_sor u, mu_era u, mu_ese u, v, mu_eso u)
abbrev mu_s_eso (u : MU) (v : (Nat → Int32)) : MU := (mu_blk u, mu_spr u, mu_nxt u, mu_opn u, mu_ops u, mu_fus u, mu_gon u, mu_ent u, mu_sec u, mu_val u, mu_ser u, mu_sor u, mu_era u, mu_ese u, mu_eva u, v)
def MW (a n : Nat → Nat) (cA : Nat → ClassId) (u : MU) : va_W := [(a 0, .inr (3, [.int (mu_blk u), .int (mu_spr u), .ref (a 1), .ref (a 2), .ref (a 3), .ref (a 4), .ref (a 5), .int (mu_nxt u), .int (mu_opn u), .int (mu_ops u), .int (mu_fus u), .int (mu_gon u), .int (mu_ent u), .ref (a 6), .ref (a 7), .ref (a 8)])), (a 1, .inl (cA 1, n 1, .inl (mu_sec u))), (a 2, .inl (cA 2, n 2, .inl (mu_val u))), (a 3, .inl (cA 3, n 3, .inl (mu_ser u))), (a 4, .inl (cA 4, n 4, .inl (mu_sor u))), (a 5, .inl (cA 5, n 5, .inl (mu_era u))), (a 6, .inl (cA 6, n 6, .inl (mu_ese u))), (a 7, .inl (cA 7, n 7, .inl (mu_eva u))), (a 8, .inl (cA 8, n 8, .inl (mu_eso u)))]
def MT (cA : Nat → ClassId) : List (ClassId × FieldType) := [(cA 1, .int), (cA 2, .int), (cA 3, .int), (cA 4, .int), (cA 5, .int), (cA 6, .int), (cA 7, .int), (cA 8, .int)]
end
section
abbrev rmX0_isFull : Room := { frames := 0, cells := 0, slots := 0, locals := 0 }
theorem in_X0_isFull_X0 : ∀ w ∈ u_ws RX0 TX0 4, w ∈ wsX0_isFull := fun _ h => List.mem_cons_of_mem _ (List.mem_append_right _ h)
def fX0_isFull (n : Nat → Nat) (K : Nat) (u : XU) : Option (Int32 × XU) := if (xu_cnt u) = (zI 3) then (some (zI 1, u)) else (some (zI 0, u))
section
variable {p : Program} {l : Launch} {e : Env} {s : State} {m : MethodId} {args : Array Value} {below : List Frame} {meth : Method} {c : Code} {D : va_G} {a n : Nat → Nat} {cA : Nat → ClassId} {A : Nat → Prop}
set_option maxHeartbeats 4000000 in
set_option maxRecDepth 100000 in
theorem lbX0_isFull_e {K : Nat} (X : vzX D (XT cA) A wsX0_isFull cX0_isFull 1 (some .boolean) RX0 p s m args meth c) : ∀ (u : XU) (H : Heap) (locs : List Loc) (ls : Array Slot) (r : Int32) (u2 : XU), fX0_isFull n K u = some (r, u2) → va_P D vwCl (XW a n cA u) H → va_D A (XW a n cA u) → va_S A s.heap H locs → lv_has ls 1 [(0, .ref (a 2))] → W p l e (headSpec wsX0_isFull rmX0_isFull).room s m args below meth c H locs 0 0 (MQ below (vzQ D (XT cA) (XW a n cA) A r u2) args s 0 0 A) (F0 m 0 ls []) := by
  obtain ⟨hx, hb, hr, hml, hown, hts, hlk, hN, hK, hA⟩ := id X
  intro u H locs ls r u2 hf hP hD hS hl
  unfold fX0_isFull at hf
  refine lv_aload_n hx hb dX0_isFull_0 rfl (lv_at hl 0 rfl) ?_
  refine va_get (D := D) (ci := 0) (v := .int (xu_cnt u)) (C := RX0) (T := TX0) (N := 4) hx hb hts in_X0_isFull_X0 hown hK hP 2 rfl rfl 3 (by decide) (hts _ (List.mem_of_getElem? (i := 1) rfl)) (fun _ h9 => h9) rfl dX0_isFull_1 ?_
  refine lv_iconst (v := zI 3) hx hb dX0_isFull_4 (by decide) ?_
  refine lv_icmp_ne (tgt := 12) hx hb dX0_isFull_5 (by decide) (fun c1 => ?_) (fun c1 => ?_)
  · have hf := iff_ c1 hf
    refine lv_iconst (v := zI 0) hx hb dX0_isFull_12 (by decide) ?_
    cases hf
    exact vz_zret X rfl hP hD hS dX0_isFull_13
  · have hf := ift c1 hf
    refine lv_iconst (v := zI 1) hx hb dX0_isFull_8 (by decide) ?_
    refine lv_goto (tgt := 13) hx hb dX0_isFull_9 (by decide) ?_
    cases hf
    exact vz_zret X rfl hP hD hS dX0_isFull_13
end
theorem kX0_isFull {l : Launch} {D : va_G} {a n : Nat → Nat} {cA : Nat → ClassId} {K : Nat} {u : XU} {r : Int32} {u2 : XU} (h : fX0_isFull n K u = some (r, u2)) : vzC l D (XT cA) (XW a n cA) yX0_isFull wsX0_isFull rmX0_isFull [.ref (a 2)] u r u2 := vzC.of (by decide) rfl (Nat.le_of_ble_eq_true rfl) (fun p e s m below meth c A ls X hP hD hl => lbX0_isFull_e X u s.heap [] ls r u2 h hP hD va_S.rf hl)
abbrev rmX0_find : Room := { frames := 0, cells := 0, slots := 0, locals := 0 }
theorem in_X0_find_X0 : ∀ w ∈ u_ws RX0 TX0 4, w ∈ wsX0_find := fun _ h => List.mem_cons_of_mem _ (List.mem_append_right _ h)
def fX0_find_2 (n : Nat → Nat) (K : Nat) : Nat → Int32 → Int32 → XU → Option (Int32 × XU)
  | 0, _, _, _ => none
  | N + 1, x1, x2, u => if (xu_cnt u) ≤ x2 then (some (zI (-1), u)) else (vg x2 (n 10) (if ((xu_bse u) x2.toNatClampNeg) = x1 then (some (x2, u)) else (fX0_find_2 n K N x1 (x2 + (zI 1)) u)))
def fX0_find (n : Nat → Nat) (K : Nat) (x1 : Int32) (u : XU) : Option (Int32 × XU) := fX0_find_2 n K K x1 (zI 0) u
section
variable {p : Program} {l : Launch} {e : Env} {s : State} {m : MethodId} {args : Array Value} {below : List Frame} {meth : Method} {c : Code} {D : va_G} {a n : Nat → Nat} {cA : Nat → ClassId} {A : Nat → Prop}
set_option maxHeartbeats 4000000 in
set_option maxRecDepth 100000 in
theorem lbX0_find_2 {K : Nat} (X : vzX D (XT cA) A wsX0_find cX0_find 3 (some .int) RX0 p s m args meth c) : ∀ (N : Nat) (x1 x2 : Int32) (u : XU) (H : Heap) (locs : List Loc) (ls : Array Slot) (r : Int32) (u2 : XU), fX0_find_2 n K N x1 x2 u = some (r, u2) → va_P D vwCl (XW a n cA u) H → va_D A (XW a n cA u) → va_S A s.heap H locs → lv_has ls 3 [(0, .ref (a 2)), (1, .int x1), (2, .int x2)] → W p l e (headSpec wsX0_find rmX0_find).room s m args below meth c H locs 0 0 (MQ below (vzQ D (XT cA) (XW a n cA) A r u2) args s 0 0 A) (F0 m 2 ls []) := by
  obtain ⟨hx, hb, hr, hml, hown, hts, hlk, hN, hK, hA⟩ := id X
  intro N
  induction N with
  | zero =>
    intro x1 x2 u H locs ls r u2 hf
    cases hf
  | succ N ih =>
    intro x1 x2 u H locs ls r u2 hf hP hD hS hl
    rw [fX0_find_2] at hf
    refine lv_iload_n hx hb dX0_find_2 rfl (lv_at hl 2 rfl) ?_
    refine lv_aload_n hx hb dX0_find_3 rfl (lv_at hl 0 rfl) ?_
    refine va_get (D := D) (ci := 0) (v := .int (xu_cnt u)) (C := RX0) (T := TX0) (N := 4) hx hb hts in_X0_find_X0 hown hK hP 2 rfl rfl 3 (by decide) (hts _ (List.mem_of_getElem? (i := 1) rfl)) (fun _ h9 => h9) rfl dX0_find_4 ?_
    refine lv_icmp_ge (tgt := 28) hx hb dX0_find_7 (by decide) (fun c1 => ?_) (fun c1 => ?_)
    · have hf := ift c1 hf
      refine lv_iconst (v := zI (-1)) hx hb dX0_find_28 (by decide) ?_
      cases hf
      exact vz_iret X hP hD hS dX0_find_29
    · have hf := iff_ c1 hf
      refine lv_aload_n hx hb dX0_find_10 rfl (lv_at hl 0 rfl) ?_
      refine va_get (D := D) (ci := 0) (v := .ref (a 10)) (C := RX0) (T := TX0) (N := 4) hx hb hts in_X0_find_X0 hown hK hP 2 rfl rfl 0 (by decide) (hts _ (List.mem_of_getElem? (i := 2) rfl)) (fun _ h9 => h9) rfl dX0_find_11 ?_
      refine lv_iload_n hx hb dX0_find_14 rfl (lv_at hl 2 rfl) ?_
      obtain ⟨g2, hf⟩ := vgs hf
      refine va_iald hx hb hK hP 10 7 rfl rfl g2 dX0_find_15 ?_
      refine lv_iload_n hx hb dX0_find_16 rfl (lv_at hl 1 rfl) ?_
      refine lv_icmp_ne (tgt := 22) hx hb dX0_find_17 (by decide) (fun c3 => ?_) (fun c3 => ?_)
      · have hf := iff_ c3 hf
        refine lv_iinc (v := x2 + (zI 1)) (lv' := [(2, .int (x2 + (zI 1))), (0, .ref (a 2)), (1, .int x1)]) hx hb dX0_find_22 hl (k := 2) rfl rfl (by decide) rfl (fun ls hl => ?_)
        refine lv_goto (tgt := 2) hx hb dX0_find_25 (by decide) ?_
        exact ih x1 (x2 + (zI 1)) u _ _ _ _ _ hf hP hD hS (lv_sub hl [1, 2, 0] rfl)
      · have hf := ift c3 hf
        refine lv_iload_n hx hb dX0_find_20 rfl (lv_at hl 2 rfl) ?_
        cases hf
        exact vz_iret X hP hD hS dX0_find_21
set_option maxHeartbeats 4000000 in
set_option maxRecDepth 100000 in
theorem lbX0_find_e {K : Nat} (X : vzX D (XT cA) A wsX0_find cX0_find 3 (some .int) RX0 p s m args meth c) : ∀ (x1 : Int32) (u : XU) (H : Heap) (locs : List Loc) (ls : Array Slot) (r : Int32) (u2 : XU), fX0_find n K x1 u = some (r, u2) → va_P D vwCl (XW a n cA u) H → va_D A (XW a n cA u) → va_S A s.heap H locs → lv_has ls 3 [(0, .ref (a 2)), (1, .int x1)] → W p l e (headSpec wsX0_find rmX0_find).room s m args below meth c H locs 0 0 (MQ below (vzQ D (XT cA) (XW a n cA) A r u2) args s 0 0 A) (F0 m 0 ls []) := by
  obtain ⟨hx, hb, hr, hml, hown, hts, hlk, hN, hK, hA⟩ := id X
  intro x1 u H locs ls r u2 hf hP hD hS hl
  unfold fX0_find at hf
  refine lv_iconst (v := zI 0) hx hb dX0_find_0 (by decide) ?_
  refine lv_istore_n (lv' := [(2, .int (zI 0)), (0, .ref (a 2)), (1, .int x1)]) hx hb dX0_find_1 rfl hl (by decide) rfl (fun ls hl => ?_)
  exact lbX0_find_2 X K x1 (zI 0) u _ _ _ _ _ hf hP hD hS (lv_sub hl [1, 2, 0] rfl)
end
theorem kX0_find {l : Launch} {D : va_G} {a n : Nat → Nat} {cA : Nat → ClassId} {K : Nat} {x1 : Int32} {u : XU} {r : Int32} {u2 : XU} (h : fX0_find n K x1 u = some (r, u2)) : vzC l D (XT cA) (XW a n cA) yX0_find wsX0_find rmX0_find [.ref (a 2), .int x1] u r u2 := vzC.of (by decide) rfl (Nat.le_of_ble_eq_true rfl) (fun p e s m below meth c A ls X hP hD hl => lbX0_find_e X x1 u s.heap [] ls r u2 h hP hD va_S.rf hl)
abbrev rmX0_change : Room := { frames := 0, cells := 0, slots := 0, locals := 0 }
theorem in_X0_change_X0 : ∀ w ∈ u_ws RX0 TX0 4, w ∈ wsX0_change := fun _ h => List.mem_cons_of_mem _ (List.mem_append_right _ h)
def fX0_change (n : Nat → Nat) (K : Nat) (x1 x2 x3 : Int32) (u : XU) : Option XU := vg x1 (n 11) (vg x1 (n 12) (some (xu_s_bki (xu_s_bva u (upd (xu_bva u) (x1).toNatClampNeg x2)) (upd (xu_bki u) (x1).toNatClampNeg x3))))
section
variable {p : Program} {l : Launch} {e : Env} {s : State} {m : MethodId} {args : Array Value} {below : List Frame} {meth : Method} {c : Code} {D : va_G} {a n : Nat → Nat} {cA : Nat → ClassId} {A : Nat → Prop}
set_option maxHeartbeats 4000000 in
set_option maxRecDepth 100000 in
theorem lbX0_change_e {K : Nat} (X : vzX D (XT cA) A wsX0_change cX0_change 4 none RX0 p s m args meth c) : ∀ (x1 x2 x3 : Int32) (u : XU) (H : Heap) (locs : List Loc) (ls : Array Slot) (u2 : XU), fX0_change n K x1 x2 x3 u = some u2 → va_P D vwCl (XW a n cA u) H → va_D A (XW a n cA u) → va_S A s.heap H locs → lv_has ls 4 [(0, .ref (a 2)), (1, .int x1), (2, .int x2), (3, .int x3)] → W p l e (headSpec wsX0_change rmX0_change).room s m args below meth c H locs 0 0 (MQ below (vzQv D (XT cA) (XW a n cA) A u2) args s 0 0 A) (F0 m 0 ls []) := by
  obtain ⟨hx, hb, hr, hml, hown, hts, hlk, hN, hK, hA⟩ := id X
  intro x1 x2 x3 u H locs ls u2 hf hP hD hS hl
  unfold fX0_change at hf
  refine lv_aload_n hx hb dX0_change_0 rfl (lv_at hl 0 rfl) ?_
  refine va_get (D := D) (ci := 0) (v := .ref (a 11)) (C := RX0) (T := TX0) (N := 4) hx hb hts in_X0_change_X0 hown hK hP 2 rfl rfl 1 (by decide) (hts _ (List.mem_of_getElem? (i := 1) rfl)) (fun _ h9 => h9) rfl dX0_change_1 ?_
  refine lv_iload_n hx hb dX0_change_4 rfl (lv_at hl 1 rfl) ?_
  refine lv_iload_n hx hb dX0_change_5 rfl (lv_at hl 2 rfl) ?_
  obtain ⟨g1, hf⟩ := vgs hf
  refine va_iast hx hb hK hP hD hS 11 8 rfl rfl g1 dX0_change_6 (fun H locs hP hD hS => ?_)
  have hP : va_P D vwCl (XW a n cA (xu_s_bva u (upd (xu_bva u) (x1).toNatClampNeg x2))) H := hP
  have hD : va_D A (XW a n cA (xu_s_bva u (upd (xu_bva u) (x1).toNatClampNeg x2))) := hD
  refine lv_aload_n hx hb dX0_change_7 rfl (lv_at hl 0 rfl) ?_
  refine va_get (D := D) (ci := 0) (v := .ref (a 12)) (C := RX0) (T := TX0) (N := 4) hx hb hts in_X0_change_X0 hown hK hP 2 rfl rfl 2 (by decide) (hts _ (List.mem_of_getElem? (i := 2) rfl)) (fun _ h9 => h9) rfl dX0_change_8 ?_
  refine lv_iload_n hx hb dX0_change_11 rfl (lv_at hl 1 rfl) ?_
  refine lv_iload_n hx hb dX0_change_12 rfl (lv_at hl 3 rfl) ?_
  obtain ⟨g2, hf⟩ := vgs hf
  refine va_iast hx hb hK hP hD hS 12 9 rfl rfl g2 dX0_change_13 (fun H locs hP hD hS => ?_)
  have hP : va_P D vwCl (XW a n cA (xu_s_bki (xu_s_bva u (upd (xu_bva u) (x1).toNatClampNeg x2)) (upd (xu_bki u) (x1).toNatClampNeg x3))) H := hP
  have hD : va_D A (XW a n cA (xu_s_bki (xu_s_bva u (upd (xu_bva u) (x1).toNatClampNeg x2)) (upd (xu_bki u) (x1).toNatClampNeg x3))) := hD
  cases hf
  exact vz_vret X hP hD hS dX0_change_14
end
theorem kX0_change {l : Launch} {D : va_G} {a n : Nat → Nat} {cA : Nat → ClassId} {K : Nat} {x1 x2 x3 : Int32} {u : XU} {u2 : XU} (h : fX0_change n K x1 x2 x3 u = some u2) : vzV l D (XT cA) (XW a n cA) yX0_change wsX0_change rmX0_change [.ref (a 2), .int x1, .int x2, .int x3] u u2 := vzV.of (by decide) rfl (Nat.le_of_ble_eq_true rfl) (fun p e s m below meth c A ls X hP hD hl => lbX0_change_e X x1 x2 x3 u s.heap [] ls u2 h hP hD va_S.rf hl)
abbrev rmX0_add : Room := { frames := 1, cells := 0, slots := 0, locals := 23 }
theorem in_X0_add_X0 : ∀ w ∈ u_ws RX0 TX0 4, w ∈ wsX0_add := fun _ h => List.mem_cons_of_mem _ (List.mem_append_right _ h)
def fX0_add (n : Nat → Nat) (K : Nat) (x1 x2 x3 : Int32) (u : XU) : Option XU := (fX0_isFull n K u).bind fun z1 => (if z1.1 = 0 then (vg (xu_cnt z1.2) (n 10) ((fX0_change n K (xu_cnt z1.2) x2 x3 (xu_s_bse z1.2 (upd (xu_bse z1.2) ((xu_cnt z1.2)).toNatClampNeg x1))).bind fun z5 => (some (xu_s_cnt z5 ((xu_cnt z5) + (zI 1)))))) else (some z1.2))
section
variable {p : Program} {l : Launch} {e : Env} {s : State} {m : MethodId} {args : Array Value} {below : List Frame} {meth : Method} {c : Code} {D : va_G} {a n : Nat → Nat} {cA : Nat → ClassId} {A : Nat → Prop}
set_option maxHeartbeats 4000000 in
set_option maxRecDepth 100000 in
theorem lbX0_add_e {K : Nat} (X : vzX D (XT cA) A wsX0_add cX0_add 4 none RX0 p s m args meth c) : ∀ (x1 x2 x3 : Int32) (u : XU) (H : Heap) (locs : List Loc) (ls : Array Slot) (u2 : XU), fX0_add n K x1 x2 x3 u = some u2 → va_P D vwCl (XW a n cA u) H → va_D A (XW a n cA u) → va_S A s.heap H locs → lv_has ls 4 [(0, .ref (a 2)), (1, .int x1), (2, .int x2), (3, .int x3)] → W p l e (headSpec wsX0_add rmX0_add).room s m args below meth c H locs 0 0 (MQ below (vzQv D (XT cA) (XW a n cA) A u2) args s 0 0 A) (F0 m 0 ls []) := by
  obtain ⟨hx, hb, hr, hml, hown, hts, hlk, hN, hK, hA⟩ := id X
  intro x1 x2 x3 u H locs ls u2 hf hP hD hS hl
  unfold fX0_add at hf
  refine lv_aload_n hx hb dX0_add_0 rfl (lv_at hl 0 rfl) ?_
  obtain ⟨z1, hz2, hf⟩ := bd hf
  refine vz_call (rest := []) X (kX0_isFull hz2) (cwV 0 hts gX0_add_X0_isFull rfl rfl rfl (by decide +kernel) ⟨Nat.le_of_ble_eq_true rfl, Nat.le_of_ble_eq_true rfl⟩) 2 0 rfl rfl rfl hl.1 rfl (Nat.le_of_ble_eq_true rfl) dX0_add_1 ⟨Nat.zero_le _, Nat.zero_le _⟩ hP hD hS (fun H locs hP hD hS => ?_)
  refine lv_if_eq (tgt := 8) hx hb dX0_add_4 (by decide) (fun c3 => ?_) (fun c3 => ?_)
  · have hf := ift c3 hf
    refine lv_aload_n hx hb dX0_add_8 rfl (lv_at hl 0 rfl) ?_
    refine va_get (D := D) (ci := 0) (v := .ref (a 10)) (C := RX0) (T := TX0) (N := 4) hx hb hts in_X0_add_X0 hown hK hP 2 rfl rfl 0 (by decide) (hts _ (List.mem_of_getElem? (i := 1) rfl)) (fun _ h9 => h9) rfl dX0_add_9 ?_
    refine lv_aload_n hx hb dX0_add_12 rfl (lv_at hl 0 rfl) ?_
    refine va_get (D := D) (ci := 0) (v := .int (xu_cnt z1.2)) (C := RX0) (T := TX0) (N := 4) hx hb hts in_X0_add_X0 hown hK hP 2 rfl rfl 3 (by decide) (hts _ (List.mem_of_getElem? (i := 2) rfl)) (fun _ h9 => h9) rfl dX0_add_13 ?_
    refine lv_iload_n hx hb dX0_add_16 rfl (lv_at hl 1 rfl) ?_
    obtain ⟨g4, hf⟩ := vgs hf
    refine va_iast hx hb hK hP hD hS 10 7 rfl rfl g4 dX0_add_17 (fun H locs hP hD hS => ?_)
    have hP : va_P D vwCl (XW a n cA (xu_s_bse z1.2 (upd (xu_bse z1.2) ((xu_cnt z1.2)).toNatClampNeg x1))) H := hP
    have hD : va_D A (XW a n cA (xu_s_bse z1.2 (upd (xu_bse z1.2) ((xu_cnt z1.2)).toNatClampNeg x1))) := hD
    refine lv_aload_n hx hb dX0_add_18 rfl (lv_at hl 0 rfl) ?_
    refine lv_aload_n hx hb dX0_add_19 rfl (lv_at hl 0 rfl) ?_
    refine va_get (D := D) (ci := 0) (v := .int (xu_cnt z1.2)) (C := RX0) (T := TX0) (N := 4) hx hb hts in_X0_add_X0 hown hK hP 2 rfl rfl 3 (by decide) (hts _ (List.mem_of_getElem? (i := 2) rfl)) (fun _ h9 => h9) rfl dX0_add_20 ?_
    refine lv_iload_n hx hb dX0_add_23 rfl (lv_at hl 2 rfl) ?_
    refine lv_iload_n hx hb dX0_add_24 rfl (lv_at hl 3 rfl) ?_
    obtain ⟨z5, hz6, hf⟩ := bd hf
    refine vz_callv (rest := []) X (kX0_change hz6) (cwV 3 hts gX0_add_X0_change rfl rfl rfl (by decide +kernel) ⟨Nat.le_of_ble_eq_true rfl, Nat.le_of_ble_eq_true rfl⟩) 2 0 rfl rfl rfl hl.1 rfl (Nat.le_of_ble_eq_true rfl) dX0_add_25 ⟨Nat.zero_le _, Nat.zero_le _⟩ hP hD hS (fun H locs hP hD hS => ?_)
    refine lv_aload_n hx hb dX0_add_28 rfl (lv_at hl 0 rfl) ?_
    refine lv_dup hx hb dX0_add_29 rfl ?_
    refine va_get (D := D) (ci := 0) (v := .int (xu_cnt z5)) (C := RX0) (T := TX0) (N := 4) hx hb hts in_X0_add_X0 hown hK hP 2 rfl rfl 3 (by decide) (hts _ (List.mem_of_getElem? (i := 2) rfl)) (fun _ h9 => h9) rfl dX0_add_30 ?_
    refine lv_iconst (v := zI 1) hx hb dX0_add_33 (by decide) ?_
    refine lv_iadd hx hb dX0_add_34 ?_
    refine va_put (D := D) (ci := 0) (v := .int ((xu_cnt z5) + (zI 1))) (ty := .int) (C := RX0) (T := TX0) (N := 4) hx hb hts in_X0_add_X0 tyX0 tyX0_ok nmX0 hown hK hP hD hS 2 rfl rfl 3 (by decide) (hts _ (List.mem_of_getElem? (i := 2) rfl)) (fun _ h9 => h9) rfl (by decide +kernel) rfl rfl (Nat.le_of_ble_eq_true rfl) dX0_add_35 (fun H locs hP hD hS => ?_)
    have hP : va_P D vwCl (XW a n cA (xu_s_cnt z5 ((xu_cnt z5) + (zI 1)))) H := hP
    have hD : va_D A (XW a n cA (xu_s_cnt z5 ((xu_cnt z5) + (zI 1)))) := hD
    cases hf
    exact vz_vret X hP hD hS dX0_add_38
  · have hf := iff_ c3 hf
    cases hf
    exact vz_vret X hP hD hS dX0_add_7
end
theorem kX0_add {l : Launch} {D : va_G} {a n : Nat → Nat} {cA : Nat → ClassId} {K : Nat} {x1 x2 x3 : Int32} {u : XU} {u2 : XU} (h : fX0_add n K x1 x2 x3 u = some u2) : vzV l D (XT cA) (XW a n cA) yX0_add wsX0_add rmX0_add [.ref (a 2), .int x1, .int x2, .int x3] u u2 := vzV.of (by decide) rfl (Nat.le_of_ble_eq_true rfl) (fun p e s m below meth c A ls X hP hD hl => lbX0_add_e X x1 x2 x3 u s.heap [] ls u2 h hP hD va_S.rf hl)
abbrev rmX0_dropFirst : Room := { frames := 0, cells := 0, slots := 0, locals := 0 }
theorem in_X0_dropFirst_X0 : ∀ w ∈ u_ws RX0 TX0 4, w ∈ wsX0_dropFirst := fun _ h => List.mem_cons_of_mem _ (List.mem_append_right _ h)
def fX0_dropFirst_2 (n : Nat → Nat) (K : Nat) : Nat → Int32 → XU → Option XU
  | 0, _, _ => none
  | N + 1, x1, u => if (xu_cnt u) ≤ x1 then (some (xu_s_cnt u ((xu_cnt u) - (zI 1)))) else (vg x1 (n 10) (vg (x1 - (zI 1)) (n 10) (vg x1 (n 11) (vg (x1 - (zI 1)) (n 11) (vg x1 (n 12) (vg (x1 - (zI 1)) (n 12) (fX0_dropFirst_2 n K N (x1 + (zI 1)) (xu_s_bki (xu_s_bva (xu_s_bse u (upd (xu_bse u) ((x1 - (zI 1))).toNatClampNeg ((xu_bse u) x1.toNatClampNeg))) (upd (xu_bva u) ((x1 - (zI 1))).toNatClampNeg ((xu_bva u) x1.toNatClampNeg))) (upd (xu_bki u) ((x1 - (zI 1))).toNatClampNeg ((xu_bki u) x1.toNatClampNeg))))))))))
def fX0_dropFirst (n : Nat → Nat) (K : Nat) (u : XU) : Option XU := fX0_dropFirst_2 n K K (zI 1) u
section
variable {p : Program} {l : Launch} {e : Env} {s : State} {m : MethodId} {args : Array Value} {below : List Frame} {meth : Method} {c : Code} {D : va_G} {a n : Nat → Nat} {cA : Nat → ClassId} {A : Nat → Prop}
set_option maxHeartbeats 4000000 in
set_option maxRecDepth 100000 in
theorem lbX0_dropFirst_2 {K : Nat} (X : vzX D (XT cA) A wsX0_dropFirst cX0_dropFirst 2 none RX0 p s m args meth c) : ∀ (N : Nat) (x1 : Int32) (u : XU) (H : Heap) (locs : List Loc) (ls : Array Slot) (u2 : XU), fX0_dropFirst_2 n K N x1 u = some u2 → va_P D vwCl (XW a n cA u) H → va_D A (XW a n cA u) → va_S A s.heap H locs → lv_has ls 2 [(0, .ref (a 2)), (1, .int x1)] → W p l e (headSpec wsX0_dropFirst rmX0_dropFirst).room s m args below meth c H locs 0 0 (MQ below (vzQv D (XT cA) (XW a n cA) A u2) args s 0 0 A) (F0 m 2 ls []) := by
  obtain ⟨hx, hb, hr, hml, hown, hts, hlk, hN, hK, hA⟩ := id X
  intro N
  induction N with
  | zero =>
    intro x1 u H locs ls u2 hf
    cases hf
  | succ N ih =>
    intro x1 u H locs ls u2 hf hP hD hS hl
    rw [fX0_dropFirst_2] at hf
    refine lv_iload_n hx hb dX0_dropFirst_2 rfl (lv_at hl 1 rfl) ?_
    refine lv_aload_n hx hb dX0_dropFirst_3 rfl (lv_at hl 0 rfl) ?_
    refine va_get (D := D) (ci := 0) (v := .int (xu_cnt u)) (C := RX0) (T := TX0) (N := 4) hx hb hts in_X0_dropFirst_X0 hown hK hP 2 rfl rfl 3 (by decide) (hts _ (List.mem_of_getElem? (i := 1) rfl)) (fun _ h9 => h9) rfl dX0_dropFirst_4 ?_
    refine lv_icmp_ge (tgt := 58) hx hb dX0_dropFirst_7 (by decide) (fun c1 => ?_) (fun c1 => ?_)
    · have hf := ift c1 hf
      refine lv_aload_n hx hb dX0_dropFirst_58 rfl (lv_at hl 0 rfl) ?_
      refine lv_dup hx hb dX0_dropFirst_59 rfl ?_
      refine va_get (D := D) (ci := 0) (v := .int (xu_cnt u)) (C := RX0) (T := TX0) (N := 4) hx hb hts in_X0_dropFirst_X0 hown hK hP 2 rfl rfl 3 (by decide) (hts _ (List.mem_of_getElem? (i := 1) rfl)) (fun _ h9 => h9) rfl dX0_dropFirst_60 ?_
      refine lv_iconst (v := zI 1) hx hb dX0_dropFirst_63 (by decide) ?_
      refine lv_isub hx hb dX0_dropFirst_64 ?_
      refine va_put (D := D) (ci := 0) (v := .int ((xu_cnt u) - (zI 1))) (ty := .int) (C := RX0) (T := TX0) (N := 4) hx hb hts in_X0_dropFirst_X0 tyX0 tyX0_ok nmX0 hown hK hP hD hS 2 rfl rfl 3 (by decide) (hts _ (List.mem_of_getElem? (i := 1) rfl)) (fun _ h9 => h9) rfl (by decide +kernel) rfl rfl (Nat.le_of_ble_eq_true rfl) dX0_dropFirst_65 (fun H locs hP hD hS => ?_)
      have hP : va_P D vwCl (XW a n cA (xu_s_cnt u ((xu_cnt u) - (zI 1)))) H := hP
      have hD : va_D A (XW a n cA (xu_s_cnt u ((xu_cnt u) - (zI 1)))) := hD
      cases hf
      exact vz_vret X hP hD hS dX0_dropFirst_68
    · have hf := iff_ c1 hf
      refine lv_aload_n hx hb dX0_dropFirst_10 rfl (lv_at hl 0 rfl) ?_
      refine va_get (D := D) (ci := 0) (v := .ref (a 10)) (C := RX0) (T := TX0) (N := 4) hx hb hts in_X0_dropFirst_X0 hown hK hP 2 rfl rfl 0 (by decide) (hts _ (List.mem_of_getElem? (i := 2) rfl)) (fun _ h9 => h9) rfl dX0_dropFirst_11 ?_
      refine lv_iload_n hx hb dX0_dropFirst_14 rfl (lv_at hl 1 rfl) ?_
      refine lv_iconst (v := zI 1) hx hb dX0_dropFirst_15 (by decide) ?_
      refine lv_isub hx hb dX0_dropFirst_16 ?_
      refine lv_aload_n hx hb dX0_dropFirst_17 rfl (lv_at hl 0 rfl) ?_
      refine va_get (D := D) (ci := 0) (v := .ref (a 10)) (C := RX0) (T := TX0) (N := 4) hx hb hts in_X0_dropFirst_X0 hown hK hP 2 rfl rfl 0 (by decide) (hts _ (List.mem_of_getElem? (i := 2) rfl)) (fun _ h9 => h9) rfl dX0_dropFirst_18 ?_
      refine lv_iload_n hx hb dX0_dropFirst_21 rfl (lv_at hl 1 rfl) ?_
      obtain ⟨g2, hf⟩ := vgs hf
      refine va_iald hx hb hK hP 10 7 rfl rfl g2 dX0_dropFirst_22 ?_
      obtain ⟨g3, hf⟩ := vgs hf
      refine va_iast hx hb hK hP hD hS 10 7 rfl rfl g3 dX0_dropFirst_23 (fun H locs hP hD hS => ?_)
      have hP : va_P D vwCl (XW a n cA (xu_s_bse u (upd (xu_bse u) ((x1 - (zI 1))).toNatClampNeg ((xu_bse u) x1.toNatClampNeg)))) H := hP
      have hD : va_D A (XW a n cA (xu_s_bse u (upd (xu_bse u) ((x1 - (zI 1))).toNatClampNeg ((xu_bse u) x1.toNatClampNeg)))) := hD
      refine lv_aload_n hx hb dX0_dropFirst_24 rfl (lv_at hl 0 rfl) ?_
      refine va_get (D := D) (ci := 0) (v := .ref (a 11)) (C := RX0) (T := TX0) (N := 4) hx hb hts in_X0_dropFirst_X0 hown hK hP 2 rfl rfl 1 (by decide) (hts _ (List.mem_of_getElem? (i := 3) rfl)) (fun _ h9 => h9) rfl dX0_dropFirst_25 ?_
      refine lv_iload_n hx hb dX0_dropFirst_28 rfl (lv_at hl 1 rfl) ?_
      refine lv_iconst (v := zI 1) hx hb dX0_dropFirst_29 (by decide) ?_
      refine lv_isub hx hb dX0_dropFirst_30 ?_
      refine lv_aload_n hx hb dX0_dropFirst_31 rfl (lv_at hl 0 rfl) ?_
      refine va_get (D := D) (ci := 0) (v := .ref (a 11)) (C := RX0) (T := TX0) (N := 4) hx hb hts in_X0_dropFirst_X0 hown hK hP 2 rfl rfl 1 (by decide) (hts _ (List.mem_of_getElem? (i := 3) rfl)) (fun _ h9 => h9) rfl dX0_dropFirst_32 ?_
      refine lv_iload_n hx hb dX0_dropFirst_35 rfl (lv_at hl 1 rfl) ?_
      obtain ⟨g4, hf⟩ := vgs hf
      refine va_iald hx hb hK hP 11 8 rfl rfl g4 dX0_dropFirst_36 ?_
      obtain ⟨g5, hf⟩ := vgs hf
      refine va_iast hx hb hK hP hD hS 11 8 rfl rfl g5 dX0_dropFirst_37 (fun H locs hP hD hS => ?_)
      have hP : va_P D vwCl (XW a n cA (xu_s_bva (xu_s_bse u (upd (xu_bse u) ((x1 - (zI 1))).toNatClampNeg ((xu_bse u) x1.toNatClampNeg))) (upd (xu_bva u) ((x1 - (zI 1))).toNatClampNeg ((xu_bva u) x1.toNatClampNeg)))) H := hP
      have hD : va_D A (XW a n cA (xu_s_bva (xu_s_bse u (upd (xu_bse u) ((x1 - (zI 1))).toNatClampNeg ((xu_bse u) x1.toNatClampNeg))) (upd (xu_bva u) ((x1 - (zI 1))).toNatClampNeg ((xu_bva u) x1.toNatClampNeg)))) := hD
      refine lv_aload_n hx hb dX0_dropFirst_38 rfl (lv_at hl 0 rfl) ?_
      refine va_get (D := D) (ci := 0) (v := .ref (a 12)) (C := RX0) (T := TX0) (N := 4) hx hb hts in_X0_dropFirst_X0 hown hK hP 2 rfl rfl 2 (by decide) (hts _ (List.mem_of_getElem? (i := 4) rfl)) (fun _ h9 => h9) rfl dX0_dropFirst_39 ?_
      refine lv_iload_n hx hb dX0_dropFirst_42 rfl (lv_at hl 1 rfl) ?_
      refine lv_iconst (v := zI 1) hx hb dX0_dropFirst_43 (by decide) ?_
      refine lv_isub hx hb dX0_dropFirst_44 ?_
      refine lv_aload_n hx hb dX0_dropFirst_45 rfl (lv_at hl 0 rfl) ?_
      refine va_get (D := D) (ci := 0) (v := .ref (a 12)) (C := RX0) (T := TX0) (N := 4) hx hb hts in_X0_dropFirst_X0 hown hK hP 2 rfl rfl 2 (by decide) (hts _ (List.mem_of_getElem? (i := 4) rfl)) (fun _ h9 => h9) rfl dX0_dropFirst_46 ?_
      refine lv_iload_n hx hb dX0_dropFirst_49 rfl (lv_at hl 1 rfl) ?_
      obtain ⟨g6, hf⟩ := vgs hf
      refine va_iald hx hb hK hP 12 9 rfl rfl g6 dX0_dropFirst_50 ?_
      obtain ⟨g7, hf⟩ := vgs hf
      refine va_iast hx hb hK hP hD hS 12 9 rfl rfl g7 dX0_dropFirst_51 (fun H locs hP hD hS => ?_)
      have hP : va_P D vwCl (XW a n cA (xu_s_bki (xu_s_bva (xu_s_bse u (upd (xu_bse u) ((x1 - (zI 1))).toNatClampNeg ((xu_bse u) x1.toNatClampNeg))) (upd (xu_bva u) ((x1 - (zI 1))).toNatClampNeg ((xu_bva u) x1.toNatClampNeg))) (upd (xu_bki u) ((x1 - (zI 1))).toNatClampNeg ((xu_bki u) x1.toNatClampNeg)))) H := hP
      have hD : va_D A (XW a n cA (xu_s_bki (xu_s_bva (xu_s_bse u (upd (xu_bse u) ((x1 - (zI 1))).toNatClampNeg ((xu_bse u) x1.toNatClampNeg))) (upd (xu_bva u) ((x1 - (zI 1))).toNatClampNeg ((xu_bva u) x1.toNatClampNeg))) (upd (xu_bki u) ((x1 - (zI 1))).toNatClampNeg ((xu_bki u) x1.toNatClampNeg)))) := hD
      refine lv_iinc (v := x1 + (zI 1)) (lv' := [(1, .int (x1 + (zI 1))), (0, .ref (a 2))]) hx hb dX0_dropFirst_52 hl (k := 1) rfl rfl (by decide) rfl (fun ls hl => ?_)
      refine lv_goto (tgt := 2) hx hb dX0_dropFirst_55 (by decide) ?_
      exact ih (x1 + (zI 1)) (xu_s_bki (xu_s_bva (xu_s_bse u (upd (xu_bse u) ((x1 - (zI 1))).toNatClampNeg ((xu_bse u) x1.toNatClampNeg))) (upd (xu_bva u) ((x1 - (zI 1))).toNatClampNeg ((xu_bva u) x1.toNatClampNeg))) (upd (xu_bki u) ((x1 - (zI 1))).toNatClampNeg ((xu_bki u) x1.toNatClampNeg))) _ _ _ _ hf hP hD hS (lv_sub hl [1, 0] rfl)
set_option maxHeartbeats 4000000 in
set_option maxRecDepth 100000 in
theorem lbX0_dropFirst_e {K : Nat} (X : vzX D (XT cA) A wsX0_dropFirst cX0_dropFirst 2 none RX0 p s m args meth c) : ∀ (u : XU) (H : Heap) (locs : List Loc) (ls : Array Slot) (u2 : XU), fX0_dropFirst n K u = some u2 → va_P D vwCl (XW a n cA u) H → va_D A (XW a n cA u) → va_S A s.heap H locs → lv_has ls 2 [(0, .ref (a 2))] → W p l e (headSpec wsX0_dropFirst rmX0_dropFirst).room s m args below meth c H locs 0 0 (MQ below (vzQv D (XT cA) (XW a n cA) A u2) args s 0 0 A) (F0 m 0 ls []) := by
  obtain ⟨hx, hb, hr, hml, hown, hts, hlk, hN, hK, hA⟩ := id X
  intro u H locs ls u2 hf hP hD hS hl
  unfold fX0_dropFirst at hf
  refine lv_iconst (v := zI 1) hx hb dX0_dropFirst_0 (by decide) ?_
  refine lv_istore_n (lv' := [(1, .int (zI 1)), (0, .ref (a 2))]) hx hb dX0_dropFirst_1 rfl hl (by decide) rfl (fun ls hl => ?_)
  exact lbX0_dropFirst_2 X K (zI 1) u _ _ _ _ hf hP hD hS (lv_sub hl [1, 0] rfl)
end
theorem kX0_dropFirst {l : Launch} {D : va_G} {a n : Nat → Nat} {cA : Nat → ClassId} {K : Nat} {u : XU} {u2 : XU} (h : fX0_dropFirst n K u = some u2) : vzV l D (XT cA) (XW a n cA) yX0_dropFirst wsX0_dropFirst rmX0_dropFirst [.ref (a 2)] u u2 := vzV.of (by decide) rfl (Nat.le_of_ble_eq_true rfl) (fun p e s m below meth c A ls X hP hD hl => lbX0_dropFirst_e X u s.heap [] ls u2 h hP hD va_S.rf hl)
end
section
abbrev rmX1_isBlock : Room := { frames := 0, cells := 0, slots := 0, locals := 0 }
theorem in_X1_isBlock_X1 : ∀ w ∈ u_ws RX1 TX1 11, w ∈ wsX1_isBlock := fun _ h => List.mem_cons_of_mem _ (List.mem_append_right _ h)
def fX1_isBlock (n : Nat → Nat) (K : Nat) (x1 : Int32) (u : XU) : Option (Int32 × XU) := if x1 < 0 then (some (zI 0, u)) else (if (xu_blk u) ≤ x1 then (some (zI 0, u)) else (some (zI 1, u)))
section
variable {p : Program} {l : Launch} {e : Env} {s : State} {m : MethodId} {args : Array Value} {below : List Frame} {meth : Method} {c : Code} {D : va_G} {a n : Nat → Nat} {cA : Nat → ClassId} {A : Nat → Prop}
set_option maxHeartbeats 4000000 in
set_option maxRecDepth 100000 in
theorem lbX1_isBlock_e {K : Nat} (X : vzX D (XT cA) A wsX1_isBlock cX1_isBlock 2 (some .boolean) RX1 p s m args meth c) : ∀ (x1 : Int32) (u : XU) (H : Heap) (locs : List Loc) (ls : Array Slot) (r : Int32) (u2 : XU), fX1_isBlock n K x1 u = some (r, u2) → va_P D vwCl (XW a n cA u) H → va_D A (XW a n cA u) → va_S A s.heap H locs → lv_has ls 2 [(0, .ref (a 1)), (1, .int x1)] → W p l e (headSpec wsX1_isBlock rmX1_isBlock).room s m args below meth c H locs 0 0 (MQ below (vzQ D (XT cA) (XW a n cA) A r u2) args s 0 0 A) (F0 m 0 ls []) := by
  obtain ⟨hx, hb, hr, hml, hown, hts, hlk, hN, hK, hA⟩ := id X
  intro x1 u H locs ls r u2 hf hP hD hS hl
  unfold fX1_isBlock at hf
  refine lv_iload_n hx hb dX1_isBlock_0 rfl (lv_at hl 1 rfl) ?_
  refine lv_if_lt (tgt := 16) hx hb dX1_isBlock_1 (by decide) (fun c1 => ?_) (fun c1 => ?_)
  · have hf := ift c1 hf
    refine lv_iconst (v := zI 0) hx hb dX1_isBlock_16 (by decide) ?_
    cases hf
    exact vz_zret X rfl hP hD hS dX1_isBlock_17
  · have hf := iff_ c1 hf
    refine lv_iload_n hx hb dX1_isBlock_4 rfl (lv_at hl 1 rfl) ?_
    refine lv_aload_n hx hb dX1_isBlock_5 rfl (lv_at hl 0 rfl) ?_
    refine va_get (D := D) (ci := 1) (v := .int (xu_blk u)) (C := RX1) (T := TX1) (N := 11) hx hb hts in_X1_isBlock_X1 hown hK hP 1 rfl rfl 0 (by decide) (hts _ (List.mem_of_getElem? (i := 1) rfl)) (fun _ h9 => h9) rfl dX1_isBlock_6 ?_
    refine lv_icmp_ge (tgt := 16) hx hb dX1_isBlock_9 (by decide) (fun c2 => ?_) (fun c2 => ?_)
    · have hf := ift c2 hf
      refine lv_iconst (v := zI 0) hx hb dX1_isBlock_16 (by decide) ?_
      cases hf
      exact vz_zret X rfl hP hD hS dX1_isBlock_17
    · have hf := iff_ c2 hf
      refine lv_iconst (v := zI 1) hx hb dX1_isBlock_12 (by decide) ?_
      refine lv_goto (tgt := 17) hx hb dX1_isBlock_13 (by decide) ?_
      cases hf
      exact vz_zret X rfl hP hD hS dX1_isBlock_17
end
theorem kX1_isBlock {l : Launch} {D : va_G} {a n : Nat → Nat} {cA : Nat → ClassId} {K : Nat} {x1 : Int32} {u : XU} {r : Int32} {u2 : XU} (h : fX1_isBlock n K x1 u = some (r, u2)) : vzC l D (XT cA) (XW a n cA) yX1_isBlock wsX1_isBlock rmX1_isBlock [.ref (a 1), .int x1] u r u2 := vzC.of (by decide) rfl (Nat.le_of_ble_eq_true rfl) (fun p e s m below meth c A ls X hP hD hl => lbX1_isBlock_e X x1 u s.heap [] ls r u2 h hP hD va_S.rf hl)
abbrev rmX1_isProgrammed : Room := { frames := 0, cells := 0, slots := 0, locals := 0 }
theorem in_X1_isProgrammed_X1 : ∀ w ∈ u_ws RX1 TX1 11, w ∈ wsX1_isProgrammed := fun _ h => List.mem_cons_of_mem _ (List.mem_append_right _ h)
def fX1_isProgrammed (n : Nat → Nat) (K : Nat) (x1 : Int32) (u : XU) : Option (Int32 × XU) := if x1 < 0 then (some (zI 0, u)) else (if (nI (n 5)) ≤ x1 then (some (zI 0, u)) else (vg x1 (n 5) (if ((xu_kin u) x1.toNatClampNeg) = 0 then (some (zI 0, u)) else (some (zI 1, u)))))
section
variable {p : Program} {l : Launch} {e : Env} {s : State} {m : MethodId} {args : Array Value} {below : List Frame} {meth : Method} {c : Code} {D : va_G} {a n : Nat → Nat} {cA : Nat → ClassId} {A : Nat → Prop}
set_option maxHeartbeats 4000000 in
set_option maxRecDepth 100000 in
theorem lbX1_isProgrammed_e {K : Nat} (X : vzX D (XT cA) A wsX1_isProgrammed cX1_isProgrammed 2 (some .boolean) RX1 p s m args meth c) : ∀ (x1 : Int32) (u : XU) (H : Heap) (locs : List Loc) (ls : Array Slot) (r : Int32) (u2 : XU), fX1_isProgrammed n K x1 u = some (r, u2) → va_P D vwCl (XW a n cA u) H → va_D A (XW a n cA u) → va_S A s.heap H locs → lv_has ls 2 [(0, .ref (a 1)), (1, .int x1)] → W p l e (headSpec wsX1_isProgrammed rmX1_isProgrammed).room s m args below meth c H locs 0 0 (MQ below (vzQ D (XT cA) (XW a n cA) A r u2) args s 0 0 A) (F0 m 0 ls []) := by
  obtain ⟨hx, hb, hr, hml, hown, hts, hlk, hN, hK, hA⟩ := id X
  intro x1 u H locs ls r u2 hf hP hD hS hl
  unfold fX1_isProgrammed at hf
  refine lv_iload_n hx hb dX1_isProgrammed_0 rfl (lv_at hl 1 rfl) ?_
  refine lv_if_lt (tgt := 26) hx hb dX1_isProgrammed_1 (by decide) (fun c1 => ?_) (fun c1 => ?_)
  · have hf := ift c1 hf
    refine lv_iconst (v := zI 0) hx hb dX1_isProgrammed_26 (by decide) ?_
    cases hf
    exact vz_zret X rfl hP hD hS dX1_isProgrammed_27
  · have hf := iff_ c1 hf
    refine lv_iload_n hx hb dX1_isProgrammed_4 rfl (lv_at hl 1 rfl) ?_
    refine lv_aload_n hx hb dX1_isProgrammed_5 rfl (lv_at hl 0 rfl) ?_
    refine va_get (D := D) (ci := 1) (v := .ref (a 5)) (C := RX1) (T := TX1) (N := 11) hx hb hts in_X1_isProgrammed_X1 hown hK hP 1 rfl rfl 3 (by decide) (hts _ (List.mem_of_getElem? (i := 1) rfl)) (fun _ h9 => h9) rfl dX1_isProgrammed_6 ?_
    refine va_alen (v := nI (n 5)) (ty := .int) hx hb hK hP 5 2 rfl rfl rfl dX1_isProgrammed_9 ?_
    refine lv_icmp_ge (tgt := 26) hx hb dX1_isProgrammed_10 (by decide) (fun c2 => ?_) (fun c2 => ?_)
    · have hf := ift c2 hf
      refine lv_iconst (v := zI 0) hx hb dX1_isProgrammed_26 (by decide) ?_
      cases hf
      exact vz_zret X rfl hP hD hS dX1_isProgrammed_27
    · have hf := iff_ c2 hf
      refine lv_aload_n hx hb dX1_isProgrammed_13 rfl (lv_at hl 0 rfl) ?_
      refine va_get (D := D) (ci := 1) (v := .ref (a 5)) (C := RX1) (T := TX1) (N := 11) hx hb hts in_X1_isProgrammed_X1 hown hK hP 1 rfl rfl 3 (by decide) (hts _ (List.mem_of_getElem? (i := 1) rfl)) (fun _ h9 => h9) rfl dX1_isProgrammed_14 ?_
      refine lv_iload_n hx hb dX1_isProgrammed_17 rfl (lv_at hl 1 rfl) ?_
      obtain ⟨g3, hf⟩ := vgs hf
      refine va_iald hx hb hK hP 5 2 rfl rfl g3 dX1_isProgrammed_18 ?_
      refine lv_if_eq (tgt := 26) hx hb dX1_isProgrammed_19 (by decide) (fun c4 => ?_) (fun c4 => ?_)
      · have hf := ift c4 hf
        refine lv_iconst (v := zI 0) hx hb dX1_isProgrammed_26 (by decide) ?_
        cases hf
        exact vz_zret X rfl hP hD hS dX1_isProgrammed_27
      · have hf := iff_ c4 hf
        refine lv_iconst (v := zI 1) hx hb dX1_isProgrammed_22 (by decide) ?_
        refine lv_goto (tgt := 27) hx hb dX1_isProgrammed_23 (by decide) ?_
        cases hf
        exact vz_zret X rfl hP hD hS dX1_isProgrammed_27
end
theorem kX1_isProgrammed {l : Launch} {D : va_G} {a n : Nat → Nat} {cA : Nat → ClassId} {K : Nat} {x1 : Int32} {u : XU} {r : Int32} {u2 : XU} (h : fX1_isProgrammed n K x1 u = some (r, u2)) : vzC l D (XT cA) (XW a n cA) yX1_isProgrammed wsX1_isProgrammed rmX1_isProgrammed [.ref (a 1), .int x1] u r u2 := vzC.of (by decide) rfl (Nat.le_of_ble_eq_true rfl) (fun p e s m below meth c A ls X hP hD hl => lbX1_isProgrammed_e X x1 u s.heap [] ls r u2 h hP hD va_S.rf hl)
abbrev rmX1_isValid : Room := { frames := 0, cells := 0, slots := 0, locals := 0 }
theorem in_X1_isValid_X1 : ∀ w ∈ u_ws RX1 TX1 11, w ∈ wsX1_isValid := fun _ h => List.mem_cons_of_mem _ (List.mem_append_right _ h)
def fX1_isValid (n : Nat → Nat) (K : Nat) (x1 : Int32) (u : XU) : Option (Int32 × XU) := vg x1 (n 5) (if ((xu_kin u) x1.toNatClampNeg) = 0 then (some (zI 0, u)) else (vg x1 (n 3) (vg ((xu_own u) x1.toNatClampNeg) (n 9) (if ((xu_new u) (((xu_own u) x1.toNatClampNeg)).toNatClampNeg) = x1 then (some (zI 1, u)) else (some (zI 0, u))))))
section
variable {p : Program} {l : Launch} {e : Env} {s : State} {m : MethodId} {args : Array Value} {below : List Frame} {meth : Method} {c : Code} {D : va_G} {a n : Nat → Nat} {cA : Nat → ClassId} {A : Nat → Prop}
set_option maxHeartbeats 4000000 in
set_option maxRecDepth 100000 in
theorem lbX1_isValid_e {K : Nat} (X : vzX D (XT cA) A wsX1_isValid cX1_isValid 2 (some .boolean) RX1 p s m args meth c) : ∀ (x1 : Int32) (u : XU) (H : Heap) (locs : List Loc) (ls : Array Slot) (r : Int32) (u2 : XU), fX1_isValid n K x1 u = some (r, u2) → va_P D vwCl (XW a n cA u) H → va_D A (XW a n cA u) → va_S A s.heap H locs → lv_has ls 2 [(0, .ref (a 1)), (1, .int x1)] → W p l e (headSpec wsX1_isValid rmX1_isValid).room s m args below meth c H locs 0 0 (MQ below (vzQ D (XT cA) (XW a n cA) A r u2) args s 0 0 A) (F0 m 0 ls []) := by
  obtain ⟨hx, hb, hr, hml, hown, hts, hlk, hN, hK, hA⟩ := id X
  intro x1 u H locs ls r u2 hf hP hD hS hl
  unfold fX1_isValid at hf
  refine lv_aload_n hx hb dX1_isValid_0 rfl (lv_at hl 0 rfl) ?_
  refine va_get (D := D) (ci := 1) (v := .ref (a 5)) (C := RX1) (T := TX1) (N := 11) hx hb hts in_X1_isValid_X1 hown hK hP 1 rfl rfl 3 (by decide) (hts _ (List.mem_of_getElem? (i := 1) rfl)) (fun _ h9 => h9) rfl dX1_isValid_1 ?_
  refine lv_iload_n hx hb dX1_isValid_4 rfl (lv_at hl 1 rfl) ?_
  obtain ⟨g1, hf⟩ := vgs hf
  refine va_iald hx hb hK hP 5 2 rfl rfl g1 dX1_isValid_5 ?_
  refine lv_if_eq (tgt := 28) hx hb dX1_isValid_6 (by decide) (fun c2 => ?_) (fun c2 => ?_)
  · have hf := ift c2 hf
    refine lv_iconst (v := zI 0) hx hb dX1_isValid_28 (by decide) ?_
    cases hf
    exact vz_zret X rfl hP hD hS dX1_isValid_29
  · have hf := iff_ c2 hf
    refine lv_aload_n hx hb dX1_isValid_9 rfl (lv_at hl 0 rfl) ?_
    refine va_get (D := D) (ci := 1) (v := .ref (a 9)) (C := RX1) (T := TX1) (N := 11) hx hb hts in_X1_isValid_X1 hown hK hP 1 rfl rfl 7 (by decide) (hts _ (List.mem_of_getElem? (i := 2) rfl)) (fun _ h9 => h9) rfl dX1_isValid_10 ?_
    refine lv_aload_n hx hb dX1_isValid_13 rfl (lv_at hl 0 rfl) ?_
    refine va_get (D := D) (ci := 1) (v := .ref (a 3)) (C := RX1) (T := TX1) (N := 11) hx hb hts in_X1_isValid_X1 hown hK hP 1 rfl rfl 1 (by decide) (hts _ (List.mem_of_getElem? (i := 3) rfl)) (fun _ h9 => h9) rfl dX1_isValid_14 ?_
    refine lv_iload_n hx hb dX1_isValid_17 rfl (lv_at hl 1 rfl) ?_
    obtain ⟨g3, hf⟩ := vgs hf
    refine va_iald hx hb hK hP 3 0 rfl rfl g3 dX1_isValid_18 ?_
    obtain ⟨g4, hf⟩ := vgs hf
    refine va_iald hx hb hK hP 9 6 rfl rfl g4 dX1_isValid_19 ?_
    refine lv_iload_n hx hb dX1_isValid_20 rfl (lv_at hl 1 rfl) ?_
    refine lv_icmp_ne (tgt := 28) hx hb dX1_isValid_21 (by decide) (fun c5 => ?_) (fun c5 => ?_)
    · have hf := iff_ c5 hf
      refine lv_iconst (v := zI 0) hx hb dX1_isValid_28 (by decide) ?_
      cases hf
      exact vz_zret X rfl hP hD hS dX1_isValid_29
    · have hf := ift c5 hf
      refine lv_iconst (v := zI 1) hx hb dX1_isValid_24 (by decide) ?_
      refine lv_goto (tgt := 29) hx hb dX1_isValid_25 (by decide) ?_
      cases hf
      exact vz_zret X rfl hP hD hS dX1_isValid_29
end
theorem kX1_isValid {l : Launch} {D : va_G} {a n : Nat → Nat} {cA : Nat → ClassId} {K : Nat} {x1 : Int32} {u : XU} {r : Int32} {u2 : XU} (h : fX1_isValid n K x1 u = some (r, u2)) : vzC l D (XT cA) (XW a n cA) yX1_isValid wsX1_isValid rmX1_isValid [.ref (a 1), .int x1] u r u2 := vzC.of (by decide) rfl (Nat.le_of_ble_eq_true rfl) (fun p e s m below meth c A ls X hP hD hl => lbX1_isValid_e X x1 u s.heap [] ls r u2 h hP hD va_S.rf hl)
abbrev rmX1_hasRoom : Room := { frames := 0, cells := 0, slots := 0, locals := 0 }
theorem in_X1_hasRoom_X1 : ∀ w ∈ u_ws RX1 TX1 11, w ∈ wsX1_hasRoom := fun _ h => List.mem_cons_of_mem _ (List.mem_append_right _ h)
def fX1_hasRoom (n : Nat → Nat) (K : Nat) (x1 : Int32) (u : XU) : Option (Int32 × XU) := if x1 < 0 then (some (zI 0, u)) else (if (xu_blk u) ≤ x1 then (some (zI 0, u)) else (vg x1 (n 7) (if (zI 4) ≤ ((xu_prg u) x1.toNatClampNeg) then (some (zI 0, u)) else (some (zI 1, u)))))
section
variable {p : Program} {l : Launch} {e : Env} {s : State} {m : MethodId} {args : Array Value} {below : List Frame} {meth : Method} {c : Code} {D : va_G} {a n : Nat → Nat} {cA : Nat → ClassId} {A : Nat → Prop}
set_option maxHeartbeats 4000000 in
set_option maxRecDepth 100000 in
theorem lbX1_hasRoom_e {K : Nat} (X : vzX D (XT cA) A wsX1_hasRoom cX1_hasRoom 2 (some .boolean) RX1 p s m args meth c) : ∀ (x1 : Int32) (u : XU) (H : Heap) (locs : List Loc) (ls : Array Slot) (r : Int32) (u2 : XU), fX1_hasRoom n K x1 u = some (r, u2) → va_P D vwCl (XW a n cA u) H → va_D A (XW a n cA u) → va_S A s.heap H locs → lv_has ls 2 [(0, .ref (a 1)), (1, .int x1)] → W p l e (headSpec wsX1_hasRoom rmX1_hasRoom).room s m args below meth c H locs 0 0 (MQ below (vzQ D (XT cA) (XW a n cA) A r u2) args s 0 0 A) (F0 m 0 ls []) := by
  obtain ⟨hx, hb, hr, hml, hown, hts, hlk, hN, hK, hA⟩ := id X
  intro x1 u H locs ls r u2 hf hP hD hS hl
  unfold fX1_hasRoom at hf
  refine lv_iload_n hx hb dX1_hasRoom_0 rfl (lv_at hl 1 rfl) ?_
  refine lv_if_lt (tgt := 26) hx hb dX1_hasRoom_1 (by decide) (fun c1 => ?_) (fun c1 => ?_)
  · have hf := ift c1 hf
    refine lv_iconst (v := zI 0) hx hb dX1_hasRoom_26 (by decide) ?_
    cases hf
    exact vz_zret X rfl hP hD hS dX1_hasRoom_27
  · have hf := iff_ c1 hf
    refine lv_iload_n hx hb dX1_hasRoom_4 rfl (lv_at hl 1 rfl) ?_
    refine lv_aload_n hx hb dX1_hasRoom_5 rfl (lv_at hl 0 rfl) ?_
    refine va_get (D := D) (ci := 1) (v := .int (xu_blk u)) (C := RX1) (T := TX1) (N := 11) hx hb hts in_X1_hasRoom_X1 hown hK hP 1 rfl rfl 0 (by decide) (hts _ (List.mem_of_getElem? (i := 1) rfl)) (fun _ h9 => h9) rfl dX1_hasRoom_6 ?_
    refine lv_icmp_ge (tgt := 26) hx hb dX1_hasRoom_9 (by decide) (fun c2 => ?_) (fun c2 => ?_)
    · have hf := ift c2 hf
      refine lv_iconst (v := zI 0) hx hb dX1_hasRoom_26 (by decide) ?_
      cases hf
      exact vz_zret X rfl hP hD hS dX1_hasRoom_27
    · have hf := iff_ c2 hf
      refine lv_aload_n hx hb dX1_hasRoom_12 rfl (lv_at hl 0 rfl) ?_
      refine va_get (D := D) (ci := 1) (v := .ref (a 7)) (C := RX1) (T := TX1) (N := 11) hx hb hts in_X1_hasRoom_X1 hown hK hP 1 rfl rfl 5 (by decide) (hts _ (List.mem_of_getElem? (i := 2) rfl)) (fun _ h9 => h9) rfl dX1_hasRoom_13 ?_
      refine lv_iload_n hx hb dX1_hasRoom_16 rfl (lv_at hl 1 rfl) ?_
      obtain ⟨g3, hf⟩ := vgs hf
      refine va_iald hx hb hK hP 7 4 rfl rfl g3 dX1_hasRoom_17 ?_
      refine lv_iconst (v := zI 4) hx hb dX1_hasRoom_18 (by decide) ?_
      refine lv_icmp_ge (tgt := 26) hx hb dX1_hasRoom_19 (by decide) (fun c4 => ?_) (fun c4 => ?_)
      · have hf := ift c4 hf
        refine lv_iconst (v := zI 0) hx hb dX1_hasRoom_26 (by decide) ?_
        cases hf
        exact vz_zret X rfl hP hD hS dX1_hasRoom_27
      · have hf := iff_ c4 hf
        refine lv_iconst (v := zI 1) hx hb dX1_hasRoom_22 (by decide) ?_
        refine lv_goto (tgt := 27) hx hb dX1_hasRoom_23 (by decide) ?_
        cases hf
        exact vz_zret X rfl hP hD hS dX1_hasRoom_27
end
theorem kX1_hasRoom {l : Launch} {D : va_G} {a n : Nat → Nat} {cA : Nat → ClassId} {K : Nat} {x1 : Int32} {u : XU} {r : Int32} {u2 : XU} (h : fX1_hasRoom n K x1 u = some (r, u2)) : vzC l D (XT cA) (XW a n cA) yX1_hasRoom wsX1_hasRoom rmX1_hasRoom [.ref (a 1), .int x1] u r u2 := vzC.of (by decide) rfl (Nat.le_of_ble_eq_true rfl) (fun p e s m below meth c A ls X hP hD hl => lbX1_hasRoom_e X x1 u s.heap [] ls r u2 h hP hD va_S.rf hl)
abbrev rmX1_countValid : Room := { frames := 1, cells := 0, slots := 0, locals := 21 }
theorem in_X1_countValid_X1 : ∀ w ∈ u_ws RX1 TX1 11, w ∈ wsX1_countValid := fun _ h => List.mem_cons_of_mem _ (List.mem_append_right _ h)
def fX1_countValid_4 (n : Nat → Nat) (K : Nat) : Nat → Int32 → Int32 → Int32 → XU → Option (Int32 × XU)
  | 0, _, _, _, _ => none
  | N + 1, x1, x2, x3, u => if (zI 4) ≤ x3 then (some (x2, u)) else ((fX1_isValid n K ((x1 * (zI 4)) + x3) u).bind fun z2 => (if z2.1 = 0 then (fX1_countValid_4 n K N x1 x2 (x3 + (zI 1)) z2.2) else (fX1_countValid_4 n K N x1 (x2 + (zI 1)) (x3 + (zI 1)) z2.2)))
def fX1_countValid (n : Nat → Nat) (K : Nat) (x1 : Int32) (u : XU) : Option (Int32 × XU) := fX1_countValid_4 n K K x1 (zI 0) (zI 0) u
section
variable {p : Program} {l : Launch} {e : Env} {s : State} {m : MethodId} {args : Array Value} {below : List Frame} {meth : Method} {c : Code} {D : va_G} {a n : Nat → Nat} {cA : Nat → ClassId} {A : Nat → Prop}
set_option maxHeartbeats 4000000 in
set_option maxRecDepth 100000 in
theorem lbX1_countValid_4 {K : Nat} (X : vzX D (XT cA) A wsX1_countValid cX1_countValid 4 (some .int) RX1 p s m args meth c) : ∀ (N : Nat) (x1 x2 x3 : Int32) (u : XU) (H : Heap) (locs : List Loc) (ls : Array Slot) (r : Int32) (u2 : XU), fX1_countValid_4 n K N x1 x2 x3 u = some (r, u2) → va_P D vwCl (XW a n cA u) H → va_D A (XW a n cA u) → va_S A s.heap H locs → lv_has ls 4 [(0, .ref (a 1)), (1, .int x1), (2, .int x2), (3, .int x3)] → W p l e (headSpec wsX1_countValid rmX1_countValid).room s m args below meth c H locs 0 0 (MQ below (vzQ D (XT cA) (XW a n cA) A r u2) args s 0 0 A) (F0 m 4 ls []) := by
  obtain ⟨hx, hb, hr, hml, hown, hts, hlk, hN, hK, hA⟩ := id X
  intro N
  induction N with
  | zero =>
    intro x1 x2 x3 u H locs ls r u2 hf
    cases hf
  | succ N ih =>
    intro x1 x2 x3 u H locs ls r u2 hf hP hD hS hl
    rw [fX1_countValid_4] at hf
    refine lv_iload_n hx hb dX1_countValid_4 rfl (lv_at hl 3 rfl) ?_
    refine lv_iconst (v := zI 4) hx hb dX1_countValid_5 (by decide) ?_
    refine lv_icmp_ge (tgt := 30) hx hb dX1_countValid_6 (by decide) (fun c1 => ?_) (fun c1 => ?_)
    · have hf := ift c1 hf
      refine lv_iload_n hx hb dX1_countValid_30 rfl (lv_at hl 2 rfl) ?_
      cases hf
      exact vz_iret X hP hD hS dX1_countValid_31
    · have hf := iff_ c1 hf
      refine lv_aload_n hx hb dX1_countValid_9 rfl (lv_at hl 0 rfl) ?_
      refine lv_iload_n hx hb dX1_countValid_10 rfl (lv_at hl 1 rfl) ?_
      refine lv_iconst (v := zI 4) hx hb dX1_countValid_11 (by decide) ?_
      refine lv_imul hx hb dX1_countValid_12 ?_
      refine lv_iload_n hx hb dX1_countValid_13 rfl (lv_at hl 3 rfl) ?_
      refine lv_iadd hx hb dX1_countValid_14 ?_
      obtain ⟨z2, hz3, hf⟩ := bd hf
      refine vz_call (rest := []) X (kX1_isValid hz3) (cwV 1 hts gX1_countValid_X1_isValid rfl rfl rfl (by decide +kernel) ⟨Nat.le_of_ble_eq_true rfl, Nat.le_of_ble_eq_true rfl⟩) 1 1 rfl rfl rfl hl.1 rfl (Nat.le_of_ble_eq_true rfl) dX1_countValid_15 ⟨Nat.zero_le _, Nat.zero_le _⟩ hP hD hS (fun H locs hP hD hS => ?_)
      refine lv_if_eq (tgt := 24) hx hb dX1_countValid_18 (by decide) (fun c4 => ?_) (fun c4 => ?_)
      · have hf := ift c4 hf
        refine lv_iinc (v := x3 + (zI 1)) (lv' := [(3, .int (x3 + (zI 1))), (0, .ref (a 1)), (1, .int x1), (2, .int x2)]) hx hb dX1_countValid_24 hl (k := 3) rfl rfl (by decide) rfl (fun ls hl => ?_)
        refine lv_goto (tgt := 4) hx hb dX1_countValid_27 (by decide) ?_
        exact ih x1 x2 (x3 + (zI 1)) z2.2 _ _ _ _ _ hf hP hD hS (lv_sub hl [1, 2, 3, 0] rfl)
      · have hf := iff_ c4 hf
        refine lv_iinc (v := x2 + (zI 1)) (lv' := [(2, .int (x2 + (zI 1))), (0, .ref (a 1)), (1, .int x1), (3, .int x3)]) hx hb dX1_countValid_21 hl (k := 2) rfl rfl (by decide) rfl (fun ls hl => ?_)
        refine lv_iinc (v := x3 + (zI 1)) (lv' := [(3, .int (x3 + (zI 1))), (2, .int (x2 + (zI 1))), (0, .ref (a 1)), (1, .int x1)]) hx hb dX1_countValid_24 hl (k := 3) rfl rfl (by decide) rfl (fun ls hl => ?_)
        refine lv_goto (tgt := 4) hx hb dX1_countValid_27 (by decide) ?_
        exact ih x1 (x2 + (zI 1)) (x3 + (zI 1)) z2.2 _ _ _ _ _ hf hP hD hS (lv_sub hl [2, 3, 1, 0] rfl)
set_option maxHeartbeats 4000000 in
set_option maxRecDepth 100000 in
theorem lbX1_countValid_e {K : Nat} (X : vzX D (XT cA) A wsX1_countValid cX1_countValid 4 (some .int) RX1 p s m args meth c) : ∀ (x1 : Int32) (u : XU) (H : Heap) (locs : List Loc) (ls : Array Slot) (r : Int32) (u2 : XU), fX1_countValid n K x1 u = some (r, u2) → va_P D vwCl (XW a n cA u) H → va_D A (XW a n cA u) → va_S A s.heap H locs → lv_has ls 4 [(0, .ref (a 1)), (1, .int x1)] → W p l e (headSpec wsX1_countValid rmX1_countValid).room s m args below meth c H locs 0 0 (MQ below (vzQ D (XT cA) (XW a n cA) A r u2) args s 0 0 A) (F0 m 0 ls []) := by
  obtain ⟨hx, hb, hr, hml, hown, hts, hlk, hN, hK, hA⟩ := id X
  intro x1 u H locs ls r u2 hf hP hD hS hl
  unfold fX1_countValid at hf
  refine lv_iconst (v := zI 0) hx hb dX1_countValid_0 (by decide) ?_
  refine lv_istore_n (lv' := [(2, .int (zI 0)), (0, .ref (a 1)), (1, .int x1)]) hx hb dX1_countValid_1 rfl hl (by decide) rfl (fun ls hl => ?_)
  refine lv_iconst (v := zI 0) hx hb dX1_countValid_2 (by decide) ?_
  refine lv_istore_n (lv' := [(3, .int (zI 0)), (2, .int (zI 0)), (0, .ref (a 1)), (1, .int x1)]) hx hb dX1_countValid_3 rfl hl (by decide) rfl (fun ls hl => ?_)
  exact lbX1_countValid_4 X K x1 (zI 0) (zI 0) u _ _ _ _ _ hf hP hD hS (lv_sub hl [2, 3, 1, 0] rfl)
end
theorem kX1_countValid {l : Launch} {D : va_G} {a n : Nat → Nat} {cA : Nat → ClassId} {K : Nat} {x1 : Int32} {u : XU} {r : Int32} {u2 : XU} (h : fX1_countValid n K x1 u = some (r, u2)) : vzC l D (XT cA) (XW a n cA) yX1_countValid wsX1_countValid rmX1_countValid [.ref (a 1), .int x1] u r u2 := vzC.of (by decide) rfl (Nat.le_of_ble_eq_true rfl) (fun p e s m below meth c A ls X hP hD hl => lbX1_countValid_e X x1 u s.heap [] ls r u2 h hP hD va_S.rf hl)
abbrev rmX1_countFree : Room := { frames := 0, cells := 0, slots := 0, locals := 0 }
theorem in_X1_countFree_X1 : ∀ w ∈ u_ws RX1 TX1 11, w ∈ wsX1_countFree := fun _ h => List.mem_cons_of_mem _ (List.mem_append_right _ h)
def fX1_countFree_4 (n : Nat → Nat) (K : Nat) : Nat → Int32 → Int32 → XU → Option (Int32 × XU)
  | 0, _, _, _ => none
  | N + 1, x1, x2, u => if (xu_blk u) ≤ x2 then (some (x1, u)) else (vg x2 (n 7) (if ((xu_prg u) x2.toNatClampNeg) = 0 then (fX1_countFree_4 n K N (x1 + (zI 1)) (x2 + (zI 1)) u) else (fX1_countFree_4 n K N x1 (x2 + (zI 1)) u)))
def fX1_countFree (n : Nat → Nat) (K : Nat) (u : XU) : Option (Int32 × XU) := fX1_countFree_4 n K K (zI 0) (zI 0) u
section
variable {p : Program} {l : Launch} {e : Env} {s : State} {m : MethodId} {args : Array Value} {below : List Frame} {meth : Method} {c : Code} {D : va_G} {a n : Nat → Nat} {cA : Nat → ClassId} {A : Nat → Prop}
set_option maxHeartbeats 4000000 in
set_option maxRecDepth 100000 in
theorem lbX1_countFree_4 {K : Nat} (X : vzX D (XT cA) A wsX1_countFree cX1_countFree 3 (some .int) RX1 p s m args meth c) : ∀ (N : Nat) (x1 x2 : Int32) (u : XU) (H : Heap) (locs : List Loc) (ls : Array Slot) (r : Int32) (u2 : XU), fX1_countFree_4 n K N x1 x2 u = some (r, u2) → va_P D vwCl (XW a n cA u) H → va_D A (XW a n cA u) → va_S A s.heap H locs → lv_has ls 3 [(0, .ref (a 1)), (1, .int x1), (2, .int x2)] → W p l e (headSpec wsX1_countFree rmX1_countFree).room s m args below meth c H locs 0 0 (MQ below (vzQ D (XT cA) (XW a n cA) A r u2) args s 0 0 A) (F0 m 4 ls []) := by
  obtain ⟨hx, hb, hr, hml, hown, hts, hlk, hN, hK, hA⟩ := id X
  intro N
  induction N with
  | zero =>
    intro x1 x2 u H locs ls r u2 hf
    cases hf
  | succ N ih =>
    intro x1 x2 u H locs ls r u2 hf hP hD hS hl
    rw [fX1_countFree_4] at hf
    refine lv_iload_n hx hb dX1_countFree_4 rfl (lv_at hl 2 rfl) ?_
    refine lv_aload_n hx hb dX1_countFree_5 rfl (lv_at hl 0 rfl) ?_
    refine va_get (D := D) (ci := 1) (v := .int (xu_blk u)) (C := RX1) (T := TX1) (N := 11) hx hb hts in_X1_countFree_X1 hown hK hP 1 rfl rfl 0 (by decide) (hts _ (List.mem_of_getElem? (i := 1) rfl)) (fun _ h9 => h9) rfl dX1_countFree_6 ?_
    refine lv_icmp_ge (tgt := 30) hx hb dX1_countFree_9 (by decide) (fun c1 => ?_) (fun c1 => ?_)
    · have hf := ift c1 hf
      refine lv_iload_n hx hb dX1_countFree_30 rfl (lv_at hl 1 rfl) ?_
      cases hf
      exact vz_iret X hP hD hS dX1_countFree_31
    · have hf := iff_ c1 hf
      refine lv_aload_n hx hb dX1_countFree_12 rfl (lv_at hl 0 rfl) ?_
      refine va_get (D := D) (ci := 1) (v := .ref (a 7)) (C := RX1) (T := TX1) (N := 11) hx hb hts in_X1_countFree_X1 hown hK hP 1 rfl rfl 5 (by decide) (hts _ (List.mem_of_getElem? (i := 2) rfl)) (fun _ h9 => h9) rfl dX1_countFree_13 ?_
      refine lv_iload_n hx hb dX1_countFree_16 rfl (lv_at hl 2 rfl) ?_
      obtain ⟨g2, hf⟩ := vgs hf
      refine va_iald hx hb hK hP 7 4 rfl rfl g2 dX1_countFree_17 ?_
      refine lv_if_ne (tgt := 24) hx hb dX1_countFree_18 (by decide) (fun c3 => ?_) (fun c3 => ?_)
      · have hf := iff_ c3 hf
        refine lv_iinc (v := x2 + (zI 1)) (lv' := [(2, .int (x2 + (zI 1))), (0, .ref (a 1)), (1, .int x1)]) hx hb dX1_countFree_24 hl (k := 2) rfl rfl (by decide) rfl (fun ls hl => ?_)
        refine lv_goto (tgt := 4) hx hb dX1_countFree_27 (by decide) ?_
        exact ih x1 (x2 + (zI 1)) u _ _ _ _ _ hf hP hD hS (lv_sub hl [1, 2, 0] rfl)
      · have hf := ift c3 hf
        refine lv_iinc (v := x1 + (zI 1)) (lv' := [(1, .int (x1 + (zI 1))), (0, .ref (a 1)), (2, .int x2)]) hx hb dX1_countFree_21 hl (k := 1) rfl rfl (by decide) rfl (fun ls hl => ?_)
        refine lv_iinc (v := x2 + (zI 1)) (lv' := [(2, .int (x2 + (zI 1))), (1, .int (x1 + (zI 1))), (0, .ref (a 1))]) hx hb dX1_countFree_24 hl (k := 2) rfl rfl (by decide) rfl (fun ls hl => ?_)
        refine lv_goto (tgt := 4) hx hb dX1_countFree_27 (by decide) ?_
        exact ih (x1 + (zI 1)) (x2 + (zI 1)) u _ _ _ _ _ hf hP hD hS (lv_sub hl [2, 1, 0] rfl)
set_option maxHeartbeats 4000000 in
set_option maxRecDepth 100000 in
theorem lbX1_countFree_e {K : Nat} (X : vzX D (XT cA) A wsX1_countFree cX1_countFree 3 (some .int) RX1 p s m args meth c) : ∀ (u : XU) (H : Heap) (locs : List Loc) (ls : Array Slot) (r : Int32) (u2 : XU), fX1_countFree n K u = some (r, u2) → va_P D vwCl (XW a n cA u) H → va_D A (XW a n cA u) → va_S A s.heap H locs → lv_has ls 3 [(0, .ref (a 1))] → W p l e (headSpec wsX1_countFree rmX1_countFree).room s m args below meth c H locs 0 0 (MQ below (vzQ D (XT cA) (XW a n cA) A r u2) args s 0 0 A) (F0 m 0 ls []) := by
  obtain ⟨hx, hb, hr, hml, hown, hts, hlk, hN, hK, hA⟩ := id X
  intro u H locs ls r u2 hf hP hD hS hl
  unfold fX1_countFree at hf
  refine lv_iconst (v := zI 0) hx hb dX1_countFree_0 (by decide) ?_
  refine lv_istore_n (lv' := [(1, .int (zI 0)), (0, .ref (a 1))]) hx hb dX1_countFree_1 rfl hl (by decide) rfl (fun ls hl => ?_)
  refine lv_iconst (v := zI 0) hx hb dX1_countFree_2 (by decide) ?_
  refine lv_istore_n (lv' := [(2, .int (zI 0)), (1, .int (zI 0)), (0, .ref (a 1))]) hx hb dX1_countFree_3 rfl hl (by decide) rfl (fun ls hl => ?_)
  exact lbX1_countFree_4 X K (zI 0) (zI 0) u _ _ _ _ _ hf hP hD hS (lv_sub hl [2, 1, 0] rfl)
end
theorem kX1_countFree {l : Launch} {D : va_G} {a n : Nat → Nat} {cA : Nat → ClassId} {K : Nat} {u : XU} {r : Int32} {u2 : XU} (h : fX1_countFree n K u = some (r, u2)) : vzC l D (XT cA) (XW a n cA) yX1_countFree wsX1_countFree rmX1_countFree [.ref (a 1)] u r u2 := vzC.of (by decide) rfl (Nat.le_of_ble_eq_true rfl) (fun p e s m below meth c A ls X hP hD hl => lbX1_countFree_e X u s.heap [] ls r u2 h hP hD va_S.rf hl)
abbrev rmX1_leastWornFree : Room := { frames := 0, cells := 0, slots := 0, locals := 0 }
theorem in_X1_leastWornFree_X1 : ∀ w ∈ u_ws RX1 TX1 11, w ∈ wsX1_leastWornFree := fun _ h => List.mem_cons_of_mem _ (List.mem_append_right _ h)
def fX1_leastWornFree_4 (n : Nat → Nat) (K : Nat) : Nat → Int32 → Int32 → XU → Option (Int32 × XU)
  | 0, _, _, _ => none
  | N + 1, x1, x2, u => if (xu_blk u) ≤ x2 then (some (x1, u)) else (vg x2 (n 7) (if ((xu_prg u) x2.toNatClampNeg) = 0 then (if x1 = (zI (-1)) then (fX1_leastWornFree_4 n K N x2 (x2 + (zI 1)) u) else (vg x2 (n 8) (vg x1 (n 8) (if ((xu_wea u) x1.toNatClampNeg) ≤ ((xu_wea u) x2.toNatClampNeg) then (fX1_leastWornFree_4 n K N x1 (x2 + (zI 1)) u) else (fX1_leastWornFree_4 n K N x2 (x2 + (zI 1)) u))))) else (fX1_leastWornFree_4 n K N x1 (x2 + (zI 1)) u)))
def fX1_leastWornFree (n : Nat → Nat) (K : Nat) (u : XU) : Option (Int32 × XU) := fX1_leastWornFree_4 n K K (zI (-1)) (zI 0) u
section
variable {p : Program} {l : Launch} {e : Env} {s : State} {m : MethodId} {args : Array Value} {below : List Frame} {meth : Method} {c : Code} {D : va_G} {a n : Nat → Nat} {cA : Nat → ClassId} {A : Nat → Prop}
set_option maxHeartbeats 4000000 in
set_option maxRecDepth 100000 in
theorem lbX1_leastWornFree_4 {K : Nat} (X : vzX D (XT cA) A wsX1_leastWornFree cX1_leastWornFree 3 (some .int) RX1 p s m args meth c) : ∀ (N : Nat) (x1 x2 : Int32) (u : XU) (H : Heap) (locs : List Loc) (ls : Array Slot) (r : Int32) (u2 : XU), fX1_leastWornFree_4 n K N x1 x2 u = some (r, u2) → va_P D vwCl (XW a n cA u) H → va_D A (XW a n cA u) → va_S A s.heap H locs → lv_has ls 3 [(0, .ref (a 1)), (1, .int x1), (2, .int x2)] → W p l e (headSpec wsX1_leastWornFree rmX1_leastWornFree).room s m args below meth c H locs 0 0 (MQ below (vzQ D (XT cA) (XW a n cA) A r u2) args s 0 0 A) (F0 m 4 ls []) := by
  obtain ⟨hx, hb, hr, hml, hown, hts, hlk, hN, hK, hA⟩ := id X
  intro N
  induction N with
  | zero =>
    intro x1 x2 u H locs ls r u2 hf
    cases hf
  | succ N ih =>
    intro x1 x2 u H locs ls r u2 hf hP hD hS hl
    rw [fX1_leastWornFree_4] at hf
    refine lv_iload_n hx hb dX1_leastWornFree_4 rfl (lv_at hl 2 rfl) ?_
    refine lv_aload_n hx hb dX1_leastWornFree_5 rfl (lv_at hl 0 rfl) ?_
    refine va_get (D := D) (ci := 1) (v := .int (xu_blk u)) (C := RX1) (T := TX1) (N := 11) hx hb hts in_X1_leastWornFree_X1 hown hK hP 1 rfl rfl 0 (by decide) (hts _ (List.mem_of_getElem? (i := 1) rfl)) (fun _ h9 => h9) rfl dX1_leastWornFree_6 ?_
    refine lv_icmp_ge (tgt := 49) hx hb dX1_leastWornFree_9 (by decide) (fun c1 => ?_) (fun c1 => ?_)
    · have hf := ift c1 hf
      refine lv_iload_n hx hb dX1_leastWornFree_49 rfl (lv_at hl 1 rfl) ?_
      cases hf
      exact vz_iret X hP hD hS dX1_leastWornFree_50
    · have hf := iff_ c1 hf
      refine lv_aload_n hx hb dX1_leastWornFree_12 rfl (lv_at hl 0 rfl) ?_
      refine va_get (D := D) (ci := 1) (v := .ref (a 7)) (C := RX1) (T := TX1) (N := 11) hx hb hts in_X1_leastWornFree_X1 hown hK hP 1 rfl rfl 5 (by decide) (hts _ (List.mem_of_getElem? (i := 2) rfl)) (fun _ h9 => h9) rfl dX1_leastWornFree_13 ?_
      refine lv_iload_n hx hb dX1_leastWornFree_16 rfl (lv_at hl 2 rfl) ?_
      obtain ⟨g2, hf⟩ := vgs hf
      refine va_iald hx hb hK hP 7 4 rfl rfl g2 dX1_leastWornFree_17 ?_
      refine lv_if_ne (tgt := 43) hx hb dX1_leastWornFree_18 (by decide) (fun c3 => ?_) (fun c3 => ?_)
      · have hf := iff_ c3 hf
        refine lv_iinc (v := x2 + (zI 1)) (lv' := [(2, .int (x2 + (zI 1))), (0, .ref (a 1)), (1, .int x1)]) hx hb dX1_leastWornFree_43 hl (k := 2) rfl rfl (by decide) rfl (fun ls hl => ?_)
        refine lv_goto (tgt := 4) hx hb dX1_leastWornFree_46 (by decide) ?_
        exact ih x1 (x2 + (zI 1)) u _ _ _ _ _ hf hP hD hS (lv_sub hl [1, 2, 0] rfl)
      · have hf := ift c3 hf
        refine lv_iload_n hx hb dX1_leastWornFree_21 rfl (lv_at hl 1 rfl) ?_
        refine lv_iconst (v := zI (-1)) hx hb dX1_leastWornFree_22 (by decide) ?_
        refine lv_icmp_eq (tgt := 41) hx hb dX1_leastWornFree_23 (by decide) (fun c4 => ?_) (fun c4 => ?_)
        · have hf := ift c4 hf
          refine lv_iload_n hx hb dX1_leastWornFree_41 rfl (lv_at hl 2 rfl) ?_
          refine lv_istore_n (lv' := [(1, .int x2), (0, .ref (a 1)), (2, .int x2)]) hx hb dX1_leastWornFree_42 rfl hl (by decide) rfl (fun ls hl => ?_)
          refine lv_iinc (v := x2 + (zI 1)) (lv' := [(2, .int (x2 + (zI 1))), (1, .int x2), (0, .ref (a 1))]) hx hb dX1_leastWornFree_43 hl (k := 2) rfl rfl (by decide) rfl (fun ls hl => ?_)
          refine lv_goto (tgt := 4) hx hb dX1_leastWornFree_46 (by decide) ?_
          exact ih x2 (x2 + (zI 1)) u _ _ _ _ _ hf hP hD hS (lv_sub hl [2, 1, 0] rfl)
        · have hf := iff_ c4 hf
          refine lv_aload_n hx hb dX1_leastWornFree_26 rfl (lv_at hl 0 rfl) ?_
          refine va_get (D := D) (ci := 1) (v := .ref (a 8)) (C := RX1) (T := TX1) (N := 11) hx hb hts in_X1_leastWornFree_X1 hown hK hP 1 rfl rfl 6 (by decide) (hts _ (List.mem_of_getElem? (i := 3) rfl)) (fun _ h9 => h9) rfl dX1_leastWornFree_27 ?_
          refine lv_iload_n hx hb dX1_leastWornFree_30 rfl (lv_at hl 2 rfl) ?_
          obtain ⟨g5, hf⟩ := vgs hf
          refine va_iald hx hb hK hP 8 5 rfl rfl g5 dX1_leastWornFree_31 ?_
          refine lv_aload_n hx hb dX1_leastWornFree_32 rfl (lv_at hl 0 rfl) ?_
          refine va_get (D := D) (ci := 1) (v := .ref (a 8)) (C := RX1) (T := TX1) (N := 11) hx hb hts in_X1_leastWornFree_X1 hown hK hP 1 rfl rfl 6 (by decide) (hts _ (List.mem_of_getElem? (i := 3) rfl)) (fun _ h9 => h9) rfl dX1_leastWornFree_33 ?_
          refine lv_iload_n hx hb dX1_leastWornFree_36 rfl (lv_at hl 1 rfl) ?_
          obtain ⟨g6, hf⟩ := vgs hf
          refine va_iald hx hb hK hP 8 5 rfl rfl g6 dX1_leastWornFree_37 ?_
          refine lv_icmp_ge (tgt := 43) hx hb dX1_leastWornFree_38 (by decide) (fun c7 => ?_) (fun c7 => ?_)
          · have hf := ift c7 hf
            refine lv_iinc (v := x2 + (zI 1)) (lv' := [(2, .int (x2 + (zI 1))), (0, .ref (a 1)), (1, .int x1)]) hx hb dX1_leastWornFree_43 hl (k := 2) rfl rfl (by decide) rfl (fun ls hl => ?_)
            refine lv_goto (tgt := 4) hx hb dX1_leastWornFree_46 (by decide) ?_
            exact ih x1 (x2 + (zI 1)) u _ _ _ _ _ hf hP hD hS (lv_sub hl [1, 2, 0] rfl)
          · have hf := iff_ c7 hf
            refine lv_iload_n hx hb dX1_leastWornFree_41 rfl (lv_at hl 2 rfl) ?_
            refine lv_istore_n (lv' := [(1, .int x2), (0, .ref (a 1)), (2, .int x2)]) hx hb dX1_leastWornFree_42 rfl hl (by decide) rfl (fun ls hl => ?_)
            refine lv_iinc (v := x2 + (zI 1)) (lv' := [(2, .int (x2 + (zI 1))), (1, .int x2), (0, .ref (a 1))]) hx hb dX1_leastWornFree_43 hl (k := 2) rfl rfl (by decide) rfl (fun ls hl => ?_)
            refine lv_goto (tgt := 4) hx hb dX1_leastWornFree_46 (by decide) ?_
            exact ih x2 (x2 + (zI 1)) u _ _ _ _ _ hf hP hD hS (lv_sub hl [2, 1, 0] rfl)
set_option maxHeartbeats 4000000 in
set_option maxRecDepth 100000 in
theorem lbX1_leastWornFree_e {K : Nat} (X : vzX D (XT cA) A wsX1_leastWornFree cX1_leastWornFree 3 (some .int) RX1 p s m args meth c) : ∀ (u : XU) (H : Heap) (locs : List Loc) (ls : Array Slot) (r : Int32) (u2 : XU), fX1_leastWornFree n K u = some (r, u2) → va_P D vwCl (XW a n cA u) H → va_D A (XW a n cA u) → va_S A s.heap H locs → lv_has ls 3 [(0, .ref (a 1))] → W p l e (headSpec wsX1_leastWornFree rmX1_leastWornFree).room s m args below meth c H locs 0 0 (MQ below (vzQ D (XT cA) (XW a n cA) A r u2) args s 0 0 A) (F0 m 0 ls []) := by
  obtain ⟨hx, hb, hr, hml, hown, hts, hlk, hN, hK, hA⟩ := id X
  intro u H locs ls r u2 hf hP hD hS hl
  unfold fX1_leastWornFree at hf
  refine lv_iconst (v := zI (-1)) hx hb dX1_leastWornFree_0 (by decide) ?_
  refine lv_istore_n (lv' := [(1, .int (zI (-1))), (0, .ref (a 1))]) hx hb dX1_leastWornFree_1 rfl hl (by decide) rfl (fun ls hl => ?_)
  refine lv_iconst (v := zI 0) hx hb dX1_leastWornFree_2 (by decide) ?_
  refine lv_istore_n (lv' := [(2, .int (zI 0)), (1, .int (zI (-1))), (0, .ref (a 1))]) hx hb dX1_leastWornFree_3 rfl hl (by decide) rfl (fun ls hl => ?_)
  exact lbX1_leastWornFree_4 X K (zI (-1)) (zI 0) u _ _ _ _ _ hf hP hD hS (lv_sub hl [2, 1, 0] rfl)
end
theorem kX1_leastWornFree {l : Launch} {D : va_G} {a n : Nat → Nat} {cA : Nat → ClassId} {K : Nat} {u : XU} {r : Int32} {u2 : XU} (h : fX1_leastWornFree n K u = some (r, u2)) : vzC l D (XT cA) (XW a n cA) yX1_leastWornFree wsX1_leastWornFree rmX1_leastWornFree [.ref (a 1)] u r u2 := vzC.of (by decide) rfl (Nat.le_of_ble_eq_true rfl) (fun p e s m below meth c A ls X hP hD hl => lbX1_leastWornFree_e X u s.heap [] ls r u2 h hP hD va_S.rf hl)
end
section
abbrev rmX1_partlyProgrammed : Room := { frames := 0, cells := 0, slots := 0, locals := 0 }
theorem in_X1_partlyProgrammed_X1 : ∀ w ∈ u_ws RX1 TX1 11, w ∈ wsX1_partlyProgrammed := fun _ h => List.mem_cons_of_mem _ (List.mem_append_right _ h)
def fX1_partlyProgrammed_2 (n : Nat → Nat) (K : Nat) : Nat → Int32 → XU → Option (Int32 × XU)
  | 0, _, _ => none
  | N + 1, x1, u => if (xu_blk u) ≤ x1 then (some (zI (-1), u)) else (vg x1 (n 7) (if ((xu_prg u) x1.toNatClampNeg) ≤ 0 then (fX1_partlyProgrammed_2 n K N (x1 + (zI 1)) u) else (vg x1 (n 7) (if (zI 4) ≤ ((xu_prg u) x1.toNatClampNeg) then (fX1_partlyProgrammed_2 n K N (x1 + (zI 1)) u) else (some (x1, u))))))
def fX1_partlyProgrammed (n : Nat → Nat) (K : Nat) (u : XU) : Option (Int32 × XU) := fX1_partlyProgrammed_2 n K K (zI 0) u
section
variable {p : Program} {l : Launch} {e : Env} {s : State} {m : MethodId} {args : Array Value} {below : List Frame} {meth : Method} {c : Code} {D : va_G} {a n : Nat → Nat} {cA : Nat → ClassId} {A : Nat → Prop}
set_option maxHeartbeats 4000000 in
set_option maxRecDepth 100000 in
theorem lbX1_partlyProgrammed_2 {K : Nat} (X : vzX D (XT cA) A wsX1_partlyProgrammed cX1_partlyProgrammed 2 (some .int) RX1 p s m args meth c) : ∀ (N : Nat) (x1 : Int32) (u : XU) (H : Heap) (locs : List Loc) (ls : Array Slot) (r : Int32) (u2 : XU), fX1_partlyProgrammed_2 n K N x1 u = some (r, u2) → va_P D vwCl (XW a n cA u) H → va_D A (XW a n cA u) → va_S A s.heap H locs → lv_has ls 2 [(0, .ref (a 1)), (1, .int x1)] → W p l e (headSpec wsX1_partlyProgrammed rmX1_partlyProgrammed).room s m args below meth c H locs 0 0 (MQ below (vzQ D (XT cA) (XW a n cA) A r u2) args s 0 0 A) (F0 m 2 ls []) := by
  obtain ⟨hx, hb, hr, hml, hown, hts, hlk, hN, hK, hA⟩ := id X
  intro N
  induction N with
  | zero =>
    intro x1 u H locs ls r u2 hf
    cases hf
  | succ N ih =>
    intro x1 u H locs ls r u2 hf hP hD hS hl
    rw [fX1_partlyProgrammed_2] at hf
    refine lv_iload_n hx hb dX1_partlyProgrammed_2 rfl (lv_at hl 1 rfl) ?_
    refine lv_aload_n hx hb dX1_partlyProgrammed_3 rfl (lv_at hl 0 rfl) ?_
    refine va_get (D := D) (ci := 1) (v := .int (xu_blk u)) (C := RX1) (T := TX1) (N := 11) hx hb hts in_X1_partlyProgrammed_X1 hown hK hP 1 rfl rfl 0 (by decide) (hts _ (List.mem_of_getElem? (i := 1) rfl)) (fun _ h9 => h9) rfl dX1_partlyProgrammed_4 ?_
    refine lv_icmp_ge (tgt := 37) hx hb dX1_partlyProgrammed_7 (by decide) (fun c1 => ?_) (fun c1 => ?_)
    · have hf := ift c1 hf
      refine lv_iconst (v := zI (-1)) hx hb dX1_partlyProgrammed_37 (by decide) ?_
      cases hf
      exact vz_iret X hP hD hS dX1_partlyProgrammed_38
    · have hf := iff_ c1 hf
      refine lv_aload_n hx hb dX1_partlyProgrammed_10 rfl (lv_at hl 0 rfl) ?_
      refine va_get (D := D) (ci := 1) (v := .ref (a 7)) (C := RX1) (T := TX1) (N := 11) hx hb hts in_X1_partlyProgrammed_X1 hown hK hP 1 rfl rfl 5 (by decide) (hts _ (List.mem_of_getElem? (i := 2) rfl)) (fun _ h9 => h9) rfl dX1_partlyProgrammed_11 ?_
      refine lv_iload_n hx hb dX1_partlyProgrammed_14 rfl (lv_at hl 1 rfl) ?_
      obtain ⟨g2, hf⟩ := vgs hf
      refine va_iald hx hb hK hP 7 4 rfl rfl g2 dX1_partlyProgrammed_15 ?_
      refine lv_if_le (tgt := 31) hx hb dX1_partlyProgrammed_16 (by decide) (fun c3 => ?_) (fun c3 => ?_)
      · have hf := ift c3 hf
        refine lv_iinc (v := x1 + (zI 1)) (lv' := [(1, .int (x1 + (zI 1))), (0, .ref (a 1))]) hx hb dX1_partlyProgrammed_31 hl (k := 1) rfl rfl (by decide) rfl (fun ls hl => ?_)
        refine lv_goto (tgt := 2) hx hb dX1_partlyProgrammed_34 (by decide) ?_
        exact ih (x1 + (zI 1)) u _ _ _ _ _ hf hP hD hS (lv_sub hl [1, 0] rfl)
      · have hf := iff_ c3 hf
        refine lv_aload_n hx hb dX1_partlyProgrammed_19 rfl (lv_at hl 0 rfl) ?_
        refine va_get (D := D) (ci := 1) (v := .ref (a 7)) (C := RX1) (T := TX1) (N := 11) hx hb hts in_X1_partlyProgrammed_X1 hown hK hP 1 rfl rfl 5 (by decide) (hts _ (List.mem_of_getElem? (i := 2) rfl)) (fun _ h9 => h9) rfl dX1_partlyProgrammed_20 ?_
        refine lv_iload_n hx hb dX1_partlyProgrammed_23 rfl (lv_at hl 1 rfl) ?_
        obtain ⟨g4, hf⟩ := vgs hf
        refine va_iald hx hb hK hP 7 4 rfl rfl g4 dX1_partlyProgrammed_24 ?_
        refine lv_iconst (v := zI 4) hx hb dX1_partlyProgrammed_25 (by decide) ?_
        refine lv_icmp_ge (tgt := 31) hx hb dX1_partlyProgrammed_26 (by decide) (fun c5 => ?_) (fun c5 => ?_)
        · have hf := ift c5 hf
          refine lv_iinc (v := x1 + (zI 1)) (lv' := [(1, .int (x1 + (zI 1))), (0, .ref (a 1))]) hx hb dX1_partlyProgrammed_31 hl (k := 1) rfl rfl (by decide) rfl (fun ls hl => ?_)
          refine lv_goto (tgt := 2) hx hb dX1_partlyProgrammed_34 (by decide) ?_
          exact ih (x1 + (zI 1)) u _ _ _ _ _ hf hP hD hS (lv_sub hl [1, 0] rfl)
        · have hf := iff_ c5 hf
          refine lv_iload_n hx hb dX1_partlyProgrammed_29 rfl (lv_at hl 1 rfl) ?_
          cases hf
          exact vz_iret X hP hD hS dX1_partlyProgrammed_30
set_option maxHeartbeats 4000000 in
set_option maxRecDepth 100000 in
theorem lbX1_partlyProgrammed_e {K : Nat} (X : vzX D (XT cA) A wsX1_partlyProgrammed cX1_partlyProgrammed 2 (some .int) RX1 p s m args meth c) : ∀ (u : XU) (H : Heap) (locs : List Loc) (ls : Array Slot) (r : Int32) (u2 : XU), fX1_partlyProgrammed n K u = some (r, u2) → va_P D vwCl (XW a n cA u) H → va_D A (XW a n cA u) → va_S A s.heap H locs → lv_has ls 2 [(0, .ref (a 1))] → W p l e (headSpec wsX1_partlyProgrammed rmX1_partlyProgrammed).room s m args below meth c H locs 0 0 (MQ below (vzQ D (XT cA) (XW a n cA) A r u2) args s 0 0 A) (F0 m 0 ls []) := by
  obtain ⟨hx, hb, hr, hml, hown, hts, hlk, hN, hK, hA⟩ := id X
  intro u H locs ls r u2 hf hP hD hS hl
  unfold fX1_partlyProgrammed at hf
  refine lv_iconst (v := zI 0) hx hb dX1_partlyProgrammed_0 (by decide) ?_
  refine lv_istore_n (lv' := [(1, .int (zI 0)), (0, .ref (a 1))]) hx hb dX1_partlyProgrammed_1 rfl hl (by decide) rfl (fun ls hl => ?_)
  exact lbX1_partlyProgrammed_2 X K (zI 0) u _ _ _ _ _ hf hP hD hS (lv_sub hl [1, 0] rfl)
end
theorem kX1_partlyProgrammed {l : Launch} {D : va_G} {a n : Nat → Nat} {cA : Nat → ClassId} {K : Nat} {u : XU} {r : Int32} {u2 : XU} (h : fX1_partlyProgrammed n K u = some (r, u2)) : vzC l D (XT cA) (XW a n cA) yX1_partlyProgrammed wsX1_partlyProgrammed rmX1_partlyProgrammed [.ref (a 1)] u r u2 := vzC.of (by decide) rfl (Nat.le_of_ble_eq_true rfl) (fun p e s m below meth c A ls X hP hD hl => lbX1_partlyProgrammed_e X u s.heap [] ls r u2 h hP hD va_S.rf hl)
abbrev rmX1_wearGap : Room := { frames := 1, cells := 0, slots := 0, locals := 13 }
theorem in_X1_wearGap_X1 : ∀ w ∈ u_ws RX1 TX1 11, w ∈ wsX1_wearGap := fun _ h => List.mem_cons_of_mem _ (List.mem_append_right _ h)
def fX1_wearGap_16 (n : Nat → Nat) (K : Nat) : Nat → Int32 → Int32 → Int32 → XU → Option (Int32 × XU)
  | 0, _, _, _, _ => none
  | N + 1, x1, x2, x3, u => if (xu_blk u) ≤ x3 then (some (x2 - x1, u)) else (vg x3 (n 8) (vg x3 (n 8) (fX1_wearGap_16 n K N (if ((xu_wea u) x3.toNatClampNeg) < x1 then (xu_wea u) x3.toNatClampNeg else x1) (if x2 < ((xu_wea u) x3.toNatClampNeg) then (xu_wea u) x3.toNatClampNeg else x2) (x3 + (zI 1)) u)))
def fX1_wearGap (n : Nat → Nat) (K : Nat) (u : XU) : Option (Int32 × XU) := vg (zI 0) (n 8) (vg (zI 0) (n 8) (fX1_wearGap_16 n K K ((xu_wea u) ((zI 0)).toNatClampNeg) ((xu_wea u) ((zI 0)).toNatClampNeg) (zI 1) u))
section
variable {p : Program} {l : Launch} {e : Env} {s : State} {m : MethodId} {args : Array Value} {below : List Frame} {meth : Method} {c : Code} {D : va_G} {a n : Nat → Nat} {cA : Nat → ClassId} {A : Nat → Prop}
set_option maxHeartbeats 4000000 in
set_option maxRecDepth 100000 in
theorem lbX1_wearGap_16 {K : Nat} (X : vzX D (XT cA) A wsX1_wearGap cX1_wearGap 4 (some .int) RX1 p s m args meth c) : ∀ (N : Nat) (x1 x2 x3 : Int32) (u : XU) (H : Heap) (locs : List Loc) (ls : Array Slot) (r : Int32) (u2 : XU), fX1_wearGap_16 n K N x1 x2 x3 u = some (r, u2) → va_P D vwCl (XW a n cA u) H → va_D A (XW a n cA u) → va_S A s.heap H locs → lv_has ls 4 [(0, .ref (a 1)), (1, .int x1), (2, .int x2), (3, .int x3)] → W p l e (headSpec wsX1_wearGap rmX1_wearGap).room s m args below meth c H locs 0 0 (MQ below (vzQ D (XT cA) (XW a n cA) A r u2) args s 0 0 A) (F0 m 16 ls []) := by
  obtain ⟨hx, hb, hr, hml, hown, hts, hlk, hN, hK, hA⟩ := id X
  intro N
  induction N with
  | zero =>
    intro x1 x2 x3 u H locs ls r u2 hf
    cases hf
  | succ N ih =>
    intro x1 x2 x3 u H locs ls r u2 hf hP hD hS hl
    rw [fX1_wearGap_16] at hf
    refine lv_iload_n hx hb dX1_wearGap_16 rfl (lv_at hl 3 rfl) ?_
    refine lv_aload_n hx hb dX1_wearGap_17 rfl (lv_at hl 0 rfl) ?_
    refine va_get (D := D) (ci := 1) (v := .int (xu_blk u)) (C := RX1) (T := TX1) (N := 11) hx hb hts in_X1_wearGap_X1 hown hK hP 1 rfl rfl 0 (by decide) (hts _ (List.mem_of_getElem? (i := 2) rfl)) (fun _ h9 => h9) rfl dX1_wearGap_18 ?_
    refine lv_icmp_ge (tgt := 52) hx hb dX1_wearGap_21 (by decide) (fun c3 => ?_) (fun c3 => ?_)
    · have hf := ift c3 hf
      refine lv_iload_n hx hb dX1_wearGap_52 rfl (lv_at hl 2 rfl) ?_
      refine lv_iload_n hx hb dX1_wearGap_53 rfl (lv_at hl 1 rfl) ?_
      refine lv_isub hx hb dX1_wearGap_54 ?_
      cases hf
      exact vz_iret X hP hD hS dX1_wearGap_55
    · have hf := iff_ c3 hf
      refine lv_iload_n hx hb dX1_wearGap_24 rfl (lv_at hl 1 rfl) ?_
      refine lv_aload_n hx hb dX1_wearGap_25 rfl (lv_at hl 0 rfl) ?_
      refine va_get (D := D) (ci := 1) (v := .ref (a 8)) (C := RX1) (T := TX1) (N := 11) hx hb hts in_X1_wearGap_X1 hown hK hP 1 rfl rfl 6 (by decide) (hts _ (List.mem_of_getElem? (i := 1) rfl)) (fun _ h9 => h9) rfl dX1_wearGap_26 ?_
      refine lv_iload_n hx hb dX1_wearGap_29 rfl (lv_at hl 3 rfl) ?_
      obtain ⟨g4, hf⟩ := vgs hf
      refine va_iald hx hb hK hP 8 5 rfl rfl g4 dX1_wearGap_30 ?_
      refine va_mmin hx hb (hml.trans hl.1.symm) hown (hts _ (List.mem_of_getElem? (i := 3) rfl)) (hts _ (List.mem_of_getElem? (i := 4) rfl)) (hts _ (List.mem_of_getElem? (i := 5) rfl)) (hts _ (List.mem_of_getElem? (i := 6) rfl)) (Nat.le_of_ble_eq_true rfl) (Nat.le_of_ble_eq_true rfl) (Nat.zero_le _) (Nat.zero_le _) dX1_wearGap_31 ?_
      refine lv_istore_n (lv' := [(1, .int (if ((xu_wea u) x3.toNatClampNeg) < x1 then (xu_wea u) x3.toNatClampNeg else x1)), (0, .ref (a 1)), (2, .int x2), (3, .int x3)]) hx hb dX1_wearGap_34 rfl hl (by decide) rfl (fun ls hl => ?_)
      refine lv_iload_n hx hb dX1_wearGap_35 rfl (lv_at hl 2 rfl) ?_
      refine lv_aload_n hx hb dX1_wearGap_36 rfl (lv_at hl 1 rfl) ?_
      refine va_get (D := D) (ci := 1) (v := .ref (a 8)) (C := RX1) (T := TX1) (N := 11) hx hb hts in_X1_wearGap_X1 hown hK hP 1 rfl rfl 6 (by decide) (hts _ (List.mem_of_getElem? (i := 1) rfl)) (fun _ h9 => h9) rfl dX1_wearGap_37 ?_
      refine lv_iload_n hx hb dX1_wearGap_40 rfl (lv_at hl 3 rfl) ?_
      obtain ⟨g5, hf⟩ := vgs hf
      refine va_iald hx hb hK hP 8 5 rfl rfl g5 dX1_wearGap_41 ?_
      refine va_mmax hx hb (hml.trans hl.1.symm) hown (hts _ (List.mem_of_getElem? (i := 7) rfl)) (hts _ (List.mem_of_getElem? (i := 8) rfl)) (hts _ (List.mem_of_getElem? (i := 5) rfl)) (hts _ (List.mem_of_getElem? (i := 9) rfl)) (Nat.le_of_ble_eq_true rfl) (Nat.le_of_ble_eq_true rfl) (Nat.zero_le _) (Nat.zero_le _) dX1_wearGap_42 ?_
      refine lv_istore_n (lv' := [(2, .int (if x2 < ((xu_wea u) x3.toNatClampNeg) then (xu_wea u) x3.toNatClampNeg else x2)), (1, .int (if ((xu_wea u) x3.toNatClampNeg) < x1 then (xu_wea u) x3.toNatClampNeg else x1)), (0, .ref (a 1)), (3, .int x3)]) hx hb dX1_wearGap_45 rfl hl (by decide) rfl (fun ls hl => ?_)
      refine lv_iinc (v := x3 + (zI 1)) (lv' := [(3, .int (x3 + (zI 1))), (2, .int (if x2 < ((xu_wea u) x3.toNatClampNeg) then (xu_wea u) x3.toNatClampNeg else x2)), (1, .int (if ((xu_wea u) x3.toNatClampNeg) < x1 then (xu_wea u) x3.toNatClampNeg else x1)), (0, .ref (a 1))]) hx hb dX1_wearGap_46 hl (k := 3) rfl rfl (by decide) rfl (fun ls hl => ?_)
      refine lv_goto (tgt := 16) hx hb dX1_wearGap_49 (by decide) ?_
      exact ih (if ((xu_wea u) x3.toNatClampNeg) < x1 then (xu_wea u) x3.toNatClampNeg else x1) (if x2 < ((xu_wea u) x3.toNatClampNeg) then (xu_wea u) x3.toNatClampNeg else x2) (x3 + (zI 1)) u _ _ _ _ _ hf hP hD hS (lv_sub hl [3, 2, 1, 0] rfl)
set_option maxHeartbeats 4000000 in
set_option maxRecDepth 100000 in
theorem lbX1_wearGap_e {K : Nat} (X : vzX D (XT cA) A wsX1_wearGap cX1_wearGap 4 (some .int) RX1 p s m args meth c) : ∀ (u : XU) (H : Heap) (locs : List Loc) (ls : Array Slot) (r : Int32) (u2 : XU), fX1_wearGap n K u = some (r, u2) → va_P D vwCl (XW a n cA u) H → va_D A (XW a n cA u) → va_S A s.heap H locs → lv_has ls 4 [(0, .ref (a 1))] → W p l e (headSpec wsX1_wearGap rmX1_wearGap).room s m args below meth c H locs 0 0 (MQ below (vzQ D (XT cA) (XW a n cA) A r u2) args s 0 0 A) (F0 m 0 ls []) := by
  obtain ⟨hx, hb, hr, hml, hown, hts, hlk, hN, hK, hA⟩ := id X
  intro u H locs ls r u2 hf hP hD hS hl
  unfold fX1_wearGap at hf
  refine lv_aload_n hx hb dX1_wearGap_0 rfl (lv_at hl 0 rfl) ?_
  refine va_get (D := D) (ci := 1) (v := .ref (a 8)) (C := RX1) (T := TX1) (N := 11) hx hb hts in_X1_wearGap_X1 hown hK hP 1 rfl rfl 6 (by decide) (hts _ (List.mem_of_getElem? (i := 1) rfl)) (fun _ h9 => h9) rfl dX1_wearGap_1 ?_
  refine lv_iconst (v := zI 0) hx hb dX1_wearGap_4 (by decide) ?_
  obtain ⟨g1, hf⟩ := vgs hf
  refine va_iald hx hb hK hP 8 5 rfl rfl g1 dX1_wearGap_5 ?_
  refine lv_istore_n (lv' := [(1, .int ((xu_wea u) ((zI 0)).toNatClampNeg)), (0, .ref (a 1))]) hx hb dX1_wearGap_6 rfl hl (by decide) rfl (fun ls hl => ?_)
  refine lv_aload_n hx hb dX1_wearGap_7 rfl (lv_at hl 1 rfl) ?_
  refine va_get (D := D) (ci := 1) (v := .ref (a 8)) (C := RX1) (T := TX1) (N := 11) hx hb hts in_X1_wearGap_X1 hown hK hP 1 rfl rfl 6 (by decide) (hts _ (List.mem_of_getElem? (i := 1) rfl)) (fun _ h9 => h9) rfl dX1_wearGap_8 ?_
  refine lv_iconst (v := zI 0) hx hb dX1_wearGap_11 (by decide) ?_
  obtain ⟨g2, hf⟩ := vgs hf
  refine va_iald hx hb hK hP 8 5 rfl rfl g2 dX1_wearGap_12 ?_
  refine lv_istore_n (lv' := [(2, .int ((xu_wea u) ((zI 0)).toNatClampNeg)), (1, .int ((xu_wea u) ((zI 0)).toNatClampNeg)), (0, .ref (a 1))]) hx hb dX1_wearGap_13 rfl hl (by decide) rfl (fun ls hl => ?_)
  refine lv_iconst (v := zI 1) hx hb dX1_wearGap_14 (by decide) ?_
  refine lv_istore_n (lv' := [(3, .int (zI 1)), (2, .int ((xu_wea u) ((zI 0)).toNatClampNeg)), (1, .int ((xu_wea u) ((zI 0)).toNatClampNeg)), (0, .ref (a 1))]) hx hb dX1_wearGap_15 rfl hl (by decide) rfl (fun ls hl => ?_)
  exact lbX1_wearGap_16 X K ((xu_wea u) ((zI 0)).toNatClampNeg) ((xu_wea u) ((zI 0)).toNatClampNeg) (zI 1) u _ _ _ _ _ hf hP hD hS (lv_sub hl [3, 2, 1, 0] rfl)
end
theorem kX1_wearGap {l : Launch} {D : va_G} {a n : Nat → Nat} {cA : Nat → ClassId} {K : Nat} {u : XU} {r : Int32} {u2 : XU} (h : fX1_wearGap n K u = some (r, u2)) : vzC l D (XT cA) (XW a n cA) yX1_wearGap wsX1_wearGap rmX1_wearGap [.ref (a 1)] u r u2 := vzC.of (by decide) rfl (Nat.le_of_ble_eq_true rfl) (fun p e s m below meth c A ls X hP hD hl => lbX1_wearGap_e X u s.heap [] ls r u2 h hP hD va_S.rf hl)
end
section
abbrev rmX1_victim : Room := { frames := 2, cells := 0, slots := 0, locals := 44 }
theorem in_X1_victim_X1 : ∀ w ∈ u_ws RX1 TX1 11, w ∈ wsX1_victim := fun _ h => List.mem_cons_of_mem _ (List.mem_append_right _ h)
def fX1_victim_7 (n : Nat → Nat) (K : Nat) : Nat → Int32 → Int32 → Int32 → Int32 → XU → Option (Int32 × XU)
  | 0, _, _, _, _, _ => none
  | N + 1, x1, x2, x3, x4, u => if (xu_blk u) ≤ x4 then (some (x2, u)) else (vg x4 (n 7) (if (zI 4) ≤ ((xu_prg u) x4.toNatClampNeg) then (if x1 = 0 then ((fX1_countValid n K x4 u).bind fun z5 => (if x3 ≤ z5.1 then (if x2 = (zI (-1)) then (fX1_victim_7 n K N x1 x4 z5.1 (x4 + (zI 1)) z5.2) else (if z5.1 = x3 then (vg x4 (n 8) (vg x2 (n 8) (if ((xu_wea z5.2) x2.toNatClampNeg) ≤ ((xu_wea z5.2) x4.toNatClampNeg) then (fX1_victim_7 n K N x1 x2 x3 (x4 + (zI 1)) z5.2) else (fX1_victim_7 n K N x1 x4 z5.1 (x4 + (zI 1)) z5.2)))) else (fX1_victim_7 n K N x1 x2 x3 (x4 + (zI 1)) z5.2))) else (if x2 = (zI (-1)) then (fX1_victim_7 n K N x1 x4 z5.1 (x4 + (zI 1)) z5.2) else (if z5.1 = x3 then (vg x4 (n 8) (vg x2 (n 8) (if ((xu_wea z5.2) x2.toNatClampNeg) ≤ ((xu_wea z5.2) x4.toNatClampNeg) then (fX1_victim_7 n K N x1 x4 z5.1 (x4 + (zI 1)) z5.2) else (fX1_victim_7 n K N x1 x4 z5.1 (x4 + (zI 1)) z5.2)))) else (fX1_victim_7 n K N x1 x4 z5.1 (x4 + (zI 1)) z5.2))))) else (if x3 ≤ (zI 0) then (if x2 = (zI (-1)) then (fX1_victim_7 n K N x1 x4 (zI 0) (x4 + (zI 1)) u) else (if (zI 0) = x3 then (vg x4 (n 8) (vg x2 (n 8) (if ((xu_wea u) x2.toNatClampNeg) ≤ ((xu_wea u) x4.toNatClampNeg) then (fX1_victim_7 n K N x1 x2 x3 (x4 + (zI 1)) u) else (fX1_victim_7 n K N x1 x4 (zI 0) (x4 + (zI 1)) u)))) else (fX1_victim_7 n K N x1 x2 x3 (x4 + (zI 1)) u))) else (if x2 = (zI (-1)) then (fX1_victim_7 n K N x1 x4 (zI 0) (x4 + (zI 1)) u) else (if (zI 0) = x3 then (vg x4 (n 8) (vg x2 (n 8) (if ((xu_wea u) x2.toNatClampNeg) ≤ ((xu_wea u) x4.toNatClampNeg) then (fX1_victim_7 n K N x1 x4 (zI 0) (x4 + (zI 1)) u) else (fX1_victim_7 n K N x1 x4 (zI 0) (x4 + (zI 1)) u)))) else (fX1_victim_7 n K N x1 x4 (zI 0) (x4 + (zI 1)) u))))) else (fX1_victim_7 n K N x1 x2 x3 (x4 + (zI 1)) u)))
def fX1_victim (n : Nat → Nat) (K : Nat) (x1 : Int32) (u : XU) : Option (Int32 × XU) := fX1_victim_7 n K K x1 (zI (-1)) (zI 0) (zI 0) u
section
variable {p : Program} {l : Launch} {e : Env} {s : State} {m : MethodId} {args : Array Value} {below : List Frame} {meth : Method} {c : Code} {D : va_G} {a n : Nat → Nat} {cA : Nat → ClassId} {A : Nat → Prop}
set_option maxHeartbeats 4000000 in
set_option maxRecDepth 100000 in
theorem lbX1_victim_7 {K : Nat} (X : vzX D (XT cA) A wsX1_victim cX1_victim 8 (some .int) RX1 p s m args meth c) : ∀ (N : Nat) (x1 x2 x3 x4 : Int32) (u : XU) (H : Heap) (locs : List Loc) (ls : Array Slot) (r : Int32) (u2 : XU), fX1_victim_7 n K N x1 x2 x3 x4 u = some (r, u2) → va_P D vwCl (XW a n cA u) H → va_D A (XW a n cA u) → va_S A s.heap H locs → lv_has ls 8 [(0, .ref (a 1)), (1, .int x1), (2, .int x2), (3, .int x3), (4, .int x4)] → W p l e (headSpec wsX1_victim rmX1_victim).room s m args below meth c H locs 0 0 (MQ below (vzQ D (XT cA) (XW a n cA) A r u2) args s 0 0 A) (F0 m 7 ls []) := by
  obtain ⟨hx, hb, hr, hml, hown, hts, hlk, hN, hK, hA⟩ := id X
  intro N
  induction N with
  | zero =>
    intro x1 x2 x3 x4 u H locs ls r u2 hf
    cases hf
  | succ N ih =>
    intro x1 x2 x3 x4 u H locs ls r u2 hf hP hD hS hl
    rw [fX1_victim_7] at hf
    refine lv_iload hx hb dX1_victim_7 (lv_at hl 4 rfl) ?_
    refine lv_aload_n hx hb dX1_victim_9 rfl (lv_at hl 0 rfl) ?_
    refine va_get (D := D) (ci := 1) (v := .int (xu_blk u)) (C := RX1) (T := TX1) (N := 11) hx hb hts in_X1_victim_X1 hown hK hP 1 rfl rfl 0 (by decide) (hts _ (List.mem_of_getElem? (i := 1) rfl)) (fun _ h9 => h9) rfl dX1_victim_10 ?_
    refine lv_icmp_ge (tgt := 120) hx hb dX1_victim_13 (by decide) (fun c1 => ?_) (fun c1 => ?_)
    · have hf := ift c1 hf
      refine lv_iload_n hx hb dX1_victim_120 rfl (lv_at hl 2 rfl) ?_
      cases hf
      exact vz_iret X hP hD hS dX1_victim_121
    · have hf := iff_ c1 hf
      refine lv_aload_n hx hb dX1_victim_16 rfl (lv_at hl 0 rfl) ?_
      refine va_get (D := D) (ci := 1) (v := .ref (a 7)) (C := RX1) (T := TX1) (N := 11) hx hb hts in_X1_victim_X1 hown hK hP 1 rfl rfl 5 (by decide) (hts _ (List.mem_of_getElem? (i := 2) rfl)) (fun _ h9 => h9) rfl dX1_victim_17 ?_
      refine lv_iload hx hb dX1_victim_20 (lv_at hl 4 rfl) ?_
      obtain ⟨g2, hf⟩ := vgs hf
      refine va_iald hx hb hK hP 7 4 rfl rfl g2 dX1_victim_22 ?_
      refine lv_iconst (v := zI 4) hx hb dX1_victim_23 (by decide) ?_
      refine lv_icmp_ge (tgt := 30) hx hb dX1_victim_24 (by decide) (fun c3 => ?_) (fun c3 => ?_)
      · have hf := ift c3 hf
        refine lv_iload_n hx hb dX1_victim_30 rfl (lv_at hl 1 rfl) ?_
        refine lv_if_eq (tgt := 38) hx hb dX1_victim_31 (by decide) (fun c4 => ?_) (fun c4 => ?_)
        · have hf := ift c4 hf
          refine lv_aload_n hx hb dX1_victim_38 rfl (lv_at hl 0 rfl) ?_
          refine lv_iload hx hb dX1_victim_39 (lv_at hl 4 rfl) ?_
          obtain ⟨z5, hz6, hf⟩ := bd hf
          refine vz_call (rest := []) X (kX1_countValid hz6) (cwV 1 hts gX1_victim_X1_countValid rfl rfl rfl (by decide +kernel) ⟨Nat.le_of_ble_eq_true rfl, Nat.le_of_ble_eq_true rfl⟩) 1 1 rfl rfl rfl hl.1 rfl (Nat.le_of_ble_eq_true rfl) dX1_victim_41 ⟨Nat.zero_le _, Nat.zero_le _⟩ hP hD hS (fun H locs hP hD hS => ?_)
          refine lv_istore (lv' := [(5, .int z5.1), (0, .ref (a 1)), (1, .int x1), (2, .int x2), (3, .int x3), (4, .int x4)]) hx hb dX1_victim_44 hl (by decide) rfl (fun ls hl => ?_)
          refine lv_iload hx hb dX1_victim_46 (lv_at hl 0 rfl) ?_
          refine lv_iload_n hx hb dX1_victim_48 rfl (lv_at hl 4 rfl) ?_
          refine lv_icmp_ge (tgt := 56) hx hb dX1_victim_49 (by decide) (fun c7 => ?_) (fun c7 => ?_)
          · have hf := ift c7 hf
            refine lv_iconst (v := zI 0) hx hb dX1_victim_56 (by decide) ?_
            refine lv_istore (lv' := [(6, .int (zI 0)), (5, .int z5.1), (0, .ref (a 1)), (1, .int x1), (2, .int x2), (3, .int x3), (4, .int x4)]) hx hb dX1_victim_57 hl (by decide) rfl (fun ls hl => ?_)
            refine lv_iload_n hx hb dX1_victim_59 rfl (lv_at hl 4 rfl) ?_
            refine lv_iconst (v := zI (-1)) hx hb dX1_victim_60 (by decide) ?_
            refine lv_icmp_eq (tgt := 90) hx hb dX1_victim_61 (by decide) (fun c8 => ?_) (fun c8 => ?_)
            · have hf := ift c8 hf
              refine lv_iconst (v := zI 0) hx hb dX1_victim_90 (by decide) ?_
              refine lv_istore (lv' := [(7, .int (zI 0)), (6, .int (zI 0)), (5, .int z5.1), (0, .ref (a 1)), (1, .int x1), (2, .int x2), (3, .int x3), (4, .int x4)]) hx hb dX1_victim_91 hl (by decide) rfl (fun ls hl => ?_)
              refine lv_iload_n hx hb dX1_victim_93 rfl (lv_at hl 5 rfl) ?_
              refine lv_iconst (v := zI (-1)) hx hb dX1_victim_94 (by decide) ?_
              refine lv_icmp_eq (tgt := 108) hx hb dX1_victim_95 (by decide) (fun c9 => ?_) (fun c9 => absurd c8 c9)
              refine lv_iload hx hb dX1_victim_108 (lv_at hl 7 rfl) ?_
              refine lv_istore_n (lv' := [(2, .int x4), (7, .int (zI 0)), (6, .int (zI 0)), (5, .int z5.1), (0, .ref (a 1)), (1, .int x1), (3, .int x3), (4, .int x4)]) hx hb dX1_victim_110 rfl hl (by decide) rfl (fun ls hl => ?_)
              refine lv_iload hx hb dX1_victim_111 (lv_at hl 3 rfl) ?_
              refine lv_istore_n (lv' := [(3, .int z5.1), (2, .int x4), (7, .int (zI 0)), (6, .int (zI 0)), (5, .int z5.1), (0, .ref (a 1)), (1, .int x1), (4, .int x4)]) hx hb dX1_victim_113 rfl hl (by decide) rfl (fun ls hl => ?_)
              refine lv_iinc (v := x4 + (zI 1)) (lv' := [(4, .int (x4 + (zI 1))), (3, .int z5.1), (2, .int x4), (7, .int (zI 0)), (6, .int (zI 0)), (5, .int z5.1), (0, .ref (a 1)), (1, .int x1)]) hx hb dX1_victim_114 hl (k := 7) rfl rfl (by decide) rfl (fun ls hl => ?_)
              refine lv_goto (tgt := 7) hx hb dX1_victim_117 (by decide) ?_
              exact ih x1 x4 z5.1 (x4 + (zI 1)) z5.2 _ _ _ _ _ hf hP hD hS (lv_sub hl [6, 7, 2, 1, 0] rfl)
            · have hf := iff_ c8 hf
              refine lv_iload hx hb dX1_victim_64 (lv_at hl 1 rfl) ?_
              refine lv_iload_n hx hb dX1_victim_66 rfl (lv_at hl 5 rfl) ?_
              refine lv_icmp_ne (tgt := 90) hx hb dX1_victim_67 (by decide) (fun c10 => ?_) (fun c10 => ?_)
              · have hf := iff_ c10 hf
                refine lv_iconst (v := zI 0) hx hb dX1_victim_90 (by decide) ?_
                refine lv_istore (lv' := [(7, .int (zI 0)), (6, .int (zI 0)), (5, .int z5.1), (0, .ref (a 1)), (1, .int x1), (2, .int x2), (3, .int x3), (4, .int x4)]) hx hb dX1_victim_91 hl (by decide) rfl (fun ls hl => ?_)
                refine lv_iload_n hx hb dX1_victim_93 rfl (lv_at hl 5 rfl) ?_
                refine lv_iconst (v := zI (-1)) hx hb dX1_victim_94 (by decide) ?_
                refine lv_icmp_eq (tgt := 108) hx hb dX1_victim_95 (by decide) (fun c11 => absurd c11 c8) (fun c11 => ?_)
                refine lv_iload hx hb dX1_victim_98 (lv_at hl 1 rfl) ?_
                refine lv_if_ne (tgt := 108) hx hb dX1_victim_100 (by decide) (fun c12 => absurd (by decide) c12) (fun c12 => ?_)
                refine lv_iload hx hb dX1_victim_103 (lv_at hl 0 rfl) ?_
                refine lv_if_eq (tgt := 114) hx hb dX1_victim_105 (by decide) (fun c13 => ?_) (fun c13 => absurd (by decide) c13)
                refine lv_iinc (v := x4 + (zI 1)) (lv' := [(4, .int (x4 + (zI 1))), (7, .int (zI 0)), (6, .int (zI 0)), (5, .int z5.1), (0, .ref (a 1)), (1, .int x1), (2, .int x2), (3, .int x3)]) hx hb dX1_victim_114 hl (k := 7) rfl rfl (by decide) rfl (fun ls hl => ?_)
                refine lv_goto (tgt := 7) hx hb dX1_victim_117 (by decide) ?_
                exact ih x1 x2 x3 (x4 + (zI 1)) z5.2 _ _ _ _ _ hf hP hD hS (lv_sub hl [4, 5, 6, 7, 0] rfl)
              · have hf := ift c10 hf
                refine lv_aload_n hx hb dX1_victim_70 rfl (lv_at hl 2 rfl) ?_
                refine va_get (D := D) (ci := 1) (v := .ref (a 8)) (C := RX1) (T := TX1) (N := 11) hx hb hts in_X1_victim_X1 hown hK hP 1 rfl rfl 6 (by decide) (hts _ (List.mem_of_getElem? (i := 3) rfl)) (fun _ h9 => h9) rfl dX1_victim_71 ?_
                refine lv_iload hx hb dX1_victim_74 (lv_at hl 6 rfl) ?_
                obtain ⟨g14, hf⟩ := vgs hf
                refine va_iald hx hb hK hP 8 5 rfl rfl g14 dX1_victim_76 ?_
                refine lv_aload_n hx hb dX1_victim_77 rfl (lv_at hl 2 rfl) ?_
                refine va_get (D := D) (ci := 1) (v := .ref (a 8)) (C := RX1) (T := TX1) (N := 11) hx hb hts in_X1_victim_X1 hown hK hP 1 rfl rfl 6 (by decide) (hts _ (List.mem_of_getElem? (i := 3) rfl)) (fun _ h9 => h9) rfl dX1_victim_78 ?_
                refine lv_iload_n hx hb dX1_victim_81 rfl (lv_at hl 4 rfl) ?_
                obtain ⟨g15, hf⟩ := vgs hf
                refine va_iald hx hb hK hP 8 5 rfl rfl g15 dX1_victim_82 ?_
                refine lv_icmp_ge (tgt := 90) hx hb dX1_victim_83 (by decide) (fun c16 => ?_) (fun c16 => ?_)
                · have hf := ift c16 hf
                  refine lv_iconst (v := zI 0) hx hb dX1_victim_90 (by decide) ?_
                  refine lv_istore (lv' := [(7, .int (zI 0)), (6, .int (zI 0)), (5, .int z5.1), (0, .ref (a 1)), (1, .int x1), (2, .int x2), (3, .int x3), (4, .int x4)]) hx hb dX1_victim_91 hl (by decide) rfl (fun ls hl => ?_)
                  refine lv_iload_n hx hb dX1_victim_93 rfl (lv_at hl 5 rfl) ?_
                  refine lv_iconst (v := zI (-1)) hx hb dX1_victim_94 (by decide) ?_
                  refine lv_icmp_eq (tgt := 108) hx hb dX1_victim_95 (by decide) (fun c17 => absurd c17 c8) (fun c17 => ?_)
                  refine lv_iload hx hb dX1_victim_98 (lv_at hl 1 rfl) ?_
                  refine lv_if_ne (tgt := 108) hx hb dX1_victim_100 (by decide) (fun c18 => absurd (by decide) c18) (fun c18 => ?_)
                  refine lv_iload hx hb dX1_victim_103 (lv_at hl 0 rfl) ?_
                  refine lv_if_eq (tgt := 114) hx hb dX1_victim_105 (by decide) (fun c19 => ?_) (fun c19 => absurd (by decide) c19)
                  refine lv_iinc (v := x4 + (zI 1)) (lv' := [(4, .int (x4 + (zI 1))), (7, .int (zI 0)), (6, .int (zI 0)), (5, .int z5.1), (0, .ref (a 1)), (1, .int x1), (2, .int x2), (3, .int x3)]) hx hb dX1_victim_114 hl (k := 7) rfl rfl (by decide) rfl (fun ls hl => ?_)
                  refine lv_goto (tgt := 7) hx hb dX1_victim_117 (by decide) ?_
                  exact ih x1 x2 x3 (x4 + (zI 1)) z5.2 _ _ _ _ _ hf hP hD hS (lv_sub hl [4, 5, 6, 7, 0] rfl)
                · have hf := iff_ c16 hf
                  refine lv_iconst (v := zI 1) hx hb dX1_victim_86 (by decide) ?_
                  refine lv_goto (tgt := 91) hx hb dX1_victim_87 (by decide) ?_
                  refine lv_istore (lv' := [(7, .int (zI 1)), (6, .int (zI 0)), (5, .int z5.1), (0, .ref (a 1)), (1, .int x1), (2, .int x2), (3, .int x3), (4, .int x4)]) hx hb dX1_victim_91 hl (by decide) rfl (fun ls hl => ?_)
                  refine lv_iload_n hx hb dX1_victim_93 rfl (lv_at hl 5 rfl) ?_
                  refine lv_iconst (v := zI (-1)) hx hb dX1_victim_94 (by decide) ?_
                  refine lv_icmp_eq (tgt := 108) hx hb dX1_victim_95 (by decide) (fun c20 => absurd c20 c8) (fun c20 => ?_)
                  refine lv_iload hx hb dX1_victim_98 (lv_at hl 1 rfl) ?_
                  refine lv_if_ne (tgt := 108) hx hb dX1_victim_100 (by decide) (fun c21 => absurd (by decide) c21) (fun c21 => ?_)
                  refine lv_iload hx hb dX1_victim_103 (lv_at hl 0 rfl) ?_
                  refine lv_if_eq (tgt := 114) hx hb dX1_victim_105 (by decide) (fun c22 => absurd c22 (by decide)) (fun c22 => ?_)
                  refine lv_iload hx hb dX1_victim_108 (lv_at hl 7 rfl) ?_
                  refine lv_istore_n (lv' := [(2, .int x4), (7, .int (zI 1)), (6, .int (zI 0)), (5, .int z5.1), (0, .ref (a 1)), (1, .int x1), (3, .int x3), (4, .int x4)]) hx hb dX1_victim_110 rfl hl (by decide) rfl (fun ls hl => ?_)
                  refine lv_iload hx hb dX1_victim_111 (lv_at hl 3 rfl) ?_
                  refine lv_istore_n (lv' := [(3, .int z5.1), (2, .int x4), (7, .int (zI 1)), (6, .int (zI 0)), (5, .int z5.1), (0, .ref (a 1)), (1, .int x1), (4, .int x4)]) hx hb dX1_victim_113 rfl hl (by decide) rfl (fun ls hl => ?_)
                  refine lv_iinc (v := x4 + (zI 1)) (lv' := [(4, .int (x4 + (zI 1))), (3, .int z5.1), (2, .int x4), (7, .int (zI 1)), (6, .int (zI 0)), (5, .int z5.1), (0, .ref (a 1)), (1, .int x1)]) hx hb dX1_victim_114 hl (k := 7) rfl rfl (by decide) rfl (fun ls hl => ?_)
                  refine lv_goto (tgt := 7) hx hb dX1_victim_117 (by decide) ?_
                  exact ih x1 x4 z5.1 (x4 + (zI 1)) z5.2 _ _ _ _ _ hf hP hD hS (lv_sub hl [6, 7, 2, 1, 0] rfl)
          · have hf := iff_ c7 hf
            refine lv_iconst (v := zI 1) hx hb dX1_victim_52 (by decide) ?_
            refine lv_goto (tgt := 57) hx hb dX1_victim_53 (by decide) ?_
            refine lv_istore (lv' := [(6, .int (zI 1)), (5, .int z5.1), (0, .ref (a 1)), (1, .int x1), (2, .int x2), (3, .int x3), (4, .int x4)]) hx hb dX1_victim_57 hl (by decide) rfl (fun ls hl => ?_)
            refine lv_iload_n hx hb dX1_victim_59 rfl (lv_at hl 4 rfl) ?_
            refine lv_iconst (v := zI (-1)) hx hb dX1_victim_60 (by decide) ?_
            refine lv_icmp_eq (tgt := 90) hx hb dX1_victim_61 (by decide) (fun c23 => ?_) (fun c23 => ?_)
            · have hf := ift c23 hf
              refine lv_iconst (v := zI 0) hx hb dX1_victim_90 (by decide) ?_
              refine lv_istore (lv' := [(7, .int (zI 0)), (6, .int (zI 1)), (5, .int z5.1), (0, .ref (a 1)), (1, .int x1), (2, .int x2), (3, .int x3), (4, .int x4)]) hx hb dX1_victim_91 hl (by decide) rfl (fun ls hl => ?_)
              refine lv_iload_n hx hb dX1_victim_93 rfl (lv_at hl 5 rfl) ?_
              refine lv_iconst (v := zI (-1)) hx hb dX1_victim_94 (by decide) ?_
              refine lv_icmp_eq (tgt := 108) hx hb dX1_victim_95 (by decide) (fun c24 => ?_) (fun c24 => absurd c23 c24)
              refine lv_iload hx hb dX1_victim_108 (lv_at hl 7 rfl) ?_
              refine lv_istore_n (lv' := [(2, .int x4), (7, .int (zI 0)), (6, .int (zI 1)), (5, .int z5.1), (0, .ref (a 1)), (1, .int x1), (3, .int x3), (4, .int x4)]) hx hb dX1_victim_110 rfl hl (by decide) rfl (fun ls hl => ?_)
              refine lv_iload hx hb dX1_victim_111 (lv_at hl 3 rfl) ?_
              refine lv_istore_n (lv' := [(3, .int z5.1), (2, .int x4), (7, .int (zI 0)), (6, .int (zI 1)), (5, .int z5.1), (0, .ref (a 1)), (1, .int x1), (4, .int x4)]) hx hb dX1_victim_113 rfl hl (by decide) rfl (fun ls hl => ?_)
              refine lv_iinc (v := x4 + (zI 1)) (lv' := [(4, .int (x4 + (zI 1))), (3, .int z5.1), (2, .int x4), (7, .int (zI 0)), (6, .int (zI 1)), (5, .int z5.1), (0, .ref (a 1)), (1, .int x1)]) hx hb dX1_victim_114 hl (k := 7) rfl rfl (by decide) rfl (fun ls hl => ?_)
              refine lv_goto (tgt := 7) hx hb dX1_victim_117 (by decide) ?_
              exact ih x1 x4 z5.1 (x4 + (zI 1)) z5.2 _ _ _ _ _ hf hP hD hS (lv_sub hl [6, 7, 2, 1, 0] rfl)
            · have hf := iff_ c23 hf
              refine lv_iload hx hb dX1_victim_64 (lv_at hl 1 rfl) ?_
              refine lv_iload_n hx hb dX1_victim_66 rfl (lv_at hl 5 rfl) ?_
              refine lv_icmp_ne (tgt := 90) hx hb dX1_victim_67 (by decide) (fun c25 => ?_) (fun c25 => ?_)
              · have hf := iff_ c25 hf
                refine lv_iconst (v := zI 0) hx hb dX1_victim_90 (by decide) ?_
                refine lv_istore (lv' := [(7, .int (zI 0)), (6, .int (zI 1)), (5, .int z5.1), (0, .ref (a 1)), (1, .int x1), (2, .int x2), (3, .int x3), (4, .int x4)]) hx hb dX1_victim_91 hl (by decide) rfl (fun ls hl => ?_)
                refine lv_iload_n hx hb dX1_victim_93 rfl (lv_at hl 5 rfl) ?_
                refine lv_iconst (v := zI (-1)) hx hb dX1_victim_94 (by decide) ?_
                refine lv_icmp_eq (tgt := 108) hx hb dX1_victim_95 (by decide) (fun c26 => absurd c26 c23) (fun c26 => ?_)
                refine lv_iload hx hb dX1_victim_98 (lv_at hl 1 rfl) ?_
                refine lv_if_ne (tgt := 108) hx hb dX1_victim_100 (by decide) (fun c27 => ?_) (fun c27 => absurd c27 (by decide))
                refine lv_iload hx hb dX1_victim_108 (lv_at hl 7 rfl) ?_
                refine lv_istore_n (lv' := [(2, .int x4), (7, .int (zI 0)), (6, .int (zI 1)), (5, .int z5.1), (0, .ref (a 1)), (1, .int x1), (3, .int x3), (4, .int x4)]) hx hb dX1_victim_110 rfl hl (by decide) rfl (fun ls hl => ?_)
                refine lv_iload hx hb dX1_victim_111 (lv_at hl 3 rfl) ?_
                refine lv_istore_n (lv' := [(3, .int z5.1), (2, .int x4), (7, .int (zI 0)), (6, .int (zI 1)), (5, .int z5.1), (0, .ref (a 1)), (1, .int x1), (4, .int x4)]) hx hb dX1_victim_113 rfl hl (by decide) rfl (fun ls hl => ?_)
                refine lv_iinc (v := x4 + (zI 1)) (lv' := [(4, .int (x4 + (zI 1))), (3, .int z5.1), (2, .int x4), (7, .int (zI 0)), (6, .int (zI 1)), (5, .int z5.1), (0, .ref (a 1)), (1, .int x1)]) hx hb dX1_victim_114 hl (k := 7) rfl rfl (by decide) rfl (fun ls hl => ?_)
                refine lv_goto (tgt := 7) hx hb dX1_victim_117 (by decide) ?_
                exact ih x1 x4 z5.1 (x4 + (zI 1)) z5.2 _ _ _ _ _ hf hP hD hS (lv_sub hl [6, 7, 2, 1, 0] rfl)
              · have hf := ift c25 hf
                refine lv_aload_n hx hb dX1_victim_70 rfl (lv_at hl 2 rfl) ?_
                refine va_get (D := D) (ci := 1) (v := .ref (a 8)) (C := RX1) (T := TX1) (N := 11) hx hb hts in_X1_victim_X1 hown hK hP 1 rfl rfl 6 (by decide) (hts _ (List.mem_of_getElem? (i := 3) rfl)) (fun _ h9 => h9) rfl dX1_victim_71 ?_
                refine lv_iload hx hb dX1_victim_74 (lv_at hl 6 rfl) ?_
                obtain ⟨g28, hf⟩ := vgs hf
                refine va_iald hx hb hK hP 8 5 rfl rfl g28 dX1_victim_76 ?_
                refine lv_aload_n hx hb dX1_victim_77 rfl (lv_at hl 2 rfl) ?_
                refine va_get (D := D) (ci := 1) (v := .ref (a 8)) (C := RX1) (T := TX1) (N := 11) hx hb hts in_X1_victim_X1 hown hK hP 1 rfl rfl 6 (by decide) (hts _ (List.mem_of_getElem? (i := 3) rfl)) (fun _ h9 => h9) rfl dX1_victim_78 ?_
                refine lv_iload_n hx hb dX1_victim_81 rfl (lv_at hl 4 rfl) ?_
                obtain ⟨g29, hf⟩ := vgs hf
                refine va_iald hx hb hK hP 8 5 rfl rfl g29 dX1_victim_82 ?_
                refine lv_icmp_ge (tgt := 90) hx hb dX1_victim_83 (by decide) (fun c30 => ?_) (fun c30 => ?_)
                · have hf := ift c30 hf
                  refine lv_iconst (v := zI 0) hx hb dX1_victim_90 (by decide) ?_
                  refine lv_istore (lv' := [(7, .int (zI 0)), (6, .int (zI 1)), (5, .int z5.1), (0, .ref (a 1)), (1, .int x1), (2, .int x2), (3, .int x3), (4, .int x4)]) hx hb dX1_victim_91 hl (by decide) rfl (fun ls hl => ?_)
                  refine lv_iload_n hx hb dX1_victim_93 rfl (lv_at hl 5 rfl) ?_
                  refine lv_iconst (v := zI (-1)) hx hb dX1_victim_94 (by decide) ?_
                  refine lv_icmp_eq (tgt := 108) hx hb dX1_victim_95 (by decide) (fun c31 => absurd c31 c23) (fun c31 => ?_)
                  refine lv_iload hx hb dX1_victim_98 (lv_at hl 1 rfl) ?_
                  refine lv_if_ne (tgt := 108) hx hb dX1_victim_100 (by decide) (fun c32 => ?_) (fun c32 => absurd c32 (by decide))
                  refine lv_iload hx hb dX1_victim_108 (lv_at hl 7 rfl) ?_
                  refine lv_istore_n (lv' := [(2, .int x4), (7, .int (zI 0)), (6, .int (zI 1)), (5, .int z5.1), (0, .ref (a 1)), (1, .int x1), (3, .int x3), (4, .int x4)]) hx hb dX1_victim_110 rfl hl (by decide) rfl (fun ls hl => ?_)
                  refine lv_iload hx hb dX1_victim_111 (lv_at hl 3 rfl) ?_
                  refine lv_istore_n (lv' := [(3, .int z5.1), (2, .int x4), (7, .int (zI 0)), (6, .int (zI 1)), (5, .int z5.1), (0, .ref (a 1)), (1, .int x1), (4, .int x4)]) hx hb dX1_victim_113 rfl hl (by decide) rfl (fun ls hl => ?_)
                  refine lv_iinc (v := x4 + (zI 1)) (lv' := [(4, .int (x4 + (zI 1))), (3, .int z5.1), (2, .int x4), (7, .int (zI 0)), (6, .int (zI 1)), (5, .int z5.1), (0, .ref (a 1)), (1, .int x1)]) hx hb dX1_victim_114 hl (k := 7) rfl rfl (by decide) rfl (fun ls hl => ?_)
                  refine lv_goto (tgt := 7) hx hb dX1_victim_117 (by decide) ?_
                  exact ih x1 x4 z5.1 (x4 + (zI 1)) z5.2 _ _ _ _ _ hf hP hD hS (lv_sub hl [6, 7, 2, 1, 0] rfl)
                · have hf := iff_ c30 hf
                  refine lv_iconst (v := zI 1) hx hb dX1_victim_86 (by decide) ?_
                  refine lv_goto (tgt := 91) hx hb dX1_victim_87 (by decide) ?_
                  refine lv_istore (lv' := [(7, .int (zI 1)), (6, .int (zI 1)), (5, .int z5.1), (0, .ref (a 1)), (1, .int x1), (2, .int x2), (3, .int x3), (4, .int x4)]) hx hb dX1_victim_91 hl (by decide) rfl (fun ls hl => ?_)
                  refine lv_iload_n hx hb dX1_victim_93 rfl (lv_at hl 5 rfl) ?_
                  refine lv_iconst (v := zI (-1)) hx hb dX1_victim_94 (by decide) ?_
                  refine lv_icmp_eq (tgt := 108) hx hb dX1_victim_95 (by decide) (fun c33 => absurd c33 c23) (fun c33 => ?_)
                  refine lv_iload hx hb dX1_victim_98 (lv_at hl 1 rfl) ?_
                  refine lv_if_ne (tgt := 108) hx hb dX1_victim_100 (by decide) (fun c34 => ?_) (fun c34 => absurd c34 (by decide))
                  refine lv_iload hx hb dX1_victim_108 (lv_at hl 7 rfl) ?_
                  refine lv_istore_n (lv' := [(2, .int x4), (7, .int (zI 1)), (6, .int (zI 1)), (5, .int z5.1), (0, .ref (a 1)), (1, .int x1), (3, .int x3), (4, .int x4)]) hx hb dX1_victim_110 rfl hl (by decide) rfl (fun ls hl => ?_)
                  refine lv_iload hx hb dX1_victim_111 (lv_at hl 3 rfl) ?_
                  refine lv_istore_n (lv' := [(3, .int z5.1), (2, .int x4), (7, .int (zI 1)), (6, .int (zI 1)), (5, .int z5.1), (0, .ref (a 1)), (1, .int x1), (4, .int x4)]) hx hb dX1_victim_113 rfl hl (by decide) rfl (fun ls hl => ?_)
                  refine lv_iinc (v := x4 + (zI 1)) (lv' := [(4, .int (x4 + (zI 1))), (3, .int z5.1), (2, .int x4), (7, .int (zI 1)), (6, .int (zI 1)), (5, .int z5.1), (0, .ref (a 1)), (1, .int x1)]) hx hb dX1_victim_114 hl (k := 7) rfl rfl (by decide) rfl (fun ls hl => ?_)
                  refine lv_goto (tgt := 7) hx hb dX1_victim_117 (by decide) ?_
                  exact ih x1 x4 z5.1 (x4 + (zI 1)) z5.2 _ _ _ _ _ hf hP hD hS (lv_sub hl [6, 7, 2, 1, 0] rfl)
        · have hf := iff_ c4 hf
          refine lv_iconst (v := zI 0) hx hb dX1_victim_34 (by decide) ?_
          refine lv_goto (tgt := 44) hx hb dX1_victim_35 (by decide) ?_
          refine lv_istore (lv' := [(5, .int (zI 0)), (0, .ref (a 1)), (1, .int x1), (2, .int x2), (3, .int x3), (4, .int x4)]) hx hb dX1_victim_44 hl (by decide) rfl (fun ls hl => ?_)
          refine lv_iload hx hb dX1_victim_46 (lv_at hl 0 rfl) ?_
          refine lv_iload_n hx hb dX1_victim_48 rfl (lv_at hl 4 rfl) ?_
          refine lv_icmp_ge (tgt := 56) hx hb dX1_victim_49 (by decide) (fun c35 => ?_) (fun c35 => ?_)
          · have hf := ift c35 hf
            refine lv_iconst (v := zI 0) hx hb dX1_victim_56 (by decide) ?_
            refine lv_istore (lv' := [(6, .int (zI 0)), (5, .int (zI 0)), (0, .ref (a 1)), (1, .int x1), (2, .int x2), (3, .int x3), (4, .int x4)]) hx hb dX1_victim_57 hl (by decide) rfl (fun ls hl => ?_)
            refine lv_iload_n hx hb dX1_victim_59 rfl (lv_at hl 4 rfl) ?_
            refine lv_iconst (v := zI (-1)) hx hb dX1_victim_60 (by decide) ?_
            refine lv_icmp_eq (tgt := 90) hx hb dX1_victim_61 (by decide) (fun c36 => ?_) (fun c36 => ?_)
            · have hf := ift c36 hf
              refine lv_iconst (v := zI 0) hx hb dX1_victim_90 (by decide) ?_
              refine lv_istore (lv' := [(7, .int (zI 0)), (6, .int (zI 0)), (5, .int (zI 0)), (0, .ref (a 1)), (1, .int x1), (2, .int x2), (3, .int x3), (4, .int x4)]) hx hb dX1_victim_91 hl (by decide) rfl (fun ls hl => ?_)
              refine lv_iload_n hx hb dX1_victim_93 rfl (lv_at hl 5 rfl) ?_
              refine lv_iconst (v := zI (-1)) hx hb dX1_victim_94 (by decide) ?_
              refine lv_icmp_eq (tgt := 108) hx hb dX1_victim_95 (by decide) (fun c37 => ?_) (fun c37 => absurd c36 c37)
              refine lv_iload hx hb dX1_victim_108 (lv_at hl 7 rfl) ?_
              refine lv_istore_n (lv' := [(2, .int x4), (7, .int (zI 0)), (6, .int (zI 0)), (5, .int (zI 0)), (0, .ref (a 1)), (1, .int x1), (3, .int x3), (4, .int x4)]) hx hb dX1_victim_110 rfl hl (by decide) rfl (fun ls hl => ?_)
              refine lv_iload hx hb dX1_victim_111 (lv_at hl 3 rfl) ?_
              refine lv_istore_n (lv' := [(3, .int (zI 0)), (2, .int x4), (7, .int (zI 0)), (6, .int (zI 0)), (5, .int (zI 0)), (0, .ref (a 1)), (1, .int x1), (4, .int x4)]) hx hb dX1_victim_113 rfl hl (by decide) rfl (fun ls hl => ?_)
              refine lv_iinc (v := x4 + (zI 1)) (lv' := [(4, .int (x4 + (zI 1))), (3, .int (zI 0)), (2, .int x4), (7, .int (zI 0)), (6, .int (zI 0)), (5, .int (zI 0)), (0, .ref (a 1)), (1, .int x1)]) hx hb dX1_victim_114 hl (k := 7) rfl rfl (by decide) rfl (fun ls hl => ?_)
              refine lv_goto (tgt := 7) hx hb dX1_victim_117 (by decide) ?_
              exact ih x1 x4 (zI 0) (x4 + (zI 1)) u _ _ _ _ _ hf hP hD hS (lv_sub hl [6, 7, 2, 1, 0] rfl)
            · have hf := iff_ c36 hf
              refine lv_iload hx hb dX1_victim_64 (lv_at hl 1 rfl) ?_
              refine lv_iload_n hx hb dX1_victim_66 rfl (lv_at hl 5 rfl) ?_
              refine lv_icmp_ne (tgt := 90) hx hb dX1_victim_67 (by decide) (fun c38 => ?_) (fun c38 => ?_)
              · have hf := iff_ c38 hf
                refine lv_iconst (v := zI 0) hx hb dX1_victim_90 (by decide) ?_
                refine lv_istore (lv' := [(7, .int (zI 0)), (6, .int (zI 0)), (5, .int (zI 0)), (0, .ref (a 1)), (1, .int x1), (2, .int x2), (3, .int x3), (4, .int x4)]) hx hb dX1_victim_91 hl (by decide) rfl (fun ls hl => ?_)
                refine lv_iload_n hx hb dX1_victim_93 rfl (lv_at hl 5 rfl) ?_
                refine lv_iconst (v := zI (-1)) hx hb dX1_victim_94 (by decide) ?_
                refine lv_icmp_eq (tgt := 108) hx hb dX1_victim_95 (by decide) (fun c39 => absurd c39 c36) (fun c39 => ?_)
                refine lv_iload hx hb dX1_victim_98 (lv_at hl 1 rfl) ?_
                refine lv_if_ne (tgt := 108) hx hb dX1_victim_100 (by decide) (fun c40 => absurd (by decide) c40) (fun c40 => ?_)
                refine lv_iload hx hb dX1_victim_103 (lv_at hl 0 rfl) ?_
                refine lv_if_eq (tgt := 114) hx hb dX1_victim_105 (by decide) (fun c41 => ?_) (fun c41 => absurd (by decide) c41)
                refine lv_iinc (v := x4 + (zI 1)) (lv' := [(4, .int (x4 + (zI 1))), (7, .int (zI 0)), (6, .int (zI 0)), (5, .int (zI 0)), (0, .ref (a 1)), (1, .int x1), (2, .int x2), (3, .int x3)]) hx hb dX1_victim_114 hl (k := 7) rfl rfl (by decide) rfl (fun ls hl => ?_)
                refine lv_goto (tgt := 7) hx hb dX1_victim_117 (by decide) ?_
                exact ih x1 x2 x3 (x4 + (zI 1)) u _ _ _ _ _ hf hP hD hS (lv_sub hl [4, 5, 6, 7, 0] rfl)
              · have hf := ift c38 hf
                refine lv_aload_n hx hb dX1_victim_70 rfl (lv_at hl 2 rfl) ?_
                refine va_get (D := D) (ci := 1) (v := .ref (a 8)) (C := RX1) (T := TX1) (N := 11) hx hb hts in_X1_victim_X1 hown hK hP 1 rfl rfl 6 (by decide) (hts _ (List.mem_of_getElem? (i := 3) rfl)) (fun _ h9 => h9) rfl dX1_victim_71 ?_
                refine lv_iload hx hb dX1_victim_74 (lv_at hl 6 rfl) ?_
                obtain ⟨g42, hf⟩ := vgs hf
                refine va_iald hx hb hK hP 8 5 rfl rfl g42 dX1_victim_76 ?_
                refine lv_aload_n hx hb dX1_victim_77 rfl (lv_at hl 2 rfl) ?_
                refine va_get (D := D) (ci := 1) (v := .ref (a 8)) (C := RX1) (T := TX1) (N := 11) hx hb hts in_X1_victim_X1 hown hK hP 1 rfl rfl 6 (by decide) (hts _ (List.mem_of_getElem? (i := 3) rfl)) (fun _ h9 => h9) rfl dX1_victim_78 ?_
                refine lv_iload_n hx hb dX1_victim_81 rfl (lv_at hl 4 rfl) ?_
                obtain ⟨g43, hf⟩ := vgs hf
                refine va_iald hx hb hK hP 8 5 rfl rfl g43 dX1_victim_82 ?_
                refine lv_icmp_ge (tgt := 90) hx hb dX1_victim_83 (by decide) (fun c44 => ?_) (fun c44 => ?_)
                · have hf := ift c44 hf
                  refine lv_iconst (v := zI 0) hx hb dX1_victim_90 (by decide) ?_
                  refine lv_istore (lv' := [(7, .int (zI 0)), (6, .int (zI 0)), (5, .int (zI 0)), (0, .ref (a 1)), (1, .int x1), (2, .int x2), (3, .int x3), (4, .int x4)]) hx hb dX1_victim_91 hl (by decide) rfl (fun ls hl => ?_)
                  refine lv_iload_n hx hb dX1_victim_93 rfl (lv_at hl 5 rfl) ?_
                  refine lv_iconst (v := zI (-1)) hx hb dX1_victim_94 (by decide) ?_
                  refine lv_icmp_eq (tgt := 108) hx hb dX1_victim_95 (by decide) (fun c45 => absurd c45 c36) (fun c45 => ?_)
                  refine lv_iload hx hb dX1_victim_98 (lv_at hl 1 rfl) ?_
                  refine lv_if_ne (tgt := 108) hx hb dX1_victim_100 (by decide) (fun c46 => absurd (by decide) c46) (fun c46 => ?_)
                  refine lv_iload hx hb dX1_victim_103 (lv_at hl 0 rfl) ?_
                  refine lv_if_eq (tgt := 114) hx hb dX1_victim_105 (by decide) (fun c47 => ?_) (fun c47 => absurd (by decide) c47)
                  refine lv_iinc (v := x4 + (zI 1)) (lv' := [(4, .int (x4 + (zI 1))), (7, .int (zI 0)), (6, .int (zI 0)), (5, .int (zI 0)), (0, .ref (a 1)), (1, .int x1), (2, .int x2), (3, .int x3)]) hx hb dX1_victim_114 hl (k := 7) rfl rfl (by decide) rfl (fun ls hl => ?_)
                  refine lv_goto (tgt := 7) hx hb dX1_victim_117 (by decide) ?_
                  exact ih x1 x2 x3 (x4 + (zI 1)) u _ _ _ _ _ hf hP hD hS (lv_sub hl [4, 5, 6, 7, 0] rfl)
                · have hf := iff_ c44 hf
                  refine lv_iconst (v := zI 1) hx hb dX1_victim_86 (by decide) ?_
                  refine lv_goto (tgt := 91) hx hb dX1_victim_87 (by decide) ?_
                  refine lv_istore (lv' := [(7, .int (zI 1)), (6, .int (zI 0)), (5, .int (zI 0)), (0, .ref (a 1)), (1, .int x1), (2, .int x2), (3, .int x3), (4, .int x4)]) hx hb dX1_victim_91 hl (by decide) rfl (fun ls hl => ?_)
                  refine lv_iload_n hx hb dX1_victim_93 rfl (lv_at hl 5 rfl) ?_
                  refine lv_iconst (v := zI (-1)) hx hb dX1_victim_94 (by decide) ?_
                  refine lv_icmp_eq (tgt := 108) hx hb dX1_victim_95 (by decide) (fun c48 => absurd c48 c36) (fun c48 => ?_)
                  refine lv_iload hx hb dX1_victim_98 (lv_at hl 1 rfl) ?_
                  refine lv_if_ne (tgt := 108) hx hb dX1_victim_100 (by decide) (fun c49 => absurd (by decide) c49) (fun c49 => ?_)
                  refine lv_iload hx hb dX1_victim_103 (lv_at hl 0 rfl) ?_
                  refine lv_if_eq (tgt := 114) hx hb dX1_victim_105 (by decide) (fun c50 => absurd c50 (by decide)) (fun c50 => ?_)
                  refine lv_iload hx hb dX1_victim_108 (lv_at hl 7 rfl) ?_
                  refine lv_istore_n (lv' := [(2, .int x4), (7, .int (zI 1)), (6, .int (zI 0)), (5, .int (zI 0)), (0, .ref (a 1)), (1, .int x1), (3, .int x3), (4, .int x4)]) hx hb dX1_victim_110 rfl hl (by decide) rfl (fun ls hl => ?_)
                  refine lv_iload hx hb dX1_victim_111 (lv_at hl 3 rfl) ?_
                  refine lv_istore_n (lv' := [(3, .int (zI 0)), (2, .int x4), (7, .int (zI 1)), (6, .int (zI 0)), (5, .int (zI 0)), (0, .ref (a 1)), (1, .int x1), (4, .int x4)]) hx hb dX1_victim_113 rfl hl (by decide) rfl (fun ls hl => ?_)
                  refine lv_iinc (v := x4 + (zI 1)) (lv' := [(4, .int (x4 + (zI 1))), (3, .int (zI 0)), (2, .int x4), (7, .int (zI 1)), (6, .int (zI 0)), (5, .int (zI 0)), (0, .ref (a 1)), (1, .int x1)]) hx hb dX1_victim_114 hl (k := 7) rfl rfl (by decide) rfl (fun ls hl => ?_)
                  refine lv_goto (tgt := 7) hx hb dX1_victim_117 (by decide) ?_
                  exact ih x1 x4 (zI 0) (x4 + (zI 1)) u _ _ _ _ _ hf hP hD hS (lv_sub hl [6, 7, 2, 1, 0] rfl)
          · have hf := iff_ c35 hf
            refine lv_iconst (v := zI 1) hx hb dX1_victim_52 (by decide) ?_
            refine lv_goto (tgt := 57) hx hb dX1_victim_53 (by decide) ?_
            refine lv_istore (lv' := [(6, .int (zI 1)), (5, .int (zI 0)), (0, .ref (a 1)), (1, .int x1), (2, .int x2), (3, .int x3), (4, .int x4)]) hx hb dX1_victim_57 hl (by decide) rfl (fun ls hl => ?_)
            refine lv_iload_n hx hb dX1_victim_59 rfl (lv_at hl 4 rfl) ?_
            refine lv_iconst (v := zI (-1)) hx hb dX1_victim_60 (by decide) ?_
            refine lv_icmp_eq (tgt := 90) hx hb dX1_victim_61 (by decide) (fun c51 => ?_) (fun c51 => ?_)
            · have hf := ift c51 hf
              refine lv_iconst (v := zI 0) hx hb dX1_victim_90 (by decide) ?_
              refine lv_istore (lv' := [(7, .int (zI 0)), (6, .int (zI 1)), (5, .int (zI 0)), (0, .ref (a 1)), (1, .int x1), (2, .int x2), (3, .int x3), (4, .int x4)]) hx hb dX1_victim_91 hl (by decide) rfl (fun ls hl => ?_)
              refine lv_iload_n hx hb dX1_victim_93 rfl (lv_at hl 5 rfl) ?_
              refine lv_iconst (v := zI (-1)) hx hb dX1_victim_94 (by decide) ?_
              refine lv_icmp_eq (tgt := 108) hx hb dX1_victim_95 (by decide) (fun c52 => ?_) (fun c52 => absurd c51 c52)
              refine lv_iload hx hb dX1_victim_108 (lv_at hl 7 rfl) ?_
              refine lv_istore_n (lv' := [(2, .int x4), (7, .int (zI 0)), (6, .int (zI 1)), (5, .int (zI 0)), (0, .ref (a 1)), (1, .int x1), (3, .int x3), (4, .int x4)]) hx hb dX1_victim_110 rfl hl (by decide) rfl (fun ls hl => ?_)
              refine lv_iload hx hb dX1_victim_111 (lv_at hl 3 rfl) ?_
              refine lv_istore_n (lv' := [(3, .int (zI 0)), (2, .int x4), (7, .int (zI 0)), (6, .int (zI 1)), (5, .int (zI 0)), (0, .ref (a 1)), (1, .int x1), (4, .int x4)]) hx hb dX1_victim_113 rfl hl (by decide) rfl (fun ls hl => ?_)
              refine lv_iinc (v := x4 + (zI 1)) (lv' := [(4, .int (x4 + (zI 1))), (3, .int (zI 0)), (2, .int x4), (7, .int (zI 0)), (6, .int (zI 1)), (5, .int (zI 0)), (0, .ref (a 1)), (1, .int x1)]) hx hb dX1_victim_114 hl (k := 7) rfl rfl (by decide) rfl (fun ls hl => ?_)
              refine lv_goto (tgt := 7) hx hb dX1_victim_117 (by decide) ?_
              exact ih x1 x4 (zI 0) (x4 + (zI 1)) u _ _ _ _ _ hf hP hD hS (lv_sub hl [6, 7, 2, 1, 0] rfl)
            · have hf := iff_ c51 hf
              refine lv_iload hx hb dX1_victim_64 (lv_at hl 1 rfl) ?_
              refine lv_iload_n hx hb dX1_victim_66 rfl (lv_at hl 5 rfl) ?_
              refine lv_icmp_ne (tgt := 90) hx hb dX1_victim_67 (by decide) (fun c53 => ?_) (fun c53 => ?_)
              · have hf := iff_ c53 hf
                refine lv_iconst (v := zI 0) hx hb dX1_victim_90 (by decide) ?_
                refine lv_istore (lv' := [(7, .int (zI 0)), (6, .int (zI 1)), (5, .int (zI 0)), (0, .ref (a 1)), (1, .int x1), (2, .int x2), (3, .int x3), (4, .int x4)]) hx hb dX1_victim_91 hl (by decide) rfl (fun ls hl => ?_)
                refine lv_iload_n hx hb dX1_victim_93 rfl (lv_at hl 5 rfl) ?_
                refine lv_iconst (v := zI (-1)) hx hb dX1_victim_94 (by decide) ?_
                refine lv_icmp_eq (tgt := 108) hx hb dX1_victim_95 (by decide) (fun c54 => absurd c54 c51) (fun c54 => ?_)
                refine lv_iload hx hb dX1_victim_98 (lv_at hl 1 rfl) ?_
                refine lv_if_ne (tgt := 108) hx hb dX1_victim_100 (by decide) (fun c55 => ?_) (fun c55 => absurd c55 (by decide))
                refine lv_iload hx hb dX1_victim_108 (lv_at hl 7 rfl) ?_
                refine lv_istore_n (lv' := [(2, .int x4), (7, .int (zI 0)), (6, .int (zI 1)), (5, .int (zI 0)), (0, .ref (a 1)), (1, .int x1), (3, .int x3), (4, .int x4)]) hx hb dX1_victim_110 rfl hl (by decide) rfl (fun ls hl => ?_)
                refine lv_iload hx hb dX1_victim_111 (lv_at hl 3 rfl) ?_
                refine lv_istore_n (lv' := [(3, .int (zI 0)), (2, .int x4), (7, .int (zI 0)), (6, .int (zI 1)), (5, .int (zI 0)), (0, .ref (a 1)), (1, .int x1), (4, .int x4)]) hx hb dX1_victim_113 rfl hl (by decide) rfl (fun ls hl => ?_)
                refine lv_iinc (v := x4 + (zI 1)) (lv' := [(4, .int (x4 + (zI 1))), (3, .int (zI 0)), (2, .int x4), (7, .int (zI 0)), (6, .int (zI 1)), (5, .int (zI 0)), (0, .ref (a 1)), (1, .int x1)]) hx hb dX1_victim_114 hl (k := 7) rfl rfl (by decide) rfl (fun ls hl => ?_)
                refine lv_goto (tgt := 7) hx hb dX1_victim_117 (by decide) ?_
                exact ih x1 x4 (zI 0) (x4 + (zI 1)) u _ _ _ _ _ hf hP hD hS (lv_sub hl [6, 7, 2, 1, 0] rfl)
              · have hf := ift c53 hf
                refine lv_aload_n hx hb dX1_victim_70 rfl (lv_at hl 2 rfl) ?_
                refine va_get (D := D) (ci := 1) (v := .ref (a 8)) (C := RX1) (T := TX1) (N := 11) hx hb hts in_X1_victim_X1 hown hK hP 1 rfl rfl 6 (by decide) (hts _ (List.mem_of_getElem? (i := 3) rfl)) (fun _ h9 => h9) rfl dX1_victim_71 ?_
                refine lv_iload hx hb dX1_victim_74 (lv_at hl 6 rfl) ?_
                obtain ⟨g56, hf⟩ := vgs hf
                refine va_iald hx hb hK hP 8 5 rfl rfl g56 dX1_victim_76 ?_
                refine lv_aload_n hx hb dX1_victim_77 rfl (lv_at hl 2 rfl) ?_
                refine va_get (D := D) (ci := 1) (v := .ref (a 8)) (C := RX1) (T := TX1) (N := 11) hx hb hts in_X1_victim_X1 hown hK hP 1 rfl rfl 6 (by decide) (hts _ (List.mem_of_getElem? (i := 3) rfl)) (fun _ h9 => h9) rfl dX1_victim_78 ?_
                refine lv_iload_n hx hb dX1_victim_81 rfl (lv_at hl 4 rfl) ?_
                obtain ⟨g57, hf⟩ := vgs hf
                refine va_iald hx hb hK hP 8 5 rfl rfl g57 dX1_victim_82 ?_
                refine lv_icmp_ge (tgt := 90) hx hb dX1_victim_83 (by decide) (fun c58 => ?_) (fun c58 => ?_)
                · have hf := ift c58 hf
                  refine lv_iconst (v := zI 0) hx hb dX1_victim_90 (by decide) ?_
                  refine lv_istore (lv' := [(7, .int (zI 0)), (6, .int (zI 1)), (5, .int (zI 0)), (0, .ref (a 1)), (1, .int x1), (2, .int x2), (3, .int x3), (4, .int x4)]) hx hb dX1_victim_91 hl (by decide) rfl (fun ls hl => ?_)
                  refine lv_iload_n hx hb dX1_victim_93 rfl (lv_at hl 5 rfl) ?_
                  refine lv_iconst (v := zI (-1)) hx hb dX1_victim_94 (by decide) ?_
                  refine lv_icmp_eq (tgt := 108) hx hb dX1_victim_95 (by decide) (fun c59 => absurd c59 c51) (fun c59 => ?_)
                  refine lv_iload hx hb dX1_victim_98 (lv_at hl 1 rfl) ?_
                  refine lv_if_ne (tgt := 108) hx hb dX1_victim_100 (by decide) (fun c60 => ?_) (fun c60 => absurd c60 (by decide))
                  refine lv_iload hx hb dX1_victim_108 (lv_at hl 7 rfl) ?_
                  refine lv_istore_n (lv' := [(2, .int x4), (7, .int (zI 0)), (6, .int (zI 1)), (5, .int (zI 0)), (0, .ref (a 1)), (1, .int x1), (3, .int x3), (4, .int x4)]) hx hb dX1_victim_110 rfl hl (by decide) rfl (fun ls hl => ?_)
                  refine lv_iload hx hb dX1_victim_111 (lv_at hl 3 rfl) ?_
                  refine lv_istore_n (lv' := [(3, .int (zI 0)), (2, .int x4), (7, .int (zI 0)), (6, .int (zI 1)), (5, .int (zI 0)), (0, .ref (a 1)), (1, .int x1), (4, .int x4)]) hx hb dX1_victim_113 rfl hl (by decide) rfl (fun ls hl => ?_)
                  refine lv_iinc (v := x4 + (zI 1)) (lv' := [(4, .int (x4 + (zI 1))), (3, .int (zI 0)), (2, .int x4), (7, .int (zI 0)), (6, .int (zI 1)), (5, .int (zI 0)), (0, .ref (a 1)), (1, .int x1)]) hx hb dX1_victim_114 hl (k := 7) rfl rfl (by decide) rfl (fun ls hl => ?_)
                  refine lv_goto (tgt := 7) hx hb dX1_victim_117 (by decide) ?_
                  exact ih x1 x4 (zI 0) (x4 + (zI 1)) u _ _ _ _ _ hf hP hD hS (lv_sub hl [6, 7, 2, 1, 0] rfl)
                · have hf := iff_ c58 hf
                  refine lv_iconst (v := zI 1) hx hb dX1_victim_86 (by decide) ?_
                  refine lv_goto (tgt := 91) hx hb dX1_victim_87 (by decide) ?_
                  refine lv_istore (lv' := [(7, .int (zI 1)), (6, .int (zI 1)), (5, .int (zI 0)), (0, .ref (a 1)), (1, .int x1), (2, .int x2), (3, .int x3), (4, .int x4)]) hx hb dX1_victim_91 hl (by decide) rfl (fun ls hl => ?_)
                  refine lv_iload_n hx hb dX1_victim_93 rfl (lv_at hl 5 rfl) ?_
                  refine lv_iconst (v := zI (-1)) hx hb dX1_victim_94 (by decide) ?_
                  refine lv_icmp_eq (tgt := 108) hx hb dX1_victim_95 (by decide) (fun c61 => absurd c61 c51) (fun c61 => ?_)
                  refine lv_iload hx hb dX1_victim_98 (lv_at hl 1 rfl) ?_
                  refine lv_if_ne (tgt := 108) hx hb dX1_victim_100 (by decide) (fun c62 => ?_) (fun c62 => absurd c62 (by decide))
                  refine lv_iload hx hb dX1_victim_108 (lv_at hl 7 rfl) ?_
                  refine lv_istore_n (lv' := [(2, .int x4), (7, .int (zI 1)), (6, .int (zI 1)), (5, .int (zI 0)), (0, .ref (a 1)), (1, .int x1), (3, .int x3), (4, .int x4)]) hx hb dX1_victim_110 rfl hl (by decide) rfl (fun ls hl => ?_)
                  refine lv_iload hx hb dX1_victim_111 (lv_at hl 3 rfl) ?_
                  refine lv_istore_n (lv' := [(3, .int (zI 0)), (2, .int x4), (7, .int (zI 1)), (6, .int (zI 1)), (5, .int (zI 0)), (0, .ref (a 1)), (1, .int x1), (4, .int x4)]) hx hb dX1_victim_113 rfl hl (by decide) rfl (fun ls hl => ?_)
                  refine lv_iinc (v := x4 + (zI 1)) (lv' := [(4, .int (x4 + (zI 1))), (3, .int (zI 0)), (2, .int x4), (7, .int (zI 1)), (6, .int (zI 1)), (5, .int (zI 0)), (0, .ref (a 1)), (1, .int x1)]) hx hb dX1_victim_114 hl (k := 7) rfl rfl (by decide) rfl (fun ls hl => ?_)
                  refine lv_goto (tgt := 7) hx hb dX1_victim_117 (by decide) ?_
                  exact ih x1 x4 (zI 0) (x4 + (zI 1)) u _ _ _ _ _ hf hP hD hS (lv_sub hl [6, 7, 2, 1, 0] rfl)
      · have hf := iff_ c3 hf
        refine lv_goto (tgt := 114) hx hb dX1_victim_27 (by decide) ?_
        refine lv_iinc (v := x4 + (zI 1)) (lv' := [(4, .int (x4 + (zI 1))), (0, .ref (a 1)), (1, .int x1), (2, .int x2), (3, .int x3)]) hx hb dX1_victim_114 hl (k := 4) rfl rfl (by decide) rfl (fun ls hl => ?_)
        refine lv_goto (tgt := 7) hx hb dX1_victim_117 (by decide) ?_
        exact ih x1 x2 x3 (x4 + (zI 1)) u _ _ _ _ _ hf hP hD hS (lv_sub hl [1, 2, 3, 4, 0] rfl)
set_option maxHeartbeats 4000000 in
set_option maxRecDepth 100000 in
theorem lbX1_victim_e {K : Nat} (X : vzX D (XT cA) A wsX1_victim cX1_victim 8 (some .int) RX1 p s m args meth c) : ∀ (x1 : Int32) (u : XU) (H : Heap) (locs : List Loc) (ls : Array Slot) (r : Int32) (u2 : XU), fX1_victim n K x1 u = some (r, u2) → va_P D vwCl (XW a n cA u) H → va_D A (XW a n cA u) → va_S A s.heap H locs → lv_has ls 8 [(0, .ref (a 1)), (1, .int x1)] → W p l e (headSpec wsX1_victim rmX1_victim).room s m args below meth c H locs 0 0 (MQ below (vzQ D (XT cA) (XW a n cA) A r u2) args s 0 0 A) (F0 m 0 ls []) := by
  obtain ⟨hx, hb, hr, hml, hown, hts, hlk, hN, hK, hA⟩ := id X
  intro x1 u H locs ls r u2 hf hP hD hS hl
  unfold fX1_victim at hf
  refine lv_iconst (v := zI (-1)) hx hb dX1_victim_0 (by decide) ?_
  refine lv_istore_n (lv' := [(2, .int (zI (-1))), (0, .ref (a 1)), (1, .int x1)]) hx hb dX1_victim_1 rfl hl (by decide) rfl (fun ls hl => ?_)
  refine lv_iconst (v := zI 0) hx hb dX1_victim_2 (by decide) ?_
  refine lv_istore_n (lv' := [(3, .int (zI 0)), (2, .int (zI (-1))), (0, .ref (a 1)), (1, .int x1)]) hx hb dX1_victim_3 rfl hl (by decide) rfl (fun ls hl => ?_)
  refine lv_iconst (v := zI 0) hx hb dX1_victim_4 (by decide) ?_
  refine lv_istore (lv' := [(4, .int (zI 0)), (3, .int (zI 0)), (2, .int (zI (-1))), (0, .ref (a 1)), (1, .int x1)]) hx hb dX1_victim_5 hl (by decide) rfl (fun ls hl => ?_)
  exact lbX1_victim_7 X K x1 (zI (-1)) (zI 0) (zI 0) u _ _ _ _ _ hf hP hD hS (lv_sub hl [3, 4, 2, 1, 0] rfl)
end
theorem kX1_victim {l : Launch} {D : va_G} {a n : Nat → Nat} {cA : Nat → ClassId} {K : Nat} {x1 : Int32} {u : XU} {r : Int32} {u2 : XU} (h : fX1_victim n K x1 u = some (r, u2)) : vzC l D (XT cA) (XW a n cA) yX1_victim wsX1_victim rmX1_victim [.ref (a 1), .int x1] u r u2 := vzC.of (by decide) rfl (Nat.le_of_ble_eq_true rfl) (fun p e s m below meth c A ls X hP hD hl => lbX1_victim_e X x1 u s.heap [] ls r u2 h hP hD va_S.rf hl)
end
section
abbrev rmX1_greatestSerial : Room := { frames := 1, cells := 0, slots := 0, locals := 13 }
theorem in_X1_greatestSerial_X1 : ∀ w ∈ u_ws RX1 TX1 11, w ∈ wsX1_greatestSerial := fun _ h => List.mem_cons_of_mem _ (List.mem_append_right _ h)
def fX1_greatestSerial_4 (n : Nat → Nat) (K : Nat) : Nat → Int32 → Int32 → XU → Option (Int32 × XU)
  | 0, _, _, _ => none
  | N + 1, x1, x2, u => if (nI (n 6)) ≤ x2 then (some (x1, u)) else (vg x2 (n 5) (if ((xu_kin u) x2.toNatClampNeg) = 0 then (fX1_greatestSerial_4 n K N x1 (x2 + (zI 1)) u) else (vg x2 (n 6) (fX1_greatestSerial_4 n K N (if x1 < ((xu_ser u) x2.toNatClampNeg) then (xu_ser u) x2.toNatClampNeg else x1) (x2 + (zI 1)) u))))
def fX1_greatestSerial (n : Nat → Nat) (K : Nat) (u : XU) : Option (Int32 × XU) := fX1_greatestSerial_4 n K K (zI (-1)) (zI 0) u
section
variable {p : Program} {l : Launch} {e : Env} {s : State} {m : MethodId} {args : Array Value} {below : List Frame} {meth : Method} {c : Code} {D : va_G} {a n : Nat → Nat} {cA : Nat → ClassId} {A : Nat → Prop}
set_option maxHeartbeats 4000000 in
set_option maxRecDepth 100000 in
theorem lbX1_greatestSerial_4 {K : Nat} (X : vzX D (XT cA) A wsX1_greatestSerial cX1_greatestSerial 3 (some .int) RX1 p s m args meth c) : ∀ (N : Nat) (x1 x2 : Int32) (u : XU) (H : Heap) (locs : List Loc) (ls : Array Slot) (r : Int32) (u2 : XU), fX1_greatestSerial_4 n K N x1 x2 u = some (r, u2) → va_P D vwCl (XW a n cA u) H → va_D A (XW a n cA u) → va_S A s.heap H locs → lv_has ls 3 [(0, .ref (a 1)), (1, .int x1), (2, .int x2)] → W p l e (headSpec wsX1_greatestSerial rmX1_greatestSerial).room s m args below meth c H locs 0 0 (MQ below (vzQ D (XT cA) (XW a n cA) A r u2) args s 0 0 A) (F0 m 4 ls []) := by
  obtain ⟨hx, hb, hr, hml, hown, hts, hlk, hN, hK, hA⟩ := id X
  intro N
  induction N with
  | zero =>
    intro x1 x2 u H locs ls r u2 hf
    cases hf
  | succ N ih =>
    intro x1 x2 u H locs ls r u2 hf hP hD hS hl
    rw [fX1_greatestSerial_4] at hf
    refine lv_iload_n hx hb dX1_greatestSerial_4 rfl (lv_at hl 2 rfl) ?_
    refine lv_aload_n hx hb dX1_greatestSerial_5 rfl (lv_at hl 0 rfl) ?_
    refine va_get (D := D) (ci := 1) (v := .ref (a 6)) (C := RX1) (T := TX1) (N := 11) hx hb hts in_X1_greatestSerial_X1 hown hK hP 1 rfl rfl 4 (by decide) (hts _ (List.mem_of_getElem? (i := 1) rfl)) (fun _ h9 => h9) rfl dX1_greatestSerial_6 ?_
    refine va_alen (v := nI (n 6)) (ty := .int) hx hb hK hP 6 3 rfl rfl rfl dX1_greatestSerial_9 ?_
    refine lv_icmp_ge (tgt := 39) hx hb dX1_greatestSerial_10 (by decide) (fun c1 => ?_) (fun c1 => ?_)
    · have hf := ift c1 hf
      refine lv_iload_n hx hb dX1_greatestSerial_39 rfl (lv_at hl 1 rfl) ?_
      cases hf
      exact vz_iret X hP hD hS dX1_greatestSerial_40
    · have hf := iff_ c1 hf
      refine lv_aload_n hx hb dX1_greatestSerial_13 rfl (lv_at hl 0 rfl) ?_
      refine va_get (D := D) (ci := 1) (v := .ref (a 5)) (C := RX1) (T := TX1) (N := 11) hx hb hts in_X1_greatestSerial_X1 hown hK hP 1 rfl rfl 3 (by decide) (hts _ (List.mem_of_getElem? (i := 2) rfl)) (fun _ h9 => h9) rfl dX1_greatestSerial_14 ?_
      refine lv_iload_n hx hb dX1_greatestSerial_17 rfl (lv_at hl 2 rfl) ?_
      obtain ⟨g2, hf⟩ := vgs hf
      refine va_iald hx hb hK hP 5 2 rfl rfl g2 dX1_greatestSerial_18 ?_
      refine lv_if_eq (tgt := 33) hx hb dX1_greatestSerial_19 (by decide) (fun c3 => ?_) (fun c3 => ?_)
      · have hf := ift c3 hf
        refine lv_iinc (v := x2 + (zI 1)) (lv' := [(2, .int (x2 + (zI 1))), (0, .ref (a 1)), (1, .int x1)]) hx hb dX1_greatestSerial_33 hl (k := 2) rfl rfl (by decide) rfl (fun ls hl => ?_)
        refine lv_goto (tgt := 4) hx hb dX1_greatestSerial_36 (by decide) ?_
        exact ih x1 (x2 + (zI 1)) u _ _ _ _ _ hf hP hD hS (lv_sub hl [1, 2, 0] rfl)
      · have hf := iff_ c3 hf
        refine lv_iload_n hx hb dX1_greatestSerial_22 rfl (lv_at hl 1 rfl) ?_
        refine lv_aload_n hx hb dX1_greatestSerial_23 rfl (lv_at hl 0 rfl) ?_
        refine va_get (D := D) (ci := 1) (v := .ref (a 6)) (C := RX1) (T := TX1) (N := 11) hx hb hts in_X1_greatestSerial_X1 hown hK hP 1 rfl rfl 4 (by decide) (hts _ (List.mem_of_getElem? (i := 1) rfl)) (fun _ h9 => h9) rfl dX1_greatestSerial_24 ?_
        refine lv_iload_n hx hb dX1_greatestSerial_27 rfl (lv_at hl 2 rfl) ?_
        obtain ⟨g4, hf⟩ := vgs hf
        refine va_iald hx hb hK hP 6 3 rfl rfl g4 dX1_greatestSerial_28 ?_
        refine va_mmax hx hb (hml.trans hl.1.symm) hown (hts _ (List.mem_of_getElem? (i := 3) rfl)) (hts _ (List.mem_of_getElem? (i := 4) rfl)) (hts _ (List.mem_of_getElem? (i := 5) rfl)) (hts _ (List.mem_of_getElem? (i := 6) rfl)) (Nat.le_of_ble_eq_true rfl) (Nat.le_of_ble_eq_true rfl) (Nat.zero_le _) (Nat.zero_le _) dX1_greatestSerial_29 ?_
        refine lv_istore_n (lv' := [(1, .int (if x1 < ((xu_ser u) x2.toNatClampNeg) then (xu_ser u) x2.toNatClampNeg else x1)), (0, .ref (a 1)), (2, .int x2)]) hx hb dX1_greatestSerial_32 rfl hl (by decide) rfl (fun ls hl => ?_)
        refine lv_iinc (v := x2 + (zI 1)) (lv' := [(2, .int (x2 + (zI 1))), (1, .int (if x1 < ((xu_ser u) x2.toNatClampNeg) then (xu_ser u) x2.toNatClampNeg else x1)), (0, .ref (a 1))]) hx hb dX1_greatestSerial_33 hl (k := 2) rfl rfl (by decide) rfl (fun ls hl => ?_)
        refine lv_goto (tgt := 4) hx hb dX1_greatestSerial_36 (by decide) ?_
        exact ih (if x1 < ((xu_ser u) x2.toNatClampNeg) then (xu_ser u) x2.toNatClampNeg else x1) (x2 + (zI 1)) u _ _ _ _ _ hf hP hD hS (lv_sub hl [2, 1, 0] rfl)
set_option maxHeartbeats 4000000 in
set_option maxRecDepth 100000 in
theorem lbX1_greatestSerial_e {K : Nat} (X : vzX D (XT cA) A wsX1_greatestSerial cX1_greatestSerial 3 (some .int) RX1 p s m args meth c) : ∀ (u : XU) (H : Heap) (locs : List Loc) (ls : Array Slot) (r : Int32) (u2 : XU), fX1_greatestSerial n K u = some (r, u2) → va_P D vwCl (XW a n cA u) H → va_D A (XW a n cA u) → va_S A s.heap H locs → lv_has ls 3 [(0, .ref (a 1))] → W p l e (headSpec wsX1_greatestSerial rmX1_greatestSerial).room s m args below meth c H locs 0 0 (MQ below (vzQ D (XT cA) (XW a n cA) A r u2) args s 0 0 A) (F0 m 0 ls []) := by
  obtain ⟨hx, hb, hr, hml, hown, hts, hlk, hN, hK, hA⟩ := id X
  intro u H locs ls r u2 hf hP hD hS hl
  unfold fX1_greatestSerial at hf
  refine lv_iconst (v := zI (-1)) hx hb dX1_greatestSerial_0 (by decide) ?_
  refine lv_istore_n (lv' := [(1, .int (zI (-1))), (0, .ref (a 1))]) hx hb dX1_greatestSerial_1 rfl hl (by decide) rfl (fun ls hl => ?_)
  refine lv_iconst (v := zI 0) hx hb dX1_greatestSerial_2 (by decide) ?_
  refine lv_istore_n (lv' := [(2, .int (zI 0)), (1, .int (zI (-1))), (0, .ref (a 1))]) hx hb dX1_greatestSerial_3 rfl hl (by decide) rfl (fun ls hl => ?_)
  exact lbX1_greatestSerial_4 X K (zI (-1)) (zI 0) u _ _ _ _ _ hf hP hD hS (lv_sub hl [2, 1, 0] rfl)
end
theorem kX1_greatestSerial {l : Launch} {D : va_G} {a n : Nat → Nat} {cA : Nat → ClassId} {K : Nat} {u : XU} {r : Int32} {u2 : XU} (h : fX1_greatestSerial n K u = some (r, u2)) : vzC l D (XT cA) (XW a n cA) yX1_greatestSerial wsX1_greatestSerial rmX1_greatestSerial [.ref (a 1)] u r u2 := vzC.of (by decide) rfl (Nat.le_of_ble_eq_true rfl) (fun p e s m below meth c A ls X hP hD hl => lbX1_greatestSerial_e X u s.heap [] ls r u2 h hP hD va_S.rf hl)
abbrev rmX1_beginOperation : Room := { frames := 0, cells := 0, slots := 0, locals := 0 }
theorem in_X1_beginOperation_X1 : ∀ w ∈ u_ws RX1 TX1 11, w ∈ wsX1_beginOperation := fun _ h => List.mem_cons_of_mem _ (List.mem_append_right _ h)
def fX1_beginOperation (n : Nat → Nat) (K : Nat) (u : XU) : Option (Int32 × XU) := if (xu_fus u) = (zI 1) then (if (xu_fus u) ≤ 0 then (some (zI 0, u)) else (some (zI 0, xu_s_fus u ((xu_fus u) - (zI 1))))) else (if (xu_fus u) ≤ 0 then (some (zI 1, xu_s_ops u ((xu_ops u) + (zI 1)))) else (some (zI 1, xu_s_ops (xu_s_fus u ((xu_fus u) - (zI 1))) ((xu_ops u) + (zI 1)))))
section
variable {p : Program} {l : Launch} {e : Env} {s : State} {m : MethodId} {args : Array Value} {below : List Frame} {meth : Method} {c : Code} {D : va_G} {a n : Nat → Nat} {cA : Nat → ClassId} {A : Nat → Prop}
set_option maxHeartbeats 4000000 in
set_option maxRecDepth 100000 in
theorem lbX1_beginOperation_e {K : Nat} (X : vzX D (XT cA) A wsX1_beginOperation cX1_beginOperation 2 (some .boolean) RX1 p s m args meth c) : ∀ (u : XU) (H : Heap) (locs : List Loc) (ls : Array Slot) (r : Int32) (u2 : XU), fX1_beginOperation n K u = some (r, u2) → va_P D vwCl (XW a n cA u) H → va_D A (XW a n cA u) → va_S A s.heap H locs → lv_has ls 2 [(0, .ref (a 1))] → W p l e (headSpec wsX1_beginOperation rmX1_beginOperation).room s m args below meth c H locs 0 0 (MQ below (vzQ D (XT cA) (XW a n cA) A r u2) args s 0 0 A) (F0 m 0 ls []) := by
  obtain ⟨hx, hb, hr, hml, hown, hts, hlk, hN, hK, hA⟩ := id X
  intro u H locs ls r u2 hf hP hD hS hl
  unfold fX1_beginOperation at hf
  refine lv_aload_n hx hb dX1_beginOperation_0 rfl (lv_at hl 0 rfl) ?_
  refine va_get (D := D) (ci := 1) (v := .int (xu_fus u)) (C := RX1) (T := TX1) (N := 11) hx hb hts in_X1_beginOperation_X1 hown hK hP 1 rfl rfl 10 (by decide) (hts _ (List.mem_of_getElem? (i := 1) rfl)) (fun _ h9 => h9) rfl dX1_beginOperation_1 ?_
  refine lv_iconst (v := zI 1) hx hb dX1_beginOperation_4 (by decide) ?_
  refine lv_icmp_ne (tgt := 12) hx hb dX1_beginOperation_5 (by decide) (fun c1 => ?_) (fun c1 => ?_)
  · have hf := iff_ c1 hf
    refine lv_iconst (v := zI 0) hx hb dX1_beginOperation_12 (by decide) ?_
    refine lv_istore_n (lv' := [(1, .int (zI 0)), (0, .ref (a 1))]) hx hb dX1_beginOperation_13 rfl hl (by decide) rfl (fun ls hl => ?_)
    refine lv_aload_n hx hb dX1_beginOperation_14 rfl (lv_at hl 1 rfl) ?_
    refine va_get (D := D) (ci := 1) (v := .int (xu_fus u)) (C := RX1) (T := TX1) (N := 11) hx hb hts in_X1_beginOperation_X1 hown hK hP 1 rfl rfl 10 (by decide) (hts _ (List.mem_of_getElem? (i := 1) rfl)) (fun _ h9 => h9) rfl dX1_beginOperation_15 ?_
    refine lv_if_le (tgt := 31) hx hb dX1_beginOperation_18 (by decide) (fun c2 => ?_) (fun c2 => ?_)
    · have hf := ift c2 hf
      refine lv_iload_n hx hb dX1_beginOperation_31 rfl (lv_at hl 0 rfl) ?_
      refine lv_if_ne (tgt := 45) hx hb dX1_beginOperation_32 (by decide) (fun c3 => absurd (by decide) c3) (fun c3 => ?_)
      refine lv_aload_n hx hb dX1_beginOperation_35 rfl (lv_at hl 1 rfl) ?_
      refine lv_dup hx hb dX1_beginOperation_36 rfl ?_
      refine va_get (D := D) (ci := 1) (v := .int (xu_ops u)) (C := RX1) (T := TX1) (N := 11) hx hb hts in_X1_beginOperation_X1 hown hK hP 1 rfl rfl 9 (by decide) (hts _ (List.mem_of_getElem? (i := 2) rfl)) (fun _ h9 => h9) rfl dX1_beginOperation_37 ?_
      refine lv_iconst (v := zI 1) hx hb dX1_beginOperation_40 (by decide) ?_
      refine lv_iadd hx hb dX1_beginOperation_41 ?_
      refine va_put (D := D) (ci := 1) (v := .int ((xu_ops u) + (zI 1))) (ty := .int) (C := RX1) (T := TX1) (N := 11) hx hb hts in_X1_beginOperation_X1 tyX1 tyX1_ok nmX1 hown hK hP hD hS 1 rfl rfl 9 (by decide) (hts _ (List.mem_of_getElem? (i := 2) rfl)) (fun _ h9 => h9) rfl (by decide +kernel) rfl rfl (Nat.le_of_ble_eq_true rfl) dX1_beginOperation_42 (fun H locs hP hD hS => ?_)
      have hP : va_P D vwCl (XW a n cA (xu_s_ops u ((xu_ops u) + (zI 1)))) H := hP
      have hD : va_D A (XW a n cA (xu_s_ops u ((xu_ops u) + (zI 1)))) := hD
      refine lv_iload_n hx hb dX1_beginOperation_45 rfl (lv_at hl 0 rfl) ?_
      refine lv_if_ne (tgt := 53) hx hb dX1_beginOperation_46 (by decide) (fun c4 => absurd (by decide) c4) (fun c4 => ?_)
      refine lv_iconst (v := zI 1) hx hb dX1_beginOperation_49 (by decide) ?_
      refine lv_goto (tgt := 54) hx hb dX1_beginOperation_50 (by decide) ?_
      cases hf
      exact vz_zret X rfl hP hD hS dX1_beginOperation_54
    · have hf := iff_ c2 hf
      refine lv_aload_n hx hb dX1_beginOperation_21 rfl (lv_at hl 1 rfl) ?_
      refine lv_dup hx hb dX1_beginOperation_22 rfl ?_
      refine va_get (D := D) (ci := 1) (v := .int (xu_fus u)) (C := RX1) (T := TX1) (N := 11) hx hb hts in_X1_beginOperation_X1 hown hK hP 1 rfl rfl 10 (by decide) (hts _ (List.mem_of_getElem? (i := 1) rfl)) (fun _ h9 => h9) rfl dX1_beginOperation_23 ?_
      refine lv_iconst (v := zI 1) hx hb dX1_beginOperation_26 (by decide) ?_
      refine lv_isub hx hb dX1_beginOperation_27 ?_
      refine va_put (D := D) (ci := 1) (v := .int ((xu_fus u) - (zI 1))) (ty := .int) (C := RX1) (T := TX1) (N := 11) hx hb hts in_X1_beginOperation_X1 tyX1 tyX1_ok nmX1 hown hK hP hD hS 1 rfl rfl 10 (by decide) (hts _ (List.mem_of_getElem? (i := 1) rfl)) (fun _ h9 => h9) rfl (by decide +kernel) rfl rfl (Nat.le_of_ble_eq_true rfl) dX1_beginOperation_28 (fun H locs hP hD hS => ?_)
      have hP : va_P D vwCl (XW a n cA (xu_s_fus u ((xu_fus u) - (zI 1)))) H := hP
      have hD : va_D A (XW a n cA (xu_s_fus u ((xu_fus u) - (zI 1)))) := hD
      refine lv_iload_n hx hb dX1_beginOperation_31 rfl (lv_at hl 0 rfl) ?_
      refine lv_if_ne (tgt := 45) hx hb dX1_beginOperation_32 (by decide) (fun c5 => absurd (by decide) c5) (fun c5 => ?_)
      refine lv_aload_n hx hb dX1_beginOperation_35 rfl (lv_at hl 1 rfl) ?_
      refine lv_dup hx hb dX1_beginOperation_36 rfl ?_
      refine va_get (D := D) (ci := 1) (v := .int (xu_ops u)) (C := RX1) (T := TX1) (N := 11) hx hb hts in_X1_beginOperation_X1 hown hK hP 1 rfl rfl 9 (by decide) (hts _ (List.mem_of_getElem? (i := 2) rfl)) (fun _ h9 => h9) rfl dX1_beginOperation_37 ?_
      refine lv_iconst (v := zI 1) hx hb dX1_beginOperation_40 (by decide) ?_
      refine lv_iadd hx hb dX1_beginOperation_41 ?_
      refine va_put (D := D) (ci := 1) (v := .int ((xu_ops u) + (zI 1))) (ty := .int) (C := RX1) (T := TX1) (N := 11) hx hb hts in_X1_beginOperation_X1 tyX1 tyX1_ok nmX1 hown hK hP hD hS 1 rfl rfl 9 (by decide) (hts _ (List.mem_of_getElem? (i := 2) rfl)) (fun _ h9 => h9) rfl (by decide +kernel) rfl rfl (Nat.le_of_ble_eq_true rfl) dX1_beginOperation_42 (fun H locs hP hD hS => ?_)
      have hP : va_P D vwCl (XW a n cA (xu_s_ops (xu_s_fus u ((xu_fus u) - (zI 1))) ((xu_ops u) + (zI 1)))) H := hP
      have hD : va_D A (XW a n cA (xu_s_ops (xu_s_fus u ((xu_fus u) - (zI 1))) ((xu_ops u) + (zI 1)))) := hD
      refine lv_iload_n hx hb dX1_beginOperation_45 rfl (lv_at hl 0 rfl) ?_
      refine lv_if_ne (tgt := 53) hx hb dX1_beginOperation_46 (by decide) (fun c6 => absurd (by decide) c6) (fun c6 => ?_)
      refine lv_iconst (v := zI 1) hx hb dX1_beginOperation_49 (by decide) ?_
      refine lv_goto (tgt := 54) hx hb dX1_beginOperation_50 (by decide) ?_
      cases hf
      exact vz_zret X rfl hP hD hS dX1_beginOperation_54
  · have hf := ift c1 hf
    refine lv_iconst (v := zI 1) hx hb dX1_beginOperation_8 (by decide) ?_
    refine lv_goto (tgt := 13) hx hb dX1_beginOperation_9 (by decide) ?_
    refine lv_istore_n (lv' := [(1, .int (zI 1)), (0, .ref (a 1))]) hx hb dX1_beginOperation_13 rfl hl (by decide) rfl (fun ls hl => ?_)
    refine lv_aload_n hx hb dX1_beginOperation_14 rfl (lv_at hl 1 rfl) ?_
    refine va_get (D := D) (ci := 1) (v := .int (xu_fus u)) (C := RX1) (T := TX1) (N := 11) hx hb hts in_X1_beginOperation_X1 hown hK hP 1 rfl rfl 10 (by decide) (hts _ (List.mem_of_getElem? (i := 1) rfl)) (fun _ h9 => h9) rfl dX1_beginOperation_15 ?_
    refine lv_if_le (tgt := 31) hx hb dX1_beginOperation_18 (by decide) (fun c7 => ?_) (fun c7 => ?_)
    · have hf := ift c7 hf
      refine lv_iload_n hx hb dX1_beginOperation_31 rfl (lv_at hl 0 rfl) ?_
      refine lv_if_ne (tgt := 45) hx hb dX1_beginOperation_32 (by decide) (fun c8 => ?_) (fun c8 => absurd c8 (by decide))
      refine lv_iload_n hx hb dX1_beginOperation_45 rfl (lv_at hl 0 rfl) ?_
      refine lv_if_ne (tgt := 53) hx hb dX1_beginOperation_46 (by decide) (fun c9 => ?_) (fun c9 => absurd c9 (by decide))
      refine lv_iconst (v := zI 0) hx hb dX1_beginOperation_53 (by decide) ?_
      cases hf
      exact vz_zret X rfl hP hD hS dX1_beginOperation_54
    · have hf := iff_ c7 hf
      refine lv_aload_n hx hb dX1_beginOperation_21 rfl (lv_at hl 1 rfl) ?_
      refine lv_dup hx hb dX1_beginOperation_22 rfl ?_
      refine va_get (D := D) (ci := 1) (v := .int (xu_fus u)) (C := RX1) (T := TX1) (N := 11) hx hb hts in_X1_beginOperation_X1 hown hK hP 1 rfl rfl 10 (by decide) (hts _ (List.mem_of_getElem? (i := 1) rfl)) (fun _ h9 => h9) rfl dX1_beginOperation_23 ?_
      refine lv_iconst (v := zI 1) hx hb dX1_beginOperation_26 (by decide) ?_
      refine lv_isub hx hb dX1_beginOperation_27 ?_
      refine va_put (D := D) (ci := 1) (v := .int ((xu_fus u) - (zI 1))) (ty := .int) (C := RX1) (T := TX1) (N := 11) hx hb hts in_X1_beginOperation_X1 tyX1 tyX1_ok nmX1 hown hK hP hD hS 1 rfl rfl 10 (by decide) (hts _ (List.mem_of_getElem? (i := 1) rfl)) (fun _ h9 => h9) rfl (by decide +kernel) rfl rfl (Nat.le_of_ble_eq_true rfl) dX1_beginOperation_28 (fun H locs hP hD hS => ?_)
      have hP : va_P D vwCl (XW a n cA (xu_s_fus u ((xu_fus u) - (zI 1)))) H := hP
      have hD : va_D A (XW a n cA (xu_s_fus u ((xu_fus u) - (zI 1)))) := hD
      refine lv_iload_n hx hb dX1_beginOperation_31 rfl (lv_at hl 0 rfl) ?_
      refine lv_if_ne (tgt := 45) hx hb dX1_beginOperation_32 (by decide) (fun c10 => ?_) (fun c10 => absurd c10 (by decide))
      refine lv_iload_n hx hb dX1_beginOperation_45 rfl (lv_at hl 0 rfl) ?_
      refine lv_if_ne (tgt := 53) hx hb dX1_beginOperation_46 (by decide) (fun c11 => ?_) (fun c11 => absurd c11 (by decide))
      refine lv_iconst (v := zI 0) hx hb dX1_beginOperation_53 (by decide) ?_
      cases hf
      exact vz_zret X rfl hP hD hS dX1_beginOperation_54
end
theorem kX1_beginOperation {l : Launch} {D : va_G} {a n : Nat → Nat} {cA : Nat → ClassId} {K : Nat} {u : XU} {r : Int32} {u2 : XU} (h : fX1_beginOperation n K u = some (r, u2)) : vzC l D (XT cA) (XW a n cA) yX1_beginOperation wsX1_beginOperation rmX1_beginOperation [.ref (a 1)] u r u2 := vzC.of (by decide) rfl (Nat.le_of_ble_eq_true rfl) (fun p e s m below meth c A ls X hP hD hl => lbX1_beginOperation_e X u s.heap [] ls r u2 h hP hD va_S.rf hl)
abbrev rmX1_program : Room := { frames := 1, cells := 0, slots := 0, locals := 21 }
theorem in_X1_program_X1 : ∀ w ∈ u_ws RX1 TX1 11, w ∈ wsX1_program := fun _ h => List.mem_cons_of_mem _ (List.mem_append_right _ h)
def fX1_program (n : Nat → Nat) (K : Nat) (x1 x2 x3 x4 : Int32) (u : XU) : Option (Int32 × XU) := (fX1_hasRoom n K x1 u).bind fun z1 => (if z1.1 = 0 then (some (zI 0, z1.2)) else ((fX1_beginOperation n K z1.2).bind fun z4 => (if z4.1 = 0 then (some (zI 0, z4.2)) else (vg x1 (n 7) (vg x1 (n 7) (vg x1 (n 7) (vg ((x1 * (zI 4)) + ((xu_prg z4.2) x1.toNatClampNeg)) (n 3) (vg ((x1 * (zI 4)) + ((xu_prg z4.2) x1.toNatClampNeg)) (n 4) (vg ((x1 * (zI 4)) + ((xu_prg z4.2) x1.toNatClampNeg)) (n 5) (vg ((x1 * (zI 4)) + ((xu_prg z4.2) x1.toNatClampNeg)) (n 6) (vg x2 (n 9) (some (zI 1, xu_s_new (xu_s_nxt (xu_s_ser (xu_s_kin (xu_s_val (xu_s_own (xu_s_prg z4.2 (upd (xu_prg z4.2) (x1).toNatClampNeg (((xu_prg z4.2) x1.toNatClampNeg) + (zI 1)))) (upd (xu_own z4.2) (((x1 * (zI 4)) + ((xu_prg z4.2) x1.toNatClampNeg))).toNatClampNeg x2)) (upd (xu_val z4.2) (((x1 * (zI 4)) + ((xu_prg z4.2) x1.toNatClampNeg))).toNatClampNeg x3)) (upd (xu_kin z4.2) (((x1 * (zI 4)) + ((xu_prg z4.2) x1.toNatClampNeg))).toNatClampNeg x4)) (upd (xu_ser z4.2) (((x1 * (zI 4)) + ((xu_prg z4.2) x1.toNatClampNeg))).toNatClampNeg (xu_nxt z4.2))) ((xu_nxt z4.2) + (zI 1))) (upd (xu_new z4.2) (x2).toNatClampNeg ((x1 * (zI 4)) + ((xu_prg z4.2) x1.toNatClampNeg))))))))))))))))
section
variable {p : Program} {l : Launch} {e : Env} {s : State} {m : MethodId} {args : Array Value} {below : List Frame} {meth : Method} {c : Code} {D : va_G} {a n : Nat → Nat} {cA : Nat → ClassId} {A : Nat → Prop}
set_option maxHeartbeats 4000000 in
set_option maxRecDepth 100000 in
theorem lbX1_program_e {K : Nat} (X : vzX D (XT cA) A wsX1_program cX1_program 6 (some .boolean) RX1 p s m args meth c) : ∀ (x1 x2 x3 x4 : Int32) (u : XU) (H : Heap) (locs : List Loc) (ls : Array Slot) (r : Int32) (u2 : XU), fX1_program n K x1 x2 x3 x4 u = some (r, u2) → va_P D vwCl (XW a n cA u) H → va_D A (XW a n cA u) → va_S A s.heap H locs → lv_has ls 6 [(0, .ref (a 1)), (1, .int x1), (2, .int x2), (3, .int x3), (4, .int x4)] → W p l e (headSpec wsX1_program rmX1_program).room s m args below meth c H locs 0 0 (MQ below (vzQ D (XT cA) (XW a n cA) A r u2) args s 0 0 A) (F0 m 0 ls []) := by
  obtain ⟨hx, hb, hr, hml, hown, hts, hlk, hN, hK, hA⟩ := id X
  intro x1 x2 x3 x4 u H locs ls r u2 hf hP hD hS hl
  unfold fX1_program at hf
  refine lv_aload_n hx hb dX1_program_0 rfl (lv_at hl 0 rfl) ?_
  refine lv_iload_n hx hb dX1_program_1 rfl (lv_at hl 1 rfl) ?_
  obtain ⟨z1, hz2, hf⟩ := bd hf
  refine vz_call (rest := []) X (kX1_hasRoom hz2) (cwV 1 hts gX1_program_X1_hasRoom rfl rfl rfl (by decide +kernel) ⟨Nat.le_of_ble_eq_true rfl, Nat.le_of_ble_eq_true rfl⟩) 1 1 rfl rfl rfl hl.1 rfl (Nat.le_of_ble_eq_true rfl) dX1_program_2 ⟨Nat.zero_le _, Nat.zero_le _⟩ hP hD hS (fun H locs hP hD hS => ?_)
  refine lv_if_eq (tgt := 15) hx hb dX1_program_5 (by decide) (fun c3 => ?_) (fun c3 => ?_)
  · have hf := ift c3 hf
    refine lv_iconst (v := zI 0) hx hb dX1_program_15 (by decide) ?_
    cases hf
    exact vz_zret X rfl hP hD hS dX1_program_16
  · have hf := iff_ c3 hf
    refine lv_aload_n hx hb dX1_program_8 rfl (lv_at hl 0 rfl) ?_
    obtain ⟨z4, hz5, hf⟩ := bd hf
    refine vz_call (rest := []) X (kX1_beginOperation hz5) (cwV 0 hts gX1_program_X1_beginOperation rfl rfl rfl (by decide +kernel) ⟨Nat.le_of_ble_eq_true rfl, Nat.le_of_ble_eq_true rfl⟩) 1 1 rfl rfl rfl hl.1 rfl (Nat.le_of_ble_eq_true rfl) dX1_program_9 ⟨Nat.zero_le _, Nat.zero_le _⟩ hP hD hS (fun H locs hP hD hS => ?_)
    refine lv_if_ne (tgt := 17) hx hb dX1_program_12 (by decide) (fun c6 => ?_) (fun c6 => ?_)
    · have hf := iff_ c6 hf
      refine lv_iload_n hx hb dX1_program_17 rfl (lv_at hl 1 rfl) ?_
      refine lv_iconst (v := zI 4) hx hb dX1_program_18 (by decide) ?_
      refine lv_imul hx hb dX1_program_19 ?_
      refine lv_aload_n hx hb dX1_program_20 rfl (lv_at hl 0 rfl) ?_
      refine va_get (D := D) (ci := 1) (v := .ref (a 7)) (C := RX1) (T := TX1) (N := 11) hx hb hts in_X1_program_X1 hown hK hP 1 rfl rfl 5 (by decide) (hts _ (List.mem_of_getElem? (i := 1) rfl)) (fun _ h9 => h9) rfl dX1_program_21 ?_
      refine lv_iload_n hx hb dX1_program_24 rfl (lv_at hl 1 rfl) ?_
      obtain ⟨g7, hf⟩ := vgs hf
      refine va_iald hx hb hK hP 7 4 rfl rfl g7 dX1_program_25 ?_
      refine lv_iadd hx hb dX1_program_26 ?_
      refine lv_istore (lv' := [(5, .int ((x1 * (zI 4)) + ((xu_prg z4.2) x1.toNatClampNeg))), (0, .ref (a 1)), (1, .int x1), (2, .int x2), (3, .int x3), (4, .int x4)]) hx hb dX1_program_27 hl (by decide) rfl (fun ls hl => ?_)
      refine lv_aload_n hx hb dX1_program_29 rfl (lv_at hl 1 rfl) ?_
      refine va_get (D := D) (ci := 1) (v := .ref (a 7)) (C := RX1) (T := TX1) (N := 11) hx hb hts in_X1_program_X1 hown hK hP 1 rfl rfl 5 (by decide) (hts _ (List.mem_of_getElem? (i := 1) rfl)) (fun _ h9 => h9) rfl dX1_program_30 ?_
      refine lv_iload_n hx hb dX1_program_33 rfl (lv_at hl 2 rfl) ?_
      refine lv_dup2_11 hx hb dX1_program_34 rfl rfl ?_
      obtain ⟨g8, hf⟩ := vgs hf
      refine va_iald hx hb hK hP 7 4 rfl rfl g8 dX1_program_35 ?_
      refine lv_iconst (v := zI 1) hx hb dX1_program_36 (by decide) ?_
      refine lv_iadd hx hb dX1_program_37 ?_
      obtain ⟨g9, hf⟩ := vgs hf
      refine va_iast hx hb hK hP hD hS 7 4 rfl rfl g9 dX1_program_38 (fun H locs hP hD hS => ?_)
      have hP : va_P D vwCl (XW a n cA (xu_s_prg z4.2 (upd (xu_prg z4.2) (x1).toNatClampNeg (((xu_prg z4.2) x1.toNatClampNeg) + (zI 1))))) H := hP
      have hD : va_D A (XW a n cA (xu_s_prg z4.2 (upd (xu_prg z4.2) (x1).toNatClampNeg (((xu_prg z4.2) x1.toNatClampNeg) + (zI 1))))) := hD
      refine lv_aload_n hx hb dX1_program_39 rfl (lv_at hl 1 rfl) ?_
      refine va_get (D := D) (ci := 1) (v := .ref (a 3)) (C := RX1) (T := TX1) (N := 11) hx hb hts in_X1_program_X1 hown hK hP 1 rfl rfl 1 (by decide) (hts _ (List.mem_of_getElem? (i := 2) rfl)) (fun _ h9 => h9) rfl dX1_program_40 ?_
      refine lv_iload hx hb dX1_program_43 (lv_at hl 0 rfl) ?_
      refine lv_iload_n hx hb dX1_program_45 rfl (lv_at hl 3 rfl) ?_
      obtain ⟨g10, hf⟩ := vgs hf
      refine va_iast hx hb hK hP hD hS 3 0 rfl rfl g10 dX1_program_46 (fun H locs hP hD hS => ?_)
      have hP : va_P D vwCl (XW a n cA (xu_s_own (xu_s_prg z4.2 (upd (xu_prg z4.2) (x1).toNatClampNeg (((xu_prg z4.2) x1.toNatClampNeg) + (zI 1)))) (upd (xu_own z4.2) (((x1 * (zI 4)) + ((xu_prg z4.2) x1.toNatClampNeg))).toNatClampNeg x2))) H := hP
      have hD : va_D A (XW a n cA (xu_s_own (xu_s_prg z4.2 (upd (xu_prg z4.2) (x1).toNatClampNeg (((xu_prg z4.2) x1.toNatClampNeg) + (zI 1)))) (upd (xu_own z4.2) (((x1 * (zI 4)) + ((xu_prg z4.2) x1.toNatClampNeg))).toNatClampNeg x2))) := hD
      refine lv_aload_n hx hb dX1_program_47 rfl (lv_at hl 1 rfl) ?_
      refine va_get (D := D) (ci := 1) (v := .ref (a 4)) (C := RX1) (T := TX1) (N := 11) hx hb hts in_X1_program_X1 hown hK hP 1 rfl rfl 2 (by decide) (hts _ (List.mem_of_getElem? (i := 3) rfl)) (fun _ h9 => h9) rfl dX1_program_48 ?_
      refine lv_iload hx hb dX1_program_51 (lv_at hl 0 rfl) ?_
      refine lv_iload_n hx hb dX1_program_53 rfl (lv_at hl 4 rfl) ?_
      obtain ⟨g11, hf⟩ := vgs hf
      refine va_iast hx hb hK hP hD hS 4 1 rfl rfl g11 dX1_program_54 (fun H locs hP hD hS => ?_)
      have hP : va_P D vwCl (XW a n cA (xu_s_val (xu_s_own (xu_s_prg z4.2 (upd (xu_prg z4.2) (x1).toNatClampNeg (((xu_prg z4.2) x1.toNatClampNeg) + (zI 1)))) (upd (xu_own z4.2) (((x1 * (zI 4)) + ((xu_prg z4.2) x1.toNatClampNeg))).toNatClampNeg x2)) (upd (xu_val z4.2) (((x1 * (zI 4)) + ((xu_prg z4.2) x1.toNatClampNeg))).toNatClampNeg x3))) H := hP
      have hD : va_D A (XW a n cA (xu_s_val (xu_s_own (xu_s_prg z4.2 (upd (xu_prg z4.2) (x1).toNatClampNeg (((xu_prg z4.2) x1.toNatClampNeg) + (zI 1)))) (upd (xu_own z4.2) (((x1 * (zI 4)) + ((xu_prg z4.2) x1.toNatClampNeg))).toNatClampNeg x2)) (upd (xu_val z4.2) (((x1 * (zI 4)) + ((xu_prg z4.2) x1.toNatClampNeg))).toNatClampNeg x3))) := hD
      refine lv_aload_n hx hb dX1_program_55 rfl (lv_at hl 1 rfl) ?_
      refine va_get (D := D) (ci := 1) (v := .ref (a 5)) (C := RX1) (T := TX1) (N := 11) hx hb hts in_X1_program_X1 hown hK hP 1 rfl rfl 3 (by decide) (hts _ (List.mem_of_getElem? (i := 4) rfl)) (fun _ h9 => h9) rfl dX1_program_56 ?_
      refine lv_iload hx hb dX1_program_59 (lv_at hl 0 rfl) ?_
      refine lv_iload hx hb dX1_program_61 (lv_at hl 5 rfl) ?_
      obtain ⟨g12, hf⟩ := vgs hf
      refine va_iast hx hb hK hP hD hS 5 2 rfl rfl g12 dX1_program_63 (fun H locs hP hD hS => ?_)
      have hP : va_P D vwCl (XW a n cA (xu_s_kin (xu_s_val (xu_s_own (xu_s_prg z4.2 (upd (xu_prg z4.2) (x1).toNatClampNeg (((xu_prg z4.2) x1.toNatClampNeg) + (zI 1)))) (upd (xu_own z4.2) (((x1 * (zI 4)) + ((xu_prg z4.2) x1.toNatClampNeg))).toNatClampNeg x2)) (upd (xu_val z4.2) (((x1 * (zI 4)) + ((xu_prg z4.2) x1.toNatClampNeg))).toNatClampNeg x3)) (upd (xu_kin z4.2) (((x1 * (zI 4)) + ((xu_prg z4.2) x1.toNatClampNeg))).toNatClampNeg x4))) H := hP
      have hD : va_D A (XW a n cA (xu_s_kin (xu_s_val (xu_s_own (xu_s_prg z4.2 (upd (xu_prg z4.2) (x1).toNatClampNeg (((xu_prg z4.2) x1.toNatClampNeg) + (zI 1)))) (upd (xu_own z4.2) (((x1 * (zI 4)) + ((xu_prg z4.2) x1.toNatClampNeg))).toNatClampNeg x2)) (upd (xu_val z4.2) (((x1 * (zI 4)) + ((xu_prg z4.2) x1.toNatClampNeg))).toNatClampNeg x3)) (upd (xu_kin z4.2) (((x1 * (zI 4)) + ((xu_prg z4.2) x1.toNatClampNeg))).toNatClampNeg x4))) := hD
      refine lv_aload_n hx hb dX1_program_64 rfl (lv_at hl 1 rfl) ?_
      refine va_get (D := D) (ci := 1) (v := .ref (a 6)) (C := RX1) (T := TX1) (N := 11) hx hb hts in_X1_program_X1 hown hK hP 1 rfl rfl 4 (by decide) (hts _ (List.mem_of_getElem? (i := 5) rfl)) (fun _ h9 => h9) rfl dX1_program_65 ?_
      refine lv_iload hx hb dX1_program_68 (lv_at hl 0 rfl) ?_
      refine lv_aload_n hx hb dX1_program_70 rfl (lv_at hl 1 rfl) ?_
      refine va_get (D := D) (ci := 1) (v := .int (xu_nxt z4.2)) (C := RX1) (T := TX1) (N := 11) hx hb hts in_X1_program_X1 hown hK hP 1 rfl rfl 8 (by decide) (hts _ (List.mem_of_getElem? (i := 6) rfl)) (fun _ h9 => h9) rfl dX1_program_71 ?_
      obtain ⟨g13, hf⟩ := vgs hf
      refine va_iast hx hb hK hP hD hS 6 3 rfl rfl g13 dX1_program_74 (fun H locs hP hD hS => ?_)
      have hP : va_P D vwCl (XW a n cA (xu_s_ser (xu_s_kin (xu_s_val (xu_s_own (xu_s_prg z4.2 (upd (xu_prg z4.2) (x1).toNatClampNeg (((xu_prg z4.2) x1.toNatClampNeg) + (zI 1)))) (upd (xu_own z4.2) (((x1 * (zI 4)) + ((xu_prg z4.2) x1.toNatClampNeg))).toNatClampNeg x2)) (upd (xu_val z4.2) (((x1 * (zI 4)) + ((xu_prg z4.2) x1.toNatClampNeg))).toNatClampNeg x3)) (upd (xu_kin z4.2) (((x1 * (zI 4)) + ((xu_prg z4.2) x1.toNatClampNeg))).toNatClampNeg x4)) (upd (xu_ser z4.2) (((x1 * (zI 4)) + ((xu_prg z4.2) x1.toNatClampNeg))).toNatClampNeg (xu_nxt z4.2)))) H := hP
      have hD : va_D A (XW a n cA (xu_s_ser (xu_s_kin (xu_s_val (xu_s_own (xu_s_prg z4.2 (upd (xu_prg z4.2) (x1).toNatClampNeg (((xu_prg z4.2) x1.toNatClampNeg) + (zI 1)))) (upd (xu_own z4.2) (((x1 * (zI 4)) + ((xu_prg z4.2) x1.toNatClampNeg))).toNatClampNeg x2)) (upd (xu_val z4.2) (((x1 * (zI 4)) + ((xu_prg z4.2) x1.toNatClampNeg))).toNatClampNeg x3)) (upd (xu_kin z4.2) (((x1 * (zI 4)) + ((xu_prg z4.2) x1.toNatClampNeg))).toNatClampNeg x4)) (upd (xu_ser z4.2) (((x1 * (zI 4)) + ((xu_prg z4.2) x1.toNatClampNeg))).toNatClampNeg (xu_nxt z4.2)))) := hD
      refine lv_aload_n hx hb dX1_program_75 rfl (lv_at hl 1 rfl) ?_
      refine lv_dup hx hb dX1_program_76 rfl ?_
      refine va_get (D := D) (ci := 1) (v := .int (xu_nxt z4.2)) (C := RX1) (T := TX1) (N := 11) hx hb hts in_X1_program_X1 hown hK hP 1 rfl rfl 8 (by decide) (hts _ (List.mem_of_getElem? (i := 6) rfl)) (fun _ h9 => h9) rfl dX1_program_77 ?_
      refine lv_iconst (v := zI 1) hx hb dX1_program_80 (by decide) ?_
      refine lv_iadd hx hb dX1_program_81 ?_
      refine va_put (D := D) (ci := 1) (v := .int ((xu_nxt z4.2) + (zI 1))) (ty := .int) (C := RX1) (T := TX1) (N := 11) hx hb hts in_X1_program_X1 tyX1 tyX1_ok nmX1 hown hK hP hD hS 1 rfl rfl 8 (by decide) (hts _ (List.mem_of_getElem? (i := 6) rfl)) (fun _ h9 => h9) rfl (by decide +kernel) rfl rfl (Nat.le_of_ble_eq_true rfl) dX1_program_82 (fun H locs hP hD hS => ?_)
      have hP : va_P D vwCl (XW a n cA (xu_s_nxt (xu_s_ser (xu_s_kin (xu_s_val (xu_s_own (xu_s_prg z4.2 (upd (xu_prg z4.2) (x1).toNatClampNeg (((xu_prg z4.2) x1.toNatClampNeg) + (zI 1)))) (upd (xu_own z4.2) (((x1 * (zI 4)) + ((xu_prg z4.2) x1.toNatClampNeg))).toNatClampNeg x2)) (upd (xu_val z4.2) (((x1 * (zI 4)) + ((xu_prg z4.2) x1.toNatClampNeg))).toNatClampNeg x3)) (upd (xu_kin z4.2) (((x1 * (zI 4)) + ((xu_prg z4.2) x1.toNatClampNeg))).toNatClampNeg x4)) (upd (xu_ser z4.2) (((x1 * (zI 4)) + ((xu_prg z4.2) x1.toNatClampNeg))).toNatClampNeg (xu_nxt z4.2))) ((xu_nxt z4.2) + (zI 1)))) H := hP
      have hD : va_D A (XW a n cA (xu_s_nxt (xu_s_ser (xu_s_kin (xu_s_val (xu_s_own (xu_s_prg z4.2 (upd (xu_prg z4.2) (x1).toNatClampNeg (((xu_prg z4.2) x1.toNatClampNeg) + (zI 1)))) (upd (xu_own z4.2) (((x1 * (zI 4)) + ((xu_prg z4.2) x1.toNatClampNeg))).toNatClampNeg x2)) (upd (xu_val z4.2) (((x1 * (zI 4)) + ((xu_prg z4.2) x1.toNatClampNeg))).toNatClampNeg x3)) (upd (xu_kin z4.2) (((x1 * (zI 4)) + ((xu_prg z4.2) x1.toNatClampNeg))).toNatClampNeg x4)) (upd (xu_ser z4.2) (((x1 * (zI 4)) + ((xu_prg z4.2) x1.toNatClampNeg))).toNatClampNeg (xu_nxt z4.2))) ((xu_nxt z4.2) + (zI 1)))) := hD
      refine lv_aload_n hx hb dX1_program_85 rfl (lv_at hl 1 rfl) ?_
      refine va_get (D := D) (ci := 1) (v := .ref (a 9)) (C := RX1) (T := TX1) (N := 11) hx hb hts in_X1_program_X1 hown hK hP 1 rfl rfl 7 (by decide) (hts _ (List.mem_of_getElem? (i := 7) rfl)) (fun _ h9 => h9) rfl dX1_program_86 ?_
      refine lv_iload_n hx hb dX1_program_89 rfl (lv_at hl 3 rfl) ?_
      refine lv_iload hx hb dX1_program_90 (lv_at hl 0 rfl) ?_
      obtain ⟨g14, hf⟩ := vgs hf
      refine va_iast hx hb hK hP hD hS 9 6 rfl rfl g14 dX1_program_92 (fun H locs hP hD hS => ?_)
      have hP : va_P D vwCl (XW a n cA (xu_s_new (xu_s_nxt (xu_s_ser (xu_s_kin (xu_s_val (xu_s_own (xu_s_prg z4.2 (upd (xu_prg z4.2) (x1).toNatClampNeg (((xu_prg z4.2) x1.toNatClampNeg) + (zI 1)))) (upd (xu_own z4.2) (((x1 * (zI 4)) + ((xu_prg z4.2) x1.toNatClampNeg))).toNatClampNeg x2)) (upd (xu_val z4.2) (((x1 * (zI 4)) + ((xu_prg z4.2) x1.toNatClampNeg))).toNatClampNeg x3)) (upd (xu_kin z4.2) (((x1 * (zI 4)) + ((xu_prg z4.2) x1.toNatClampNeg))).toNatClampNeg x4)) (upd (xu_ser z4.2) (((x1 * (zI 4)) + ((xu_prg z4.2) x1.toNatClampNeg))).toNatClampNeg (xu_nxt z4.2))) ((xu_nxt z4.2) + (zI 1))) (upd (xu_new z4.2) (x2).toNatClampNeg ((x1 * (zI 4)) + ((xu_prg z4.2) x1.toNatClampNeg))))) H := hP
      have hD : va_D A (XW a n cA (xu_s_new (xu_s_nxt (xu_s_ser (xu_s_kin (xu_s_val (xu_s_own (xu_s_prg z4.2 (upd (xu_prg z4.2) (x1).toNatClampNeg (((xu_prg z4.2) x1.toNatClampNeg) + (zI 1)))) (upd (xu_own z4.2) (((x1 * (zI 4)) + ((xu_prg z4.2) x1.toNatClampNeg))).toNatClampNeg x2)) (upd (xu_val z4.2) (((x1 * (zI 4)) + ((xu_prg z4.2) x1.toNatClampNeg))).toNatClampNeg x3)) (upd (xu_kin z4.2) (((x1 * (zI 4)) + ((xu_prg z4.2) x1.toNatClampNeg))).toNatClampNeg x4)) (upd (xu_ser z4.2) (((x1 * (zI 4)) + ((xu_prg z4.2) x1.toNatClampNeg))).toNatClampNeg (xu_nxt z4.2))) ((xu_nxt z4.2) + (zI 1))) (upd (xu_new z4.2) (x2).toNatClampNeg ((x1 * (zI 4)) + ((xu_prg z4.2) x1.toNatClampNeg))))) := hD
      refine lv_iconst (v := zI 1) hx hb dX1_program_93 (by decide) ?_
      cases hf
      exact vz_zret X rfl hP hD hS dX1_program_94
    · have hf := ift c6 hf
      refine lv_iconst (v := zI 0) hx hb dX1_program_15 (by decide) ?_
      cases hf
      exact vz_zret X rfl hP hD hS dX1_program_16
end
theorem kX1_program {l : Launch} {D : va_G} {a n : Nat → Nat} {cA : Nat → ClassId} {K : Nat} {x1 x2 x3 x4 : Int32} {u : XU} {r : Int32} {u2 : XU} (h : fX1_program n K x1 x2 x3 x4 u = some (r, u2)) : vzC l D (XT cA) (XW a n cA) yX1_program wsX1_program rmX1_program [.ref (a 1), .int x1, .int x2, .int x3, .int x4] u r u2 := vzC.of (by decide) rfl (Nat.le_of_ble_eq_true rfl) (fun p e s m below meth c A ls X hP hD hl => lbX1_program_e X x1 x2 x3 x4 u s.heap [] ls r u2 h hP hD va_S.rf hl)
abbrev rmX1_erase : Room := { frames := 1, cells := 0, slots := 0, locals := 21 }
theorem in_X1_erase_X1 : ∀ w ∈ u_ws RX1 TX1 11, w ∈ wsX1_erase := fun _ h => List.mem_cons_of_mem _ (List.mem_append_right _ h)
def fX1_erase_11 (n : Nat → Nat) (K : Nat) : Nat → Int32 → Int32 → XU → Option (Int32 × XU)
  | 0, _, _, _ => none
  | N + 1, x1, x2, u => if (zI 4) ≤ x2 then (vg x1 (n 7) (vg x1 (n 8) (vg x1 (n 8) (some (zI 1, xu_s_wea (xu_s_prg u (upd (xu_prg u) (x1).toNatClampNeg (zI 0))) (upd (xu_wea u) (x1).toNatClampNeg (((xu_wea u) x1.toNatClampNeg) + (zI 1)))))))) else (vg ((x1 * (zI 4)) + x2) (n 5) (fX1_erase_11 n K N x1 (x2 + (zI 1)) (xu_s_kin u (upd (xu_kin u) (((x1 * (zI 4)) + x2)).toNatClampNeg (zI 0)))))
def fX1_erase (n : Nat → Nat) (K : Nat) (x1 : Int32) (u : XU) : Option (Int32 × XU) := (fX1_beginOperation n K u).bind fun z1 => (if z1.1 = 0 then (some (zI 0, z1.2)) else (fX1_erase_11 n K K x1 (zI 0) z1.2))
section
variable {p : Program} {l : Launch} {e : Env} {s : State} {m : MethodId} {args : Array Value} {below : List Frame} {meth : Method} {c : Code} {D : va_G} {a n : Nat → Nat} {cA : Nat → ClassId} {A : Nat → Prop}
set_option maxHeartbeats 4000000 in
set_option maxRecDepth 100000 in
theorem lbX1_erase_11 {K : Nat} (X : vzX D (XT cA) A wsX1_erase cX1_erase 3 (some .boolean) RX1 p s m args meth c) : ∀ (N : Nat) (x1 x2 : Int32) (u : XU) (H : Heap) (locs : List Loc) (ls : Array Slot) (r : Int32) (u2 : XU), fX1_erase_11 n K N x1 x2 u = some (r, u2) → va_P D vwCl (XW a n cA u) H → va_D A (XW a n cA u) → va_S A s.heap H locs → lv_has ls 3 [(0, .ref (a 1)), (1, .int x1), (2, .int x2)] → W p l e (headSpec wsX1_erase rmX1_erase).room s m args below meth c H locs 0 0 (MQ below (vzQ D (XT cA) (XW a n cA) A r u2) args s 0 0 A) (F0 m 11 ls []) := by
  obtain ⟨hx, hb, hr, hml, hown, hts, hlk, hN, hK, hA⟩ := id X
  intro N
  induction N with
  | zero =>
    intro x1 x2 u H locs ls r u2 hf
    cases hf
  | succ N ih =>
    intro x1 x2 u H locs ls r u2 hf hP hD hS hl
    rw [fX1_erase_11] at hf
    refine lv_iload_n hx hb dX1_erase_11 rfl (lv_at hl 2 rfl) ?_
    refine lv_iconst (v := zI 4) hx hb dX1_erase_12 (by decide) ?_
    refine lv_icmp_ge (tgt := 33) hx hb dX1_erase_13 (by decide) (fun c4 => ?_) (fun c4 => ?_)
    · have hf := ift c4 hf
      refine lv_aload_n hx hb dX1_erase_33 rfl (lv_at hl 0 rfl) ?_
      refine va_get (D := D) (ci := 1) (v := .ref (a 7)) (C := RX1) (T := TX1) (N := 11) hx hb hts in_X1_erase_X1 hown hK hP 1 rfl rfl 5 (by decide) (hts _ (List.mem_of_getElem? (i := 2) rfl)) (fun _ h9 => h9) rfl dX1_erase_34 ?_
      refine lv_iload_n hx hb dX1_erase_37 rfl (lv_at hl 1 rfl) ?_
      refine lv_iconst (v := zI 0) hx hb dX1_erase_38 (by decide) ?_
      obtain ⟨g5, hf⟩ := vgs hf
      refine va_iast hx hb hK hP hD hS 7 4 rfl rfl g5 dX1_erase_39 (fun H locs hP hD hS => ?_)
      have hP : va_P D vwCl (XW a n cA (xu_s_prg u (upd (xu_prg u) (x1).toNatClampNeg (zI 0)))) H := hP
      have hD : va_D A (XW a n cA (xu_s_prg u (upd (xu_prg u) (x1).toNatClampNeg (zI 0)))) := hD
      refine lv_aload_n hx hb dX1_erase_40 rfl (lv_at hl 0 rfl) ?_
      refine va_get (D := D) (ci := 1) (v := .ref (a 8)) (C := RX1) (T := TX1) (N := 11) hx hb hts in_X1_erase_X1 hown hK hP 1 rfl rfl 6 (by decide) (hts _ (List.mem_of_getElem? (i := 3) rfl)) (fun _ h9 => h9) rfl dX1_erase_41 ?_
      refine lv_iload_n hx hb dX1_erase_44 rfl (lv_at hl 1 rfl) ?_
      refine lv_dup2_11 hx hb dX1_erase_45 rfl rfl ?_
      obtain ⟨g6, hf⟩ := vgs hf
      refine va_iald hx hb hK hP 8 5 rfl rfl g6 dX1_erase_46 ?_
      refine lv_iconst (v := zI 1) hx hb dX1_erase_47 (by decide) ?_
      refine lv_iadd hx hb dX1_erase_48 ?_
      obtain ⟨g7, hf⟩ := vgs hf
      refine va_iast hx hb hK hP hD hS 8 5 rfl rfl g7 dX1_erase_49 (fun H locs hP hD hS => ?_)
      have hP : va_P D vwCl (XW a n cA (xu_s_wea (xu_s_prg u (upd (xu_prg u) (x1).toNatClampNeg (zI 0))) (upd (xu_wea u) (x1).toNatClampNeg (((xu_wea u) x1.toNatClampNeg) + (zI 1))))) H := hP
      have hD : va_D A (XW a n cA (xu_s_wea (xu_s_prg u (upd (xu_prg u) (x1).toNatClampNeg (zI 0))) (upd (xu_wea u) (x1).toNatClampNeg (((xu_wea u) x1.toNatClampNeg) + (zI 1))))) := hD
      refine lv_iconst (v := zI 1) hx hb dX1_erase_50 (by decide) ?_
      cases hf
      exact vz_zret X rfl hP hD hS dX1_erase_51
    · have hf := iff_ c4 hf
      refine lv_aload_n hx hb dX1_erase_16 rfl (lv_at hl 0 rfl) ?_
      refine va_get (D := D) (ci := 1) (v := .ref (a 5)) (C := RX1) (T := TX1) (N := 11) hx hb hts in_X1_erase_X1 hown hK hP 1 rfl rfl 3 (by decide) (hts _ (List.mem_of_getElem? (i := 1) rfl)) (fun _ h9 => h9) rfl dX1_erase_17 ?_
      refine lv_iload_n hx hb dX1_erase_20 rfl (lv_at hl 1 rfl) ?_
      refine lv_iconst (v := zI 4) hx hb dX1_erase_21 (by decide) ?_
      refine lv_imul hx hb dX1_erase_22 ?_
      refine lv_iload_n hx hb dX1_erase_23 rfl (lv_at hl 2 rfl) ?_
      refine lv_iadd hx hb dX1_erase_24 ?_
      refine lv_iconst (v := zI 0) hx hb dX1_erase_25 (by decide) ?_
      obtain ⟨g8, hf⟩ := vgs hf
      refine va_iast hx hb hK hP hD hS 5 2 rfl rfl g8 dX1_erase_26 (fun H locs hP hD hS => ?_)
      have hP : va_P D vwCl (XW a n cA (xu_s_kin u (upd (xu_kin u) (((x1 * (zI 4)) + x2)).toNatClampNeg (zI 0)))) H := hP
      have hD : va_D A (XW a n cA (xu_s_kin u (upd (xu_kin u) (((x1 * (zI 4)) + x2)).toNatClampNeg (zI 0)))) := hD
      refine lv_iinc (v := x2 + (zI 1)) (lv' := [(2, .int (x2 + (zI 1))), (0, .ref (a 1)), (1, .int x1)]) hx hb dX1_erase_27 hl (k := 2) rfl rfl (by decide) rfl (fun ls hl => ?_)
      refine lv_goto (tgt := 11) hx hb dX1_erase_30 (by decide) ?_
      exact ih x1 (x2 + (zI 1)) (xu_s_kin u (upd (xu_kin u) (((x1 * (zI 4)) + x2)).toNatClampNeg (zI 0))) _ _ _ _ _ hf hP hD hS (lv_sub hl [1, 2, 0] rfl)
set_option maxHeartbeats 4000000 in
set_option maxRecDepth 100000 in
theorem lbX1_erase_e {K : Nat} (X : vzX D (XT cA) A wsX1_erase cX1_erase 3 (some .boolean) RX1 p s m args meth c) : ∀ (x1 : Int32) (u : XU) (H : Heap) (locs : List Loc) (ls : Array Slot) (r : Int32) (u2 : XU), fX1_erase n K x1 u = some (r, u2) → va_P D vwCl (XW a n cA u) H → va_D A (XW a n cA u) → va_S A s.heap H locs → lv_has ls 3 [(0, .ref (a 1)), (1, .int x1)] → W p l e (headSpec wsX1_erase rmX1_erase).room s m args below meth c H locs 0 0 (MQ below (vzQ D (XT cA) (XW a n cA) A r u2) args s 0 0 A) (F0 m 0 ls []) := by
  obtain ⟨hx, hb, hr, hml, hown, hts, hlk, hN, hK, hA⟩ := id X
  intro x1 u H locs ls r u2 hf hP hD hS hl
  unfold fX1_erase at hf
  refine lv_aload_n hx hb dX1_erase_0 rfl (lv_at hl 0 rfl) ?_
  obtain ⟨z1, hz2, hf⟩ := bd hf
  refine vz_call (rest := []) X (kX1_beginOperation hz2) (cwV 0 hts gX1_erase_X1_beginOperation rfl rfl rfl (by decide +kernel) ⟨Nat.le_of_ble_eq_true rfl, Nat.le_of_ble_eq_true rfl⟩) 1 1 rfl rfl rfl hl.1 rfl (Nat.le_of_ble_eq_true rfl) dX1_erase_1 ⟨Nat.zero_le _, Nat.zero_le _⟩ hP hD hS (fun H locs hP hD hS => ?_)
  refine lv_if_ne (tgt := 9) hx hb dX1_erase_4 (by decide) (fun c3 => ?_) (fun c3 => ?_)
  · have hf := iff_ c3 hf
    refine lv_iconst (v := zI 0) hx hb dX1_erase_9 (by decide) ?_
    refine lv_istore_n (lv' := [(2, .int (zI 0)), (0, .ref (a 1)), (1, .int x1)]) hx hb dX1_erase_10 rfl hl (by decide) rfl (fun ls hl => ?_)
    exact lbX1_erase_11 X K x1 (zI 0) z1.2 _ _ _ _ _ hf hP hD hS (lv_sub hl [1, 2, 0] rfl)
  · have hf := ift c3 hf
    refine lv_iconst (v := zI 0) hx hb dX1_erase_7 (by decide) ?_
    cases hf
    exact vz_zret X rfl hP hD hS dX1_erase_8
end
theorem kX1_erase {l : Launch} {D : va_G} {a n : Nat → Nat} {cA : Nat → ClassId} {K : Nat} {x1 : Int32} {u : XU} {r : Int32} {u2 : XU} (h : fX1_erase n K x1 u = some (r, u2)) : vzC l D (XT cA) (XW a n cA) yX1_erase wsX1_erase rmX1_erase [.ref (a 1), .int x1] u r u2 := vzC.of (by decide) rfl (Nat.le_of_ble_eq_true rfl) (fun p e s m below meth c A ls X hP hD hl => lbX1_erase_e X x1 u s.heap [] ls r u2 h hP hD va_S.rf hl)
end
section
abbrev rmX2_sectors : Room := { frames := 0, cells := 0, slots := 0, locals := 0 }
theorem in_X2_sectors_X2 : ∀ w ∈ u_ws RX2 TX2 4, w ∈ wsX2_sectors := fun _ h => List.mem_cons_of_mem _ (List.mem_append_left _ (List.mem_append_right _ h))
theorem in_X2_sectors_X1 : ∀ w ∈ u_ws RX1 TX1 11, w ∈ wsX2_sectors := fun _ h => List.mem_cons_of_mem _ (List.mem_append_right _ h)
def fX2_sectors (n : Nat → Nat) (K : Nat) (u : XU) : Option (Int32 × XU) := some (nI (n 9), u)
section
variable {p : Program} {l : Launch} {e : Env} {s : State} {m : MethodId} {args : Array Value} {below : List Frame} {meth : Method} {c : Code} {D : va_G} {a n : Nat → Nat} {cA : Nat → ClassId} {A : Nat → Prop}
set_option maxHeartbeats 4000000 in
set_option maxRecDepth 100000 in
theorem lbX2_sectors_e {K : Nat} (X : vzX D (XT cA) A wsX2_sectors cX2_sectors 1 (some .int) RX2 p s m args meth c) : ∀ (u : XU) (H : Heap) (locs : List Loc) (ls : Array Slot) (r : Int32) (u2 : XU), fX2_sectors n K u = some (r, u2) → va_P D vwCl (XW a n cA u) H → va_D A (XW a n cA u) → va_S A s.heap H locs → lv_has ls 1 [(0, .ref (a 0))] → W p l e (headSpec wsX2_sectors rmX2_sectors).room s m args below meth c H locs 0 0 (MQ below (vzQ D (XT cA) (XW a n cA) A r u2) args s 0 0 A) (F0 m 0 ls []) := by
  obtain ⟨hx, hb, hr, hml, hown, hts, hlk, hN, hK, hA⟩ := id X
  intro u H locs ls r u2 hf hP hD hS hl
  unfold fX2_sectors at hf
  refine lv_aload_n hx hb dX2_sectors_0 rfl (lv_at hl 0 rfl) ?_
  refine va_get (D := D) (ci := 2) (v := .ref (a 1)) (C := RX2) (T := TX2) (N := 4) hx hb hts in_X2_sectors_X2 hown hK hP 0 rfl rfl 0 (by decide) (hts _ (List.mem_of_getElem? (i := 1) rfl)) (fun _ h9 => h9) rfl dX2_sectors_1 ?_
  refine va_getN (D := D) (ci := 1) (v := .ref (a 9)) (C := RX1) (T := TX1) (N := 11) hx hb hts in_X2_sectors_X1 hown hK hP 1 rfl rfl 7 (by decide) (hN.at 5 rfl) (fun _ h9 => h9) rfl dX2_sectors_4 ?_
  refine va_alen (v := nI (n 9)) (ty := .int) hx hb hK hP 9 6 rfl rfl rfl dX2_sectors_7 ?_
  cases hf
  exact vz_iret X hP hD hS dX2_sectors_8
end
theorem kX2_sectors {l : Launch} {D : va_G} {a n : Nat → Nat} {cA : Nat → ClassId} {K : Nat} {u : XU} {r : Int32} {u2 : XU} (h : fX2_sectors n K u = some (r, u2)) : vzC l D (XT cA) (XW a n cA) yX2_sectors wsX2_sectors rmX2_sectors [.ref (a 0)] u r u2 := vzC.of (by decide) rfl (Nat.le_of_ble_eq_true rfl) (fun p e s m below meth c A ls X hP hD hl => lbX2_sectors_e X u s.heap [] ls r u2 h hP hD va_S.rf hl)
abbrev rmX2_isSector : Room := { frames := 0, cells := 0, slots := 0, locals := 0 }
theorem in_X2_isSector_X2 : ∀ w ∈ u_ws RX2 TX2 4, w ∈ wsX2_isSector := fun _ h => List.mem_cons_of_mem _ (List.mem_append_left _ (List.mem_append_right _ h))
theorem in_X2_isSector_X1 : ∀ w ∈ u_ws RX1 TX1 11, w ∈ wsX2_isSector := fun _ h => List.mem_cons_of_mem _ (List.mem_append_right _ h)
def fX2_isSector (n : Nat → Nat) (K : Nat) (x1 : Int32) (u : XU) : Option (Int32 × XU) := if x1 < 0 then (some (zI 0, u)) else (if (nI (n 9)) ≤ x1 then (some (zI 0, u)) else (some (zI 1, u)))
section
variable {p : Program} {l : Launch} {e : Env} {s : State} {m : MethodId} {args : Array Value} {below : List Frame} {meth : Method} {c : Code} {D : va_G} {a n : Nat → Nat} {cA : Nat → ClassId} {A : Nat → Prop}
set_option maxHeartbeats 4000000 in
set_option maxRecDepth 100000 in
theorem lbX2_isSector_e {K : Nat} (X : vzX D (XT cA) A wsX2_isSector cX2_isSector 2 (some .boolean) RX2 p s m args meth c) : ∀ (x1 : Int32) (u : XU) (H : Heap) (locs : List Loc) (ls : Array Slot) (r : Int32) (u2 : XU), fX2_isSector n K x1 u = some (r, u2) → va_P D vwCl (XW a n cA u) H → va_D A (XW a n cA u) → va_S A s.heap H locs → lv_has ls 2 [(0, .ref (a 0)), (1, .int x1)] → W p l e (headSpec wsX2_isSector rmX2_isSector).room s m args below meth c H locs 0 0 (MQ below (vzQ D (XT cA) (XW a n cA) A r u2) args s 0 0 A) (F0 m 0 ls []) := by
  obtain ⟨hx, hb, hr, hml, hown, hts, hlk, hN, hK, hA⟩ := id X
  intro x1 u H locs ls r u2 hf hP hD hS hl
  unfold fX2_isSector at hf
  refine lv_iload_n hx hb dX2_isSector_0 rfl (lv_at hl 1 rfl) ?_
  refine lv_if_lt (tgt := 20) hx hb dX2_isSector_1 (by decide) (fun c1 => ?_) (fun c1 => ?_)
  · have hf := ift c1 hf
    refine lv_iconst (v := zI 0) hx hb dX2_isSector_20 (by decide) ?_
    cases hf
    exact vz_zret X rfl hP hD hS dX2_isSector_21
  · have hf := iff_ c1 hf
    refine lv_iload_n hx hb dX2_isSector_4 rfl (lv_at hl 1 rfl) ?_
    refine lv_aload_n hx hb dX2_isSector_5 rfl (lv_at hl 0 rfl) ?_
    refine va_get (D := D) (ci := 2) (v := .ref (a 1)) (C := RX2) (T := TX2) (N := 4) hx hb hts in_X2_isSector_X2 hown hK hP 0 rfl rfl 0 (by decide) (hts _ (List.mem_of_getElem? (i := 1) rfl)) (fun _ h9 => h9) rfl dX2_isSector_6 ?_
    refine va_getN (D := D) (ci := 1) (v := .ref (a 9)) (C := RX1) (T := TX1) (N := 11) hx hb hts in_X2_isSector_X1 hown hK hP 1 rfl rfl 7 (by decide) (hN.at 5 rfl) (fun _ h9 => h9) rfl dX2_isSector_9 ?_
    refine va_alen (v := nI (n 9)) (ty := .int) hx hb hK hP 9 6 rfl rfl rfl dX2_isSector_12 ?_
    refine lv_icmp_ge (tgt := 20) hx hb dX2_isSector_13 (by decide) (fun c2 => ?_) (fun c2 => ?_)
    · have hf := ift c2 hf
      refine lv_iconst (v := zI 0) hx hb dX2_isSector_20 (by decide) ?_
      cases hf
      exact vz_zret X rfl hP hD hS dX2_isSector_21
    · have hf := iff_ c2 hf
      refine lv_iconst (v := zI 1) hx hb dX2_isSector_16 (by decide) ?_
      refine lv_goto (tgt := 21) hx hb dX2_isSector_17 (by decide) ?_
      cases hf
      exact vz_zret X rfl hP hD hS dX2_isSector_21
end
theorem kX2_isSector {l : Launch} {D : va_G} {a n : Nat → Nat} {cA : Nat → ClassId} {K : Nat} {x1 : Int32} {u : XU} {r : Int32} {u2 : XU} (h : fX2_isSector n K x1 u = some (r, u2)) : vzC l D (XT cA) (XW a n cA) yX2_isSector wsX2_isSector rmX2_isSector [.ref (a 0), .int x1] u r u2 := vzC.of (by decide) rfl (Nat.le_of_ble_eq_true rfl) (fun p e s m below meth c A ls X hP hD hl => lbX2_isSector_e X x1 u s.heap [] ls r u2 h hP hD va_S.rf hl)
abbrev rmX2_collect : Room := { frames := 2, cells := 0, slots := 0, locals := 46 }
theorem in_X2_collect_X2 : ∀ w ∈ u_ws RX2 TX2 4, w ∈ wsX2_collect := fun _ h => List.mem_cons_of_mem _ (List.mem_append_left _ (List.mem_append_right _ h))
theorem in_X2_collect_X1 : ∀ w ∈ u_ws RX1 TX1 11, w ∈ wsX2_collect := fun _ h => List.mem_cons_of_mem _ (List.mem_append_right _ h)
def fX2_collect_13 (n : Nat → Nat) (K : Nat) : Nat → Int32 → Int32 → Int32 → XU → Option (Int32 × XU)
  | 0, _, _, _, _ => none
  | N + 1, x1, x2, x3, u => if (x2 + (zI 4)) ≤ x3 then ((fX1_erase n K x1 u).bind fun z3 => (vb z3.1 (some (z3.1, z3.2)))) else ((fX1_isValid n K x3 u).bind fun z6 => (if z6.1 = 0 then (fX2_collect_13 n K N x1 x2 (x3 + (zI 1)) z6.2) else (vg x3 (n 3) (vg x3 (n 4) (vg x3 (n 5) ((fX1_program n K (xu_opn z6.2) ((xu_own z6.2) x3.toNatClampNeg) ((xu_val z6.2) x3.toNatClampNeg) ((xu_kin z6.2) x3.toNatClampNeg) z6.2).bind fun z12 => (if z12.1 = 0 then (some (zI 0, z12.2)) else (fX2_collect_13 n K N x1 x2 (x3 + (zI 1)) z12.2))))))))
def fX2_collect (n : Nat → Nat) (K : Nat) (x1 : Int32) (u : XU) : Option (Int32 × XU) := if x1 = (zI (-1)) then (some (zI 0, u)) else (fX2_collect_13 n K K x1 (x1 * (zI 4)) (x1 * (zI 4)) u)
section
variable {p : Program} {l : Launch} {e : Env} {s : State} {m : MethodId} {args : Array Value} {below : List Frame} {meth : Method} {c : Code} {D : va_G} {a n : Nat → Nat} {cA : Nat → ClassId} {A : Nat → Prop}
set_option maxHeartbeats 4000000 in
set_option maxRecDepth 100000 in
theorem lbX2_collect_13 {K : Nat} (X : vzX D (XT cA) A wsX2_collect cX2_collect 4 (some .boolean) RX2 p s m args meth c) : ∀ (N : Nat) (x1 x2 x3 : Int32) (u : XU) (H : Heap) (locs : List Loc) (ls : Array Slot) (r : Int32) (u2 : XU), fX2_collect_13 n K N x1 x2 x3 u = some (r, u2) → va_P D vwCl (XW a n cA u) H → va_D A (XW a n cA u) → va_S A s.heap H locs → lv_has ls 4 [(0, .ref (a 0)), (1, .int x1), (2, .int x2), (3, .int x3)] → W p l e (headSpec wsX2_collect rmX2_collect).room s m args below meth c H locs 0 0 (MQ below (vzQ D (XT cA) (XW a n cA) A r u2) args s 0 0 A) (F0 m 13 ls []) := by
  obtain ⟨hx, hb, hr, hml, hown, hts, hlk, hN, hK, hA⟩ := id X
  intro N
  induction N with
  | zero =>
    intro x1 x2 x3 u H locs ls r u2 hf
    cases hf
  | succ N ih =>
    intro x1 x2 x3 u H locs ls r u2 hf hP hD hS hl
    rw [fX2_collect_13] at hf
    refine lv_iload_n hx hb dX2_collect_13 rfl (lv_at hl 3 rfl) ?_
    refine lv_iload_n hx hb dX2_collect_14 rfl (lv_at hl 2 rfl) ?_
    refine lv_iconst (v := zI 4) hx hb dX2_collect_15 (by decide) ?_
    refine lv_iadd hx hb dX2_collect_16 ?_
    refine lv_icmp_ge (tgt := 80) hx hb dX2_collect_17 (by decide) (fun c2 => ?_) (fun c2 => ?_)
    · have hf := ift c2 hf
      refine lv_aload_n hx hb dX2_collect_80 rfl (lv_at hl 0 rfl) ?_
      refine va_get (D := D) (ci := 2) (v := .ref (a 1)) (C := RX2) (T := TX2) (N := 4) hx hb hts in_X2_collect_X2 hown hK hP 0 rfl rfl 0 (by decide) (hts _ (List.mem_of_getElem? (i := 1) rfl)) (fun _ h9 => h9) rfl dX2_collect_81 ?_
      refine lv_iload_n hx hb dX2_collect_84 rfl (lv_at hl 1 rfl) ?_
      obtain ⟨z3, hz4, hf⟩ := bd hf
      refine vz_call (rest := []) X (kX1_erase hz4) (cwV 1 hts gX2_collect_X1_erase rfl rfl rfl (by decide +kernel) ⟨Nat.le_of_ble_eq_true rfl, Nat.le_of_ble_eq_true rfl⟩) 1 1 rfl rfl rfl hl.1 rfl (Nat.le_of_ble_eq_true rfl) dX2_collect_85 ⟨Nat.zero_le _, Nat.zero_le _⟩ hP hD hS (fun H locs hP hD hS => ?_)
      obtain ⟨z5, hf⟩ := vbs hf
      cases hf
      exact vz_zret X z5 hP hD hS dX2_collect_88
    · have hf := iff_ c2 hf
      refine lv_aload_n hx hb dX2_collect_20 rfl (lv_at hl 0 rfl) ?_
      refine va_get (D := D) (ci := 2) (v := .ref (a 1)) (C := RX2) (T := TX2) (N := 4) hx hb hts in_X2_collect_X2 hown hK hP 0 rfl rfl 0 (by decide) (hts _ (List.mem_of_getElem? (i := 1) rfl)) (fun _ h9 => h9) rfl dX2_collect_21 ?_
      refine lv_iload_n hx hb dX2_collect_24 rfl (lv_at hl 3 rfl) ?_
      obtain ⟨z6, hz7, hf⟩ := bd hf
      refine vz_call (rest := []) X (kX1_isValid hz7) (cwV 1 hts gX2_collect_X1_isValid rfl rfl rfl (by decide +kernel) ⟨Nat.le_of_ble_eq_true rfl, Nat.le_of_ble_eq_true rfl⟩) 1 1 rfl rfl rfl hl.1 rfl (Nat.le_of_ble_eq_true rfl) dX2_collect_25 ⟨Nat.zero_le _, Nat.zero_le _⟩ hP hD hS (fun H locs hP hD hS => ?_)
      refine lv_if_eq (tgt := 74) hx hb dX2_collect_28 (by decide) (fun c8 => ?_) (fun c8 => ?_)
      · have hf := ift c8 hf
        refine lv_iinc (v := x3 + (zI 1)) (lv' := [(3, .int (x3 + (zI 1))), (0, .ref (a 0)), (1, .int x1), (2, .int x2)]) hx hb dX2_collect_74 hl (k := 3) rfl rfl (by decide) rfl (fun ls hl => ?_)
        refine lv_goto (tgt := 13) hx hb dX2_collect_77 (by decide) ?_
        exact ih x1 x2 (x3 + (zI 1)) z6.2 _ _ _ _ _ hf hP hD hS (lv_sub hl [1, 2, 3, 0] rfl)
      · have hf := iff_ c8 hf
        refine lv_aload_n hx hb dX2_collect_31 rfl (lv_at hl 0 rfl) ?_
        refine va_get (D := D) (ci := 2) (v := .ref (a 1)) (C := RX2) (T := TX2) (N := 4) hx hb hts in_X2_collect_X2 hown hK hP 0 rfl rfl 0 (by decide) (hts _ (List.mem_of_getElem? (i := 1) rfl)) (fun _ h9 => h9) rfl dX2_collect_32 ?_
        refine lv_aload_n hx hb dX2_collect_35 rfl (lv_at hl 0 rfl) ?_
        refine va_get (D := D) (ci := 2) (v := .int (xu_opn z6.2)) (C := RX2) (T := TX2) (N := 4) hx hb hts in_X2_collect_X2 hown hK hP 0 rfl rfl 3 (by decide) (hts _ (List.mem_of_getElem? (i := 2) rfl)) (fun _ h9 => h9) rfl dX2_collect_36 ?_
        refine lv_aload_n hx hb dX2_collect_39 rfl (lv_at hl 0 rfl) ?_
        refine va_get (D := D) (ci := 2) (v := .ref (a 1)) (C := RX2) (T := TX2) (N := 4) hx hb hts in_X2_collect_X2 hown hK hP 0 rfl rfl 0 (by decide) (hts _ (List.mem_of_getElem? (i := 1) rfl)) (fun _ h9 => h9) rfl dX2_collect_40 ?_
        refine va_getN (D := D) (ci := 1) (v := .ref (a 3)) (C := RX1) (T := TX1) (N := 11) hx hb hts in_X2_collect_X1 hown hK hP 1 rfl rfl 1 (by decide) (hN.at 0 rfl) (fun _ h9 => h9) rfl dX2_collect_43 ?_
        refine lv_iload_n hx hb dX2_collect_46 rfl (lv_at hl 3 rfl) ?_
        obtain ⟨g9, hf⟩ := vgs hf
        refine va_iald hx hb hK hP 3 0 rfl rfl g9 dX2_collect_47 ?_
        refine lv_aload_n hx hb dX2_collect_48 rfl (lv_at hl 0 rfl) ?_
        refine va_get (D := D) (ci := 2) (v := .ref (a 1)) (C := RX2) (T := TX2) (N := 4) hx hb hts in_X2_collect_X2 hown hK hP 0 rfl rfl 0 (by decide) (hts _ (List.mem_of_getElem? (i := 1) rfl)) (fun _ h9 => h9) rfl dX2_collect_49 ?_
        refine va_getN (D := D) (ci := 1) (v := .ref (a 4)) (C := RX1) (T := TX1) (N := 11) hx hb hts in_X2_collect_X1 hown hK hP 1 rfl rfl 2 (by decide) (hN.at 1 rfl) (fun _ h9 => h9) rfl dX2_collect_52 ?_
        refine lv_iload_n hx hb dX2_collect_55 rfl (lv_at hl 3 rfl) ?_
        obtain ⟨g10, hf⟩ := vgs hf
        refine va_iald hx hb hK hP 4 1 rfl rfl g10 dX2_collect_56 ?_
        refine lv_aload_n hx hb dX2_collect_57 rfl (lv_at hl 0 rfl) ?_
        refine va_get (D := D) (ci := 2) (v := .ref (a 1)) (C := RX2) (T := TX2) (N := 4) hx hb hts in_X2_collect_X2 hown hK hP 0 rfl rfl 0 (by decide) (hts _ (List.mem_of_getElem? (i := 1) rfl)) (fun _ h9 => h9) rfl dX2_collect_58 ?_
        refine va_getN (D := D) (ci := 1) (v := .ref (a 5)) (C := RX1) (T := TX1) (N := 11) hx hb hts in_X2_collect_X1 hown hK hP 1 rfl rfl 3 (by decide) (hN.at 2 rfl) (fun _ h9 => h9) rfl dX2_collect_61 ?_
        refine lv_iload_n hx hb dX2_collect_64 rfl (lv_at hl 3 rfl) ?_
        obtain ⟨g11, hf⟩ := vgs hf
        refine va_iald hx hb hK hP 5 2 rfl rfl g11 dX2_collect_65 ?_
        obtain ⟨z12, hz13, hf⟩ := bd hf
        refine vz_call (rest := []) X (kX1_program hz13) (cwV 4 hts gX2_collect_X1_program rfl rfl rfl (by decide +kernel) ⟨Nat.le_of_ble_eq_true rfl, Nat.le_of_ble_eq_true rfl⟩) 1 1 rfl rfl rfl hl.1 rfl (Nat.le_of_ble_eq_true rfl) dX2_collect_66 ⟨Nat.zero_le _, Nat.zero_le _⟩ hP hD hS (fun H locs hP hD hS => ?_)
        refine lv_if_ne (tgt := 74) hx hb dX2_collect_69 (by decide) (fun c14 => ?_) (fun c14 => ?_)
        · have hf := iff_ c14 hf
          refine lv_iinc (v := x3 + (zI 1)) (lv' := [(3, .int (x3 + (zI 1))), (0, .ref (a 0)), (1, .int x1), (2, .int x2)]) hx hb dX2_collect_74 hl (k := 3) rfl rfl (by decide) rfl (fun ls hl => ?_)
          refine lv_goto (tgt := 13) hx hb dX2_collect_77 (by decide) ?_
          exact ih x1 x2 (x3 + (zI 1)) z12.2 _ _ _ _ _ hf hP hD hS (lv_sub hl [1, 2, 3, 0] rfl)
        · have hf := ift c14 hf
          refine lv_iconst (v := zI 0) hx hb dX2_collect_72 (by decide) ?_
          cases hf
          exact vz_zret X rfl hP hD hS dX2_collect_73
set_option maxHeartbeats 4000000 in
set_option maxRecDepth 100000 in
theorem lbX2_collect_e {K : Nat} (X : vzX D (XT cA) A wsX2_collect cX2_collect 4 (some .boolean) RX2 p s m args meth c) : ∀ (x1 : Int32) (u : XU) (H : Heap) (locs : List Loc) (ls : Array Slot) (r : Int32) (u2 : XU), fX2_collect n K x1 u = some (r, u2) → va_P D vwCl (XW a n cA u) H → va_D A (XW a n cA u) → va_S A s.heap H locs → lv_has ls 4 [(0, .ref (a 0)), (1, .int x1)] → W p l e (headSpec wsX2_collect rmX2_collect).room s m args below meth c H locs 0 0 (MQ below (vzQ D (XT cA) (XW a n cA) A r u2) args s 0 0 A) (F0 m 0 ls []) := by
  obtain ⟨hx, hb, hr, hml, hown, hts, hlk, hN, hK, hA⟩ := id X
  intro x1 u H locs ls r u2 hf hP hD hS hl
  unfold fX2_collect at hf
  refine lv_iload_n hx hb dX2_collect_0 rfl (lv_at hl 1 rfl) ?_
  refine lv_iconst (v := zI (-1)) hx hb dX2_collect_1 (by decide) ?_
  refine lv_icmp_ne (tgt := 7) hx hb dX2_collect_2 (by decide) (fun c1 => ?_) (fun c1 => ?_)
  · have hf := iff_ c1 hf
    refine lv_iload_n hx hb dX2_collect_7 rfl (lv_at hl 1 rfl) ?_
    refine lv_iconst (v := zI 4) hx hb dX2_collect_8 (by decide) ?_
    refine lv_imul hx hb dX2_collect_9 ?_
    refine lv_istore_n (lv' := [(2, .int (x1 * (zI 4))), (0, .ref (a 0)), (1, .int x1)]) hx hb dX2_collect_10 rfl hl (by decide) rfl (fun ls hl => ?_)
    refine lv_iload_n hx hb dX2_collect_11 rfl (lv_at hl 0 rfl) ?_
    refine lv_istore_n (lv' := [(3, .int (x1 * (zI 4))), (2, .int (x1 * (zI 4))), (0, .ref (a 0)), (1, .int x1)]) hx hb dX2_collect_12 rfl hl (by decide) rfl (fun ls hl => ?_)
    exact lbX2_collect_13 X K x1 (x1 * (zI 4)) (x1 * (zI 4)) u _ _ _ _ _ hf hP hD hS (lv_sub hl [2, 3, 1, 0] rfl)
  · have hf := ift c1 hf
    refine lv_iconst (v := zI 0) hx hb dX2_collect_5 (by decide) ?_
    cases hf
    exact vz_zret X rfl hP hD hS dX2_collect_6
end
theorem kX2_collect {l : Launch} {D : va_G} {a n : Nat → Nat} {cA : Nat → ClassId} {K : Nat} {x1 : Int32} {u : XU} {r : Int32} {u2 : XU} (h : fX2_collect n K x1 u = some (r, u2)) : vzC l D (XT cA) (XW a n cA) yX2_collect wsX2_collect rmX2_collect [.ref (a 0), .int x1] u r u2 := vzC.of (by decide) rfl (Nat.le_of_ble_eq_true rfl) (fun p e s m below meth c A ls X hP hD hl => lbX2_collect_e X x1 u s.heap [] ls r u2 h hP hD va_S.rf hl)
abbrev rmX2_makeRoom : Room := { frames := 3, cells := 0, slots := 0, locals := 71 }
theorem in_X2_makeRoom_X2 : ∀ w ∈ u_ws RX2 TX2 4, w ∈ wsX2_makeRoom := fun _ h => List.mem_cons_of_mem _ (List.mem_append_left _ (List.mem_append_right _ h))
theorem in_X2_makeRoom_X1 : ∀ w ∈ u_ws RX1 TX1 11, w ∈ wsX2_makeRoom := fun _ h => List.mem_cons_of_mem _ (List.mem_append_right _ h)
def fX2_makeRoom_4 (n : Nat → Nat) (K : Nat) : Nat → Int32 → Int32 → XU → Option (Int32 × XU)
  | 0, _, _, _ => none
  | N + 1, x1, x2, u => if (zI 100) ≤ x2 then (some (zI 1, u)) else ((fX1_hasRoom n K (xu_opn u) u).bind fun z2 => (if z2.1 = 0 then ((fX1_countFree n K z2.2).bind fun z5 => (if (zI 2) ≤ z5.1 then ((fX1_leastWornFree n K z5.2).bind fun z8 => (fX2_makeRoom_4 n K N x1 (x2 + (zI 1)) (xu_s_opn z8.2 z8.1))) else ((fX1_leastWornFree n K z5.2).bind fun z11 => (if x1 = 0 then ((fX1_wearGap n K (xu_s_opn z11.2 z11.1)).bind fun z21 => (if z21.1 ≤ (xu_spr z21.2) then ((fX1_victim n K (zI 0) z21.2).bind fun z26 => ((fX2_collect n K z26.1 z26.2).bind fun z28 => (if z28.1 = 0 then (some (zI 0, z28.2)) else (fX2_makeRoom_4 n K N (zI 0) (x2 + (zI 1)) z28.2)))) else ((fX1_victim n K (zI 1) z21.2).bind fun z33 => ((fX2_collect n K z33.1 z33.2).bind fun z35 => (if z35.1 = 0 then (some (zI 0, z35.2)) else (fX2_makeRoom_4 n K N (zI 1) (x2 + (zI 1)) z35.2)))))) else ((fX1_victim n K (zI 0) (xu_s_opn z11.2 z11.1)).bind fun z16 => ((fX2_collect n K z16.1 z16.2).bind fun z18 => (if z18.1 = 0 then (some (zI 0, z18.2)) else (fX2_makeRoom_4 n K N (zI 1) (x2 + (zI 1)) z18.2)))))))) else (some (zI 1, z2.2))))
def fX2_makeRoom (n : Nat → Nat) (K : Nat) (u : XU) : Option (Int32 × XU) := fX2_makeRoom_4 n K K (zI 0) (zI 0) u
section
variable {p : Program} {l : Launch} {e : Env} {s : State} {m : MethodId} {args : Array Value} {below : List Frame} {meth : Method} {c : Code} {D : va_G} {a n : Nat → Nat} {cA : Nat → ClassId} {A : Nat → Prop}
set_option maxHeartbeats 4000000 in
set_option maxRecDepth 100000 in
theorem lbX2_makeRoom_4 {K : Nat} (X : vzX D (XT cA) A wsX2_makeRoom cX2_makeRoom 5 (some .boolean) RX2 p s m args meth c) : ∀ (N : Nat) (x1 x2 : Int32) (u : XU) (H : Heap) (locs : List Loc) (ls : Array Slot) (r : Int32) (u2 : XU), fX2_makeRoom_4 n K N x1 x2 u = some (r, u2) → va_P D vwCl (XW a n cA u) H → va_D A (XW a n cA u) → va_S A s.heap H locs → lv_has ls 5 [(0, .ref (a 0)), (1, .int x1), (2, .int x2)] → W p l e (headSpec wsX2_makeRoom rmX2_makeRoom).room s m args below meth c H locs 0 0 (MQ below (vzQ D (XT cA) (XW a n cA) A r u2) args s 0 0 A) (F0 m 4 ls []) := by
  obtain ⟨hx, hb, hr, hml, hown, hts, hlk, hN, hK, hA⟩ := id X
  intro N
  induction N with
  | zero =>
    intro x1 x2 u H locs ls r u2 hf
    cases hf
  | succ N ih =>
    intro x1 x2 u H locs ls r u2 hf hP hD hS hl
    rw [fX2_makeRoom_4] at hf
    refine lv_iload_n hx hb dX2_makeRoom_4 rfl (lv_at hl 2 rfl) ?_
    refine lv_bipush (v := zI 100) hx hb dX2_makeRoom_5 (by decide) ?_
    refine lv_icmp_ge (tgt := 120) hx hb dX2_makeRoom_7 (by decide) (fun c1 => ?_) (fun c1 => ?_)
    · have hf := ift c1 hf
      refine lv_iconst (v := zI 1) hx hb dX2_makeRoom_120 (by decide) ?_
      cases hf
      exact vz_zret X rfl hP hD hS dX2_makeRoom_121
    · have hf := iff_ c1 hf
      refine lv_aload_n hx hb dX2_makeRoom_10 rfl (lv_at hl 0 rfl) ?_
      refine va_get (D := D) (ci := 2) (v := .ref (a 1)) (C := RX2) (T := TX2) (N := 4) hx hb hts in_X2_makeRoom_X2 hown hK hP 0 rfl rfl 0 (by decide) (hts _ (List.mem_of_getElem? (i := 1) rfl)) (fun _ h9 => h9) rfl dX2_makeRoom_11 ?_
      refine lv_aload_n hx hb dX2_makeRoom_14 rfl (lv_at hl 0 rfl) ?_
      refine va_get (D := D) (ci := 2) (v := .int (xu_opn u)) (C := RX2) (T := TX2) (N := 4) hx hb hts in_X2_makeRoom_X2 hown hK hP 0 rfl rfl 3 (by decide) (hts _ (List.mem_of_getElem? (i := 2) rfl)) (fun _ h9 => h9) rfl dX2_makeRoom_15 ?_
      obtain ⟨z2, hz3, hf⟩ := bd hf
      refine vz_call (rest := []) X (kX1_hasRoom hz3) (cwV 1 hts gX2_makeRoom_X1_hasRoom rfl rfl rfl (by decide +kernel) ⟨Nat.le_of_ble_eq_true rfl, Nat.le_of_ble_eq_true rfl⟩) 1 1 rfl rfl rfl hl.1 rfl (Nat.le_of_ble_eq_true rfl) dX2_makeRoom_18 ⟨Nat.zero_le _, Nat.zero_le _⟩ hP hD hS (fun H locs hP hD hS => ?_)
      refine lv_if_ne (tgt := 120) hx hb dX2_makeRoom_21 (by decide) (fun c4 => ?_) (fun c4 => ?_)
      · have hf := iff_ c4 hf
        refine lv_iconst (v := zI 1) hx hb dX2_makeRoom_120 (by decide) ?_
        cases hf
        exact vz_zret X rfl hP hD hS dX2_makeRoom_121
      · have hf := ift c4 hf
        refine lv_aload_n hx hb dX2_makeRoom_24 rfl (lv_at hl 0 rfl) ?_
        refine va_get (D := D) (ci := 2) (v := .ref (a 1)) (C := RX2) (T := TX2) (N := 4) hx hb hts in_X2_makeRoom_X2 hown hK hP 0 rfl rfl 0 (by decide) (hts _ (List.mem_of_getElem? (i := 1) rfl)) (fun _ h9 => h9) rfl dX2_makeRoom_25 ?_
        obtain ⟨z5, hz6, hf⟩ := bd hf
        refine vz_call (rest := []) X (kX1_countFree hz6) (cwV 0 hts gX2_makeRoom_X1_countFree rfl rfl rfl (by decide +kernel) ⟨Nat.le_of_ble_eq_true rfl, Nat.le_of_ble_eq_true rfl⟩) 1 1 rfl rfl rfl hl.1 rfl (Nat.le_of_ble_eq_true rfl) dX2_makeRoom_28 ⟨Nat.zero_le _, Nat.zero_le _⟩ hP hD hS (fun H locs hP hD hS => ?_)
        refine lv_iconst (v := zI 2) hx hb dX2_makeRoom_31 (by decide) ?_
        refine lv_icmp_ge (tgt := 39) hx hb dX2_makeRoom_32 (by decide) (fun c7 => ?_) (fun c7 => ?_)
        · have hf := ift c7 hf
          refine lv_iconst (v := zI 0) hx hb dX2_makeRoom_39 (by decide) ?_
          refine lv_istore_n (lv' := [(3, .int (zI 0)), (0, .ref (a 0)), (1, .int x1), (2, .int x2)]) hx hb dX2_makeRoom_40 rfl hl (by decide) rfl (fun ls hl => ?_)
          refine lv_aload_n hx hb dX2_makeRoom_41 rfl (lv_at hl 1 rfl) ?_
          refine lv_aload_n hx hb dX2_makeRoom_42 rfl (lv_at hl 1 rfl) ?_
          refine va_get (D := D) (ci := 2) (v := .ref (a 1)) (C := RX2) (T := TX2) (N := 4) hx hb hts in_X2_makeRoom_X2 hown hK hP 0 rfl rfl 0 (by decide) (hts _ (List.mem_of_getElem? (i := 1) rfl)) (fun _ h9 => h9) rfl dX2_makeRoom_43 ?_
          obtain ⟨z8, hz9, hf⟩ := bd hf
          refine vz_call (rest := [.ref (a 0)]) X (kX1_leastWornFree hz9) (cwV 0 hts gX2_makeRoom_X1_leastWornFree rfl rfl rfl (by decide +kernel) ⟨Nat.le_of_ble_eq_true rfl, Nat.le_of_ble_eq_true rfl⟩) 1 1 rfl rfl rfl hl.1 rfl (Nat.le_of_ble_eq_true rfl) dX2_makeRoom_46 ⟨Nat.zero_le _, Nat.zero_le _⟩ hP hD hS (fun H locs hP hD hS => ?_)
          refine va_put (D := D) (ci := 2) (v := .int z8.1) (ty := .int) (C := RX2) (T := TX2) (N := 4) hx hb hts in_X2_makeRoom_X2 tyX2 tyX2_ok nmX2 hown hK hP hD hS 0 rfl rfl 3 (by decide) (hts _ (List.mem_of_getElem? (i := 2) rfl)) (fun _ h9 => h9) rfl (by decide +kernel) rfl rfl (Nat.le_of_ble_eq_true rfl) dX2_makeRoom_49 (fun H locs hP hD hS => ?_)
          have hP : va_P D vwCl (XW a n cA (xu_s_opn z8.2 z8.1)) H := hP
          have hD : va_D A (XW a n cA (xu_s_opn z8.2 z8.1)) := hD
          refine lv_iload_n hx hb dX2_makeRoom_52 rfl (lv_at hl 0 rfl) ?_
          refine lv_if_eq (tgt := 114) hx hb dX2_makeRoom_53 (by decide) (fun c10 => ?_) (fun c10 => absurd (by decide) c10)
          refine lv_iinc (v := x2 + (zI 1)) (lv' := [(2, .int (x2 + (zI 1))), (3, .int (zI 0)), (0, .ref (a 0)), (1, .int x1)]) hx hb dX2_makeRoom_114 hl (k := 3) rfl rfl (by decide) rfl (fun ls hl => ?_)
          refine lv_goto (tgt := 4) hx hb dX2_makeRoom_117 (by decide) ?_
          exact ih x1 (x2 + (zI 1)) (xu_s_opn z8.2 z8.1) _ _ _ _ _ hf hP hD hS (lv_sub hl [2, 3, 0] rfl)
        · have hf := iff_ c7 hf
          refine lv_iconst (v := zI 1) hx hb dX2_makeRoom_35 (by decide) ?_
          refine lv_goto (tgt := 40) hx hb dX2_makeRoom_36 (by decide) ?_
          refine lv_istore_n (lv' := [(3, .int (zI 1)), (0, .ref (a 0)), (1, .int x1), (2, .int x2)]) hx hb dX2_makeRoom_40 rfl hl (by decide) rfl (fun ls hl => ?_)
          refine lv_aload_n hx hb dX2_makeRoom_41 rfl (lv_at hl 1 rfl) ?_
          refine lv_aload_n hx hb dX2_makeRoom_42 rfl (lv_at hl 1 rfl) ?_
          refine va_get (D := D) (ci := 2) (v := .ref (a 1)) (C := RX2) (T := TX2) (N := 4) hx hb hts in_X2_makeRoom_X2 hown hK hP 0 rfl rfl 0 (by decide) (hts _ (List.mem_of_getElem? (i := 1) rfl)) (fun _ h9 => h9) rfl dX2_makeRoom_43 ?_
          obtain ⟨z11, hz12, hf⟩ := bd hf
          refine vz_call (rest := [.ref (a 0)]) X (kX1_leastWornFree hz12) (cwV 0 hts gX2_makeRoom_X1_leastWornFree rfl rfl rfl (by decide +kernel) ⟨Nat.le_of_ble_eq_true rfl, Nat.le_of_ble_eq_true rfl⟩) 1 1 rfl rfl rfl hl.1 rfl (Nat.le_of_ble_eq_true rfl) dX2_makeRoom_46 ⟨Nat.zero_le _, Nat.zero_le _⟩ hP hD hS (fun H locs hP hD hS => ?_)
          refine va_put (D := D) (ci := 2) (v := .int z11.1) (ty := .int) (C := RX2) (T := TX2) (N := 4) hx hb hts in_X2_makeRoom_X2 tyX2 tyX2_ok nmX2 hown hK hP hD hS 0 rfl rfl 3 (by decide) (hts _ (List.mem_of_getElem? (i := 2) rfl)) (fun _ h9 => h9) rfl (by decide +kernel) rfl rfl (Nat.le_of_ble_eq_true rfl) dX2_makeRoom_49 (fun H locs hP hD hS => ?_)
          have hP : va_P D vwCl (XW a n cA (xu_s_opn z11.2 z11.1)) H := hP
          have hD : va_D A (XW a n cA (xu_s_opn z11.2 z11.1)) := hD
          refine lv_iload_n hx hb dX2_makeRoom_52 rfl (lv_at hl 0 rfl) ?_
          refine lv_if_eq (tgt := 114) hx hb dX2_makeRoom_53 (by decide) (fun c13 => absurd c13 (by decide)) (fun c13 => ?_)
          refine lv_iload_n hx hb dX2_makeRoom_56 rfl (lv_at hl 2 rfl) ?_
          refine lv_if_ne (tgt := 78) hx hb dX2_makeRoom_57 (by decide) (fun c14 => ?_) (fun c14 => ?_)
          · have hf := iff_ c14 hf
            refine lv_iconst (v := zI 0) hx hb dX2_makeRoom_78 (by decide) ?_
            refine lv_istore (lv' := [(4, .int (zI 0)), (3, .int (zI 1)), (0, .ref (a 0)), (1, .int x1), (2, .int x2)]) hx hb dX2_makeRoom_79 hl (by decide) rfl (fun ls hl => ?_)
            refine lv_iload_n hx hb dX2_makeRoom_81 rfl (lv_at hl 3 rfl) ?_
            refine lv_if_ne (tgt := 90) hx hb dX2_makeRoom_82 (by decide) (fun c15 => ?_) (fun c15 => absurd c15 c14)
            refine lv_iconst (v := zI 1) hx hb dX2_makeRoom_90 (by decide) ?_
            refine lv_goto (tgt := 95) hx hb dX2_makeRoom_91 (by decide) ?_
            refine lv_istore_n (lv' := [(1, .int (zI 1)), (4, .int (zI 0)), (3, .int (zI 1)), (0, .ref (a 0)), (2, .int x2)]) hx hb dX2_makeRoom_95 rfl hl (by decide) rfl (fun ls hl => ?_)
            refine lv_aload_n hx hb dX2_makeRoom_96 rfl (lv_at hl 3 rfl) ?_
            refine lv_aload_n hx hb dX2_makeRoom_97 rfl (lv_at hl 3 rfl) ?_
            refine va_get (D := D) (ci := 2) (v := .ref (a 1)) (C := RX2) (T := TX2) (N := 4) hx hb hts in_X2_makeRoom_X2 hown hK hP 0 rfl rfl 0 (by decide) (hts _ (List.mem_of_getElem? (i := 1) rfl)) (fun _ h9 => h9) rfl dX2_makeRoom_98 ?_
            refine lv_iload hx hb dX2_makeRoom_101 (lv_at hl 1 rfl) ?_
            obtain ⟨z16, hz17, hf⟩ := bd hf
            refine vz_call (rest := [.ref (a 0)]) X (kX1_victim hz17) (cwV 1 hts gX2_makeRoom_X1_victim rfl rfl rfl (by decide +kernel) ⟨Nat.le_of_ble_eq_true rfl, Nat.le_of_ble_eq_true rfl⟩) 1 1 rfl rfl rfl hl.1 rfl (Nat.le_of_ble_eq_true rfl) dX2_makeRoom_103 ⟨Nat.zero_le _, Nat.zero_le _⟩ hP hD hS (fun H locs hP hD hS => ?_)
            obtain ⟨z18, hz19, hf⟩ := bd hf
            refine vz_call (rest := []) X (kX2_collect hz19) (cwV 1 hts gX2_makeRoom_X2_collect rfl rfl rfl (by decide +kernel) ⟨Nat.le_of_ble_eq_true rfl, Nat.le_of_ble_eq_true rfl⟩) 0 2 rfl rfl rfl hl.1 rfl (Nat.le_of_ble_eq_true rfl) dX2_makeRoom_106 ⟨Nat.zero_le _, Nat.zero_le _⟩ hP hD hS (fun H locs hP hD hS => ?_)
            refine lv_if_ne (tgt := 114) hx hb dX2_makeRoom_109 (by decide) (fun c20 => ?_) (fun c20 => ?_)
            · have hf := iff_ c20 hf
              refine lv_iinc (v := x2 + (zI 1)) (lv' := [(2, .int (x2 + (zI 1))), (1, .int (zI 1)), (4, .int (zI 0)), (3, .int (zI 1)), (0, .ref (a 0))]) hx hb dX2_makeRoom_114 hl (k := 4) rfl rfl (by decide) rfl (fun ls hl => ?_)
              refine lv_goto (tgt := 4) hx hb dX2_makeRoom_117 (by decide) ?_
              exact ih (zI 1) (x2 + (zI 1)) z18.2 _ _ _ _ _ hf hP hD hS (lv_sub hl [4, 1, 0] rfl)
            · have hf := ift c20 hf
              refine lv_iconst (v := zI 0) hx hb dX2_makeRoom_112 (by decide) ?_
              cases hf
              exact vz_zret X rfl hP hD hS dX2_makeRoom_113
          · have hf := ift c14 hf
            refine lv_aload_n hx hb dX2_makeRoom_60 rfl (lv_at hl 1 rfl) ?_
            refine va_get (D := D) (ci := 2) (v := .ref (a 1)) (C := RX2) (T := TX2) (N := 4) hx hb hts in_X2_makeRoom_X2 hown hK hP 0 rfl rfl 0 (by decide) (hts _ (List.mem_of_getElem? (i := 1) rfl)) (fun _ h9 => h9) rfl dX2_makeRoom_61 ?_
            obtain ⟨z21, hz22, hf⟩ := bd hf
            refine vz_call (rest := []) X (kX1_wearGap hz22) (cwV 0 hts gX2_makeRoom_X1_wearGap rfl rfl rfl (by decide +kernel) ⟨Nat.le_of_ble_eq_true rfl, Nat.le_of_ble_eq_true rfl⟩) 1 1 rfl rfl rfl hl.1 rfl (Nat.le_of_ble_eq_true rfl) dX2_makeRoom_64 ⟨Nat.zero_le _, Nat.zero_le _⟩ hP hD hS (fun H locs hP hD hS => ?_)
            refine lv_aload_n hx hb dX2_makeRoom_67 rfl (lv_at hl 1 rfl) ?_
            refine va_get (D := D) (ci := 2) (v := .int (xu_spr z21.2)) (C := RX2) (T := TX2) (N := 4) hx hb hts in_X2_makeRoom_X2 hown hK hP 0 rfl rfl 2 (by decide) (hts _ (List.mem_of_getElem? (i := 3) rfl)) (fun _ h9 => h9) rfl dX2_makeRoom_68 ?_
            refine lv_icmp_le (tgt := 78) hx hb dX2_makeRoom_71 (by decide) (fun c23 => ?_) (fun c23 => ?_)
            · have hf := ift c23 hf
              refine lv_iconst (v := zI 0) hx hb dX2_makeRoom_78 (by decide) ?_
              refine lv_istore (lv' := [(4, .int (zI 0)), (3, .int (zI 1)), (0, .ref (a 0)), (1, .int x1), (2, .int x2)]) hx hb dX2_makeRoom_79 hl (by decide) rfl (fun ls hl => ?_)
              refine lv_iload_n hx hb dX2_makeRoom_81 rfl (lv_at hl 3 rfl) ?_
              refine lv_if_ne (tgt := 90) hx hb dX2_makeRoom_82 (by decide) (fun c24 => absurd c14 c24) (fun c24 => ?_)
              refine lv_iload hx hb dX2_makeRoom_85 (lv_at hl 0 rfl) ?_
              refine lv_if_eq (tgt := 94) hx hb dX2_makeRoom_87 (by decide) (fun c25 => ?_) (fun c25 => absurd (by decide) c25)
              refine lv_iconst (v := zI 0) hx hb dX2_makeRoom_94 (by decide) ?_
              refine lv_istore_n (lv' := [(1, .int (zI 0)), (4, .int (zI 0)), (3, .int (zI 1)), (0, .ref (a 0)), (2, .int x2)]) hx hb dX2_makeRoom_95 rfl hl (by decide) rfl (fun ls hl => ?_)
              refine lv_aload_n hx hb dX2_makeRoom_96 rfl (lv_at hl 3 rfl) ?_
              refine lv_aload_n hx hb dX2_makeRoom_97 rfl (lv_at hl 3 rfl) ?_
              refine va_get (D := D) (ci := 2) (v := .ref (a 1)) (C := RX2) (T := TX2) (N := 4) hx hb hts in_X2_makeRoom_X2 hown hK hP 0 rfl rfl 0 (by decide) (hts _ (List.mem_of_getElem? (i := 1) rfl)) (fun _ h9 => h9) rfl dX2_makeRoom_98 ?_
              refine lv_iload hx hb dX2_makeRoom_101 (lv_at hl 1 rfl) ?_
              obtain ⟨z26, hz27, hf⟩ := bd hf
              refine vz_call (rest := [.ref (a 0)]) X (kX1_victim hz27) (cwV 1 hts gX2_makeRoom_X1_victim rfl rfl rfl (by decide +kernel) ⟨Nat.le_of_ble_eq_true rfl, Nat.le_of_ble_eq_true rfl⟩) 1 1 rfl rfl rfl hl.1 rfl (Nat.le_of_ble_eq_true rfl) dX2_makeRoom_103 ⟨Nat.zero_le _, Nat.zero_le _⟩ hP hD hS (fun H locs hP hD hS => ?_)
              obtain ⟨z28, hz29, hf⟩ := bd hf
              refine vz_call (rest := []) X (kX2_collect hz29) (cwV 1 hts gX2_makeRoom_X2_collect rfl rfl rfl (by decide +kernel) ⟨Nat.le_of_ble_eq_true rfl, Nat.le_of_ble_eq_true rfl⟩) 0 2 rfl rfl rfl hl.1 rfl (Nat.le_of_ble_eq_true rfl) dX2_makeRoom_106 ⟨Nat.zero_le _, Nat.zero_le _⟩ hP hD hS (fun H locs hP hD hS => ?_)
              refine lv_if_ne (tgt := 114) hx hb dX2_makeRoom_109 (by decide) (fun c30 => ?_) (fun c30 => ?_)
              · have hf := iff_ c30 hf
                refine lv_iinc (v := x2 + (zI 1)) (lv' := [(2, .int (x2 + (zI 1))), (1, .int (zI 0)), (4, .int (zI 0)), (3, .int (zI 1)), (0, .ref (a 0))]) hx hb dX2_makeRoom_114 hl (k := 4) rfl rfl (by decide) rfl (fun ls hl => ?_)
                refine lv_goto (tgt := 4) hx hb dX2_makeRoom_117 (by decide) ?_
                exact ih (zI 0) (x2 + (zI 1)) z28.2 _ _ _ _ _ hf hP hD hS (lv_sub hl [4, 1, 0] rfl)
              · have hf := ift c30 hf
                refine lv_iconst (v := zI 0) hx hb dX2_makeRoom_112 (by decide) ?_
                cases hf
                exact vz_zret X rfl hP hD hS dX2_makeRoom_113
            · have hf := iff_ c23 hf
              refine lv_iconst (v := zI 1) hx hb dX2_makeRoom_74 (by decide) ?_
              refine lv_goto (tgt := 79) hx hb dX2_makeRoom_75 (by decide) ?_
              refine lv_istore (lv' := [(4, .int (zI 1)), (3, .int (zI 1)), (0, .ref (a 0)), (1, .int x1), (2, .int x2)]) hx hb dX2_makeRoom_79 hl (by decide) rfl (fun ls hl => ?_)
              refine lv_iload_n hx hb dX2_makeRoom_81 rfl (lv_at hl 3 rfl) ?_
              refine lv_if_ne (tgt := 90) hx hb dX2_makeRoom_82 (by decide) (fun c31 => absurd c14 c31) (fun c31 => ?_)
              refine lv_iload hx hb dX2_makeRoom_85 (lv_at hl 0 rfl) ?_
              refine lv_if_eq (tgt := 94) hx hb dX2_makeRoom_87 (by decide) (fun c32 => absurd c32 (by decide)) (fun c32 => ?_)
              refine lv_iconst (v := zI 1) hx hb dX2_makeRoom_90 (by decide) ?_
              refine lv_goto (tgt := 95) hx hb dX2_makeRoom_91 (by decide) ?_
              refine lv_istore_n (lv' := [(1, .int (zI 1)), (4, .int (zI 1)), (3, .int (zI 1)), (0, .ref (a 0)), (2, .int x2)]) hx hb dX2_makeRoom_95 rfl hl (by decide) rfl (fun ls hl => ?_)
              refine lv_aload_n hx hb dX2_makeRoom_96 rfl (lv_at hl 3 rfl) ?_
              refine lv_aload_n hx hb dX2_makeRoom_97 rfl (lv_at hl 3 rfl) ?_
              refine va_get (D := D) (ci := 2) (v := .ref (a 1)) (C := RX2) (T := TX2) (N := 4) hx hb hts in_X2_makeRoom_X2 hown hK hP 0 rfl rfl 0 (by decide) (hts _ (List.mem_of_getElem? (i := 1) rfl)) (fun _ h9 => h9) rfl dX2_makeRoom_98 ?_
              refine lv_iload hx hb dX2_makeRoom_101 (lv_at hl 1 rfl) ?_
              obtain ⟨z33, hz34, hf⟩ := bd hf
              refine vz_call (rest := [.ref (a 0)]) X (kX1_victim hz34) (cwV 1 hts gX2_makeRoom_X1_victim rfl rfl rfl (by decide +kernel) ⟨Nat.le_of_ble_eq_true rfl, Nat.le_of_ble_eq_true rfl⟩) 1 1 rfl rfl rfl hl.1 rfl (Nat.le_of_ble_eq_true rfl) dX2_makeRoom_103 ⟨Nat.zero_le _, Nat.zero_le _⟩ hP hD hS (fun H locs hP hD hS => ?_)
              obtain ⟨z35, hz36, hf⟩ := bd hf
              refine vz_call (rest := []) X (kX2_collect hz36) (cwV 1 hts gX2_makeRoom_X2_collect rfl rfl rfl (by decide +kernel) ⟨Nat.le_of_ble_eq_true rfl, Nat.le_of_ble_eq_true rfl⟩) 0 2 rfl rfl rfl hl.1 rfl (Nat.le_of_ble_eq_true rfl) dX2_makeRoom_106 ⟨Nat.zero_le _, Nat.zero_le _⟩ hP hD hS (fun H locs hP hD hS => ?_)
              refine lv_if_ne (tgt := 114) hx hb dX2_makeRoom_109 (by decide) (fun c37 => ?_) (fun c37 => ?_)
              · have hf := iff_ c37 hf
                refine lv_iinc (v := x2 + (zI 1)) (lv' := [(2, .int (x2 + (zI 1))), (1, .int (zI 1)), (4, .int (zI 1)), (3, .int (zI 1)), (0, .ref (a 0))]) hx hb dX2_makeRoom_114 hl (k := 4) rfl rfl (by decide) rfl (fun ls hl => ?_)
                refine lv_goto (tgt := 4) hx hb dX2_makeRoom_117 (by decide) ?_
                exact ih (zI 1) (x2 + (zI 1)) z35.2 _ _ _ _ _ hf hP hD hS (lv_sub hl [4, 1, 0] rfl)
              · have hf := ift c37 hf
                refine lv_iconst (v := zI 0) hx hb dX2_makeRoom_112 (by decide) ?_
                cases hf
                exact vz_zret X rfl hP hD hS dX2_makeRoom_113
set_option maxHeartbeats 4000000 in
set_option maxRecDepth 100000 in
theorem lbX2_makeRoom_e {K : Nat} (X : vzX D (XT cA) A wsX2_makeRoom cX2_makeRoom 5 (some .boolean) RX2 p s m args meth c) : ∀ (u : XU) (H : Heap) (locs : List Loc) (ls : Array Slot) (r : Int32) (u2 : XU), fX2_makeRoom n K u = some (r, u2) → va_P D vwCl (XW a n cA u) H → va_D A (XW a n cA u) → va_S A s.heap H locs → lv_has ls 5 [(0, .ref (a 0))] → W p l e (headSpec wsX2_makeRoom rmX2_makeRoom).room s m args below meth c H locs 0 0 (MQ below (vzQ D (XT cA) (XW a n cA) A r u2) args s 0 0 A) (F0 m 0 ls []) := by
  obtain ⟨hx, hb, hr, hml, hown, hts, hlk, hN, hK, hA⟩ := id X
  intro u H locs ls r u2 hf hP hD hS hl
  unfold fX2_makeRoom at hf
  refine lv_iconst (v := zI 0) hx hb dX2_makeRoom_0 (by decide) ?_
  refine lv_istore_n (lv' := [(1, .int (zI 0)), (0, .ref (a 0))]) hx hb dX2_makeRoom_1 rfl hl (by decide) rfl (fun ls hl => ?_)
  refine lv_iconst (v := zI 0) hx hb dX2_makeRoom_2 (by decide) ?_
  refine lv_istore_n (lv' := [(2, .int (zI 0)), (1, .int (zI 0)), (0, .ref (a 0))]) hx hb dX2_makeRoom_3 rfl hl (by decide) rfl (fun ls hl => ?_)
  exact lbX2_makeRoom_4 X K (zI 0) (zI 0) u _ _ _ _ _ hf hP hD hS (lv_sub hl [2, 1, 0] rfl)
end
theorem kX2_makeRoom {l : Launch} {D : va_G} {a n : Nat → Nat} {cA : Nat → ClassId} {K : Nat} {u : XU} {r : Int32} {u2 : XU} (h : fX2_makeRoom n K u = some (r, u2)) : vzC l D (XT cA) (XW a n cA) yX2_makeRoom wsX2_makeRoom rmX2_makeRoom [.ref (a 0)] u r u2 := vzC.of (by decide) rfl (Nat.le_of_ble_eq_true rfl) (fun p e s m below meth c A ls X hP hD hl => lbX2_makeRoom_e X u s.heap [] ls r u2 h hP hD va_S.rf hl)
abbrev rmX2_storeFirst : Room := { frames := 4, cells := 0, slots := 0, locals := 95 }
theorem in_X2_storeFirst_X2 : ∀ w ∈ u_ws RX2 TX2 4, w ∈ wsX2_storeFirst := fun _ h => List.mem_cons_of_mem _ (List.mem_append_left _ (List.mem_append_left _ (List.mem_append_right _ h)))
theorem in_X2_storeFirst_X0 : ∀ w ∈ u_ws RX0 TX0 4, w ∈ wsX2_storeFirst := fun _ h => List.mem_cons_of_mem _ (List.mem_append_left _ (List.mem_append_right _ h))
theorem in_X2_storeFirst_X1 : ∀ w ∈ u_ws RX1 TX1 11, w ∈ wsX2_storeFirst := fun _ h => List.mem_cons_of_mem _ (List.mem_append_right _ h)
def fX2_storeFirst (n : Nat → Nat) (K : Nat) (u : XU) : Option (Int32 × XU) := (fX2_makeRoom n K u).bind fun z1 => (if z1.1 = 0 then (some (zI 0, z1.2)) else (vg (zI 0) (n 10) (vg (zI 0) (n 11) (vg (zI 0) (n 12) ((fX1_program n K (xu_opn z1.2) ((xu_bse z1.2) ((zI 0)).toNatClampNeg) ((xu_bva z1.2) ((zI 0)).toNatClampNeg) ((xu_bki z1.2) ((zI 0)).toNatClampNeg) z1.2).bind fun z7 => (if z7.1 = 0 then (some (zI 0, z7.2)) else ((fX0_dropFirst n K z7.2).bind fun z10 => (some (zI 1, z10)))))))))
section
variable {p : Program} {l : Launch} {e : Env} {s : State} {m : MethodId} {args : Array Value} {below : List Frame} {meth : Method} {c : Code} {D : va_G} {a n : Nat → Nat} {cA : Nat → ClassId} {A : Nat → Prop}
set_option maxHeartbeats 4000000 in
set_option maxRecDepth 100000 in
theorem lbX2_storeFirst_e {K : Nat} (X : vzX D (XT cA) A wsX2_storeFirst cX2_storeFirst 1 (some .boolean) RX2 p s m args meth c) : ∀ (u : XU) (H : Heap) (locs : List Loc) (ls : Array Slot) (r : Int32) (u2 : XU), fX2_storeFirst n K u = some (r, u2) → va_P D vwCl (XW a n cA u) H → va_D A (XW a n cA u) → va_S A s.heap H locs → lv_has ls 1 [(0, .ref (a 0))] → W p l e (headSpec wsX2_storeFirst rmX2_storeFirst).room s m args below meth c H locs 0 0 (MQ below (vzQ D (XT cA) (XW a n cA) A r u2) args s 0 0 A) (F0 m 0 ls []) := by
  obtain ⟨hx, hb, hr, hml, hown, hts, hlk, hN, hK, hA⟩ := id X
  intro u H locs ls r u2 hf hP hD hS hl
  unfold fX2_storeFirst at hf
  refine lv_aload_n hx hb dX2_storeFirst_0 rfl (lv_at hl 0 rfl) ?_
  obtain ⟨z1, hz2, hf⟩ := bd hf
  refine vz_call (rest := []) X (kX2_makeRoom hz2) (cwV 0 hts gX2_storeFirst_X2_makeRoom rfl rfl rfl (by decide +kernel) ⟨Nat.le_of_ble_eq_true rfl, Nat.le_of_ble_eq_true rfl⟩) 0 2 rfl rfl rfl hl.1 rfl (Nat.le_of_ble_eq_true rfl) dX2_storeFirst_1 ⟨Nat.zero_le _, Nat.zero_le _⟩ hP hD hS (fun H locs hP hD hS => ?_)
  refine lv_if_ne (tgt := 9) hx hb dX2_storeFirst_4 (by decide) (fun c3 => ?_) (fun c3 => ?_)
  · have hf := iff_ c3 hf
    refine lv_aload_n hx hb dX2_storeFirst_9 rfl (lv_at hl 0 rfl) ?_
    refine va_get (D := D) (ci := 2) (v := .ref (a 1)) (C := RX2) (T := TX2) (N := 4) hx hb hts in_X2_storeFirst_X2 hown hK hP 0 rfl rfl 0 (by decide) (hts _ (List.mem_of_getElem? (i := 1) rfl)) (fun _ h9 => h9) rfl dX2_storeFirst_10 ?_
    refine lv_aload_n hx hb dX2_storeFirst_13 rfl (lv_at hl 0 rfl) ?_
    refine va_get (D := D) (ci := 2) (v := .int (xu_opn z1.2)) (C := RX2) (T := TX2) (N := 4) hx hb hts in_X2_storeFirst_X2 hown hK hP 0 rfl rfl 3 (by decide) (hts _ (List.mem_of_getElem? (i := 2) rfl)) (fun _ h9 => h9) rfl dX2_storeFirst_14 ?_
    refine lv_aload_n hx hb dX2_storeFirst_17 rfl (lv_at hl 0 rfl) ?_
    refine va_get (D := D) (ci := 2) (v := .ref (a 2)) (C := RX2) (T := TX2) (N := 4) hx hb hts in_X2_storeFirst_X2 hown hK hP 0 rfl rfl 1 (by decide) (hts _ (List.mem_of_getElem? (i := 3) rfl)) (fun _ h9 => h9) rfl dX2_storeFirst_18 ?_
    refine va_getN (D := D) (ci := 0) (v := .ref (a 10)) (C := RX0) (T := TX0) (N := 4) hx hb hts in_X2_storeFirst_X0 hown hK hP 2 rfl rfl 0 (by decide) (hN.at 9 rfl) (fun _ h9 => h9) rfl dX2_storeFirst_21 ?_
    refine lv_iconst (v := zI 0) hx hb dX2_storeFirst_24 (by decide) ?_
    obtain ⟨g4, hf⟩ := vgs hf
    refine va_iald hx hb hK hP 10 7 rfl rfl g4 dX2_storeFirst_25 ?_
    refine lv_aload_n hx hb dX2_storeFirst_26 rfl (lv_at hl 0 rfl) ?_
    refine va_get (D := D) (ci := 2) (v := .ref (a 2)) (C := RX2) (T := TX2) (N := 4) hx hb hts in_X2_storeFirst_X2 hown hK hP 0 rfl rfl 1 (by decide) (hts _ (List.mem_of_getElem? (i := 3) rfl)) (fun _ h9 => h9) rfl dX2_storeFirst_27 ?_
    refine va_getN (D := D) (ci := 0) (v := .ref (a 11)) (C := RX0) (T := TX0) (N := 4) hx hb hts in_X2_storeFirst_X0 hown hK hP 2 rfl rfl 1 (by decide) (hN.at 10 rfl) (fun _ h9 => h9) rfl dX2_storeFirst_30 ?_
    refine lv_iconst (v := zI 0) hx hb dX2_storeFirst_33 (by decide) ?_
    obtain ⟨g5, hf⟩ := vgs hf
    refine va_iald hx hb hK hP 11 8 rfl rfl g5 dX2_storeFirst_34 ?_
    refine lv_aload_n hx hb dX2_storeFirst_35 rfl (lv_at hl 0 rfl) ?_
    refine va_get (D := D) (ci := 2) (v := .ref (a 2)) (C := RX2) (T := TX2) (N := 4) hx hb hts in_X2_storeFirst_X2 hown hK hP 0 rfl rfl 1 (by decide) (hts _ (List.mem_of_getElem? (i := 3) rfl)) (fun _ h9 => h9) rfl dX2_storeFirst_36 ?_
    refine va_getN (D := D) (ci := 0) (v := .ref (a 12)) (C := RX0) (T := TX0) (N := 4) hx hb hts in_X2_storeFirst_X0 hown hK hP 2 rfl rfl 2 (by decide) (hN.at 11 rfl) (fun _ h9 => h9) rfl dX2_storeFirst_39 ?_
    refine lv_iconst (v := zI 0) hx hb dX2_storeFirst_42 (by decide) ?_
    obtain ⟨g6, hf⟩ := vgs hf
    refine va_iald hx hb hK hP 12 9 rfl rfl g6 dX2_storeFirst_43 ?_
    obtain ⟨z7, hz8, hf⟩ := bd hf
    refine vz_call (rest := []) X (kX1_program hz8) (cwV 4 hts gX2_storeFirst_X1_program rfl rfl rfl (by decide +kernel) ⟨Nat.le_of_ble_eq_true rfl, Nat.le_of_ble_eq_true rfl⟩) 1 1 rfl rfl rfl hl.1 rfl (Nat.le_of_ble_eq_true rfl) dX2_storeFirst_44 ⟨Nat.zero_le _, Nat.zero_le _⟩ hP hD hS (fun H locs hP hD hS => ?_)
    refine lv_if_ne (tgt := 52) hx hb dX2_storeFirst_47 (by decide) (fun c9 => ?_) (fun c9 => ?_)
    · have hf := iff_ c9 hf
      refine lv_aload_n hx hb dX2_storeFirst_52 rfl (lv_at hl 0 rfl) ?_
      refine va_get (D := D) (ci := 2) (v := .ref (a 2)) (C := RX2) (T := TX2) (N := 4) hx hb hts in_X2_storeFirst_X2 hown hK hP 0 rfl rfl 1 (by decide) (hts _ (List.mem_of_getElem? (i := 3) rfl)) (fun _ h9 => h9) rfl dX2_storeFirst_53 ?_
      obtain ⟨z10, hz11, hf⟩ := bd hf
      refine vz_callv (rest := []) X (kX0_dropFirst hz11) (cwV 0 hts gX2_storeFirst_X0_dropFirst rfl rfl rfl (by decide +kernel) ⟨Nat.le_of_ble_eq_true rfl, Nat.le_of_ble_eq_true rfl⟩) 2 0 rfl rfl rfl hl.1 rfl (Nat.le_of_ble_eq_true rfl) dX2_storeFirst_56 ⟨Nat.zero_le _, Nat.zero_le _⟩ hP hD hS (fun H locs hP hD hS => ?_)
      refine lv_iconst (v := zI 1) hx hb dX2_storeFirst_59 (by decide) ?_
      cases hf
      exact vz_zret X rfl hP hD hS dX2_storeFirst_60
    · have hf := ift c9 hf
      refine lv_iconst (v := zI 0) hx hb dX2_storeFirst_50 (by decide) ?_
      cases hf
      exact vz_zret X rfl hP hD hS dX2_storeFirst_51
  · have hf := ift c3 hf
    refine lv_iconst (v := zI 0) hx hb dX2_storeFirst_7 (by decide) ?_
    cases hf
    exact vz_zret X rfl hP hD hS dX2_storeFirst_8
end
theorem kX2_storeFirst {l : Launch} {D : va_G} {a n : Nat → Nat} {cA : Nat → ClassId} {K : Nat} {u : XU} {r : Int32} {u2 : XU} (h : fX2_storeFirst n K u = some (r, u2)) : vzC l D (XT cA) (XW a n cA) yX2_storeFirst wsX2_storeFirst rmX2_storeFirst [.ref (a 0)] u r u2 := vzC.of (by decide) rfl (Nat.le_of_ble_eq_true rfl) (fun p e s m below meth c A ls X hP hD hl => lbX2_storeFirst_e X u s.heap [] ls r u2 h hP hD va_S.rf hl)
end
section
abbrev rmX2_startAgain : Room := { frames := 3, cells := 0, slots := 0, locals := 71 }
theorem in_X2_startAgain_X2 : ∀ w ∈ u_ws RX2 TX2 4, w ∈ wsX2_startAgain := fun _ h => List.mem_cons_of_mem _ (List.mem_append_left _ (List.mem_append_left _ (List.mem_append_right _ h)))
theorem in_X2_startAgain_X0 : ∀ w ∈ u_ws RX0 TX0 4, w ∈ wsX2_startAgain := fun _ h => List.mem_cons_of_mem _ (List.mem_append_left _ (List.mem_append_right _ h))
theorem in_X2_startAgain_X1 : ∀ w ∈ u_ws RX1 TX1 11, w ∈ wsX2_startAgain := fun _ h => List.mem_cons_of_mem _ (List.mem_append_right _ h)
def fX2_startAgain (n : Nat → Nat) (K : Nat) (u : XU) : Option (Int32 × XU) := (fX1_partlyProgrammed n K (xu_s_cnt u (zI 0))).bind fun z1 => ((fX1_greatestSerial n K (xu_s_opn z1.2 z1.1)).bind fun z3 => ((fX1_countFree n K (xu_s_nxt z3.2 (z3.1 + (zI 1)))).bind fun z5 => (if 0 < z5.1 then (some (zI 1, z5.2)) else ((fX1_victim n K (zI 0) z5.2).bind fun z8 => ((fX2_collect n K z8.1 z8.2).bind fun z10 => (if z10.1 = 0 then (some (zI 0, z10.2)) else (some (zI 1, z10.2))))))))
section
variable {p : Program} {l : Launch} {e : Env} {s : State} {m : MethodId} {args : Array Value} {below : List Frame} {meth : Method} {c : Code} {D : va_G} {a n : Nat → Nat} {cA : Nat → ClassId} {A : Nat → Prop}
set_option maxHeartbeats 4000000 in
set_option maxRecDepth 100000 in
theorem lbX2_startAgain_e {K : Nat} (X : vzX D (XT cA) A wsX2_startAgain cX2_startAgain 1 (some .boolean) RX2 p s m args meth c) : ∀ (u : XU) (H : Heap) (locs : List Loc) (ls : Array Slot) (r : Int32) (u2 : XU), fX2_startAgain n K u = some (r, u2) → va_P D vwCl (XW a n cA u) H → va_D A (XW a n cA u) → va_S A s.heap H locs → lv_has ls 1 [(0, .ref (a 0))] → W p l e (headSpec wsX2_startAgain rmX2_startAgain).room s m args below meth c H locs 0 0 (MQ below (vzQ D (XT cA) (XW a n cA) A r u2) args s 0 0 A) (F0 m 0 ls []) := by
  obtain ⟨hx, hb, hr, hml, hown, hts, hlk, hN, hK, hA⟩ := id X
  intro u H locs ls r u2 hf hP hD hS hl
  unfold fX2_startAgain at hf
  refine lv_aload_n hx hb dX2_startAgain_0 rfl (lv_at hl 0 rfl) ?_
  refine va_get (D := D) (ci := 2) (v := .ref (a 2)) (C := RX2) (T := TX2) (N := 4) hx hb hts in_X2_startAgain_X2 hown hK hP 0 rfl rfl 1 (by decide) (hts _ (List.mem_of_getElem? (i := 1) rfl)) (fun _ h9 => h9) rfl dX2_startAgain_1 ?_
  refine lv_iconst (v := zI 0) hx hb dX2_startAgain_4 (by decide) ?_
  refine va_putN (D := D) (ci := 0) (v := .int (zI 0)) (ty := .int) (C := RX0) (T := TX0) (N := 4) hx hb hts in_X2_startAgain_X0 tyX0 tyX0_ok nmX0 hown hK hP hD hS 2 rfl rfl 3 (by decide) (hN.at 12 rfl) (fun _ h9 => h9) rfl (by decide +kernel) rfl rfl (Nat.le_of_ble_eq_true rfl) dX2_startAgain_5 (fun H locs hP hD hS => ?_)
  have hP : va_P D vwCl (XW a n cA (xu_s_cnt u (zI 0))) H := hP
  have hD : va_D A (XW a n cA (xu_s_cnt u (zI 0))) := hD
  refine lv_aload_n hx hb dX2_startAgain_8 rfl (lv_at hl 0 rfl) ?_
  refine lv_aload_n hx hb dX2_startAgain_9 rfl (lv_at hl 0 rfl) ?_
  refine va_get (D := D) (ci := 2) (v := .ref (a 1)) (C := RX2) (T := TX2) (N := 4) hx hb hts in_X2_startAgain_X2 hown hK hP 0 rfl rfl 0 (by decide) (hts _ (List.mem_of_getElem? (i := 2) rfl)) (fun _ h9 => h9) rfl dX2_startAgain_10 ?_
  obtain ⟨z1, hz2, hf⟩ := bd hf
  refine vz_call (rest := [.ref (a 0)]) X (kX1_partlyProgrammed hz2) (cwV 0 hts gX2_startAgain_X1_partlyProgrammed rfl rfl rfl (by decide +kernel) ⟨Nat.le_of_ble_eq_true rfl, Nat.le_of_ble_eq_true rfl⟩) 1 1 rfl rfl rfl hl.1 rfl (Nat.le_of_ble_eq_true rfl) dX2_startAgain_13 ⟨Nat.zero_le _, Nat.zero_le _⟩ hP hD hS (fun H locs hP hD hS => ?_)
  refine va_put (D := D) (ci := 2) (v := .int z1.1) (ty := .int) (C := RX2) (T := TX2) (N := 4) hx hb hts in_X2_startAgain_X2 tyX2 tyX2_ok nmX2 hown hK hP hD hS 0 rfl rfl 3 (by decide) (hts _ (List.mem_of_getElem? (i := 3) rfl)) (fun _ h9 => h9) rfl (by decide +kernel) rfl rfl (Nat.le_of_ble_eq_true rfl) dX2_startAgain_16 (fun H locs hP hD hS => ?_)
  have hP : va_P D vwCl (XW a n cA (xu_s_opn z1.2 z1.1)) H := hP
  have hD : va_D A (XW a n cA (xu_s_opn z1.2 z1.1)) := hD
  refine lv_aload_n hx hb dX2_startAgain_19 rfl (lv_at hl 0 rfl) ?_
  refine va_get (D := D) (ci := 2) (v := .ref (a 1)) (C := RX2) (T := TX2) (N := 4) hx hb hts in_X2_startAgain_X2 hown hK hP 0 rfl rfl 0 (by decide) (hts _ (List.mem_of_getElem? (i := 2) rfl)) (fun _ h9 => h9) rfl dX2_startAgain_20 ?_
  refine lv_aload_n hx hb dX2_startAgain_23 rfl (lv_at hl 0 rfl) ?_
  refine va_get (D := D) (ci := 2) (v := .ref (a 1)) (C := RX2) (T := TX2) (N := 4) hx hb hts in_X2_startAgain_X2 hown hK hP 0 rfl rfl 0 (by decide) (hts _ (List.mem_of_getElem? (i := 2) rfl)) (fun _ h9 => h9) rfl dX2_startAgain_24 ?_
  obtain ⟨z3, hz4, hf⟩ := bd hf
  refine vz_call (rest := [.ref (a 1)]) X (kX1_greatestSerial hz4) (cwV 0 hts gX2_startAgain_X1_greatestSerial rfl rfl rfl (by decide +kernel) ⟨Nat.le_of_ble_eq_true rfl, Nat.le_of_ble_eq_true rfl⟩) 1 1 rfl rfl rfl hl.1 rfl (Nat.le_of_ble_eq_true rfl) dX2_startAgain_27 ⟨Nat.zero_le _, Nat.zero_le _⟩ hP hD hS (fun H locs hP hD hS => ?_)
  refine lv_iconst (v := zI 1) hx hb dX2_startAgain_30 (by decide) ?_
  refine lv_iadd hx hb dX2_startAgain_31 ?_
  refine va_putN (D := D) (ci := 1) (v := .int (z3.1 + (zI 1))) (ty := .int) (C := RX1) (T := TX1) (N := 11) hx hb hts in_X2_startAgain_X1 tyX1 tyX1_ok nmX1 hown hK hP hD hS 1 rfl rfl 8 (by decide) (hN.at 6 rfl) (fun _ h9 => h9) rfl (by decide +kernel) rfl rfl (Nat.le_of_ble_eq_true rfl) dX2_startAgain_32 (fun H locs hP hD hS => ?_)
  have hP : va_P D vwCl (XW a n cA (xu_s_nxt z3.2 (z3.1 + (zI 1)))) H := hP
  have hD : va_D A (XW a n cA (xu_s_nxt z3.2 (z3.1 + (zI 1)))) := hD
  refine lv_aload_n hx hb dX2_startAgain_35 rfl (lv_at hl 0 rfl) ?_
  refine va_get (D := D) (ci := 2) (v := .ref (a 1)) (C := RX2) (T := TX2) (N := 4) hx hb hts in_X2_startAgain_X2 hown hK hP 0 rfl rfl 0 (by decide) (hts _ (List.mem_of_getElem? (i := 2) rfl)) (fun _ h9 => h9) rfl dX2_startAgain_36 ?_
  obtain ⟨z5, hz6, hf⟩ := bd hf
  refine vz_call (rest := []) X (kX1_countFree hz6) (cwV 0 hts gX2_startAgain_X1_countFree rfl rfl rfl (by decide +kernel) ⟨Nat.le_of_ble_eq_true rfl, Nat.le_of_ble_eq_true rfl⟩) 1 1 rfl rfl rfl hl.1 rfl (Nat.le_of_ble_eq_true rfl) dX2_startAgain_39 ⟨Nat.zero_le _, Nat.zero_le _⟩ hP hD hS (fun H locs hP hD hS => ?_)
  refine lv_if_gt (tgt := 60) hx hb dX2_startAgain_42 (by decide) (fun c7 => ?_) (fun c7 => ?_)
  · have hf := ift c7 hf
    refine lv_iconst (v := zI 1) hx hb dX2_startAgain_60 (by decide) ?_
    refine lv_goto (tgt := 65) hx hb dX2_startAgain_61 (by decide) ?_
    cases hf
    exact vz_zret X rfl hP hD hS dX2_startAgain_65
  · have hf := iff_ c7 hf
    refine lv_aload_n hx hb dX2_startAgain_45 rfl (lv_at hl 0 rfl) ?_
    refine lv_aload_n hx hb dX2_startAgain_46 rfl (lv_at hl 0 rfl) ?_
    refine va_get (D := D) (ci := 2) (v := .ref (a 1)) (C := RX2) (T := TX2) (N := 4) hx hb hts in_X2_startAgain_X2 hown hK hP 0 rfl rfl 0 (by decide) (hts _ (List.mem_of_getElem? (i := 2) rfl)) (fun _ h9 => h9) rfl dX2_startAgain_47 ?_
    refine lv_iconst (v := zI 0) hx hb dX2_startAgain_50 (by decide) ?_
    obtain ⟨z8, hz9, hf⟩ := bd hf
    refine vz_call (rest := [.ref (a 0)]) X (kX1_victim hz9) (cwV 1 hts gX2_startAgain_X1_victim rfl rfl rfl (by decide +kernel) ⟨Nat.le_of_ble_eq_true rfl, Nat.le_of_ble_eq_true rfl⟩) 1 1 rfl rfl rfl hl.1 rfl (Nat.le_of_ble_eq_true rfl) dX2_startAgain_51 ⟨Nat.zero_le _, Nat.zero_le _⟩ hP hD hS (fun H locs hP hD hS => ?_)
    obtain ⟨z10, hz11, hf⟩ := bd hf
    refine vz_call (rest := []) X (kX2_collect hz11) (cwV 1 hts gX2_startAgain_X2_collect rfl rfl rfl (by decide +kernel) ⟨Nat.le_of_ble_eq_true rfl, Nat.le_of_ble_eq_true rfl⟩) 0 2 rfl rfl rfl hl.1 rfl (Nat.le_of_ble_eq_true rfl) dX2_startAgain_54 ⟨Nat.zero_le _, Nat.zero_le _⟩ hP hD hS (fun H locs hP hD hS => ?_)
    refine lv_if_eq (tgt := 64) hx hb dX2_startAgain_57 (by decide) (fun c12 => ?_) (fun c12 => ?_)
    · have hf := ift c12 hf
      refine lv_iconst (v := zI 0) hx hb dX2_startAgain_64 (by decide) ?_
      cases hf
      exact vz_zret X rfl hP hD hS dX2_startAgain_65
    · have hf := iff_ c12 hf
      refine lv_iconst (v := zI 1) hx hb dX2_startAgain_60 (by decide) ?_
      refine lv_goto (tgt := 65) hx hb dX2_startAgain_61 (by decide) ?_
      cases hf
      exact vz_zret X rfl hP hD hS dX2_startAgain_65
end
theorem kX2_startAgain {l : Launch} {D : va_G} {a n : Nat → Nat} {cA : Nat → ClassId} {K : Nat} {u : XU} {r : Int32} {u2 : XU} (h : fX2_startAgain n K u = some (r, u2)) : vzC l D (XT cA) (XW a n cA) yX2_startAgain wsX2_startAgain rmX2_startAgain [.ref (a 0)] u r u2 := vzC.of (by decide) rfl (Nat.le_of_ble_eq_true rfl) (fun p e s m below meth c A ls X hP hD hl => lbX2_startAgain_e X u s.heap [] ls r u2 h hP hD va_S.rf hl)
abbrev rmX2_losePower : Room := { frames := 4, cells := 0, slots := 0, locals := 91 }
theorem in_X2_losePower_X2 : ∀ w ∈ u_ws RX2 TX2 4, w ∈ wsX2_losePower := fun _ h => List.mem_cons_of_mem _ (List.mem_append_left _ (List.mem_append_left _ (List.mem_append_right _ h)))
theorem in_X2_losePower_X0 : ∀ w ∈ u_ws RX0 TX0 4, w ∈ wsX2_losePower := fun _ h => List.mem_cons_of_mem _ (List.mem_append_left _ (List.mem_append_right _ h))
theorem in_X2_losePower_X1 : ∀ w ∈ u_ws RX1 TX1 11, w ∈ wsX2_losePower := fun _ h => List.mem_cons_of_mem _ (List.mem_append_right _ h)
def fX2_losePower (n : Nat → Nat) (K : Nat) (u : XU) : Option XU := (fX2_startAgain n K u).bind fun z1 => (if z1.1 = 0 then ((fX2_startAgain n K z1.2).bind fun z4 => (some z4.2)) else (some z1.2))
section
variable {p : Program} {l : Launch} {e : Env} {s : State} {m : MethodId} {args : Array Value} {below : List Frame} {meth : Method} {c : Code} {D : va_G} {a n : Nat → Nat} {cA : Nat → ClassId} {A : Nat → Prop}
set_option maxHeartbeats 4000000 in
set_option maxRecDepth 100000 in
theorem lbX2_losePower_e {K : Nat} (X : vzX D (XT cA) A wsX2_losePower cX2_losePower 1 none RX2 p s m args meth c) : ∀ (u : XU) (H : Heap) (locs : List Loc) (ls : Array Slot) (u2 : XU), fX2_losePower n K u = some u2 → va_P D vwCl (XW a n cA u) H → va_D A (XW a n cA u) → va_S A s.heap H locs → lv_has ls 1 [(0, .ref (a 0))] → W p l e (headSpec wsX2_losePower rmX2_losePower).room s m args below meth c H locs 0 0 (MQ below (vzQv D (XT cA) (XW a n cA) A u2) args s 0 0 A) (F0 m 0 ls []) := by
  obtain ⟨hx, hb, hr, hml, hown, hts, hlk, hN, hK, hA⟩ := id X
  intro u H locs ls u2 hf hP hD hS hl
  unfold fX2_losePower at hf
  refine lv_aload_n hx hb dX2_losePower_0 rfl (lv_at hl 0 rfl) ?_
  obtain ⟨z1, hz2, hf⟩ := bd hf
  refine vz_call (rest := []) X (kX2_startAgain hz2) (cwV 0 hts gX2_losePower_X2_startAgain rfl rfl rfl (by decide +kernel) ⟨Nat.le_of_ble_eq_true rfl, Nat.le_of_ble_eq_true rfl⟩) 0 2 rfl rfl rfl hl.1 rfl (Nat.le_of_ble_eq_true rfl) dX2_losePower_1 ⟨Nat.zero_le _, Nat.zero_le _⟩ hP hD hS (fun H locs hP hD hS => ?_)
  refine lv_if_ne (tgt := 12) hx hb dX2_losePower_4 (by decide) (fun c3 => ?_) (fun c3 => ?_)
  · have hf := iff_ c3 hf
    cases hf
    exact vz_vret X hP hD hS dX2_losePower_12
  · have hf := ift c3 hf
    refine lv_aload_n hx hb dX2_losePower_7 rfl (lv_at hl 0 rfl) ?_
    obtain ⟨z4, hz5, hf⟩ := bd hf
    refine vz_call (rest := []) X (kX2_startAgain hz5) (cwV 0 hts gX2_losePower_X2_startAgain rfl rfl rfl (by decide +kernel) ⟨Nat.le_of_ble_eq_true rfl, Nat.le_of_ble_eq_true rfl⟩) 0 2 rfl rfl rfl hl.1 rfl (Nat.le_of_ble_eq_true rfl) dX2_losePower_8 ⟨Nat.zero_le _, Nat.zero_le _⟩ hP hD hS (fun H locs hP hD hS => ?_)
    refine lv_pop hx hb dX2_losePower_11 rfl ?_
    cases hf
    exact vz_vret X hP hD hS dX2_losePower_12
end
theorem kX2_losePower {l : Launch} {D : va_G} {a n : Nat → Nat} {cA : Nat → ClassId} {K : Nat} {u : XU} {u2 : XU} (h : fX2_losePower n K u = some u2) : vzV l D (XT cA) (XW a n cA) yX2_losePower wsX2_losePower rmX2_losePower [.ref (a 0)] u u2 := vzV.of (by decide) rfl (Nat.le_of_ble_eq_true rfl) (fun p e s m below meth c A ls X hP hD hl => lbX2_losePower_e X u s.heap [] ls u2 h hP hD va_S.rf hl)
abbrev rmX2_put : Room := { frames := 5, cells := 0, slots := 0, locals := 115 }
theorem in_X2_put_X2 : ∀ w ∈ u_ws RX2 TX2 4, w ∈ wsX2_put := fun _ h => List.mem_cons_of_mem _ (List.mem_append_left _ (List.mem_append_left _ (List.mem_append_right _ h)))
theorem in_X2_put_X1 : ∀ w ∈ u_ws RX1 TX1 11, w ∈ wsX2_put := fun _ h => List.mem_cons_of_mem _ (List.mem_append_left _ (List.mem_append_right _ h))
theorem in_X2_put_X0 : ∀ w ∈ u_ws RX0 TX0 4, w ∈ wsX2_put := fun _ h => List.mem_cons_of_mem _ (List.mem_append_right _ h)
def fX2_put (n : Nat → Nat) (K : Nat) (x1 x2 x3 : Int32) (u : XU) : Option (Int32 × XU) := (fX2_isSector n K x1 u).bind fun z1 => (if z1.1 = 0 then (some (zI (-1), z1.2)) else ((fX0_find n K x1 z1.2).bind fun z4 => (if z4.1 = (zI (-1)) then ((fX0_isFull n K z4.2).bind fun z7 => (if z7.1 = 0 then ((fX0_add n K x1 x2 x3 z7.2).bind fun z10 => (some (zI 0, z10))) else ((fX2_storeFirst n K z7.2).bind fun z12 => (if z12.1 = 0 then ((fX2_losePower n K z12.2).bind fun z17 => (some (zI 1, z17))) else ((fX0_add n K x1 x2 x3 z12.2).bind fun z15 => (some (zI 0, z15))))))) else ((fX0_change n K z4.1 x2 x3 z4.2).bind fun z19 => (some (zI 0, z19))))))
section
variable {p : Program} {l : Launch} {e : Env} {s : State} {m : MethodId} {args : Array Value} {below : List Frame} {meth : Method} {c : Code} {D : va_G} {a n : Nat → Nat} {cA : Nat → ClassId} {A : Nat → Prop}
set_option maxHeartbeats 4000000 in
set_option maxRecDepth 100000 in
theorem lbX2_put_e {K : Nat} (X : vzX D (XT cA) A wsX2_put cX2_put 5 (some .int) RX2 p s m args meth c) : ∀ (x1 x2 x3 : Int32) (u : XU) (H : Heap) (locs : List Loc) (ls : Array Slot) (r : Int32) (u2 : XU), fX2_put n K x1 x2 x3 u = some (r, u2) → va_P D vwCl (XW a n cA u) H → va_D A (XW a n cA u) → va_S A s.heap H locs → lv_has ls 5 [(0, .ref (a 0)), (1, .int x1), (2, .int x2), (3, .int x3)] → W p l e (headSpec wsX2_put rmX2_put).room s m args below meth c H locs 0 0 (MQ below (vzQ D (XT cA) (XW a n cA) A r u2) args s 0 0 A) (F0 m 0 ls []) := by
  obtain ⟨hx, hb, hr, hml, hown, hts, hlk, hN, hK, hA⟩ := id X
  intro x1 x2 x3 u H locs ls r u2 hf hP hD hS hl
  unfold fX2_put at hf
  refine lv_aload_n hx hb dX2_put_0 rfl (lv_at hl 0 rfl) ?_
  refine lv_iload_n hx hb dX2_put_1 rfl (lv_at hl 1 rfl) ?_
  obtain ⟨z1, hz2, hf⟩ := bd hf
  refine vz_call (rest := []) X (kX2_isSector hz2) (cwV 1 hts gX2_put_X2_isSector rfl rfl rfl (by decide +kernel) ⟨Nat.le_of_ble_eq_true rfl, Nat.le_of_ble_eq_true rfl⟩) 0 2 rfl rfl rfl hl.1 rfl (Nat.le_of_ble_eq_true rfl) dX2_put_2 ⟨Nat.zero_le _, Nat.zero_le _⟩ hP hD hS (fun H locs hP hD hS => ?_)
  refine lv_if_ne (tgt := 10) hx hb dX2_put_5 (by decide) (fun c3 => ?_) (fun c3 => ?_)
  · have hf := iff_ c3 hf
    refine lv_aload_n hx hb dX2_put_10 rfl (lv_at hl 0 rfl) ?_
    refine va_get (D := D) (ci := 2) (v := .ref (a 2)) (C := RX2) (T := TX2) (N := 4) hx hb hts in_X2_put_X2 hown hK hP 0 rfl rfl 1 (by decide) (hts _ (List.mem_of_getElem? (i := 1) rfl)) (fun _ h9 => h9) rfl dX2_put_11 ?_
    refine lv_iload_n hx hb dX2_put_14 rfl (lv_at hl 1 rfl) ?_
    obtain ⟨z4, hz5, hf⟩ := bd hf
    refine vz_call (rest := []) X (kX0_find hz5) (cwV 1 hts gX2_put_X0_find rfl rfl rfl (by decide +kernel) ⟨Nat.le_of_ble_eq_true rfl, Nat.le_of_ble_eq_true rfl⟩) 2 0 rfl rfl rfl hl.1 rfl (Nat.le_of_ble_eq_true rfl) dX2_put_15 ⟨Nat.zero_le _, Nat.zero_le _⟩ hP hD hS (fun H locs hP hD hS => ?_)
    refine lv_istore (lv' := [(4, .int z4.1), (0, .ref (a 0)), (1, .int x1), (2, .int x2), (3, .int x3)]) hx hb dX2_put_18 hl (by decide) rfl (fun ls hl => ?_)
    refine lv_iload hx hb dX2_put_20 (lv_at hl 0 rfl) ?_
    refine lv_iconst (v := zI (-1)) hx hb dX2_put_22 (by decide) ?_
    refine lv_icmp_eq (tgt := 39) hx hb dX2_put_23 (by decide) (fun c6 => ?_) (fun c6 => ?_)
    · have hf := ift c6 hf
      refine lv_aload_n hx hb dX2_put_39 rfl (lv_at hl 1 rfl) ?_
      refine va_get (D := D) (ci := 2) (v := .ref (a 2)) (C := RX2) (T := TX2) (N := 4) hx hb hts in_X2_put_X2 hown hK hP 0 rfl rfl 1 (by decide) (hts _ (List.mem_of_getElem? (i := 1) rfl)) (fun _ h9 => h9) rfl dX2_put_40 ?_
      obtain ⟨z7, hz8, hf⟩ := bd hf
      refine vz_call (rest := []) X (kX0_isFull hz8) (cwV 0 hts gX2_put_X0_isFull rfl rfl rfl (by decide +kernel) ⟨Nat.le_of_ble_eq_true rfl, Nat.le_of_ble_eq_true rfl⟩) 2 0 rfl rfl rfl hl.1 rfl (Nat.le_of_ble_eq_true rfl) dX2_put_43 ⟨Nat.zero_le _, Nat.zero_le _⟩ hP hD hS (fun H locs hP hD hS => ?_)
      refine lv_if_eq (tgt := 62) hx hb dX2_put_46 (by decide) (fun c9 => ?_) (fun c9 => ?_)
      · have hf := ift c9 hf
        refine lv_aload_n hx hb dX2_put_62 rfl (lv_at hl 1 rfl) ?_
        refine va_get (D := D) (ci := 2) (v := .ref (a 2)) (C := RX2) (T := TX2) (N := 4) hx hb hts in_X2_put_X2 hown hK hP 0 rfl rfl 1 (by decide) (hts _ (List.mem_of_getElem? (i := 1) rfl)) (fun _ h9 => h9) rfl dX2_put_63 ?_
        refine lv_iload_n hx hb dX2_put_66 rfl (lv_at hl 2 rfl) ?_
        refine lv_iload_n hx hb dX2_put_67 rfl (lv_at hl 3 rfl) ?_
        refine lv_iload_n hx hb dX2_put_68 rfl (lv_at hl 4 rfl) ?_
        obtain ⟨z10, hz11, hf⟩ := bd hf
        refine vz_callv (rest := []) X (kX0_add hz11) (cwV 3 hts gX2_put_X0_add rfl rfl rfl (by decide +kernel) ⟨Nat.le_of_ble_eq_true rfl, Nat.le_of_ble_eq_true rfl⟩) 2 0 rfl rfl rfl hl.1 rfl (Nat.le_of_ble_eq_true rfl) dX2_put_69 ⟨Nat.zero_le _, Nat.zero_le _⟩ hP hD hS (fun H locs hP hD hS => ?_)
        refine lv_iconst (v := zI 0) hx hb dX2_put_72 (by decide) ?_
        cases hf
        exact vz_iret X hP hD hS dX2_put_73
      · have hf := iff_ c9 hf
        refine lv_aload_n hx hb dX2_put_49 rfl (lv_at hl 1 rfl) ?_
        obtain ⟨z12, hz13, hf⟩ := bd hf
        refine vz_call (rest := []) X (kX2_storeFirst hz13) (cwV 0 hts gX2_put_X2_storeFirst rfl rfl rfl (by decide +kernel) ⟨Nat.le_of_ble_eq_true rfl, Nat.le_of_ble_eq_true rfl⟩) 0 2 rfl rfl rfl hl.1 rfl (Nat.le_of_ble_eq_true rfl) dX2_put_50 ⟨Nat.zero_le _, Nat.zero_le _⟩ hP hD hS (fun H locs hP hD hS => ?_)
        refine lv_if_ne (tgt := 62) hx hb dX2_put_53 (by decide) (fun c14 => ?_) (fun c14 => ?_)
        · have hf := iff_ c14 hf
          refine lv_aload_n hx hb dX2_put_62 rfl (lv_at hl 1 rfl) ?_
          refine va_get (D := D) (ci := 2) (v := .ref (a 2)) (C := RX2) (T := TX2) (N := 4) hx hb hts in_X2_put_X2 hown hK hP 0 rfl rfl 1 (by decide) (hts _ (List.mem_of_getElem? (i := 1) rfl)) (fun _ h9 => h9) rfl dX2_put_63 ?_
          refine lv_iload_n hx hb dX2_put_66 rfl (lv_at hl 2 rfl) ?_
          refine lv_iload_n hx hb dX2_put_67 rfl (lv_at hl 3 rfl) ?_
          refine lv_iload_n hx hb dX2_put_68 rfl (lv_at hl 4 rfl) ?_
          obtain ⟨z15, hz16, hf⟩ := bd hf
          refine vz_callv (rest := []) X (kX0_add hz16) (cwV 3 hts gX2_put_X0_add rfl rfl rfl (by decide +kernel) ⟨Nat.le_of_ble_eq_true rfl, Nat.le_of_ble_eq_true rfl⟩) 2 0 rfl rfl rfl hl.1 rfl (Nat.le_of_ble_eq_true rfl) dX2_put_69 ⟨Nat.zero_le _, Nat.zero_le _⟩ hP hD hS (fun H locs hP hD hS => ?_)
          refine lv_iconst (v := zI 0) hx hb dX2_put_72 (by decide) ?_
          cases hf
          exact vz_iret X hP hD hS dX2_put_73
        · have hf := ift c14 hf
          refine lv_aload_n hx hb dX2_put_56 rfl (lv_at hl 1 rfl) ?_
          obtain ⟨z17, hz18, hf⟩ := bd hf
          refine vz_callv (rest := []) X (kX2_losePower hz18) (cwV 0 hts gX2_put_X2_losePower rfl rfl rfl (by decide +kernel) ⟨Nat.le_of_ble_eq_true rfl, Nat.le_of_ble_eq_true rfl⟩) 0 2 rfl rfl rfl hl.1 rfl (Nat.le_of_ble_eq_true rfl) dX2_put_57 ⟨Nat.zero_le _, Nat.zero_le _⟩ hP hD hS (fun H locs hP hD hS => ?_)
          refine lv_iconst (v := zI 1) hx hb dX2_put_60 (by decide) ?_
          cases hf
          exact vz_iret X hP hD hS dX2_put_61
    · have hf := iff_ c6 hf
      refine lv_aload_n hx hb dX2_put_26 rfl (lv_at hl 1 rfl) ?_
      refine va_get (D := D) (ci := 2) (v := .ref (a 2)) (C := RX2) (T := TX2) (N := 4) hx hb hts in_X2_put_X2 hown hK hP 0 rfl rfl 1 (by decide) (hts _ (List.mem_of_getElem? (i := 1) rfl)) (fun _ h9 => h9) rfl dX2_put_27 ?_
      refine lv_iload hx hb dX2_put_30 (lv_at hl 0 rfl) ?_
      refine lv_iload_n hx hb dX2_put_32 rfl (lv_at hl 3 rfl) ?_
      refine lv_iload_n hx hb dX2_put_33 rfl (lv_at hl 4 rfl) ?_
      obtain ⟨z19, hz20, hf⟩ := bd hf
      refine vz_callv (rest := []) X (kX0_change hz20) (cwV 3 hts gX2_put_X0_change rfl rfl rfl (by decide +kernel) ⟨Nat.le_of_ble_eq_true rfl, Nat.le_of_ble_eq_true rfl⟩) 2 0 rfl rfl rfl hl.1 rfl (Nat.le_of_ble_eq_true rfl) dX2_put_34 ⟨Nat.zero_le _, Nat.zero_le _⟩ hP hD hS (fun H locs hP hD hS => ?_)
      refine lv_iconst (v := zI 0) hx hb dX2_put_37 (by decide) ?_
      cases hf
      exact vz_iret X hP hD hS dX2_put_38
  · have hf := ift c3 hf
    refine lv_iconst (v := zI (-1)) hx hb dX2_put_8 (by decide) ?_
    cases hf
    exact vz_iret X hP hD hS dX2_put_9
end
theorem kX2_put {l : Launch} {D : va_G} {a n : Nat → Nat} {cA : Nat → ClassId} {K : Nat} {x1 x2 x3 : Int32} {u : XU} {r : Int32} {u2 : XU} (h : fX2_put n K x1 x2 x3 u = some (r, u2)) : vzC l D (XT cA) (XW a n cA) yX2_put wsX2_put rmX2_put [.ref (a 0), .int x1, .int x2, .int x3] u r u2 := vzC.of (by decide) rfl (Nat.le_of_ble_eq_true rfl) (fun p e s m below meth c A ls X hP hD hl => lbX2_put_e X x1 x2 x3 u s.heap [] ls r u2 h hP hD va_S.rf hl)
abbrev rmX2_write : Room := { frames := 6, cells := 0, slots := 0, locals := 139 }
theorem in_X2_write_X2 : ∀ w ∈ u_ws RX2 TX2 4, w ∈ wsX2_write := fun _ h => List.mem_cons_of_mem _ (List.mem_append_left _ (List.mem_append_left _ (List.mem_append_right _ h)))
theorem in_X2_write_X1 : ∀ w ∈ u_ws RX1 TX1 11, w ∈ wsX2_write := fun _ h => List.mem_cons_of_mem _ (List.mem_append_left _ (List.mem_append_right _ h))
theorem in_X2_write_X0 : ∀ w ∈ u_ws RX0 TX0 4, w ∈ wsX2_write := fun _ h => List.mem_cons_of_mem _ (List.mem_append_right _ h)
def fX2_write (n : Nat → Nat) (K : Nat) (x1 x2 : Int32) (u : XU) : Option (Int32 × XU) := (fX2_put n K x1 x2 (zI 1) u).bind fun z1 => (some (z1.1, z1.2))
section
variable {p : Program} {l : Launch} {e : Env} {s : State} {m : MethodId} {args : Array Value} {below : List Frame} {meth : Method} {c : Code} {D : va_G} {a n : Nat → Nat} {cA : Nat → ClassId} {A : Nat → Prop}
set_option maxHeartbeats 4000000 in
set_option maxRecDepth 100000 in
theorem lbX2_write_e {K : Nat} (X : vzX D (XT cA) A wsX2_write cX2_write 3 (some .int) RX2 p s m args meth c) : ∀ (x1 x2 : Int32) (u : XU) (H : Heap) (locs : List Loc) (ls : Array Slot) (r : Int32) (u2 : XU), fX2_write n K x1 x2 u = some (r, u2) → va_P D vwCl (XW a n cA u) H → va_D A (XW a n cA u) → va_S A s.heap H locs → lv_has ls 3 [(0, .ref (a 0)), (1, .int x1), (2, .int x2)] → W p l e (headSpec wsX2_write rmX2_write).room s m args below meth c H locs 0 0 (MQ below (vzQ D (XT cA) (XW a n cA) A r u2) args s 0 0 A) (F0 m 0 ls []) := by
  obtain ⟨hx, hb, hr, hml, hown, hts, hlk, hN, hK, hA⟩ := id X
  intro x1 x2 u H locs ls r u2 hf hP hD hS hl
  unfold fX2_write at hf
  refine lv_aload_n hx hb dX2_write_0 rfl (lv_at hl 0 rfl) ?_
  refine lv_iload_n hx hb dX2_write_1 rfl (lv_at hl 1 rfl) ?_
  refine lv_iload_n hx hb dX2_write_2 rfl (lv_at hl 2 rfl) ?_
  refine lv_iconst (v := zI 1) hx hb dX2_write_3 (by decide) ?_
  obtain ⟨z1, hz2, hf⟩ := bd hf
  refine vz_call (rest := []) X (kX2_put hz2) (cwV 3 hts gX2_write_X2_put rfl rfl rfl (by decide +kernel) ⟨Nat.le_of_ble_eq_true rfl, Nat.le_of_ble_eq_true rfl⟩) 0 2 rfl rfl rfl hl.1 rfl (Nat.le_of_ble_eq_true rfl) dX2_write_4 ⟨Nat.zero_le _, Nat.zero_le _⟩ hP hD hS (fun H locs hP hD hS => ?_)
  cases hf
  exact vz_iret X hP hD hS dX2_write_7
end
theorem kX2_write {l : Launch} {D : va_G} {a n : Nat → Nat} {cA : Nat → ClassId} {K : Nat} {x1 x2 : Int32} {u : XU} {r : Int32} {u2 : XU} (h : fX2_write n K x1 x2 u = some (r, u2)) : vzC l D (XT cA) (XW a n cA) yX2_write wsX2_write rmX2_write [.ref (a 0), .int x1, .int x2] u r u2 := vzC.of (by decide) rfl (Nat.le_of_ble_eq_true rfl) (fun p e s m below meth c A ls X hP hD hl => lbX2_write_e X x1 x2 u s.heap [] ls r u2 h hP hD va_S.rf hl)
abbrev rmX2_trim : Room := { frames := 6, cells := 0, slots := 0, locals := 139 }
theorem in_X2_trim_X2 : ∀ w ∈ u_ws RX2 TX2 4, w ∈ wsX2_trim := fun _ h => List.mem_cons_of_mem _ (List.mem_append_left _ (List.mem_append_left _ (List.mem_append_right _ h)))
theorem in_X2_trim_X1 : ∀ w ∈ u_ws RX1 TX1 11, w ∈ wsX2_trim := fun _ h => List.mem_cons_of_mem _ (List.mem_append_left _ (List.mem_append_right _ h))
theorem in_X2_trim_X0 : ∀ w ∈ u_ws RX0 TX0 4, w ∈ wsX2_trim := fun _ h => List.mem_cons_of_mem _ (List.mem_append_right _ h)
def fX2_trim (n : Nat → Nat) (K : Nat) (x1 : Int32) (u : XU) : Option (Int32 × XU) := (fX2_put n K x1 (zI 0) (zI 2) u).bind fun z1 => (some (z1.1, z1.2))
section
variable {p : Program} {l : Launch} {e : Env} {s : State} {m : MethodId} {args : Array Value} {below : List Frame} {meth : Method} {c : Code} {D : va_G} {a n : Nat → Nat} {cA : Nat → ClassId} {A : Nat → Prop}
set_option maxHeartbeats 4000000 in
set_option maxRecDepth 100000 in
theorem lbX2_trim_e {K : Nat} (X : vzX D (XT cA) A wsX2_trim cX2_trim 2 (some .int) RX2 p s m args meth c) : ∀ (x1 : Int32) (u : XU) (H : Heap) (locs : List Loc) (ls : Array Slot) (r : Int32) (u2 : XU), fX2_trim n K x1 u = some (r, u2) → va_P D vwCl (XW a n cA u) H → va_D A (XW a n cA u) → va_S A s.heap H locs → lv_has ls 2 [(0, .ref (a 0)), (1, .int x1)] → W p l e (headSpec wsX2_trim rmX2_trim).room s m args below meth c H locs 0 0 (MQ below (vzQ D (XT cA) (XW a n cA) A r u2) args s 0 0 A) (F0 m 0 ls []) := by
  obtain ⟨hx, hb, hr, hml, hown, hts, hlk, hN, hK, hA⟩ := id X
  intro x1 u H locs ls r u2 hf hP hD hS hl
  unfold fX2_trim at hf
  refine lv_aload_n hx hb dX2_trim_0 rfl (lv_at hl 0 rfl) ?_
  refine lv_iload_n hx hb dX2_trim_1 rfl (lv_at hl 1 rfl) ?_
  refine lv_iconst (v := zI 0) hx hb dX2_trim_2 (by decide) ?_
  refine lv_iconst (v := zI 2) hx hb dX2_trim_3 (by decide) ?_
  obtain ⟨z1, hz2, hf⟩ := bd hf
  refine vz_call (rest := []) X (kX2_put hz2) (cwV 3 hts gX2_trim_X2_put rfl rfl rfl (by decide +kernel) ⟨Nat.le_of_ble_eq_true rfl, Nat.le_of_ble_eq_true rfl⟩) 0 2 rfl rfl rfl hl.1 rfl (Nat.le_of_ble_eq_true rfl) dX2_trim_4 ⟨Nat.zero_le _, Nat.zero_le _⟩ hP hD hS (fun H locs hP hD hS => ?_)
  cases hf
  exact vz_iret X hP hD hS dX2_trim_7
end
theorem kX2_trim {l : Launch} {D : va_G} {a n : Nat → Nat} {cA : Nat → ClassId} {K : Nat} {x1 : Int32} {u : XU} {r : Int32} {u2 : XU} (h : fX2_trim n K x1 u = some (r, u2)) : vzC l D (XT cA) (XW a n cA) yX2_trim wsX2_trim rmX2_trim [.ref (a 0), .int x1] u r u2 := vzC.of (by decide) rfl (Nat.le_of_ble_eq_true rfl) (fun p e s m below meth c A ls X hP hD hl => lbX2_trim_e X x1 u s.heap [] ls r u2 h hP hD va_S.rf hl)
abbrev rmX2_flush : Room := { frames := 5, cells := 0, slots := 0, locals := 115 }
theorem in_X2_flush_X2 : ∀ w ∈ u_ws RX2 TX2 4, w ∈ wsX2_flush := fun _ h => List.mem_cons_of_mem _ (List.mem_append_left _ (List.mem_append_left _ (List.mem_append_right _ h)))
theorem in_X2_flush_X0 : ∀ w ∈ u_ws RX0 TX0 4, w ∈ wsX2_flush := fun _ h => List.mem_cons_of_mem _ (List.mem_append_left _ (List.mem_append_right _ h))
theorem in_X2_flush_X1 : ∀ w ∈ u_ws RX1 TX1 11, w ∈ wsX2_flush := fun _ h => List.mem_cons_of_mem _ (List.mem_append_right _ h)
def fX2_flush_8 (n : Nat → Nat) (K : Nat) : Nat → Int32 → XU → Option (Int32 × XU)
  | 0, _, _ => none
  | N + 1, x1, u => if x1 ≤ 0 then (some (zI 0, u)) else ((fX2_storeFirst n K u).bind fun z2 => (if z2.1 = 0 then ((fX2_losePower n K z2.2).bind fun z5 => (some (zI 1, z5))) else (fX2_flush_8 n K N (x1 + (zI (-1))) z2.2)))
def fX2_flush (n : Nat → Nat) (K : Nat) (u : XU) : Option (Int32 × XU) := fX2_flush_8 n K K (xu_cnt u) u
section
variable {p : Program} {l : Launch} {e : Env} {s : State} {m : MethodId} {args : Array Value} {below : List Frame} {meth : Method} {c : Code} {D : va_G} {a n : Nat → Nat} {cA : Nat → ClassId} {A : Nat → Prop}
set_option maxHeartbeats 4000000 in
set_option maxRecDepth 100000 in
theorem lbX2_flush_8 {K : Nat} (X : vzX D (XT cA) A wsX2_flush cX2_flush 2 (some .int) RX2 p s m args meth c) : ∀ (N : Nat) (x1 : Int32) (u : XU) (H : Heap) (locs : List Loc) (ls : Array Slot) (r : Int32) (u2 : XU), fX2_flush_8 n K N x1 u = some (r, u2) → va_P D vwCl (XW a n cA u) H → va_D A (XW a n cA u) → va_S A s.heap H locs → lv_has ls 2 [(0, .ref (a 0)), (1, .int x1)] → W p l e (headSpec wsX2_flush rmX2_flush).room s m args below meth c H locs 0 0 (MQ below (vzQ D (XT cA) (XW a n cA) A r u2) args s 0 0 A) (F0 m 8 ls []) := by
  obtain ⟨hx, hb, hr, hml, hown, hts, hlk, hN, hK, hA⟩ := id X
  intro N
  induction N with
  | zero =>
    intro x1 u H locs ls r u2 hf
    cases hf
  | succ N ih =>
    intro x1 u H locs ls r u2 hf hP hD hS hl
    rw [fX2_flush_8] at hf
    refine lv_iload_n hx hb dX2_flush_8 rfl (lv_at hl 1 rfl) ?_
    refine lv_if_le (tgt := 31) hx hb dX2_flush_9 (by decide) (fun c1 => ?_) (fun c1 => ?_)
    · have hf := ift c1 hf
      refine lv_iconst (v := zI 0) hx hb dX2_flush_31 (by decide) ?_
      cases hf
      exact vz_iret X hP hD hS dX2_flush_32
    · have hf := iff_ c1 hf
      refine lv_aload_n hx hb dX2_flush_12 rfl (lv_at hl 0 rfl) ?_
      obtain ⟨z2, hz3, hf⟩ := bd hf
      refine vz_call (rest := []) X (kX2_storeFirst hz3) (cwV 0 hts gX2_flush_X2_storeFirst rfl rfl rfl (by decide +kernel) ⟨Nat.le_of_ble_eq_true rfl, Nat.le_of_ble_eq_true rfl⟩) 0 2 rfl rfl rfl hl.1 rfl (Nat.le_of_ble_eq_true rfl) dX2_flush_13 ⟨Nat.zero_le _, Nat.zero_le _⟩ hP hD hS (fun H locs hP hD hS => ?_)
      refine lv_if_ne (tgt := 25) hx hb dX2_flush_16 (by decide) (fun c4 => ?_) (fun c4 => ?_)
      · have hf := iff_ c4 hf
        refine lv_iinc (v := x1 + (zI (-1))) (lv' := [(1, .int (x1 + (zI (-1)))), (0, .ref (a 0))]) hx hb dX2_flush_25 hl (k := 1) rfl rfl (by decide) rfl (fun ls hl => ?_)
        refine lv_goto (tgt := 8) hx hb dX2_flush_28 (by decide) ?_
        exact ih (x1 + (zI (-1))) z2.2 _ _ _ _ _ hf hP hD hS (lv_sub hl [1, 0] rfl)
      · have hf := ift c4 hf
        refine lv_aload_n hx hb dX2_flush_19 rfl (lv_at hl 0 rfl) ?_
        obtain ⟨z5, hz6, hf⟩ := bd hf
        refine vz_callv (rest := []) X (kX2_losePower hz6) (cwV 0 hts gX2_flush_X2_losePower rfl rfl rfl (by decide +kernel) ⟨Nat.le_of_ble_eq_true rfl, Nat.le_of_ble_eq_true rfl⟩) 0 2 rfl rfl rfl hl.1 rfl (Nat.le_of_ble_eq_true rfl) dX2_flush_20 ⟨Nat.zero_le _, Nat.zero_le _⟩ hP hD hS (fun H locs hP hD hS => ?_)
        refine lv_iconst (v := zI 1) hx hb dX2_flush_23 (by decide) ?_
        cases hf
        exact vz_iret X hP hD hS dX2_flush_24
set_option maxHeartbeats 4000000 in
set_option maxRecDepth 100000 in
theorem lbX2_flush_e {K : Nat} (X : vzX D (XT cA) A wsX2_flush cX2_flush 2 (some .int) RX2 p s m args meth c) : ∀ (u : XU) (H : Heap) (locs : List Loc) (ls : Array Slot) (r : Int32) (u2 : XU), fX2_flush n K u = some (r, u2) → va_P D vwCl (XW a n cA u) H → va_D A (XW a n cA u) → va_S A s.heap H locs → lv_has ls 2 [(0, .ref (a 0))] → W p l e (headSpec wsX2_flush rmX2_flush).room s m args below meth c H locs 0 0 (MQ below (vzQ D (XT cA) (XW a n cA) A r u2) args s 0 0 A) (F0 m 0 ls []) := by
  obtain ⟨hx, hb, hr, hml, hown, hts, hlk, hN, hK, hA⟩ := id X
  intro u H locs ls r u2 hf hP hD hS hl
  unfold fX2_flush at hf
  refine lv_aload_n hx hb dX2_flush_0 rfl (lv_at hl 0 rfl) ?_
  refine va_get (D := D) (ci := 2) (v := .ref (a 2)) (C := RX2) (T := TX2) (N := 4) hx hb hts in_X2_flush_X2 hown hK hP 0 rfl rfl 1 (by decide) (hts _ (List.mem_of_getElem? (i := 1) rfl)) (fun _ h9 => h9) rfl dX2_flush_1 ?_
  refine va_getN (D := D) (ci := 0) (v := .int (xu_cnt u)) (C := RX0) (T := TX0) (N := 4) hx hb hts in_X2_flush_X0 hown hK hP 2 rfl rfl 3 (by decide) (hN.at 12 rfl) (fun _ h9 => h9) rfl dX2_flush_4 ?_
  refine lv_istore_n (lv' := [(1, .int (xu_cnt u)), (0, .ref (a 0))]) hx hb dX2_flush_7 rfl hl (by decide) rfl (fun ls hl => ?_)
  exact lbX2_flush_8 X K (xu_cnt u) u _ _ _ _ _ hf hP hD hS (lv_sub hl [1, 0] rfl)
end
theorem kX2_flush {l : Launch} {D : va_G} {a n : Nat → Nat} {cA : Nat → ClassId} {K : Nat} {u : XU} {r : Int32} {u2 : XU} (h : fX2_flush n K u = some (r, u2)) : vzC l D (XT cA) (XW a n cA) yX2_flush wsX2_flush rmX2_flush [.ref (a 0)] u r u2 := vzC.of (by decide) rfl (Nat.le_of_ble_eq_true rfl) (fun p e s m below meth c A ls X hP hD hl => lbX2_flush_e X u s.heap [] ls r u2 h hP hD va_S.rf hl)
abbrev rmX2_cut : Room := { frames := 5, cells := 0, slots := 0, locals := 111 }
theorem in_X2_cut_X2 : ∀ w ∈ u_ws RX2 TX2 4, w ∈ wsX2_cut := fun _ h => List.mem_cons_of_mem _ (List.mem_append_left _ (List.mem_append_left _ (List.mem_append_right _ h)))
theorem in_X2_cut_X0 : ∀ w ∈ u_ws RX0 TX0 4, w ∈ wsX2_cut := fun _ h => List.mem_cons_of_mem _ (List.mem_append_left _ (List.mem_append_right _ h))
theorem in_X2_cut_X1 : ∀ w ∈ u_ws RX1 TX1 11, w ∈ wsX2_cut := fun _ h => List.mem_cons_of_mem _ (List.mem_append_right _ h)
def fX2_cut (n : Nat → Nat) (K : Nat) (u : XU) : Option XU := (fX2_losePower n K u).bind fun z1 => (some z1)
section
variable {p : Program} {l : Launch} {e : Env} {s : State} {m : MethodId} {args : Array Value} {below : List Frame} {meth : Method} {c : Code} {D : va_G} {a n : Nat → Nat} {cA : Nat → ClassId} {A : Nat → Prop}
set_option maxHeartbeats 4000000 in
set_option maxRecDepth 100000 in
theorem lbX2_cut_e {K : Nat} (X : vzX D (XT cA) A wsX2_cut cX2_cut 1 none RX2 p s m args meth c) : ∀ (u : XU) (H : Heap) (locs : List Loc) (ls : Array Slot) (u2 : XU), fX2_cut n K u = some u2 → va_P D vwCl (XW a n cA u) H → va_D A (XW a n cA u) → va_S A s.heap H locs → lv_has ls 1 [(0, .ref (a 0))] → W p l e (headSpec wsX2_cut rmX2_cut).room s m args below meth c H locs 0 0 (MQ below (vzQv D (XT cA) (XW a n cA) A u2) args s 0 0 A) (F0 m 0 ls []) := by
  obtain ⟨hx, hb, hr, hml, hown, hts, hlk, hN, hK, hA⟩ := id X
  intro u H locs ls u2 hf hP hD hS hl
  unfold fX2_cut at hf
  refine lv_aload_n hx hb dX2_cut_0 rfl (lv_at hl 0 rfl) ?_
  obtain ⟨z1, hz2, hf⟩ := bd hf
  refine vz_callv (rest := []) X (kX2_losePower hz2) (cwV 0 hts gX2_cut_X2_losePower rfl rfl rfl (by decide +kernel) ⟨Nat.le_of_ble_eq_true rfl, Nat.le_of_ble_eq_true rfl⟩) 0 2 rfl rfl rfl hl.1 rfl (Nat.le_of_ble_eq_true rfl) dX2_cut_1 ⟨Nat.zero_le _, Nat.zero_le _⟩ hP hD hS (fun H locs hP hD hS => ?_)
  cases hf
  exact vz_vret X hP hD hS dX2_cut_4
end
theorem kX2_cut {l : Launch} {D : va_G} {a n : Nat → Nat} {cA : Nat → ClassId} {K : Nat} {u : XU} {u2 : XU} (h : fX2_cut n K u = some u2) : vzV l D (XT cA) (XW a n cA) yX2_cut wsX2_cut rmX2_cut [.ref (a 0)] u u2 := vzV.of (by decide) rfl (Nat.le_of_ble_eq_true rfl) (fun p e s m below meth c A ls X hP hD hl => lbX2_cut_e X u s.heap [] ls u2 h hP hD va_S.rf hl)
abbrev rmX2_fuse : Room := { frames := 0, cells := 0, slots := 0, locals := 0 }
theorem in_X2_fuse_X2 : ∀ w ∈ u_ws RX2 TX2 4, w ∈ wsX2_fuse := fun _ h => List.mem_cons_of_mem _ (List.mem_append_left _ (List.mem_append_right _ h))
theorem in_X2_fuse_X1 : ∀ w ∈ u_ws RX1 TX1 11, w ∈ wsX2_fuse := fun _ h => List.mem_cons_of_mem _ (List.mem_append_right _ h)
def fX2_fuse (n : Nat → Nat) (K : Nat) (x1 : Int32) (u : XU) : Option (Int32 × XU) := if x1 < 0 then (some (zI 0, u)) else (if x1 ≤ (zI 1000) then (some (zI 1, xu_s_fus u x1)) else (some (zI 0, u)))
section
variable {p : Program} {l : Launch} {e : Env} {s : State} {m : MethodId} {args : Array Value} {below : List Frame} {meth : Method} {c : Code} {D : va_G} {a n : Nat → Nat} {cA : Nat → ClassId} {A : Nat → Prop}
set_option maxHeartbeats 4000000 in
set_option maxRecDepth 100000 in
theorem lbX2_fuse_e {K : Nat} (X : vzX D (XT cA) A wsX2_fuse cX2_fuse 2 (some .boolean) RX2 p s m args meth c) : ∀ (x1 : Int32) (u : XU) (H : Heap) (locs : List Loc) (ls : Array Slot) (r : Int32) (u2 : XU), fX2_fuse n K x1 u = some (r, u2) → va_P D vwCl (XW a n cA u) H → va_D A (XW a n cA u) → va_S A s.heap H locs → lv_has ls 2 [(0, .ref (a 0)), (1, .int x1)] → W p l e (headSpec wsX2_fuse rmX2_fuse).room s m args below meth c H locs 0 0 (MQ below (vzQ D (XT cA) (XW a n cA) A r u2) args s 0 0 A) (F0 m 0 ls []) := by
  obtain ⟨hx, hb, hr, hml, hown, hts, hlk, hN, hK, hA⟩ := id X
  intro x1 u H locs ls r u2 hf hP hD hS hl
  unfold fX2_fuse at hf
  refine lv_iload_n hx hb dX2_fuse_0 rfl (lv_at hl 1 rfl) ?_
  refine lv_if_lt (tgt := 11) hx hb dX2_fuse_1 (by decide) (fun c1 => ?_) (fun c1 => ?_)
  · have hf := ift c1 hf
    refine lv_iconst (v := zI 0) hx hb dX2_fuse_11 (by decide) ?_
    cases hf
    exact vz_zret X rfl hP hD hS dX2_fuse_12
  · have hf := iff_ c1 hf
    refine lv_iload_n hx hb dX2_fuse_4 rfl (lv_at hl 1 rfl) ?_
    refine lv_sipush (v := zI 1000) hx hb dX2_fuse_5 (by decide) ?_
    refine lv_icmp_le (tgt := 13) hx hb dX2_fuse_8 (by decide) (fun c2 => ?_) (fun c2 => ?_)
    · have hf := ift c2 hf
      refine lv_aload_n hx hb dX2_fuse_13 rfl (lv_at hl 0 rfl) ?_
      refine va_get (D := D) (ci := 2) (v := .ref (a 1)) (C := RX2) (T := TX2) (N := 4) hx hb hts in_X2_fuse_X2 hown hK hP 0 rfl rfl 0 (by decide) (hts _ (List.mem_of_getElem? (i := 1) rfl)) (fun _ h9 => h9) rfl dX2_fuse_14 ?_
      refine lv_iload_n hx hb dX2_fuse_17 rfl (lv_at hl 1 rfl) ?_
      refine va_putN (D := D) (ci := 1) (v := .int x1) (ty := .int) (C := RX1) (T := TX1) (N := 11) hx hb hts in_X2_fuse_X1 tyX1 tyX1_ok nmX1 hown hK hP hD hS 1 rfl rfl 10 (by decide) (hN.at 8 rfl) (fun _ h9 => h9) rfl (by decide +kernel) rfl rfl (Nat.le_of_ble_eq_true rfl) dX2_fuse_18 (fun H locs hP hD hS => ?_)
      have hP : va_P D vwCl (XW a n cA (xu_s_fus u x1)) H := hP
      have hD : va_D A (XW a n cA (xu_s_fus u x1)) := hD
      refine lv_iconst (v := zI 1) hx hb dX2_fuse_21 (by decide) ?_
      cases hf
      exact vz_zret X rfl hP hD hS dX2_fuse_22
    · have hf := iff_ c2 hf
      refine lv_iconst (v := zI 0) hx hb dX2_fuse_11 (by decide) ?_
      cases hf
      exact vz_zret X rfl hP hD hS dX2_fuse_12
end
theorem kX2_fuse {l : Launch} {D : va_G} {a n : Nat → Nat} {cA : Nat → ClassId} {K : Nat} {x1 : Int32} {u : XU} {r : Int32} {u2 : XU} (h : fX2_fuse n K x1 u = some (r, u2)) : vzC l D (XT cA) (XW a n cA) yX2_fuse wsX2_fuse rmX2_fuse [.ref (a 0), .int x1] u r u2 := vzC.of (by decide) rfl (Nat.le_of_ble_eq_true rfl) (fun p e s m below meth c A ls X hP hD hl => lbX2_fuse_e X x1 u s.heap [] ls r u2 h hP hD va_S.rf hl)
abbrev rmX2_place : Room := { frames := 1, cells := 0, slots := 0, locals := 21 }
theorem in_X2_place_X2 : ∀ w ∈ u_ws RX2 TX2 4, w ∈ wsX2_place := fun _ h => List.mem_cons_of_mem _ (List.mem_append_left _ (List.mem_append_right _ h))
theorem in_X2_place_X1 : ∀ w ∈ u_ws RX1 TX1 11, w ∈ wsX2_place := fun _ h => List.mem_cons_of_mem _ (List.mem_append_right _ h)
def fX2_place (n : Nat → Nat) (K : Nat) (x1 : Int32) (u : XU) : Option (Int32 × XU) := (fX2_isSector n K x1 u).bind fun z1 => (if z1.1 = 0 then (some (zI (-1), z1.2)) else (vg x1 (n 9) (some ((xu_new z1.2) x1.toNatClampNeg, z1.2))))
section
variable {p : Program} {l : Launch} {e : Env} {s : State} {m : MethodId} {args : Array Value} {below : List Frame} {meth : Method} {c : Code} {D : va_G} {a n : Nat → Nat} {cA : Nat → ClassId} {A : Nat → Prop}
set_option maxHeartbeats 4000000 in
set_option maxRecDepth 100000 in
theorem lbX2_place_e {K : Nat} (X : vzX D (XT cA) A wsX2_place cX2_place 2 (some .int) RX2 p s m args meth c) : ∀ (x1 : Int32) (u : XU) (H : Heap) (locs : List Loc) (ls : Array Slot) (r : Int32) (u2 : XU), fX2_place n K x1 u = some (r, u2) → va_P D vwCl (XW a n cA u) H → va_D A (XW a n cA u) → va_S A s.heap H locs → lv_has ls 2 [(0, .ref (a 0)), (1, .int x1)] → W p l e (headSpec wsX2_place rmX2_place).room s m args below meth c H locs 0 0 (MQ below (vzQ D (XT cA) (XW a n cA) A r u2) args s 0 0 A) (F0 m 0 ls []) := by
  obtain ⟨hx, hb, hr, hml, hown, hts, hlk, hN, hK, hA⟩ := id X
  intro x1 u H locs ls r u2 hf hP hD hS hl
  unfold fX2_place at hf
  refine lv_aload_n hx hb dX2_place_0 rfl (lv_at hl 0 rfl) ?_
  refine lv_iload_n hx hb dX2_place_1 rfl (lv_at hl 1 rfl) ?_
  obtain ⟨z1, hz2, hf⟩ := bd hf
  refine vz_call (rest := []) X (kX2_isSector hz2) (cwV 1 hts gX2_place_X2_isSector rfl rfl rfl (by decide +kernel) ⟨Nat.le_of_ble_eq_true rfl, Nat.le_of_ble_eq_true rfl⟩) 0 2 rfl rfl rfl hl.1 rfl (Nat.le_of_ble_eq_true rfl) dX2_place_2 ⟨Nat.zero_le _, Nat.zero_le _⟩ hP hD hS (fun H locs hP hD hS => ?_)
  refine lv_if_eq (tgt := 20) hx hb dX2_place_5 (by decide) (fun c3 => ?_) (fun c3 => ?_)
  · have hf := ift c3 hf
    refine lv_iconst (v := zI (-1)) hx hb dX2_place_20 (by decide) ?_
    cases hf
    exact vz_iret X hP hD hS dX2_place_21
  · have hf := iff_ c3 hf
    refine lv_aload_n hx hb dX2_place_8 rfl (lv_at hl 0 rfl) ?_
    refine va_get (D := D) (ci := 2) (v := .ref (a 1)) (C := RX2) (T := TX2) (N := 4) hx hb hts in_X2_place_X2 hown hK hP 0 rfl rfl 0 (by decide) (hts _ (List.mem_of_getElem? (i := 1) rfl)) (fun _ h9 => h9) rfl dX2_place_9 ?_
    refine va_getN (D := D) (ci := 1) (v := .ref (a 9)) (C := RX1) (T := TX1) (N := 11) hx hb hts in_X2_place_X1 hown hK hP 1 rfl rfl 7 (by decide) (hN.at 5 rfl) (fun _ h9 => h9) rfl dX2_place_12 ?_
    refine lv_iload_n hx hb dX2_place_15 rfl (lv_at hl 1 rfl) ?_
    obtain ⟨g4, hf⟩ := vgs hf
    refine va_iald hx hb hK hP 9 6 rfl rfl g4 dX2_place_16 ?_
    refine lv_goto (tgt := 21) hx hb dX2_place_17 (by decide) ?_
    cases hf
    exact vz_iret X hP hD hS dX2_place_21
end
theorem kX2_place {l : Launch} {D : va_G} {a n : Nat → Nat} {cA : Nat → ClassId} {K : Nat} {x1 : Int32} {u : XU} {r : Int32} {u2 : XU} (h : fX2_place n K x1 u = some (r, u2)) : vzC l D (XT cA) (XW a n cA) yX2_place wsX2_place rmX2_place [.ref (a 0), .int x1] u r u2 := vzC.of (by decide) rfl (Nat.le_of_ble_eq_true rfl) (fun p e s m below meth c A ls X hP hD hl => lbX2_place_e X x1 u s.heap [] ls r u2 h hP hD va_S.rf hl)
end
section
abbrev rmX2_read : Room := { frames := 2, cells := 0, slots := 0, locals := 42 }
theorem in_X2_read_X2 : ∀ w ∈ u_ws RX2 TX2 4, w ∈ wsX2_read := fun _ h => List.mem_cons_of_mem _ (List.mem_append_left _ (List.mem_append_left _ (List.mem_append_right _ h)))
theorem in_X2_read_X0 : ∀ w ∈ u_ws RX0 TX0 4, w ∈ wsX2_read := fun _ h => List.mem_cons_of_mem _ (List.mem_append_left _ (List.mem_append_right _ h))
theorem in_X2_read_X1 : ∀ w ∈ u_ws RX1 TX1 11, w ∈ wsX2_read := fun _ h => List.mem_cons_of_mem _ (List.mem_append_right _ h)
def fX2_read (n : Nat → Nat) (K : Nat) (x1 : Int32) (u : XU) : Option (Int32 × XU) := (fX0_find n K x1 u).bind fun z1 => (if z1.1 = (zI (-1)) then ((fX2_place n K x1 z1.2).bind fun z4 => (if z4.1 = (zI (-1)) then (some (zI 0, z4.2)) else (vg z4.1 (n 4) (some ((xu_val z4.2) (z4.1).toNatClampNeg, z4.2))))) else (vg z1.1 (n 11) (some ((xu_bva z1.2) (z1.1).toNatClampNeg, z1.2))))
section
variable {p : Program} {l : Launch} {e : Env} {s : State} {m : MethodId} {args : Array Value} {below : List Frame} {meth : Method} {c : Code} {D : va_G} {a n : Nat → Nat} {cA : Nat → ClassId} {A : Nat → Prop}
set_option maxHeartbeats 4000000 in
set_option maxRecDepth 100000 in
theorem lbX2_read_e {K : Nat} (X : vzX D (XT cA) A wsX2_read cX2_read 4 (some .int) RX2 p s m args meth c) : ∀ (x1 : Int32) (u : XU) (H : Heap) (locs : List Loc) (ls : Array Slot) (r : Int32) (u2 : XU), fX2_read n K x1 u = some (r, u2) → va_P D vwCl (XW a n cA u) H → va_D A (XW a n cA u) → va_S A s.heap H locs → lv_has ls 4 [(0, .ref (a 0)), (1, .int x1)] → W p l e (headSpec wsX2_read rmX2_read).room s m args below meth c H locs 0 0 (MQ below (vzQ D (XT cA) (XW a n cA) A r u2) args s 0 0 A) (F0 m 0 ls []) := by
  obtain ⟨hx, hb, hr, hml, hown, hts, hlk, hN, hK, hA⟩ := id X
  intro x1 u H locs ls r u2 hf hP hD hS hl
  unfold fX2_read at hf
  refine lv_aload_n hx hb dX2_read_0 rfl (lv_at hl 0 rfl) ?_
  refine va_get (D := D) (ci := 2) (v := .ref (a 2)) (C := RX2) (T := TX2) (N := 4) hx hb hts in_X2_read_X2 hown hK hP 0 rfl rfl 1 (by decide) (hts _ (List.mem_of_getElem? (i := 1) rfl)) (fun _ h9 => h9) rfl dX2_read_1 ?_
  refine lv_iload_n hx hb dX2_read_4 rfl (lv_at hl 1 rfl) ?_
  obtain ⟨z1, hz2, hf⟩ := bd hf
  refine vz_call (rest := []) X (kX0_find hz2) (cwV 1 hts gX2_read_X0_find rfl rfl rfl (by decide +kernel) ⟨Nat.le_of_ble_eq_true rfl, Nat.le_of_ble_eq_true rfl⟩) 2 0 rfl rfl rfl hl.1 rfl (Nat.le_of_ble_eq_true rfl) dX2_read_5 ⟨Nat.zero_le _, Nat.zero_le _⟩ hP hD hS (fun H locs hP hD hS => ?_)
  refine lv_istore_n (lv' := [(2, .int z1.1), (0, .ref (a 0)), (1, .int x1)]) hx hb dX2_read_8 rfl hl (by decide) rfl (fun ls hl => ?_)
  refine lv_iload_n hx hb dX2_read_9 rfl (lv_at hl 0 rfl) ?_
  refine lv_iconst (v := zI (-1)) hx hb dX2_read_10 (by decide) ?_
  refine lv_icmp_eq (tgt := 24) hx hb dX2_read_11 (by decide) (fun c3 => ?_) (fun c3 => ?_)
  · have hf := ift c3 hf
    refine lv_aload_n hx hb dX2_read_24 rfl (lv_at hl 1 rfl) ?_
    refine lv_iload_n hx hb dX2_read_25 rfl (lv_at hl 2 rfl) ?_
    obtain ⟨z4, hz5, hf⟩ := bd hf
    refine vz_call (rest := []) X (kX2_place hz5) (cwV 1 hts gX2_read_X2_place rfl rfl rfl (by decide +kernel) ⟨Nat.le_of_ble_eq_true rfl, Nat.le_of_ble_eq_true rfl⟩) 0 2 rfl rfl rfl hl.1 rfl (Nat.le_of_ble_eq_true rfl) dX2_read_26 ⟨Nat.zero_le _, Nat.zero_le _⟩ hP hD hS (fun H locs hP hD hS => ?_)
    refine lv_istore_n (lv' := [(3, .int z4.1), (2, .int z1.1), (0, .ref (a 0)), (1, .int x1)]) hx hb dX2_read_29 rfl hl (by decide) rfl (fun ls hl => ?_)
    refine lv_iload_n hx hb dX2_read_30 rfl (lv_at hl 0 rfl) ?_
    refine lv_iconst (v := zI (-1)) hx hb dX2_read_31 (by decide) ?_
    refine lv_icmp_ne (tgt := 39) hx hb dX2_read_32 (by decide) (fun c6 => ?_) (fun c6 => ?_)
    · have hf := iff_ c6 hf
      refine lv_aload_n hx hb dX2_read_39 rfl (lv_at hl 2 rfl) ?_
      refine va_get (D := D) (ci := 2) (v := .ref (a 1)) (C := RX2) (T := TX2) (N := 4) hx hb hts in_X2_read_X2 hown hK hP 0 rfl rfl 0 (by decide) (hts _ (List.mem_of_getElem? (i := 2) rfl)) (fun _ h9 => h9) rfl dX2_read_40 ?_
      refine va_getN (D := D) (ci := 1) (v := .ref (a 4)) (C := RX1) (T := TX1) (N := 11) hx hb hts in_X2_read_X1 hown hK hP 1 rfl rfl 2 (by decide) (hN.at 1 rfl) (fun _ h9 => h9) rfl dX2_read_43 ?_
      refine lv_iload_n hx hb dX2_read_46 rfl (lv_at hl 0 rfl) ?_
      obtain ⟨g7, hf⟩ := vgs hf
      refine va_iald hx hb hK hP 4 1 rfl rfl g7 dX2_read_47 ?_
      cases hf
      exact vz_iret X hP hD hS dX2_read_48
    · have hf := ift c6 hf
      refine lv_iconst (v := zI 0) hx hb dX2_read_35 (by decide) ?_
      refine lv_goto (tgt := 48) hx hb dX2_read_36 (by decide) ?_
      cases hf
      exact vz_iret X hP hD hS dX2_read_48
  · have hf := iff_ c3 hf
    refine lv_aload_n hx hb dX2_read_14 rfl (lv_at hl 1 rfl) ?_
    refine va_get (D := D) (ci := 2) (v := .ref (a 2)) (C := RX2) (T := TX2) (N := 4) hx hb hts in_X2_read_X2 hown hK hP 0 rfl rfl 1 (by decide) (hts _ (List.mem_of_getElem? (i := 1) rfl)) (fun _ h9 => h9) rfl dX2_read_15 ?_
    refine va_getN (D := D) (ci := 0) (v := .ref (a 11)) (C := RX0) (T := TX0) (N := 4) hx hb hts in_X2_read_X0 hown hK hP 2 rfl rfl 1 (by decide) (hN.at 10 rfl) (fun _ h9 => h9) rfl dX2_read_18 ?_
    refine lv_iload_n hx hb dX2_read_21 rfl (lv_at hl 0 rfl) ?_
    obtain ⟨g8, hf⟩ := vgs hf
    refine va_iald hx hb hK hP 11 8 rfl rfl g8 dX2_read_22 ?_
    cases hf
    exact vz_iret X hP hD hS dX2_read_23
end
theorem kX2_read {l : Launch} {D : va_G} {a n : Nat → Nat} {cA : Nat → ClassId} {K : Nat} {x1 : Int32} {u : XU} {r : Int32} {u2 : XU} (h : fX2_read n K x1 u = some (r, u2)) : vzC l D (XT cA) (XW a n cA) yX2_read wsX2_read rmX2_read [.ref (a 0), .int x1] u r u2 := vzC.of (by decide) rfl (Nat.le_of_ble_eq_true rfl) (fun p e s m below meth c A ls X hP hD hl => lbX2_read_e X x1 u s.heap [] ls r u2 h hP hD va_S.rf hl)
abbrev rmX2_holds : Room := { frames := 2, cells := 0, slots := 0, locals := 42 }
theorem in_X2_holds_X2 : ∀ w ∈ u_ws RX2 TX2 4, w ∈ wsX2_holds := fun _ h => List.mem_cons_of_mem _ (List.mem_append_left _ (List.mem_append_left _ (List.mem_append_right _ h)))
theorem in_X2_holds_X0 : ∀ w ∈ u_ws RX0 TX0 4, w ∈ wsX2_holds := fun _ h => List.mem_cons_of_mem _ (List.mem_append_left _ (List.mem_append_right _ h))
theorem in_X2_holds_X1 : ∀ w ∈ u_ws RX1 TX1 11, w ∈ wsX2_holds := fun _ h => List.mem_cons_of_mem _ (List.mem_append_right _ h)
def fX2_holds (n : Nat → Nat) (K : Nat) (x1 : Int32) (u : XU) : Option (Int32 × XU) := (fX0_find n K x1 u).bind fun z1 => (if z1.1 = (zI (-1)) then ((fX2_place n K x1 z1.2).bind fun z4 => (if z4.1 = (zI (-1)) then (some (zI 0, z4.2)) else (vg z4.1 (n 5) (some ((xu_kin z4.2) (z4.1).toNatClampNeg, z4.2))))) else (vg z1.1 (n 12) (some ((xu_bki z1.2) (z1.1).toNatClampNeg, z1.2))))
section
variable {p : Program} {l : Launch} {e : Env} {s : State} {m : MethodId} {args : Array Value} {below : List Frame} {meth : Method} {c : Code} {D : va_G} {a n : Nat → Nat} {cA : Nat → ClassId} {A : Nat → Prop}
set_option maxHeartbeats 4000000 in
set_option maxRecDepth 100000 in
theorem lbX2_holds_e {K : Nat} (X : vzX D (XT cA) A wsX2_holds cX2_holds 4 (some .int) RX2 p s m args meth c) : ∀ (x1 : Int32) (u : XU) (H : Heap) (locs : List Loc) (ls : Array Slot) (r : Int32) (u2 : XU), fX2_holds n K x1 u = some (r, u2) → va_P D vwCl (XW a n cA u) H → va_D A (XW a n cA u) → va_S A s.heap H locs → lv_has ls 4 [(0, .ref (a 0)), (1, .int x1)] → W p l e (headSpec wsX2_holds rmX2_holds).room s m args below meth c H locs 0 0 (MQ below (vzQ D (XT cA) (XW a n cA) A r u2) args s 0 0 A) (F0 m 0 ls []) := by
  obtain ⟨hx, hb, hr, hml, hown, hts, hlk, hN, hK, hA⟩ := id X
  intro x1 u H locs ls r u2 hf hP hD hS hl
  unfold fX2_holds at hf
  refine lv_aload_n hx hb dX2_holds_0 rfl (lv_at hl 0 rfl) ?_
  refine va_get (D := D) (ci := 2) (v := .ref (a 2)) (C := RX2) (T := TX2) (N := 4) hx hb hts in_X2_holds_X2 hown hK hP 0 rfl rfl 1 (by decide) (hts _ (List.mem_of_getElem? (i := 1) rfl)) (fun _ h9 => h9) rfl dX2_holds_1 ?_
  refine lv_iload_n hx hb dX2_holds_4 rfl (lv_at hl 1 rfl) ?_
  obtain ⟨z1, hz2, hf⟩ := bd hf
  refine vz_call (rest := []) X (kX0_find hz2) (cwV 1 hts gX2_holds_X0_find rfl rfl rfl (by decide +kernel) ⟨Nat.le_of_ble_eq_true rfl, Nat.le_of_ble_eq_true rfl⟩) 2 0 rfl rfl rfl hl.1 rfl (Nat.le_of_ble_eq_true rfl) dX2_holds_5 ⟨Nat.zero_le _, Nat.zero_le _⟩ hP hD hS (fun H locs hP hD hS => ?_)
  refine lv_istore_n (lv' := [(2, .int z1.1), (0, .ref (a 0)), (1, .int x1)]) hx hb dX2_holds_8 rfl hl (by decide) rfl (fun ls hl => ?_)
  refine lv_iload_n hx hb dX2_holds_9 rfl (lv_at hl 0 rfl) ?_
  refine lv_iconst (v := zI (-1)) hx hb dX2_holds_10 (by decide) ?_
  refine lv_icmp_eq (tgt := 24) hx hb dX2_holds_11 (by decide) (fun c3 => ?_) (fun c3 => ?_)
  · have hf := ift c3 hf
    refine lv_aload_n hx hb dX2_holds_24 rfl (lv_at hl 1 rfl) ?_
    refine lv_iload_n hx hb dX2_holds_25 rfl (lv_at hl 2 rfl) ?_
    obtain ⟨z4, hz5, hf⟩ := bd hf
    refine vz_call (rest := []) X (kX2_place hz5) (cwV 1 hts gX2_holds_X2_place rfl rfl rfl (by decide +kernel) ⟨Nat.le_of_ble_eq_true rfl, Nat.le_of_ble_eq_true rfl⟩) 0 2 rfl rfl rfl hl.1 rfl (Nat.le_of_ble_eq_true rfl) dX2_holds_26 ⟨Nat.zero_le _, Nat.zero_le _⟩ hP hD hS (fun H locs hP hD hS => ?_)
    refine lv_istore_n (lv' := [(3, .int z4.1), (2, .int z1.1), (0, .ref (a 0)), (1, .int x1)]) hx hb dX2_holds_29 rfl hl (by decide) rfl (fun ls hl => ?_)
    refine lv_iload_n hx hb dX2_holds_30 rfl (lv_at hl 0 rfl) ?_
    refine lv_iconst (v := zI (-1)) hx hb dX2_holds_31 (by decide) ?_
    refine lv_icmp_ne (tgt := 39) hx hb dX2_holds_32 (by decide) (fun c6 => ?_) (fun c6 => ?_)
    · have hf := iff_ c6 hf
      refine lv_aload_n hx hb dX2_holds_39 rfl (lv_at hl 2 rfl) ?_
      refine va_get (D := D) (ci := 2) (v := .ref (a 1)) (C := RX2) (T := TX2) (N := 4) hx hb hts in_X2_holds_X2 hown hK hP 0 rfl rfl 0 (by decide) (hts _ (List.mem_of_getElem? (i := 2) rfl)) (fun _ h9 => h9) rfl dX2_holds_40 ?_
      refine va_getN (D := D) (ci := 1) (v := .ref (a 5)) (C := RX1) (T := TX1) (N := 11) hx hb hts in_X2_holds_X1 hown hK hP 1 rfl rfl 3 (by decide) (hN.at 2 rfl) (fun _ h9 => h9) rfl dX2_holds_43 ?_
      refine lv_iload_n hx hb dX2_holds_46 rfl (lv_at hl 0 rfl) ?_
      obtain ⟨g7, hf⟩ := vgs hf
      refine va_iald hx hb hK hP 5 2 rfl rfl g7 dX2_holds_47 ?_
      cases hf
      exact vz_iret X hP hD hS dX2_holds_48
    · have hf := ift c6 hf
      refine lv_iconst (v := zI 0) hx hb dX2_holds_35 (by decide) ?_
      refine lv_goto (tgt := 48) hx hb dX2_holds_36 (by decide) ?_
      cases hf
      exact vz_iret X hP hD hS dX2_holds_48
  · have hf := iff_ c3 hf
    refine lv_aload_n hx hb dX2_holds_14 rfl (lv_at hl 1 rfl) ?_
    refine va_get (D := D) (ci := 2) (v := .ref (a 2)) (C := RX2) (T := TX2) (N := 4) hx hb hts in_X2_holds_X2 hown hK hP 0 rfl rfl 1 (by decide) (hts _ (List.mem_of_getElem? (i := 1) rfl)) (fun _ h9 => h9) rfl dX2_holds_15 ?_
    refine va_getN (D := D) (ci := 0) (v := .ref (a 12)) (C := RX0) (T := TX0) (N := 4) hx hb hts in_X2_holds_X0 hown hK hP 2 rfl rfl 2 (by decide) (hN.at 11 rfl) (fun _ h9 => h9) rfl dX2_holds_18 ?_
    refine lv_iload_n hx hb dX2_holds_21 rfl (lv_at hl 0 rfl) ?_
    obtain ⟨g8, hf⟩ := vgs hf
    refine va_iald hx hb hK hP 12 9 rfl rfl g8 dX2_holds_22 ?_
    cases hf
    exact vz_iret X hP hD hS dX2_holds_23
end
theorem kX2_holds {l : Launch} {D : va_G} {a n : Nat → Nat} {cA : Nat → ClassId} {K : Nat} {x1 : Int32} {u : XU} {r : Int32} {u2 : XU} (h : fX2_holds n K x1 u = some (r, u2)) : vzC l D (XT cA) (XW a n cA) yX2_holds wsX2_holds rmX2_holds [.ref (a 0), .int x1] u r u2 := vzC.of (by decide) rfl (Nat.le_of_ble_eq_true rfl) (fun p e s m below meth c A ls X hP hD hl => lbX2_holds_e X x1 u s.heap [] ls r u2 h hP hD va_S.rf hl)
abbrev rmX2_buffered : Room := { frames := 0, cells := 0, slots := 0, locals := 0 }
theorem in_X2_buffered_X2 : ∀ w ∈ u_ws RX2 TX2 4, w ∈ wsX2_buffered := fun _ h => List.mem_cons_of_mem _ (List.mem_append_left _ (List.mem_append_right _ h))
theorem in_X2_buffered_X0 : ∀ w ∈ u_ws RX0 TX0 4, w ∈ wsX2_buffered := fun _ h => List.mem_cons_of_mem _ (List.mem_append_right _ h)
def fX2_buffered (n : Nat → Nat) (K : Nat) (u : XU) : Option (Int32 × XU) := some (xu_cnt u, u)
section
variable {p : Program} {l : Launch} {e : Env} {s : State} {m : MethodId} {args : Array Value} {below : List Frame} {meth : Method} {c : Code} {D : va_G} {a n : Nat → Nat} {cA : Nat → ClassId} {A : Nat → Prop}
set_option maxHeartbeats 4000000 in
set_option maxRecDepth 100000 in
theorem lbX2_buffered_e {K : Nat} (X : vzX D (XT cA) A wsX2_buffered cX2_buffered 1 (some .int) RX2 p s m args meth c) : ∀ (u : XU) (H : Heap) (locs : List Loc) (ls : Array Slot) (r : Int32) (u2 : XU), fX2_buffered n K u = some (r, u2) → va_P D vwCl (XW a n cA u) H → va_D A (XW a n cA u) → va_S A s.heap H locs → lv_has ls 1 [(0, .ref (a 0))] → W p l e (headSpec wsX2_buffered rmX2_buffered).room s m args below meth c H locs 0 0 (MQ below (vzQ D (XT cA) (XW a n cA) A r u2) args s 0 0 A) (F0 m 0 ls []) := by
  obtain ⟨hx, hb, hr, hml, hown, hts, hlk, hN, hK, hA⟩ := id X
  intro u H locs ls r u2 hf hP hD hS hl
  unfold fX2_buffered at hf
  refine lv_aload_n hx hb dX2_buffered_0 rfl (lv_at hl 0 rfl) ?_
  refine va_get (D := D) (ci := 2) (v := .ref (a 2)) (C := RX2) (T := TX2) (N := 4) hx hb hts in_X2_buffered_X2 hown hK hP 0 rfl rfl 1 (by decide) (hts _ (List.mem_of_getElem? (i := 1) rfl)) (fun _ h9 => h9) rfl dX2_buffered_1 ?_
  refine va_getN (D := D) (ci := 0) (v := .int (xu_cnt u)) (C := RX0) (T := TX0) (N := 4) hx hb hts in_X2_buffered_X0 hown hK hP 2 rfl rfl 3 (by decide) (hN.at 12 rfl) (fun _ h9 => h9) rfl dX2_buffered_4 ?_
  cases hf
  exact vz_iret X hP hD hS dX2_buffered_7
end
theorem kX2_buffered {l : Launch} {D : va_G} {a n : Nat → Nat} {cA : Nat → ClassId} {K : Nat} {u : XU} {r : Int32} {u2 : XU} (h : fX2_buffered n K u = some (r, u2)) : vzC l D (XT cA) (XW a n cA) yX2_buffered wsX2_buffered rmX2_buffered [.ref (a 0)] u r u2 := vzC.of (by decide) rfl (Nat.le_of_ble_eq_true rfl) (fun p e s m below meth c A ls X hP hD hl => lbX2_buffered_e X u s.heap [] ls r u2 h hP hD va_S.rf hl)
abbrev rmX2_tag : Room := { frames := 1, cells := 0, slots := 0, locals := 21 }
theorem in_X2_tag_X2 : ∀ w ∈ u_ws RX2 TX2 4, w ∈ wsX2_tag := fun _ h => List.mem_cons_of_mem _ (List.mem_append_left _ (List.mem_append_right _ h))
theorem in_X2_tag_X1 : ∀ w ∈ u_ws RX1 TX1 11, w ∈ wsX2_tag := fun _ h => List.mem_cons_of_mem _ (List.mem_append_right _ h)
def fX2_tag (n : Nat → Nat) (K : Nat) (x1 : Int32) (u : XU) : Option (Int32 × XU) := (fX1_isProgrammed n K x1 u).bind fun z1 => (if z1.1 = 0 then (some (zI (-1), z1.2)) else (vg x1 (n 3) (some ((xu_own z1.2) x1.toNatClampNeg, z1.2))))
section
variable {p : Program} {l : Launch} {e : Env} {s : State} {m : MethodId} {args : Array Value} {below : List Frame} {meth : Method} {c : Code} {D : va_G} {a n : Nat → Nat} {cA : Nat → ClassId} {A : Nat → Prop}
set_option maxHeartbeats 4000000 in
set_option maxRecDepth 100000 in
theorem lbX2_tag_e {K : Nat} (X : vzX D (XT cA) A wsX2_tag cX2_tag 2 (some .int) RX2 p s m args meth c) : ∀ (x1 : Int32) (u : XU) (H : Heap) (locs : List Loc) (ls : Array Slot) (r : Int32) (u2 : XU), fX2_tag n K x1 u = some (r, u2) → va_P D vwCl (XW a n cA u) H → va_D A (XW a n cA u) → va_S A s.heap H locs → lv_has ls 2 [(0, .ref (a 0)), (1, .int x1)] → W p l e (headSpec wsX2_tag rmX2_tag).room s m args below meth c H locs 0 0 (MQ below (vzQ D (XT cA) (XW a n cA) A r u2) args s 0 0 A) (F0 m 0 ls []) := by
  obtain ⟨hx, hb, hr, hml, hown, hts, hlk, hN, hK, hA⟩ := id X
  intro x1 u H locs ls r u2 hf hP hD hS hl
  unfold fX2_tag at hf
  refine lv_aload_n hx hb dX2_tag_0 rfl (lv_at hl 0 rfl) ?_
  refine va_get (D := D) (ci := 2) (v := .ref (a 1)) (C := RX2) (T := TX2) (N := 4) hx hb hts in_X2_tag_X2 hown hK hP 0 rfl rfl 0 (by decide) (hts _ (List.mem_of_getElem? (i := 1) rfl)) (fun _ h9 => h9) rfl dX2_tag_1 ?_
  refine lv_iload_n hx hb dX2_tag_4 rfl (lv_at hl 1 rfl) ?_
  obtain ⟨z1, hz2, hf⟩ := bd hf
  refine vz_call (rest := []) X (kX1_isProgrammed hz2) (cwV 1 hts gX2_tag_X1_isProgrammed rfl rfl rfl (by decide +kernel) ⟨Nat.le_of_ble_eq_true rfl, Nat.le_of_ble_eq_true rfl⟩) 1 1 rfl rfl rfl hl.1 rfl (Nat.le_of_ble_eq_true rfl) dX2_tag_5 ⟨Nat.zero_le _, Nat.zero_le _⟩ hP hD hS (fun H locs hP hD hS => ?_)
  refine lv_if_eq (tgt := 23) hx hb dX2_tag_8 (by decide) (fun c3 => ?_) (fun c3 => ?_)
  · have hf := ift c3 hf
    refine lv_iconst (v := zI (-1)) hx hb dX2_tag_23 (by decide) ?_
    cases hf
    exact vz_iret X hP hD hS dX2_tag_24
  · have hf := iff_ c3 hf
    refine lv_aload_n hx hb dX2_tag_11 rfl (lv_at hl 0 rfl) ?_
    refine va_get (D := D) (ci := 2) (v := .ref (a 1)) (C := RX2) (T := TX2) (N := 4) hx hb hts in_X2_tag_X2 hown hK hP 0 rfl rfl 0 (by decide) (hts _ (List.mem_of_getElem? (i := 1) rfl)) (fun _ h9 => h9) rfl dX2_tag_12 ?_
    refine va_getN (D := D) (ci := 1) (v := .ref (a 3)) (C := RX1) (T := TX1) (N := 11) hx hb hts in_X2_tag_X1 hown hK hP 1 rfl rfl 1 (by decide) (hN.at 0 rfl) (fun _ h9 => h9) rfl dX2_tag_15 ?_
    refine lv_iload_n hx hb dX2_tag_18 rfl (lv_at hl 1 rfl) ?_
    obtain ⟨g4, hf⟩ := vgs hf
    refine va_iald hx hb hK hP 3 0 rfl rfl g4 dX2_tag_19 ?_
    refine lv_goto (tgt := 24) hx hb dX2_tag_20 (by decide) ?_
    cases hf
    exact vz_iret X hP hD hS dX2_tag_24
end
theorem kX2_tag {l : Launch} {D : va_G} {a n : Nat → Nat} {cA : Nat → ClassId} {K : Nat} {x1 : Int32} {u : XU} {r : Int32} {u2 : XU} (h : fX2_tag n K x1 u = some (r, u2)) : vzC l D (XT cA) (XW a n cA) yX2_tag wsX2_tag rmX2_tag [.ref (a 0), .int x1] u r u2 := vzC.of (by decide) rfl (Nat.le_of_ble_eq_true rfl) (fun p e s m below meth c A ls X hP hD hl => lbX2_tag_e X x1 u s.heap [] ls r u2 h hP hD va_S.rf hl)
abbrev rmX2_serial : Room := { frames := 1, cells := 0, slots := 0, locals := 21 }
theorem in_X2_serial_X2 : ∀ w ∈ u_ws RX2 TX2 4, w ∈ wsX2_serial := fun _ h => List.mem_cons_of_mem _ (List.mem_append_left _ (List.mem_append_right _ h))
theorem in_X2_serial_X1 : ∀ w ∈ u_ws RX1 TX1 11, w ∈ wsX2_serial := fun _ h => List.mem_cons_of_mem _ (List.mem_append_right _ h)
def fX2_serial (n : Nat → Nat) (K : Nat) (x1 : Int32) (u : XU) : Option (Int32 × XU) := (fX1_isProgrammed n K x1 u).bind fun z1 => (if z1.1 = 0 then (some (zI (-1), z1.2)) else (vg x1 (n 6) (some ((xu_ser z1.2) x1.toNatClampNeg, z1.2))))
section
variable {p : Program} {l : Launch} {e : Env} {s : State} {m : MethodId} {args : Array Value} {below : List Frame} {meth : Method} {c : Code} {D : va_G} {a n : Nat → Nat} {cA : Nat → ClassId} {A : Nat → Prop}
set_option maxHeartbeats 4000000 in
set_option maxRecDepth 100000 in
theorem lbX2_serial_e {K : Nat} (X : vzX D (XT cA) A wsX2_serial cX2_serial 2 (some .int) RX2 p s m args meth c) : ∀ (x1 : Int32) (u : XU) (H : Heap) (locs : List Loc) (ls : Array Slot) (r : Int32) (u2 : XU), fX2_serial n K x1 u = some (r, u2) → va_P D vwCl (XW a n cA u) H → va_D A (XW a n cA u) → va_S A s.heap H locs → lv_has ls 2 [(0, .ref (a 0)), (1, .int x1)] → W p l e (headSpec wsX2_serial rmX2_serial).room s m args below meth c H locs 0 0 (MQ below (vzQ D (XT cA) (XW a n cA) A r u2) args s 0 0 A) (F0 m 0 ls []) := by
  obtain ⟨hx, hb, hr, hml, hown, hts, hlk, hN, hK, hA⟩ := id X
  intro x1 u H locs ls r u2 hf hP hD hS hl
  unfold fX2_serial at hf
  refine lv_aload_n hx hb dX2_serial_0 rfl (lv_at hl 0 rfl) ?_
  refine va_get (D := D) (ci := 2) (v := .ref (a 1)) (C := RX2) (T := TX2) (N := 4) hx hb hts in_X2_serial_X2 hown hK hP 0 rfl rfl 0 (by decide) (hts _ (List.mem_of_getElem? (i := 1) rfl)) (fun _ h9 => h9) rfl dX2_serial_1 ?_
  refine lv_iload_n hx hb dX2_serial_4 rfl (lv_at hl 1 rfl) ?_
  obtain ⟨z1, hz2, hf⟩ := bd hf
  refine vz_call (rest := []) X (kX1_isProgrammed hz2) (cwV 1 hts gX2_serial_X1_isProgrammed rfl rfl rfl (by decide +kernel) ⟨Nat.le_of_ble_eq_true rfl, Nat.le_of_ble_eq_true rfl⟩) 1 1 rfl rfl rfl hl.1 rfl (Nat.le_of_ble_eq_true rfl) dX2_serial_5 ⟨Nat.zero_le _, Nat.zero_le _⟩ hP hD hS (fun H locs hP hD hS => ?_)
  refine lv_if_eq (tgt := 23) hx hb dX2_serial_8 (by decide) (fun c3 => ?_) (fun c3 => ?_)
  · have hf := ift c3 hf
    refine lv_iconst (v := zI (-1)) hx hb dX2_serial_23 (by decide) ?_
    cases hf
    exact vz_iret X hP hD hS dX2_serial_24
  · have hf := iff_ c3 hf
    refine lv_aload_n hx hb dX2_serial_11 rfl (lv_at hl 0 rfl) ?_
    refine va_get (D := D) (ci := 2) (v := .ref (a 1)) (C := RX2) (T := TX2) (N := 4) hx hb hts in_X2_serial_X2 hown hK hP 0 rfl rfl 0 (by decide) (hts _ (List.mem_of_getElem? (i := 1) rfl)) (fun _ h9 => h9) rfl dX2_serial_12 ?_
    refine va_getN (D := D) (ci := 1) (v := .ref (a 6)) (C := RX1) (T := TX1) (N := 11) hx hb hts in_X2_serial_X1 hown hK hP 1 rfl rfl 4 (by decide) (hN.at 3 rfl) (fun _ h9 => h9) rfl dX2_serial_15 ?_
    refine lv_iload_n hx hb dX2_serial_18 rfl (lv_at hl 1 rfl) ?_
    obtain ⟨g4, hf⟩ := vgs hf
    refine va_iald hx hb hK hP 6 3 rfl rfl g4 dX2_serial_19 ?_
    refine lv_goto (tgt := 24) hx hb dX2_serial_20 (by decide) ?_
    cases hf
    exact vz_iret X hP hD hS dX2_serial_24
end
theorem kX2_serial {l : Launch} {D : va_G} {a n : Nat → Nat} {cA : Nat → ClassId} {K : Nat} {x1 : Int32} {u : XU} {r : Int32} {u2 : XU} (h : fX2_serial n K x1 u = some (r, u2)) : vzC l D (XT cA) (XW a n cA) yX2_serial wsX2_serial rmX2_serial [.ref (a 0), .int x1] u r u2 := vzC.of (by decide) rfl (Nat.le_of_ble_eq_true rfl) (fun p e s m below meth c A ls X hP hD hl => lbX2_serial_e X x1 u s.heap [] ls r u2 h hP hD va_S.rf hl)
abbrev rmX2_valid : Room := { frames := 2, cells := 0, slots := 0, locals := 44 }
theorem in_X2_valid_X2 : ∀ w ∈ u_ws RX2 TX2 4, w ∈ wsX2_valid := fun _ h => List.mem_cons_of_mem _ (List.mem_append_left _ (List.mem_append_right _ h))
theorem in_X2_valid_X1 : ∀ w ∈ u_ws RX1 TX1 11, w ∈ wsX2_valid := fun _ h => List.mem_cons_of_mem _ (List.mem_append_right _ h)
def fX2_valid (n : Nat → Nat) (K : Nat) (x1 : Int32) (u : XU) : Option (Int32 × XU) := (fX1_isBlock n K x1 u).bind fun z1 => (if z1.1 = 0 then (some (zI (-1), z1.2)) else ((fX1_countValid n K x1 z1.2).bind fun z4 => (some (z4.1, z4.2))))
section
variable {p : Program} {l : Launch} {e : Env} {s : State} {m : MethodId} {args : Array Value} {below : List Frame} {meth : Method} {c : Code} {D : va_G} {a n : Nat → Nat} {cA : Nat → ClassId} {A : Nat → Prop}
set_option maxHeartbeats 4000000 in
set_option maxRecDepth 100000 in
theorem lbX2_valid_e {K : Nat} (X : vzX D (XT cA) A wsX2_valid cX2_valid 2 (some .int) RX2 p s m args meth c) : ∀ (x1 : Int32) (u : XU) (H : Heap) (locs : List Loc) (ls : Array Slot) (r : Int32) (u2 : XU), fX2_valid n K x1 u = some (r, u2) → va_P D vwCl (XW a n cA u) H → va_D A (XW a n cA u) → va_S A s.heap H locs → lv_has ls 2 [(0, .ref (a 0)), (1, .int x1)] → W p l e (headSpec wsX2_valid rmX2_valid).room s m args below meth c H locs 0 0 (MQ below (vzQ D (XT cA) (XW a n cA) A r u2) args s 0 0 A) (F0 m 0 ls []) := by
  obtain ⟨hx, hb, hr, hml, hown, hts, hlk, hN, hK, hA⟩ := id X
  intro x1 u H locs ls r u2 hf hP hD hS hl
  unfold fX2_valid at hf
  refine lv_aload_n hx hb dX2_valid_0 rfl (lv_at hl 0 rfl) ?_
  refine va_get (D := D) (ci := 2) (v := .ref (a 1)) (C := RX2) (T := TX2) (N := 4) hx hb hts in_X2_valid_X2 hown hK hP 0 rfl rfl 0 (by decide) (hts _ (List.mem_of_getElem? (i := 1) rfl)) (fun _ h9 => h9) rfl dX2_valid_1 ?_
  refine lv_iload_n hx hb dX2_valid_4 rfl (lv_at hl 1 rfl) ?_
  obtain ⟨z1, hz2, hf⟩ := bd hf
  refine vz_call (rest := []) X (kX1_isBlock hz2) (cwV 1 hts gX2_valid_X1_isBlock rfl rfl rfl (by decide +kernel) ⟨Nat.le_of_ble_eq_true rfl, Nat.le_of_ble_eq_true rfl⟩) 1 1 rfl rfl rfl hl.1 rfl (Nat.le_of_ble_eq_true rfl) dX2_valid_5 ⟨Nat.zero_le _, Nat.zero_le _⟩ hP hD hS (fun H locs hP hD hS => ?_)
  refine lv_if_eq (tgt := 22) hx hb dX2_valid_8 (by decide) (fun c3 => ?_) (fun c3 => ?_)
  · have hf := ift c3 hf
    refine lv_iconst (v := zI (-1)) hx hb dX2_valid_22 (by decide) ?_
    cases hf
    exact vz_iret X hP hD hS dX2_valid_23
  · have hf := iff_ c3 hf
    refine lv_aload_n hx hb dX2_valid_11 rfl (lv_at hl 0 rfl) ?_
    refine va_get (D := D) (ci := 2) (v := .ref (a 1)) (C := RX2) (T := TX2) (N := 4) hx hb hts in_X2_valid_X2 hown hK hP 0 rfl rfl 0 (by decide) (hts _ (List.mem_of_getElem? (i := 1) rfl)) (fun _ h9 => h9) rfl dX2_valid_12 ?_
    refine lv_iload_n hx hb dX2_valid_15 rfl (lv_at hl 1 rfl) ?_
    obtain ⟨z4, hz5, hf⟩ := bd hf
    refine vz_call (rest := []) X (kX1_countValid hz5) (cwV 1 hts gX2_valid_X1_countValid rfl rfl rfl (by decide +kernel) ⟨Nat.le_of_ble_eq_true rfl, Nat.le_of_ble_eq_true rfl⟩) 1 1 rfl rfl rfl hl.1 rfl (Nat.le_of_ble_eq_true rfl) dX2_valid_16 ⟨Nat.zero_le _, Nat.zero_le _⟩ hP hD hS (fun H locs hP hD hS => ?_)
    refine lv_goto (tgt := 23) hx hb dX2_valid_19 (by decide) ?_
    cases hf
    exact vz_iret X hP hD hS dX2_valid_23
end
theorem kX2_valid {l : Launch} {D : va_G} {a n : Nat → Nat} {cA : Nat → ClassId} {K : Nat} {x1 : Int32} {u : XU} {r : Int32} {u2 : XU} (h : fX2_valid n K x1 u = some (r, u2)) : vzC l D (XT cA) (XW a n cA) yX2_valid wsX2_valid rmX2_valid [.ref (a 0), .int x1] u r u2 := vzC.of (by decide) rfl (Nat.le_of_ble_eq_true rfl) (fun p e s m below meth c A ls X hP hD hl => lbX2_valid_e X x1 u s.heap [] ls r u2 h hP hD va_S.rf hl)
abbrev rmX2_erasures : Room := { frames := 1, cells := 0, slots := 0, locals := 21 }
theorem in_X2_erasures_X2 : ∀ w ∈ u_ws RX2 TX2 4, w ∈ wsX2_erasures := fun _ h => List.mem_cons_of_mem _ (List.mem_append_left _ (List.mem_append_right _ h))
theorem in_X2_erasures_X1 : ∀ w ∈ u_ws RX1 TX1 11, w ∈ wsX2_erasures := fun _ h => List.mem_cons_of_mem _ (List.mem_append_right _ h)
def fX2_erasures (n : Nat → Nat) (K : Nat) (x1 : Int32) (u : XU) : Option (Int32 × XU) := (fX1_isBlock n K x1 u).bind fun z1 => (if z1.1 = 0 then (some (zI (-1), z1.2)) else (vg x1 (n 8) (some ((xu_wea z1.2) x1.toNatClampNeg, z1.2))))
section
variable {p : Program} {l : Launch} {e : Env} {s : State} {m : MethodId} {args : Array Value} {below : List Frame} {meth : Method} {c : Code} {D : va_G} {a n : Nat → Nat} {cA : Nat → ClassId} {A : Nat → Prop}
set_option maxHeartbeats 4000000 in
set_option maxRecDepth 100000 in
theorem lbX2_erasures_e {K : Nat} (X : vzX D (XT cA) A wsX2_erasures cX2_erasures 2 (some .int) RX2 p s m args meth c) : ∀ (x1 : Int32) (u : XU) (H : Heap) (locs : List Loc) (ls : Array Slot) (r : Int32) (u2 : XU), fX2_erasures n K x1 u = some (r, u2) → va_P D vwCl (XW a n cA u) H → va_D A (XW a n cA u) → va_S A s.heap H locs → lv_has ls 2 [(0, .ref (a 0)), (1, .int x1)] → W p l e (headSpec wsX2_erasures rmX2_erasures).room s m args below meth c H locs 0 0 (MQ below (vzQ D (XT cA) (XW a n cA) A r u2) args s 0 0 A) (F0 m 0 ls []) := by
  obtain ⟨hx, hb, hr, hml, hown, hts, hlk, hN, hK, hA⟩ := id X
  intro x1 u H locs ls r u2 hf hP hD hS hl
  unfold fX2_erasures at hf
  refine lv_aload_n hx hb dX2_erasures_0 rfl (lv_at hl 0 rfl) ?_
  refine va_get (D := D) (ci := 2) (v := .ref (a 1)) (C := RX2) (T := TX2) (N := 4) hx hb hts in_X2_erasures_X2 hown hK hP 0 rfl rfl 0 (by decide) (hts _ (List.mem_of_getElem? (i := 1) rfl)) (fun _ h9 => h9) rfl dX2_erasures_1 ?_
  refine lv_iload_n hx hb dX2_erasures_4 rfl (lv_at hl 1 rfl) ?_
  obtain ⟨z1, hz2, hf⟩ := bd hf
  refine vz_call (rest := []) X (kX1_isBlock hz2) (cwV 1 hts gX2_erasures_X1_isBlock rfl rfl rfl (by decide +kernel) ⟨Nat.le_of_ble_eq_true rfl, Nat.le_of_ble_eq_true rfl⟩) 1 1 rfl rfl rfl hl.1 rfl (Nat.le_of_ble_eq_true rfl) dX2_erasures_5 ⟨Nat.zero_le _, Nat.zero_le _⟩ hP hD hS (fun H locs hP hD hS => ?_)
  refine lv_if_eq (tgt := 23) hx hb dX2_erasures_8 (by decide) (fun c3 => ?_) (fun c3 => ?_)
  · have hf := ift c3 hf
    refine lv_iconst (v := zI (-1)) hx hb dX2_erasures_23 (by decide) ?_
    cases hf
    exact vz_iret X hP hD hS dX2_erasures_24
  · have hf := iff_ c3 hf
    refine lv_aload_n hx hb dX2_erasures_11 rfl (lv_at hl 0 rfl) ?_
    refine va_get (D := D) (ci := 2) (v := .ref (a 1)) (C := RX2) (T := TX2) (N := 4) hx hb hts in_X2_erasures_X2 hown hK hP 0 rfl rfl 0 (by decide) (hts _ (List.mem_of_getElem? (i := 1) rfl)) (fun _ h9 => h9) rfl dX2_erasures_12 ?_
    refine va_getN (D := D) (ci := 1) (v := .ref (a 8)) (C := RX1) (T := TX1) (N := 11) hx hb hts in_X2_erasures_X1 hown hK hP 1 rfl rfl 6 (by decide) (hN.at 4 rfl) (fun _ h9 => h9) rfl dX2_erasures_15 ?_
    refine lv_iload_n hx hb dX2_erasures_18 rfl (lv_at hl 1 rfl) ?_
    obtain ⟨g4, hf⟩ := vgs hf
    refine va_iald hx hb hK hP 8 5 rfl rfl g4 dX2_erasures_19 ?_
    refine lv_goto (tgt := 24) hx hb dX2_erasures_20 (by decide) ?_
    cases hf
    exact vz_iret X hP hD hS dX2_erasures_24
end
theorem kX2_erasures {l : Launch} {D : va_G} {a n : Nat → Nat} {cA : Nat → ClassId} {K : Nat} {x1 : Int32} {u : XU} {r : Int32} {u2 : XU} (h : fX2_erasures n K x1 u = some (r, u2)) : vzC l D (XT cA) (XW a n cA) yX2_erasures wsX2_erasures rmX2_erasures [.ref (a 0), .int x1] u r u2 := vzC.of (by decide) rfl (Nat.le_of_ble_eq_true rfl) (fun p e s m below meth c A ls X hP hD hl => lbX2_erasures_e X x1 u s.heap [] ls r u2 h hP hD va_S.rf hl)
abbrev rmX2_open : Room := { frames := 0, cells := 0, slots := 0, locals := 0 }
theorem in_X2_open_X2 : ∀ w ∈ u_ws RX2 TX2 4, w ∈ wsX2_open := fun _ h => List.mem_cons_of_mem _ (List.mem_append_right _ h)
def fX2_open (n : Nat → Nat) (K : Nat) (u : XU) : Option (Int32 × XU) := some (xu_opn u, u)
section
variable {p : Program} {l : Launch} {e : Env} {s : State} {m : MethodId} {args : Array Value} {below : List Frame} {meth : Method} {c : Code} {D : va_G} {a n : Nat → Nat} {cA : Nat → ClassId} {A : Nat → Prop}
set_option maxHeartbeats 4000000 in
set_option maxRecDepth 100000 in
theorem lbX2_open_e {K : Nat} (X : vzX D (XT cA) A wsX2_open cX2_open 1 (some .int) RX2 p s m args meth c) : ∀ (u : XU) (H : Heap) (locs : List Loc) (ls : Array Slot) (r : Int32) (u2 : XU), fX2_open n K u = some (r, u2) → va_P D vwCl (XW a n cA u) H → va_D A (XW a n cA u) → va_S A s.heap H locs → lv_has ls 1 [(0, .ref (a 0))] → W p l e (headSpec wsX2_open rmX2_open).room s m args below meth c H locs 0 0 (MQ below (vzQ D (XT cA) (XW a n cA) A r u2) args s 0 0 A) (F0 m 0 ls []) := by
  obtain ⟨hx, hb, hr, hml, hown, hts, hlk, hN, hK, hA⟩ := id X
  intro u H locs ls r u2 hf hP hD hS hl
  unfold fX2_open at hf
  refine lv_aload_n hx hb dX2_open_0 rfl (lv_at hl 0 rfl) ?_
  refine va_get (D := D) (ci := 2) (v := .int (xu_opn u)) (C := RX2) (T := TX2) (N := 4) hx hb hts in_X2_open_X2 hown hK hP 0 rfl rfl 3 (by decide) (hts _ (List.mem_of_getElem? (i := 1) rfl)) (fun _ h9 => h9) rfl dX2_open_1 ?_
  cases hf
  exact vz_iret X hP hD hS dX2_open_4
end
theorem kX2_open {l : Launch} {D : va_G} {a n : Nat → Nat} {cA : Nat → ClassId} {K : Nat} {u : XU} {r : Int32} {u2 : XU} (h : fX2_open n K u = some (r, u2)) : vzC l D (XT cA) (XW a n cA) yX2_open wsX2_open rmX2_open [.ref (a 0)] u r u2 := vzC.of (by decide) rfl (Nat.le_of_ble_eq_true rfl) (fun p e s m below meth c A ls X hP hD hl => lbX2_open_e X u s.heap [] ls r u2 h hP hD va_S.rf hl)
abbrev rmX2_free : Room := { frames := 1, cells := 0, slots := 0, locals := 22 }
theorem in_X2_free_X2 : ∀ w ∈ u_ws RX2 TX2 4, w ∈ wsX2_free := fun _ h => List.mem_cons_of_mem _ (List.mem_append_left _ (List.mem_append_right _ h))
theorem in_X2_free_X1 : ∀ w ∈ u_ws RX1 TX1 11, w ∈ wsX2_free := fun _ h => List.mem_cons_of_mem _ (List.mem_append_right _ h)
def fX2_free (n : Nat → Nat) (K : Nat) (u : XU) : Option (Int32 × XU) := (fX1_countFree n K u).bind fun z1 => (some (z1.1, z1.2))
section
variable {p : Program} {l : Launch} {e : Env} {s : State} {m : MethodId} {args : Array Value} {below : List Frame} {meth : Method} {c : Code} {D : va_G} {a n : Nat → Nat} {cA : Nat → ClassId} {A : Nat → Prop}
set_option maxHeartbeats 4000000 in
set_option maxRecDepth 100000 in
theorem lbX2_free_e {K : Nat} (X : vzX D (XT cA) A wsX2_free cX2_free 1 (some .int) RX2 p s m args meth c) : ∀ (u : XU) (H : Heap) (locs : List Loc) (ls : Array Slot) (r : Int32) (u2 : XU), fX2_free n K u = some (r, u2) → va_P D vwCl (XW a n cA u) H → va_D A (XW a n cA u) → va_S A s.heap H locs → lv_has ls 1 [(0, .ref (a 0))] → W p l e (headSpec wsX2_free rmX2_free).room s m args below meth c H locs 0 0 (MQ below (vzQ D (XT cA) (XW a n cA) A r u2) args s 0 0 A) (F0 m 0 ls []) := by
  obtain ⟨hx, hb, hr, hml, hown, hts, hlk, hN, hK, hA⟩ := id X
  intro u H locs ls r u2 hf hP hD hS hl
  unfold fX2_free at hf
  refine lv_aload_n hx hb dX2_free_0 rfl (lv_at hl 0 rfl) ?_
  refine va_get (D := D) (ci := 2) (v := .ref (a 1)) (C := RX2) (T := TX2) (N := 4) hx hb hts in_X2_free_X2 hown hK hP 0 rfl rfl 0 (by decide) (hts _ (List.mem_of_getElem? (i := 1) rfl)) (fun _ h9 => h9) rfl dX2_free_1 ?_
  obtain ⟨z1, hz2, hf⟩ := bd hf
  refine vz_call (rest := []) X (kX1_countFree hz2) (cwV 0 hts gX2_free_X1_countFree rfl rfl rfl (by decide +kernel) ⟨Nat.le_of_ble_eq_true rfl, Nat.le_of_ble_eq_true rfl⟩) 1 1 rfl rfl rfl hl.1 rfl (Nat.le_of_ble_eq_true rfl) dX2_free_4 ⟨Nat.zero_le _, Nat.zero_le _⟩ hP hD hS (fun H locs hP hD hS => ?_)
  cases hf
  exact vz_iret X hP hD hS dX2_free_7
end
theorem kX2_free {l : Launch} {D : va_G} {a n : Nat → Nat} {cA : Nat → ClassId} {K : Nat} {u : XU} {r : Int32} {u2 : XU} (h : fX2_free n K u = some (r, u2)) : vzC l D (XT cA) (XW a n cA) yX2_free wsX2_free rmX2_free [.ref (a 0)] u r u2 := vzC.of (by decide) rfl (Nat.le_of_ble_eq_true rfl) (fun p e s m below meth c A ls X hP hD hl => lbX2_free_e X u s.heap [] ls r u2 h hP hD va_S.rf hl)
abbrev rmX2_operations : Room := { frames := 0, cells := 0, slots := 0, locals := 0 }
theorem in_X2_operations_X2 : ∀ w ∈ u_ws RX2 TX2 4, w ∈ wsX2_operations := fun _ h => List.mem_cons_of_mem _ (List.mem_append_left _ (List.mem_append_right _ h))
theorem in_X2_operations_X1 : ∀ w ∈ u_ws RX1 TX1 11, w ∈ wsX2_operations := fun _ h => List.mem_cons_of_mem _ (List.mem_append_right _ h)
def fX2_operations (n : Nat → Nat) (K : Nat) (u : XU) : Option (Int32 × XU) := some (xu_ops u, u)
section
variable {p : Program} {l : Launch} {e : Env} {s : State} {m : MethodId} {args : Array Value} {below : List Frame} {meth : Method} {c : Code} {D : va_G} {a n : Nat → Nat} {cA : Nat → ClassId} {A : Nat → Prop}
set_option maxHeartbeats 4000000 in
set_option maxRecDepth 100000 in
theorem lbX2_operations_e {K : Nat} (X : vzX D (XT cA) A wsX2_operations cX2_operations 1 (some .int) RX2 p s m args meth c) : ∀ (u : XU) (H : Heap) (locs : List Loc) (ls : Array Slot) (r : Int32) (u2 : XU), fX2_operations n K u = some (r, u2) → va_P D vwCl (XW a n cA u) H → va_D A (XW a n cA u) → va_S A s.heap H locs → lv_has ls 1 [(0, .ref (a 0))] → W p l e (headSpec wsX2_operations rmX2_operations).room s m args below meth c H locs 0 0 (MQ below (vzQ D (XT cA) (XW a n cA) A r u2) args s 0 0 A) (F0 m 0 ls []) := by
  obtain ⟨hx, hb, hr, hml, hown, hts, hlk, hN, hK, hA⟩ := id X
  intro u H locs ls r u2 hf hP hD hS hl
  unfold fX2_operations at hf
  refine lv_aload_n hx hb dX2_operations_0 rfl (lv_at hl 0 rfl) ?_
  refine va_get (D := D) (ci := 2) (v := .ref (a 1)) (C := RX2) (T := TX2) (N := 4) hx hb hts in_X2_operations_X2 hown hK hP 0 rfl rfl 0 (by decide) (hts _ (List.mem_of_getElem? (i := 1) rfl)) (fun _ h9 => h9) rfl dX2_operations_1 ?_
  refine va_getN (D := D) (ci := 1) (v := .int (xu_ops u)) (C := RX1) (T := TX1) (N := 11) hx hb hts in_X2_operations_X1 hown hK hP 1 rfl rfl 9 (by decide) (hN.at 7 rfl) (fun _ h9 => h9) rfl dX2_operations_4 ?_
  cases hf
  exact vz_iret X hP hD hS dX2_operations_7
end
theorem kX2_operations {l : Launch} {D : va_G} {a n : Nat → Nat} {cA : Nat → ClassId} {K : Nat} {u : XU} {r : Int32} {u2 : XU} (h : fX2_operations n K u = some (r, u2)) : vzC l D (XT cA) (XW a n cA) yX2_operations wsX2_operations rmX2_operations [.ref (a 0)] u r u2 := vzC.of (by decide) rfl (Nat.le_of_ble_eq_true rfl) (fun p e s m below meth c A ls X hP hD hl => lbX2_operations_e X u s.heap [] ls r u2 h hP hD va_S.rf hl)
end
section
abbrev rmX3_sectors : Room := { frames := 0, cells := 0, slots := 0, locals := 0 }
theorem in_X3_sectors_X3 : ∀ w ∈ u_ws RX3 TX3 16, w ∈ wsX3_sectors := fun _ h => List.mem_cons_of_mem _ (List.mem_append_right _ h)
def fX3_sectors (n : Nat → Nat) (K : Nat) (u : MU) : Option (Int32 × MU) := some ((zI 4) * ((mu_blk u) - (zI 3)), u)
section
variable {p : Program} {l : Launch} {e : Env} {s : State} {m : MethodId} {args : Array Value} {below : List Frame} {meth : Method} {c : Code} {D : va_G} {a n : Nat → Nat} {cA : Nat → ClassId} {A : Nat → Prop}
set_option maxHeartbeats 4000000 in
set_option maxRecDepth 100000 in
theorem lbX3_sectors_e {K : Nat} (X : vzX D (MT cA) A wsX3_sectors cX3_sectors 1 (some .int) RX3 p s m args meth c) : ∀ (u : MU) (H : Heap) (locs : List Loc) (ls : Array Slot) (r : Int32) (u2 : MU), fX3_sectors n K u = some (r, u2) → va_P D vwCl (MW a n cA u) H → va_D A (MW a n cA u) → va_S A s.heap H locs → lv_has ls 1 [(0, .ref (a 0))] → W p l e (headSpec wsX3_sectors rmX3_sectors).room s m args below meth c H locs 0 0 (MQ below (vzQ D (MT cA) (MW a n cA) A r u2) args s 0 0 A) (F0 m 0 ls []) := by
  obtain ⟨hx, hb, hr, hml, hown, hts, hlk, hN, hK, hA⟩ := id X
  intro u H locs ls r u2 hf hP hD hS hl
  unfold fX3_sectors at hf
  refine lv_iconst (v := zI 4) hx hb dX3_sectors_0 (by decide) ?_
  refine lv_aload_n hx hb dX3_sectors_1 rfl (lv_at hl 0 rfl) ?_
  refine va_get (D := D) (ci := 3) (v := .int (mu_blk u)) (C := RX3) (T := TX3) (N := 16) hx hb hts in_X3_sectors_X3 hown hK hP 0 rfl rfl 0 (by decide) (hts _ (List.mem_of_getElem? (i := 1) rfl)) (fun _ h9 => h9) rfl dX3_sectors_2 ?_
  refine lv_iconst (v := zI 3) hx hb dX3_sectors_5 (by decide) ?_
  refine lv_isub hx hb dX3_sectors_6 ?_
  refine lv_imul hx hb dX3_sectors_7 ?_
  cases hf
  exact vz_iret X hP hD hS dX3_sectors_8
end
theorem kX3_sectors {l : Launch} {D : va_G} {a n : Nat → Nat} {cA : Nat → ClassId} {K : Nat} {u : MU} {r : Int32} {u2 : MU} (h : fX3_sectors n K u = some (r, u2)) : vzC l D (MT cA) (MW a n cA) yX3_sectors wsX3_sectors rmX3_sectors [.ref (a 0)] u r u2 := vzC.of (by decide) rfl (Nat.le_of_ble_eq_true rfl) (fun p e s m below meth c A ls X hP hD hl => lbX3_sectors_e X u s.heap [] ls r u2 h hP hD va_S.rf hl)
abbrev rmX3_isSector : Room := { frames := 1, cells := 0, slots := 0, locals := 20 }
theorem in_X3_isSector_X3 : ∀ w ∈ u_ws RX3 TX3 16, w ∈ wsX3_isSector := fun _ h => List.mem_cons_of_mem _ (List.mem_append_right _ h)
def fX3_isSector (n : Nat → Nat) (K : Nat) (x1 : Int32) (u : MU) : Option (Int32 × MU) := if x1 < 0 then (some (zI 0, u)) else ((fX3_sectors n K u).bind fun z2 => (if z2.1 ≤ x1 then (some (zI 0, z2.2)) else (some (zI 1, z2.2))))
section
variable {p : Program} {l : Launch} {e : Env} {s : State} {m : MethodId} {args : Array Value} {below : List Frame} {meth : Method} {c : Code} {D : va_G} {a n : Nat → Nat} {cA : Nat → ClassId} {A : Nat → Prop}
set_option maxHeartbeats 4000000 in
set_option maxRecDepth 100000 in
theorem lbX3_isSector_e {K : Nat} (X : vzX D (MT cA) A wsX3_isSector cX3_isSector 2 (some .boolean) RX3 p s m args meth c) : ∀ (x1 : Int32) (u : MU) (H : Heap) (locs : List Loc) (ls : Array Slot) (r : Int32) (u2 : MU), fX3_isSector n K x1 u = some (r, u2) → va_P D vwCl (MW a n cA u) H → va_D A (MW a n cA u) → va_S A s.heap H locs → lv_has ls 2 [(0, .ref (a 0)), (1, .int x1)] → W p l e (headSpec wsX3_isSector rmX3_isSector).room s m args below meth c H locs 0 0 (MQ below (vzQ D (MT cA) (MW a n cA) A r u2) args s 0 0 A) (F0 m 0 ls []) := by
  obtain ⟨hx, hb, hr, hml, hown, hts, hlk, hN, hK, hA⟩ := id X
  intro x1 u H locs ls r u2 hf hP hD hS hl
  unfold fX3_isSector at hf
  refine lv_iload_n hx hb dX3_isSector_0 rfl (lv_at hl 1 rfl) ?_
  refine lv_if_lt (tgt := 16) hx hb dX3_isSector_1 (by decide) (fun c1 => ?_) (fun c1 => ?_)
  · have hf := ift c1 hf
    refine lv_iconst (v := zI 0) hx hb dX3_isSector_16 (by decide) ?_
    cases hf
    exact vz_zret X rfl hP hD hS dX3_isSector_17
  · have hf := iff_ c1 hf
    refine lv_iload_n hx hb dX3_isSector_4 rfl (lv_at hl 1 rfl) ?_
    refine lv_aload_n hx hb dX3_isSector_5 rfl (lv_at hl 0 rfl) ?_
    obtain ⟨z2, hz3, hf⟩ := bd hf
    refine vz_call (rest := [.int x1]) X (kX3_sectors hz3) (cwV 0 hts gX3_isSector_X3_sectors rfl rfl rfl (by decide +kernel) ⟨Nat.le_of_ble_eq_true rfl, Nat.le_of_ble_eq_true rfl⟩) 0 3 rfl rfl rfl hl.1 rfl (Nat.le_of_ble_eq_true rfl) dX3_isSector_6 ⟨Nat.zero_le _, Nat.zero_le _⟩ hP hD hS (fun H locs hP hD hS => ?_)
    refine lv_icmp_ge (tgt := 16) hx hb dX3_isSector_9 (by decide) (fun c4 => ?_) (fun c4 => ?_)
    · have hf := ift c4 hf
      refine lv_iconst (v := zI 0) hx hb dX3_isSector_16 (by decide) ?_
      cases hf
      exact vz_zret X rfl hP hD hS dX3_isSector_17
    · have hf := iff_ c4 hf
      refine lv_iconst (v := zI 1) hx hb dX3_isSector_12 (by decide) ?_
      refine lv_goto (tgt := 17) hx hb dX3_isSector_13 (by decide) ?_
      cases hf
      exact vz_zret X rfl hP hD hS dX3_isSector_17
end
theorem kX3_isSector {l : Launch} {D : va_G} {a n : Nat → Nat} {cA : Nat → ClassId} {K : Nat} {x1 : Int32} {u : MU} {r : Int32} {u2 : MU} (h : fX3_isSector n K x1 u = some (r, u2)) : vzC l D (MT cA) (MW a n cA) yX3_isSector wsX3_isSector rmX3_isSector [.ref (a 0), .int x1] u r u2 := vzC.of (by decide) rfl (Nat.le_of_ble_eq_true rfl) (fun p e s m below meth c A ls X hP hD hl => lbX3_isSector_e X x1 u s.heap [] ls r u2 h hP hD va_S.rf hl)
abbrev rmX3_isBlock : Room := { frames := 0, cells := 0, slots := 0, locals := 0 }
theorem in_X3_isBlock_X3 : ∀ w ∈ u_ws RX3 TX3 16, w ∈ wsX3_isBlock := fun _ h => List.mem_cons_of_mem _ (List.mem_append_right _ h)
def fX3_isBlock (n : Nat → Nat) (K : Nat) (x1 : Int32) (u : MU) : Option (Int32 × MU) := if x1 < 0 then (some (zI 0, u)) else (if (mu_blk u) ≤ x1 then (some (zI 0, u)) else (some (zI 1, u)))
section
variable {p : Program} {l : Launch} {e : Env} {s : State} {m : MethodId} {args : Array Value} {below : List Frame} {meth : Method} {c : Code} {D : va_G} {a n : Nat → Nat} {cA : Nat → ClassId} {A : Nat → Prop}
set_option maxHeartbeats 4000000 in
set_option maxRecDepth 100000 in
theorem lbX3_isBlock_e {K : Nat} (X : vzX D (MT cA) A wsX3_isBlock cX3_isBlock 2 (some .boolean) RX3 p s m args meth c) : ∀ (x1 : Int32) (u : MU) (H : Heap) (locs : List Loc) (ls : Array Slot) (r : Int32) (u2 : MU), fX3_isBlock n K x1 u = some (r, u2) → va_P D vwCl (MW a n cA u) H → va_D A (MW a n cA u) → va_S A s.heap H locs → lv_has ls 2 [(0, .ref (a 0)), (1, .int x1)] → W p l e (headSpec wsX3_isBlock rmX3_isBlock).room s m args below meth c H locs 0 0 (MQ below (vzQ D (MT cA) (MW a n cA) A r u2) args s 0 0 A) (F0 m 0 ls []) := by
  obtain ⟨hx, hb, hr, hml, hown, hts, hlk, hN, hK, hA⟩ := id X
  intro x1 u H locs ls r u2 hf hP hD hS hl
  unfold fX3_isBlock at hf
  refine lv_iload_n hx hb dX3_isBlock_0 rfl (lv_at hl 1 rfl) ?_
  refine lv_if_lt (tgt := 16) hx hb dX3_isBlock_1 (by decide) (fun c1 => ?_) (fun c1 => ?_)
  · have hf := ift c1 hf
    refine lv_iconst (v := zI 0) hx hb dX3_isBlock_16 (by decide) ?_
    cases hf
    exact vz_zret X rfl hP hD hS dX3_isBlock_17
  · have hf := iff_ c1 hf
    refine lv_iload_n hx hb dX3_isBlock_4 rfl (lv_at hl 1 rfl) ?_
    refine lv_aload_n hx hb dX3_isBlock_5 rfl (lv_at hl 0 rfl) ?_
    refine va_get (D := D) (ci := 3) (v := .int (mu_blk u)) (C := RX3) (T := TX3) (N := 16) hx hb hts in_X3_isBlock_X3 hown hK hP 0 rfl rfl 0 (by decide) (hts _ (List.mem_of_getElem? (i := 1) rfl)) (fun _ h9 => h9) rfl dX3_isBlock_6 ?_
    refine lv_icmp_ge (tgt := 16) hx hb dX3_isBlock_9 (by decide) (fun c2 => ?_) (fun c2 => ?_)
    · have hf := ift c2 hf
      refine lv_iconst (v := zI 0) hx hb dX3_isBlock_16 (by decide) ?_
      cases hf
      exact vz_zret X rfl hP hD hS dX3_isBlock_17
    · have hf := iff_ c2 hf
      refine lv_iconst (v := zI 1) hx hb dX3_isBlock_12 (by decide) ?_
      refine lv_goto (tgt := 17) hx hb dX3_isBlock_13 (by decide) ?_
      cases hf
      exact vz_zret X rfl hP hD hS dX3_isBlock_17
end
theorem kX3_isBlock {l : Launch} {D : va_G} {a n : Nat → Nat} {cA : Nat → ClassId} {K : Nat} {x1 : Int32} {u : MU} {r : Int32} {u2 : MU} (h : fX3_isBlock n K x1 u = some (r, u2)) : vzC l D (MT cA) (MW a n cA) yX3_isBlock wsX3_isBlock rmX3_isBlock [.ref (a 0), .int x1] u r u2 := vzC.of (by decide) rfl (Nat.le_of_ble_eq_true rfl) (fun p e s m below meth c A ls X hP hD hl => lbX3_isBlock_e X x1 u s.heap [] ls r u2 h hP hD va_S.rf hl)
abbrev rmX3_isPlace : Room := { frames := 0, cells := 0, slots := 0, locals := 0 }
theorem in_X3_isPlace_X3 : ∀ w ∈ u_ws RX3 TX3 16, w ∈ wsX3_isPlace := fun _ h => List.mem_cons_of_mem _ (List.mem_append_right _ h)
def fX3_isPlace (n : Nat → Nat) (K : Nat) (x1 : Int32) (u : MU) : Option (Int32 × MU) := if x1 < 0 then (some (zI 0, u)) else (if ((zI 4) * (mu_blk u)) ≤ x1 then (some (zI 0, u)) else (some (zI 1, u)))
section
variable {p : Program} {l : Launch} {e : Env} {s : State} {m : MethodId} {args : Array Value} {below : List Frame} {meth : Method} {c : Code} {D : va_G} {a n : Nat → Nat} {cA : Nat → ClassId} {A : Nat → Prop}
set_option maxHeartbeats 4000000 in
set_option maxRecDepth 100000 in
theorem lbX3_isPlace_e {K : Nat} (X : vzX D (MT cA) A wsX3_isPlace cX3_isPlace 2 (some .boolean) RX3 p s m args meth c) : ∀ (x1 : Int32) (u : MU) (H : Heap) (locs : List Loc) (ls : Array Slot) (r : Int32) (u2 : MU), fX3_isPlace n K x1 u = some (r, u2) → va_P D vwCl (MW a n cA u) H → va_D A (MW a n cA u) → va_S A s.heap H locs → lv_has ls 2 [(0, .ref (a 0)), (1, .int x1)] → W p l e (headSpec wsX3_isPlace rmX3_isPlace).room s m args below meth c H locs 0 0 (MQ below (vzQ D (MT cA) (MW a n cA) A r u2) args s 0 0 A) (F0 m 0 ls []) := by
  obtain ⟨hx, hb, hr, hml, hown, hts, hlk, hN, hK, hA⟩ := id X
  intro x1 u H locs ls r u2 hf hP hD hS hl
  unfold fX3_isPlace at hf
  refine lv_iload_n hx hb dX3_isPlace_0 rfl (lv_at hl 1 rfl) ?_
  refine lv_if_lt (tgt := 18) hx hb dX3_isPlace_1 (by decide) (fun c1 => ?_) (fun c1 => ?_)
  · have hf := ift c1 hf
    refine lv_iconst (v := zI 0) hx hb dX3_isPlace_18 (by decide) ?_
    cases hf
    exact vz_zret X rfl hP hD hS dX3_isPlace_19
  · have hf := iff_ c1 hf
    refine lv_iload_n hx hb dX3_isPlace_4 rfl (lv_at hl 1 rfl) ?_
    refine lv_iconst (v := zI 4) hx hb dX3_isPlace_5 (by decide) ?_
    refine lv_aload_n hx hb dX3_isPlace_6 rfl (lv_at hl 0 rfl) ?_
    refine va_get (D := D) (ci := 3) (v := .int (mu_blk u)) (C := RX3) (T := TX3) (N := 16) hx hb hts in_X3_isPlace_X3 hown hK hP 0 rfl rfl 0 (by decide) (hts _ (List.mem_of_getElem? (i := 1) rfl)) (fun _ h9 => h9) rfl dX3_isPlace_7 ?_
    refine lv_imul hx hb dX3_isPlace_10 ?_
    refine lv_icmp_ge (tgt := 18) hx hb dX3_isPlace_11 (by decide) (fun c2 => ?_) (fun c2 => ?_)
    · have hf := ift c2 hf
      refine lv_iconst (v := zI 0) hx hb dX3_isPlace_18 (by decide) ?_
      cases hf
      exact vz_zret X rfl hP hD hS dX3_isPlace_19
    · have hf := iff_ c2 hf
      refine lv_iconst (v := zI 1) hx hb dX3_isPlace_14 (by decide) ?_
      refine lv_goto (tgt := 19) hx hb dX3_isPlace_15 (by decide) ?_
      cases hf
      exact vz_zret X rfl hP hD hS dX3_isPlace_19
end
theorem kX3_isPlace {l : Launch} {D : va_G} {a n : Nat → Nat} {cA : Nat → ClassId} {K : Nat} {x1 : Int32} {u : MU} {r : Int32} {u2 : MU} (h : fX3_isPlace n K x1 u = some (r, u2)) : vzC l D (MT cA) (MW a n cA) yX3_isPlace wsX3_isPlace rmX3_isPlace [.ref (a 0), .int x1] u r u2 := vzC.of (by decide) rfl (Nat.le_of_ble_eq_true rfl) (fun p e s m below meth c A ls X hP hD hl => lbX3_isPlace_e X x1 u s.heap [] ls r u2 h hP hD va_S.rf hl)
abbrev rmX3_programmed : Room := { frames := 0, cells := 0, slots := 0, locals := 0 }
theorem in_X3_programmed_X3 : ∀ w ∈ u_ws RX3 TX3 16, w ∈ wsX3_programmed := fun _ h => List.mem_cons_of_mem _ (List.mem_append_right _ h)
def fX3_programmed_4 (n : Nat → Nat) (K : Nat) : Nat → Int32 → Int32 → Int32 → MU → Option (Int32 × MU)
  | 0, _, _, _, _ => none
  | N + 1, x1, x2, x3, u => if (zI 4) ≤ x3 then (some (x2, u)) else (vg (((zI 4) * x1) + x3) (n 1) (if ((mu_sec u) ((((zI 4) * x1) + x3)).toNatClampNeg) = (zI (-1)) then (fX3_programmed_4 n K N x1 (x2 + (zI 0)) (x3 + (zI 1)) u) else (fX3_programmed_4 n K N x1 (x2 + (zI 1)) (x3 + (zI 1)) u)))
def fX3_programmed (n : Nat → Nat) (K : Nat) (x1 : Int32) (u : MU) : Option (Int32 × MU) := fX3_programmed_4 n K K x1 (zI 0) (zI 0) u
section
variable {p : Program} {l : Launch} {e : Env} {s : State} {m : MethodId} {args : Array Value} {below : List Frame} {meth : Method} {c : Code} {D : va_G} {a n : Nat → Nat} {cA : Nat → ClassId} {A : Nat → Prop}
set_option maxHeartbeats 4000000 in
set_option maxRecDepth 100000 in
theorem lbX3_programmed_4 {K : Nat} (X : vzX D (MT cA) A wsX3_programmed cX3_programmed 4 (some .int) RX3 p s m args meth c) : ∀ (N : Nat) (x1 x2 x3 : Int32) (u : MU) (H : Heap) (locs : List Loc) (ls : Array Slot) (r : Int32) (u2 : MU), fX3_programmed_4 n K N x1 x2 x3 u = some (r, u2) → va_P D vwCl (MW a n cA u) H → va_D A (MW a n cA u) → va_S A s.heap H locs → lv_has ls 4 [(0, .ref (a 0)), (1, .int x1), (2, .int x2), (3, .int x3)] → W p l e (headSpec wsX3_programmed rmX3_programmed).room s m args below meth c H locs 0 0 (MQ below (vzQ D (MT cA) (MW a n cA) A r u2) args s 0 0 A) (F0 m 4 ls []) := by
  obtain ⟨hx, hb, hr, hml, hown, hts, hlk, hN, hK, hA⟩ := id X
  intro N
  induction N with
  | zero =>
    intro x1 x2 x3 u H locs ls r u2 hf
    cases hf
  | succ N ih =>
    intro x1 x2 x3 u H locs ls r u2 hf hP hD hS hl
    rw [fX3_programmed_4] at hf
    refine lv_iload_n hx hb dX3_programmed_4 rfl (lv_at hl 3 rfl) ?_
    refine lv_iconst (v := zI 4) hx hb dX3_programmed_5 (by decide) ?_
    refine lv_icmp_ge (tgt := 37) hx hb dX3_programmed_6 (by decide) (fun c1 => ?_) (fun c1 => ?_)
    · have hf := ift c1 hf
      refine lv_iload_n hx hb dX3_programmed_37 rfl (lv_at hl 2 rfl) ?_
      cases hf
      exact vz_iret X hP hD hS dX3_programmed_38
    · have hf := iff_ c1 hf
      refine lv_iload_n hx hb dX3_programmed_9 rfl (lv_at hl 2 rfl) ?_
      refine lv_aload_n hx hb dX3_programmed_10 rfl (lv_at hl 0 rfl) ?_
      refine va_get (D := D) (ci := 3) (v := .ref (a 1)) (C := RX3) (T := TX3) (N := 16) hx hb hts in_X3_programmed_X3 hown hK hP 0 rfl rfl 2 (by decide) (hts _ (List.mem_of_getElem? (i := 1) rfl)) (fun _ h9 => h9) rfl dX3_programmed_11 ?_
      refine lv_iconst (v := zI 4) hx hb dX3_programmed_14 (by decide) ?_
      refine lv_iload_n hx hb dX3_programmed_15 rfl (lv_at hl 1 rfl) ?_
      refine lv_imul hx hb dX3_programmed_16 ?_
      refine lv_iload_n hx hb dX3_programmed_17 rfl (lv_at hl 3 rfl) ?_
      refine lv_iadd hx hb dX3_programmed_18 ?_
      obtain ⟨g2, hf⟩ := vgs hf
      refine va_iald hx hb hK hP 1 0 rfl rfl g2 dX3_programmed_19 ?_
      refine lv_iconst (v := zI (-1)) hx hb dX3_programmed_20 (by decide) ?_
      refine lv_icmp_ne (tgt := 28) hx hb dX3_programmed_21 (by decide) (fun c3 => ?_) (fun c3 => ?_)
      · have hf := iff_ c3 hf
        refine lv_iconst (v := zI 1) hx hb dX3_programmed_28 (by decide) ?_
        refine lv_iadd hx hb dX3_programmed_29 ?_
        refine lv_istore_n (lv' := [(2, .int (x2 + (zI 1))), (0, .ref (a 0)), (1, .int x1), (3, .int x3)]) hx hb dX3_programmed_30 rfl hl (by decide) rfl (fun ls hl => ?_)
        refine lv_iinc (v := x3 + (zI 1)) (lv' := [(3, .int (x3 + (zI 1))), (2, .int (x2 + (zI 1))), (0, .ref (a 0)), (1, .int x1)]) hx hb dX3_programmed_31 hl (k := 3) rfl rfl (by decide) rfl (fun ls hl => ?_)
        refine lv_goto (tgt := 4) hx hb dX3_programmed_34 (by decide) ?_
        exact ih x1 (x2 + (zI 1)) (x3 + (zI 1)) u _ _ _ _ _ hf hP hD hS (lv_sub hl [2, 3, 1, 0] rfl)
      · have hf := ift c3 hf
        refine lv_iconst (v := zI 0) hx hb dX3_programmed_24 (by decide) ?_
        refine lv_goto (tgt := 29) hx hb dX3_programmed_25 (by decide) ?_
        refine lv_iadd hx hb dX3_programmed_29 ?_
        refine lv_istore_n (lv' := [(2, .int (x2 + (zI 0))), (0, .ref (a 0)), (1, .int x1), (3, .int x3)]) hx hb dX3_programmed_30 rfl hl (by decide) rfl (fun ls hl => ?_)
        refine lv_iinc (v := x3 + (zI 1)) (lv' := [(3, .int (x3 + (zI 1))), (2, .int (x2 + (zI 0))), (0, .ref (a 0)), (1, .int x1)]) hx hb dX3_programmed_31 hl (k := 3) rfl rfl (by decide) rfl (fun ls hl => ?_)
        refine lv_goto (tgt := 4) hx hb dX3_programmed_34 (by decide) ?_
        exact ih x1 (x2 + (zI 0)) (x3 + (zI 1)) u _ _ _ _ _ hf hP hD hS (lv_sub hl [2, 3, 1, 0] rfl)
set_option maxHeartbeats 4000000 in
set_option maxRecDepth 100000 in
theorem lbX3_programmed_e {K : Nat} (X : vzX D (MT cA) A wsX3_programmed cX3_programmed 4 (some .int) RX3 p s m args meth c) : ∀ (x1 : Int32) (u : MU) (H : Heap) (locs : List Loc) (ls : Array Slot) (r : Int32) (u2 : MU), fX3_programmed n K x1 u = some (r, u2) → va_P D vwCl (MW a n cA u) H → va_D A (MW a n cA u) → va_S A s.heap H locs → lv_has ls 4 [(0, .ref (a 0)), (1, .int x1)] → W p l e (headSpec wsX3_programmed rmX3_programmed).room s m args below meth c H locs 0 0 (MQ below (vzQ D (MT cA) (MW a n cA) A r u2) args s 0 0 A) (F0 m 0 ls []) := by
  obtain ⟨hx, hb, hr, hml, hown, hts, hlk, hN, hK, hA⟩ := id X
  intro x1 u H locs ls r u2 hf hP hD hS hl
  unfold fX3_programmed at hf
  refine lv_iconst (v := zI 0) hx hb dX3_programmed_0 (by decide) ?_
  refine lv_istore_n (lv' := [(2, .int (zI 0)), (0, .ref (a 0)), (1, .int x1)]) hx hb dX3_programmed_1 rfl hl (by decide) rfl (fun ls hl => ?_)
  refine lv_iconst (v := zI 0) hx hb dX3_programmed_2 (by decide) ?_
  refine lv_istore_n (lv' := [(3, .int (zI 0)), (2, .int (zI 0)), (0, .ref (a 0)), (1, .int x1)]) hx hb dX3_programmed_3 rfl hl (by decide) rfl (fun ls hl => ?_)
  exact lbX3_programmed_4 X K x1 (zI 0) (zI 0) u _ _ _ _ _ hf hP hD hS (lv_sub hl [2, 3, 1, 0] rfl)
end
theorem kX3_programmed {l : Launch} {D : va_G} {a n : Nat → Nat} {cA : Nat → ClassId} {K : Nat} {x1 : Int32} {u : MU} {r : Int32} {u2 : MU} (h : fX3_programmed n K x1 u = some (r, u2)) : vzC l D (MT cA) (MW a n cA) yX3_programmed wsX3_programmed rmX3_programmed [.ref (a 0), .int x1] u r u2 := vzC.of (by decide) rfl (Nat.le_of_ble_eq_true rfl) (fun p e s m below meth c A ls X hP hD hl => lbX3_programmed_e X x1 u s.heap [] ls r u2 h hP hD va_S.rf hl)
abbrev rmX3_newest : Room := { frames := 0, cells := 0, slots := 0, locals := 0 }
theorem in_X3_newest_X3 : ∀ w ∈ u_ws RX3 TX3 16, w ∈ wsX3_newest := fun _ h => List.mem_cons_of_mem _ (List.mem_append_right _ h)
def fX3_newest_4 (n : Nat → Nat) (K : Nat) : Nat → Int32 → Int32 → Int32 → MU → Option (Int32 × MU)
  | 0, _, _, _, _ => none
  | N + 1, x1, x2, x3, u => if ((zI 4) * (mu_blk u)) ≤ x3 then (some (x2, u)) else (vg x3 (n 1) (if ((mu_sec u) x3.toNatClampNeg) = x1 then (if x2 = (zI (-1)) then (fX3_newest_4 n K N x1 x3 (x3 + (zI 1)) u) else (vg x3 (n 3) (vg x2 (n 3) (if ((mu_ser u) x3.toNatClampNeg) ≤ ((mu_ser u) x2.toNatClampNeg) then (fX3_newest_4 n K N x1 x2 (x3 + (zI 1)) u) else (fX3_newest_4 n K N x1 x3 (x3 + (zI 1)) u))))) else (fX3_newest_4 n K N x1 x2 (x3 + (zI 1)) u)))
def fX3_newest (n : Nat → Nat) (K : Nat) (x1 : Int32) (u : MU) : Option (Int32 × MU) := fX3_newest_4 n K K x1 (zI (-1)) (zI 0) u
section
variable {p : Program} {l : Launch} {e : Env} {s : State} {m : MethodId} {args : Array Value} {below : List Frame} {meth : Method} {c : Code} {D : va_G} {a n : Nat → Nat} {cA : Nat → ClassId} {A : Nat → Prop}
set_option maxHeartbeats 4000000 in
set_option maxRecDepth 100000 in
theorem lbX3_newest_4 {K : Nat} (X : vzX D (MT cA) A wsX3_newest cX3_newest 4 (some .int) RX3 p s m args meth c) : ∀ (N : Nat) (x1 x2 x3 : Int32) (u : MU) (H : Heap) (locs : List Loc) (ls : Array Slot) (r : Int32) (u2 : MU), fX3_newest_4 n K N x1 x2 x3 u = some (r, u2) → va_P D vwCl (MW a n cA u) H → va_D A (MW a n cA u) → va_S A s.heap H locs → lv_has ls 4 [(0, .ref (a 0)), (1, .int x1), (2, .int x2), (3, .int x3)] → W p l e (headSpec wsX3_newest rmX3_newest).room s m args below meth c H locs 0 0 (MQ below (vzQ D (MT cA) (MW a n cA) A r u2) args s 0 0 A) (F0 m 4 ls []) := by
  obtain ⟨hx, hb, hr, hml, hown, hts, hlk, hN, hK, hA⟩ := id X
  intro N
  induction N with
  | zero =>
    intro x1 x2 x3 u H locs ls r u2 hf
    cases hf
  | succ N ih =>
    intro x1 x2 x3 u H locs ls r u2 hf hP hD hS hl
    rw [fX3_newest_4] at hf
    refine lv_iload_n hx hb dX3_newest_4 rfl (lv_at hl 3 rfl) ?_
    refine lv_iconst (v := zI 4) hx hb dX3_newest_5 (by decide) ?_
    refine lv_aload_n hx hb dX3_newest_6 rfl (lv_at hl 0 rfl) ?_
    refine va_get (D := D) (ci := 3) (v := .int (mu_blk u)) (C := RX3) (T := TX3) (N := 16) hx hb hts in_X3_newest_X3 hown hK hP 0 rfl rfl 0 (by decide) (hts _ (List.mem_of_getElem? (i := 1) rfl)) (fun _ h9 => h9) rfl dX3_newest_7 ?_
    refine lv_imul hx hb dX3_newest_10 ?_
    refine lv_icmp_ge (tgt := 52) hx hb dX3_newest_11 (by decide) (fun c1 => ?_) (fun c1 => ?_)
    · have hf := ift c1 hf
      refine lv_iload_n hx hb dX3_newest_52 rfl (lv_at hl 2 rfl) ?_
      cases hf
      exact vz_iret X hP hD hS dX3_newest_53
    · have hf := iff_ c1 hf
      refine lv_aload_n hx hb dX3_newest_14 rfl (lv_at hl 0 rfl) ?_
      refine va_get (D := D) (ci := 3) (v := .ref (a 1)) (C := RX3) (T := TX3) (N := 16) hx hb hts in_X3_newest_X3 hown hK hP 0 rfl rfl 2 (by decide) (hts _ (List.mem_of_getElem? (i := 2) rfl)) (fun _ h9 => h9) rfl dX3_newest_15 ?_
      refine lv_iload_n hx hb dX3_newest_18 rfl (lv_at hl 3 rfl) ?_
      obtain ⟨g2, hf⟩ := vgs hf
      refine va_iald hx hb hK hP 1 0 rfl rfl g2 dX3_newest_19 ?_
      refine lv_iload_n hx hb dX3_newest_20 rfl (lv_at hl 1 rfl) ?_
      refine lv_icmp_ne (tgt := 46) hx hb dX3_newest_21 (by decide) (fun c3 => ?_) (fun c3 => ?_)
      · have hf := iff_ c3 hf
        refine lv_iinc (v := x3 + (zI 1)) (lv' := [(3, .int (x3 + (zI 1))), (0, .ref (a 0)), (1, .int x1), (2, .int x2)]) hx hb dX3_newest_46 hl (k := 3) rfl rfl (by decide) rfl (fun ls hl => ?_)
        refine lv_goto (tgt := 4) hx hb dX3_newest_49 (by decide) ?_
        exact ih x1 x2 (x3 + (zI 1)) u _ _ _ _ _ hf hP hD hS (lv_sub hl [1, 2, 3, 0] rfl)
      · have hf := ift c3 hf
        refine lv_iload_n hx hb dX3_newest_24 rfl (lv_at hl 2 rfl) ?_
        refine lv_iconst (v := zI (-1)) hx hb dX3_newest_25 (by decide) ?_
        refine lv_icmp_eq (tgt := 44) hx hb dX3_newest_26 (by decide) (fun c4 => ?_) (fun c4 => ?_)
        · have hf := ift c4 hf
          refine lv_iload_n hx hb dX3_newest_44 rfl (lv_at hl 3 rfl) ?_
          refine lv_istore_n (lv' := [(2, .int x3), (0, .ref (a 0)), (1, .int x1), (3, .int x3)]) hx hb dX3_newest_45 rfl hl (by decide) rfl (fun ls hl => ?_)
          refine lv_iinc (v := x3 + (zI 1)) (lv' := [(3, .int (x3 + (zI 1))), (2, .int x3), (0, .ref (a 0)), (1, .int x1)]) hx hb dX3_newest_46 hl (k := 3) rfl rfl (by decide) rfl (fun ls hl => ?_)
          refine lv_goto (tgt := 4) hx hb dX3_newest_49 (by decide) ?_
          exact ih x1 x3 (x3 + (zI 1)) u _ _ _ _ _ hf hP hD hS (lv_sub hl [2, 3, 1, 0] rfl)
        · have hf := iff_ c4 hf
          refine lv_aload_n hx hb dX3_newest_29 rfl (lv_at hl 0 rfl) ?_
          refine va_get (D := D) (ci := 3) (v := .ref (a 3)) (C := RX3) (T := TX3) (N := 16) hx hb hts in_X3_newest_X3 hown hK hP 0 rfl rfl 4 (by decide) (hts _ (List.mem_of_getElem? (i := 3) rfl)) (fun _ h9 => h9) rfl dX3_newest_30 ?_
          refine lv_iload_n hx hb dX3_newest_33 rfl (lv_at hl 3 rfl) ?_
          obtain ⟨g5, hf⟩ := vgs hf
          refine va_iald hx hb hK hP 3 2 rfl rfl g5 dX3_newest_34 ?_
          refine lv_aload_n hx hb dX3_newest_35 rfl (lv_at hl 0 rfl) ?_
          refine va_get (D := D) (ci := 3) (v := .ref (a 3)) (C := RX3) (T := TX3) (N := 16) hx hb hts in_X3_newest_X3 hown hK hP 0 rfl rfl 4 (by decide) (hts _ (List.mem_of_getElem? (i := 3) rfl)) (fun _ h9 => h9) rfl dX3_newest_36 ?_
          refine lv_iload_n hx hb dX3_newest_39 rfl (lv_at hl 2 rfl) ?_
          obtain ⟨g6, hf⟩ := vgs hf
          refine va_iald hx hb hK hP 3 2 rfl rfl g6 dX3_newest_40 ?_
          refine lv_icmp_le (tgt := 46) hx hb dX3_newest_41 (by decide) (fun c7 => ?_) (fun c7 => ?_)
          · have hf := ift c7 hf
            refine lv_iinc (v := x3 + (zI 1)) (lv' := [(3, .int (x3 + (zI 1))), (0, .ref (a 0)), (1, .int x1), (2, .int x2)]) hx hb dX3_newest_46 hl (k := 3) rfl rfl (by decide) rfl (fun ls hl => ?_)
            refine lv_goto (tgt := 4) hx hb dX3_newest_49 (by decide) ?_
            exact ih x1 x2 (x3 + (zI 1)) u _ _ _ _ _ hf hP hD hS (lv_sub hl [1, 2, 3, 0] rfl)
          · have hf := iff_ c7 hf
            refine lv_iload_n hx hb dX3_newest_44 rfl (lv_at hl 3 rfl) ?_
            refine lv_istore_n (lv' := [(2, .int x3), (0, .ref (a 0)), (1, .int x1), (3, .int x3)]) hx hb dX3_newest_45 rfl hl (by decide) rfl (fun ls hl => ?_)
            refine lv_iinc (v := x3 + (zI 1)) (lv' := [(3, .int (x3 + (zI 1))), (2, .int x3), (0, .ref (a 0)), (1, .int x1)]) hx hb dX3_newest_46 hl (k := 3) rfl rfl (by decide) rfl (fun ls hl => ?_)
            refine lv_goto (tgt := 4) hx hb dX3_newest_49 (by decide) ?_
            exact ih x1 x3 (x3 + (zI 1)) u _ _ _ _ _ hf hP hD hS (lv_sub hl [2, 3, 1, 0] rfl)
set_option maxHeartbeats 4000000 in
set_option maxRecDepth 100000 in
theorem lbX3_newest_e {K : Nat} (X : vzX D (MT cA) A wsX3_newest cX3_newest 4 (some .int) RX3 p s m args meth c) : ∀ (x1 : Int32) (u : MU) (H : Heap) (locs : List Loc) (ls : Array Slot) (r : Int32) (u2 : MU), fX3_newest n K x1 u = some (r, u2) → va_P D vwCl (MW a n cA u) H → va_D A (MW a n cA u) → va_S A s.heap H locs → lv_has ls 4 [(0, .ref (a 0)), (1, .int x1)] → W p l e (headSpec wsX3_newest rmX3_newest).room s m args below meth c H locs 0 0 (MQ below (vzQ D (MT cA) (MW a n cA) A r u2) args s 0 0 A) (F0 m 0 ls []) := by
  obtain ⟨hx, hb, hr, hml, hown, hts, hlk, hN, hK, hA⟩ := id X
  intro x1 u H locs ls r u2 hf hP hD hS hl
  unfold fX3_newest at hf
  refine lv_iconst (v := zI (-1)) hx hb dX3_newest_0 (by decide) ?_
  refine lv_istore_n (lv' := [(2, .int (zI (-1))), (0, .ref (a 0)), (1, .int x1)]) hx hb dX3_newest_1 rfl hl (by decide) rfl (fun ls hl => ?_)
  refine lv_iconst (v := zI 0) hx hb dX3_newest_2 (by decide) ?_
  refine lv_istore_n (lv' := [(3, .int (zI 0)), (2, .int (zI (-1))), (0, .ref (a 0)), (1, .int x1)]) hx hb dX3_newest_3 rfl hl (by decide) rfl (fun ls hl => ?_)
  exact lbX3_newest_4 X K x1 (zI (-1)) (zI 0) u _ _ _ _ _ hf hP hD hS (lv_sub hl [2, 3, 1, 0] rfl)
end
theorem kX3_newest {l : Launch} {D : va_G} {a n : Nat → Nat} {cA : Nat → ClassId} {K : Nat} {x1 : Int32} {u : MU} {r : Int32} {u2 : MU} (h : fX3_newest n K x1 u = some (r, u2)) : vzC l D (MT cA) (MW a n cA) yX3_newest wsX3_newest rmX3_newest [.ref (a 0), .int x1] u r u2 := vzC.of (by decide) rfl (Nat.le_of_ble_eq_true rfl) (fun p e s m below meth c A ls X hP hD hl => lbX3_newest_e X x1 u s.heap [] ls r u2 h hP hD va_S.rf hl)
abbrev rmX3_isValid : Room := { frames := 1, cells := 0, slots := 0, locals := 23 }
theorem in_X3_isValid_X3 : ∀ w ∈ u_ws RX3 TX3 16, w ∈ wsX3_isValid := fun _ h => List.mem_cons_of_mem _ (List.mem_append_right _ h)
def fX3_isValid (n : Nat → Nat) (K : Nat) (x1 : Int32) (u : MU) : Option (Int32 × MU) := vg x1 (n 1) (if ((mu_sec u) x1.toNatClampNeg) = (zI (-1)) then (some (zI 0, u)) else (vg x1 (n 1) ((fX3_newest n K ((mu_sec u) x1.toNatClampNeg) u).bind fun z4 => (if z4.1 = x1 then (some (zI 1, z4.2)) else (some (zI 0, z4.2))))))
section
variable {p : Program} {l : Launch} {e : Env} {s : State} {m : MethodId} {args : Array Value} {below : List Frame} {meth : Method} {c : Code} {D : va_G} {a n : Nat → Nat} {cA : Nat → ClassId} {A : Nat → Prop}
set_option maxHeartbeats 4000000 in
set_option maxRecDepth 100000 in
theorem lbX3_isValid_e {K : Nat} (X : vzX D (MT cA) A wsX3_isValid cX3_isValid 2 (some .boolean) RX3 p s m args meth c) : ∀ (x1 : Int32) (u : MU) (H : Heap) (locs : List Loc) (ls : Array Slot) (r : Int32) (u2 : MU), fX3_isValid n K x1 u = some (r, u2) → va_P D vwCl (MW a n cA u) H → va_D A (MW a n cA u) → va_S A s.heap H locs → lv_has ls 2 [(0, .ref (a 0)), (1, .int x1)] → W p l e (headSpec wsX3_isValid rmX3_isValid).room s m args below meth c H locs 0 0 (MQ below (vzQ D (MT cA) (MW a n cA) A r u2) args s 0 0 A) (F0 m 0 ls []) := by
  obtain ⟨hx, hb, hr, hml, hown, hts, hlk, hN, hK, hA⟩ := id X
  intro x1 u H locs ls r u2 hf hP hD hS hl
  unfold fX3_isValid at hf
  refine lv_aload_n hx hb dX3_isValid_0 rfl (lv_at hl 0 rfl) ?_
  refine va_get (D := D) (ci := 3) (v := .ref (a 1)) (C := RX3) (T := TX3) (N := 16) hx hb hts in_X3_isValid_X3 hown hK hP 0 rfl rfl 2 (by decide) (hts _ (List.mem_of_getElem? (i := 1) rfl)) (fun _ h9 => h9) rfl dX3_isValid_1 ?_
  refine lv_iload_n hx hb dX3_isValid_4 rfl (lv_at hl 1 rfl) ?_
  obtain ⟨g1, hf⟩ := vgs hf
  refine va_iald hx hb hK hP 1 0 rfl rfl g1 dX3_isValid_5 ?_
  refine lv_iconst (v := zI (-1)) hx hb dX3_isValid_6 (by decide) ?_
  refine lv_icmp_eq (tgt := 28) hx hb dX3_isValid_7 (by decide) (fun c2 => ?_) (fun c2 => ?_)
  · have hf := ift c2 hf
    refine lv_iconst (v := zI 0) hx hb dX3_isValid_28 (by decide) ?_
    cases hf
    exact vz_zret X rfl hP hD hS dX3_isValid_29
  · have hf := iff_ c2 hf
    refine lv_aload_n hx hb dX3_isValid_10 rfl (lv_at hl 0 rfl) ?_
    refine lv_aload_n hx hb dX3_isValid_11 rfl (lv_at hl 0 rfl) ?_
    refine va_get (D := D) (ci := 3) (v := .ref (a 1)) (C := RX3) (T := TX3) (N := 16) hx hb hts in_X3_isValid_X3 hown hK hP 0 rfl rfl 2 (by decide) (hts _ (List.mem_of_getElem? (i := 1) rfl)) (fun _ h9 => h9) rfl dX3_isValid_12 ?_
    refine lv_iload_n hx hb dX3_isValid_15 rfl (lv_at hl 1 rfl) ?_
    obtain ⟨g3, hf⟩ := vgs hf
    refine va_iald hx hb hK hP 1 0 rfl rfl g3 dX3_isValid_16 ?_
    obtain ⟨z4, hz5, hf⟩ := bd hf
    refine vz_call (rest := []) X (kX3_newest hz5) (cwV 1 hts gX3_isValid_X3_newest rfl rfl rfl (by decide +kernel) ⟨Nat.le_of_ble_eq_true rfl, Nat.le_of_ble_eq_true rfl⟩) 0 3 rfl rfl rfl hl.1 rfl (Nat.le_of_ble_eq_true rfl) dX3_isValid_17 ⟨Nat.zero_le _, Nat.zero_le _⟩ hP hD hS (fun H locs hP hD hS => ?_)
    refine lv_iload_n hx hb dX3_isValid_20 rfl (lv_at hl 1 rfl) ?_
    refine lv_icmp_ne (tgt := 28) hx hb dX3_isValid_21 (by decide) (fun c6 => ?_) (fun c6 => ?_)
    · have hf := iff_ c6 hf
      refine lv_iconst (v := zI 0) hx hb dX3_isValid_28 (by decide) ?_
      cases hf
      exact vz_zret X rfl hP hD hS dX3_isValid_29
    · have hf := ift c6 hf
      refine lv_iconst (v := zI 1) hx hb dX3_isValid_24 (by decide) ?_
      refine lv_goto (tgt := 29) hx hb dX3_isValid_25 (by decide) ?_
      cases hf
      exact vz_zret X rfl hP hD hS dX3_isValid_29
end
theorem kX3_isValid {l : Launch} {D : va_G} {a n : Nat → Nat} {cA : Nat → ClassId} {K : Nat} {x1 : Int32} {u : MU} {r : Int32} {u2 : MU} (h : fX3_isValid n K x1 u = some (r, u2)) : vzC l D (MT cA) (MW a n cA) yX3_isValid wsX3_isValid rmX3_isValid [.ref (a 0), .int x1] u r u2 := vzC.of (by decide) rfl (Nat.le_of_ble_eq_true rfl) (fun p e s m below meth c A ls X hP hD hl => lbX3_isValid_e X x1 u s.heap [] ls r u2 h hP hD va_S.rf hl)
abbrev rmX3_validIn : Room := { frames := 2, cells := 0, slots := 0, locals := 44 }
theorem in_X3_validIn_X3 : ∀ w ∈ u_ws RX3 TX3 16, w ∈ wsX3_validIn := fun _ h => List.mem_cons_of_mem _ (List.mem_append_right _ h)
def fX3_validIn_4 (n : Nat → Nat) (K : Nat) : Nat → Int32 → Int32 → Int32 → MU → Option (Int32 × MU)
  | 0, _, _, _, _ => none
  | N + 1, x1, x2, x3, u => if (zI 4) ≤ x3 then (some (x2, u)) else ((fX3_isValid n K (((zI 4) * x1) + x3) u).bind fun z2 => (if z2.1 = 0 then (fX3_validIn_4 n K N x1 (x2 + (zI 0)) (x3 + (zI 1)) z2.2) else (fX3_validIn_4 n K N x1 (x2 + (zI 1)) (x3 + (zI 1)) z2.2)))
def fX3_validIn (n : Nat → Nat) (K : Nat) (x1 : Int32) (u : MU) : Option (Int32 × MU) := fX3_validIn_4 n K K x1 (zI 0) (zI 0) u
section
variable {p : Program} {l : Launch} {e : Env} {s : State} {m : MethodId} {args : Array Value} {below : List Frame} {meth : Method} {c : Code} {D : va_G} {a n : Nat → Nat} {cA : Nat → ClassId} {A : Nat → Prop}
set_option maxHeartbeats 4000000 in
set_option maxRecDepth 100000 in
theorem lbX3_validIn_4 {K : Nat} (X : vzX D (MT cA) A wsX3_validIn cX3_validIn 4 (some .int) RX3 p s m args meth c) : ∀ (N : Nat) (x1 x2 x3 : Int32) (u : MU) (H : Heap) (locs : List Loc) (ls : Array Slot) (r : Int32) (u2 : MU), fX3_validIn_4 n K N x1 x2 x3 u = some (r, u2) → va_P D vwCl (MW a n cA u) H → va_D A (MW a n cA u) → va_S A s.heap H locs → lv_has ls 4 [(0, .ref (a 0)), (1, .int x1), (2, .int x2), (3, .int x3)] → W p l e (headSpec wsX3_validIn rmX3_validIn).room s m args below meth c H locs 0 0 (MQ below (vzQ D (MT cA) (MW a n cA) A r u2) args s 0 0 A) (F0 m 4 ls []) := by
  obtain ⟨hx, hb, hr, hml, hown, hts, hlk, hN, hK, hA⟩ := id X
  intro N
  induction N with
  | zero =>
    intro x1 x2 x3 u H locs ls r u2 hf
    cases hf
  | succ N ih =>
    intro x1 x2 x3 u H locs ls r u2 hf hP hD hS hl
    rw [fX3_validIn_4] at hf
    refine lv_iload_n hx hb dX3_validIn_4 rfl (lv_at hl 3 rfl) ?_
    refine lv_iconst (v := zI 4) hx hb dX3_validIn_5 (by decide) ?_
    refine lv_icmp_ge (tgt := 35) hx hb dX3_validIn_6 (by decide) (fun c1 => ?_) (fun c1 => ?_)
    · have hf := ift c1 hf
      refine lv_iload_n hx hb dX3_validIn_35 rfl (lv_at hl 2 rfl) ?_
      cases hf
      exact vz_iret X hP hD hS dX3_validIn_36
    · have hf := iff_ c1 hf
      refine lv_iload_n hx hb dX3_validIn_9 rfl (lv_at hl 2 rfl) ?_
      refine lv_aload_n hx hb dX3_validIn_10 rfl (lv_at hl 0 rfl) ?_
      refine lv_iconst (v := zI 4) hx hb dX3_validIn_11 (by decide) ?_
      refine lv_iload_n hx hb dX3_validIn_12 rfl (lv_at hl 1 rfl) ?_
      refine lv_imul hx hb dX3_validIn_13 ?_
      refine lv_iload_n hx hb dX3_validIn_14 rfl (lv_at hl 3 rfl) ?_
      refine lv_iadd hx hb dX3_validIn_15 ?_
      obtain ⟨z2, hz3, hf⟩ := bd hf
      refine vz_call (rest := [.int x2]) X (kX3_isValid hz3) (cwV 1 hts gX3_validIn_X3_isValid rfl rfl rfl (by decide +kernel) ⟨Nat.le_of_ble_eq_true rfl, Nat.le_of_ble_eq_true rfl⟩) 0 3 rfl rfl rfl hl.1 rfl (Nat.le_of_ble_eq_true rfl) dX3_validIn_16 ⟨Nat.zero_le _, Nat.zero_le _⟩ hP hD hS (fun H locs hP hD hS => ?_)
      refine lv_if_eq (tgt := 26) hx hb dX3_validIn_19 (by decide) (fun c4 => ?_) (fun c4 => ?_)
      · have hf := ift c4 hf
        refine lv_iconst (v := zI 0) hx hb dX3_validIn_26 (by decide) ?_
        refine lv_iadd hx hb dX3_validIn_27 ?_
        refine lv_istore_n (lv' := [(2, .int (x2 + (zI 0))), (0, .ref (a 0)), (1, .int x1), (3, .int x3)]) hx hb dX3_validIn_28 rfl hl (by decide) rfl (fun ls hl => ?_)
        refine lv_iinc (v := x3 + (zI 1)) (lv' := [(3, .int (x3 + (zI 1))), (2, .int (x2 + (zI 0))), (0, .ref (a 0)), (1, .int x1)]) hx hb dX3_validIn_29 hl (k := 3) rfl rfl (by decide) rfl (fun ls hl => ?_)
        refine lv_goto (tgt := 4) hx hb dX3_validIn_32 (by decide) ?_
        exact ih x1 (x2 + (zI 0)) (x3 + (zI 1)) z2.2 _ _ _ _ _ hf hP hD hS (lv_sub hl [2, 3, 1, 0] rfl)
      · have hf := iff_ c4 hf
        refine lv_iconst (v := zI 1) hx hb dX3_validIn_22 (by decide) ?_
        refine lv_goto (tgt := 27) hx hb dX3_validIn_23 (by decide) ?_
        refine lv_iadd hx hb dX3_validIn_27 ?_
        refine lv_istore_n (lv' := [(2, .int (x2 + (zI 1))), (0, .ref (a 0)), (1, .int x1), (3, .int x3)]) hx hb dX3_validIn_28 rfl hl (by decide) rfl (fun ls hl => ?_)
        refine lv_iinc (v := x3 + (zI 1)) (lv' := [(3, .int (x3 + (zI 1))), (2, .int (x2 + (zI 1))), (0, .ref (a 0)), (1, .int x1)]) hx hb dX3_validIn_29 hl (k := 3) rfl rfl (by decide) rfl (fun ls hl => ?_)
        refine lv_goto (tgt := 4) hx hb dX3_validIn_32 (by decide) ?_
        exact ih x1 (x2 + (zI 1)) (x3 + (zI 1)) z2.2 _ _ _ _ _ hf hP hD hS (lv_sub hl [2, 3, 1, 0] rfl)
set_option maxHeartbeats 4000000 in
set_option maxRecDepth 100000 in
theorem lbX3_validIn_e {K : Nat} (X : vzX D (MT cA) A wsX3_validIn cX3_validIn 4 (some .int) RX3 p s m args meth c) : ∀ (x1 : Int32) (u : MU) (H : Heap) (locs : List Loc) (ls : Array Slot) (r : Int32) (u2 : MU), fX3_validIn n K x1 u = some (r, u2) → va_P D vwCl (MW a n cA u) H → va_D A (MW a n cA u) → va_S A s.heap H locs → lv_has ls 4 [(0, .ref (a 0)), (1, .int x1)] → W p l e (headSpec wsX3_validIn rmX3_validIn).room s m args below meth c H locs 0 0 (MQ below (vzQ D (MT cA) (MW a n cA) A r u2) args s 0 0 A) (F0 m 0 ls []) := by
  obtain ⟨hx, hb, hr, hml, hown, hts, hlk, hN, hK, hA⟩ := id X
  intro x1 u H locs ls r u2 hf hP hD hS hl
  unfold fX3_validIn at hf
  refine lv_iconst (v := zI 0) hx hb dX3_validIn_0 (by decide) ?_
  refine lv_istore_n (lv' := [(2, .int (zI 0)), (0, .ref (a 0)), (1, .int x1)]) hx hb dX3_validIn_1 rfl hl (by decide) rfl (fun ls hl => ?_)
  refine lv_iconst (v := zI 0) hx hb dX3_validIn_2 (by decide) ?_
  refine lv_istore_n (lv' := [(3, .int (zI 0)), (2, .int (zI 0)), (0, .ref (a 0)), (1, .int x1)]) hx hb dX3_validIn_3 rfl hl (by decide) rfl (fun ls hl => ?_)
  exact lbX3_validIn_4 X K x1 (zI 0) (zI 0) u _ _ _ _ _ hf hP hD hS (lv_sub hl [2, 3, 1, 0] rfl)
end
theorem kX3_validIn {l : Launch} {D : va_G} {a n : Nat → Nat} {cA : Nat → ClassId} {K : Nat} {x1 : Int32} {u : MU} {r : Int32} {u2 : MU} (h : fX3_validIn n K x1 u = some (r, u2)) : vzC l D (MT cA) (MW a n cA) yX3_validIn wsX3_validIn rmX3_validIn [.ref (a 0), .int x1] u r u2 := vzC.of (by decide) rfl (Nat.le_of_ble_eq_true rfl) (fun p e s m below meth c A ls X hP hD hl => lbX3_validIn_e X x1 u s.heap [] ls r u2 h hP hD va_S.rf hl)
end
section
abbrev rmX3_freeBlocks : Room := { frames := 1, cells := 0, slots := 0, locals := 23 }
theorem in_X3_freeBlocks_X3 : ∀ w ∈ u_ws RX3 TX3 16, w ∈ wsX3_freeBlocks := fun _ h => List.mem_cons_of_mem _ (List.mem_append_right _ h)
def fX3_freeBlocks_4 (n : Nat → Nat) (K : Nat) : Nat → Int32 → Int32 → MU → Option (Int32 × MU)
  | 0, _, _, _ => none
  | N + 1, x1, x2, u => if (mu_blk u) ≤ x2 then (some (x1, u)) else ((fX3_programmed n K x2 u).bind fun z2 => (if z2.1 = 0 then (fX3_freeBlocks_4 n K N (x1 + (zI 1)) (x2 + (zI 1)) z2.2) else (fX3_freeBlocks_4 n K N (x1 + (zI 0)) (x2 + (zI 1)) z2.2)))
def fX3_freeBlocks (n : Nat → Nat) (K : Nat) (u : MU) : Option (Int32 × MU) := fX3_freeBlocks_4 n K K (zI 0) (zI 0) u
section
variable {p : Program} {l : Launch} {e : Env} {s : State} {m : MethodId} {args : Array Value} {below : List Frame} {meth : Method} {c : Code} {D : va_G} {a n : Nat → Nat} {cA : Nat → ClassId} {A : Nat → Prop}
set_option maxHeartbeats 4000000 in
set_option maxRecDepth 100000 in
theorem lbX3_freeBlocks_4 {K : Nat} (X : vzX D (MT cA) A wsX3_freeBlocks cX3_freeBlocks 3 (some .int) RX3 p s m args meth c) : ∀ (N : Nat) (x1 x2 : Int32) (u : MU) (H : Heap) (locs : List Loc) (ls : Array Slot) (r : Int32) (u2 : MU), fX3_freeBlocks_4 n K N x1 x2 u = some (r, u2) → va_P D vwCl (MW a n cA u) H → va_D A (MW a n cA u) → va_S A s.heap H locs → lv_has ls 3 [(0, .ref (a 0)), (1, .int x1), (2, .int x2)] → W p l e (headSpec wsX3_freeBlocks rmX3_freeBlocks).room s m args below meth c H locs 0 0 (MQ below (vzQ D (MT cA) (MW a n cA) A r u2) args s 0 0 A) (F0 m 4 ls []) := by
  obtain ⟨hx, hb, hr, hml, hown, hts, hlk, hN, hK, hA⟩ := id X
  intro N
  induction N with
  | zero =>
    intro x1 x2 u H locs ls r u2 hf
    cases hf
  | succ N ih =>
    intro x1 x2 u H locs ls r u2 hf hP hD hS hl
    rw [fX3_freeBlocks_4] at hf
    refine lv_iload_n hx hb dX3_freeBlocks_4 rfl (lv_at hl 2 rfl) ?_
    refine lv_aload_n hx hb dX3_freeBlocks_5 rfl (lv_at hl 0 rfl) ?_
    refine va_get (D := D) (ci := 3) (v := .int (mu_blk u)) (C := RX3) (T := TX3) (N := 16) hx hb hts in_X3_freeBlocks_X3 hown hK hP 0 rfl rfl 0 (by decide) (hts _ (List.mem_of_getElem? (i := 1) rfl)) (fun _ h9 => h9) rfl dX3_freeBlocks_6 ?_
    refine lv_icmp_ge (tgt := 34) hx hb dX3_freeBlocks_9 (by decide) (fun c1 => ?_) (fun c1 => ?_)
    · have hf := ift c1 hf
      refine lv_iload_n hx hb dX3_freeBlocks_34 rfl (lv_at hl 1 rfl) ?_
      cases hf
      exact vz_iret X hP hD hS dX3_freeBlocks_35
    · have hf := iff_ c1 hf
      refine lv_iload_n hx hb dX3_freeBlocks_12 rfl (lv_at hl 1 rfl) ?_
      refine lv_aload_n hx hb dX3_freeBlocks_13 rfl (lv_at hl 0 rfl) ?_
      refine lv_iload_n hx hb dX3_freeBlocks_14 rfl (lv_at hl 2 rfl) ?_
      obtain ⟨z2, hz3, hf⟩ := bd hf
      refine vz_call (rest := [.int x1]) X (kX3_programmed hz3) (cwV 1 hts gX3_freeBlocks_X3_programmed rfl rfl rfl (by decide +kernel) ⟨Nat.le_of_ble_eq_true rfl, Nat.le_of_ble_eq_true rfl⟩) 0 3 rfl rfl rfl hl.1 rfl (Nat.le_of_ble_eq_true rfl) dX3_freeBlocks_15 ⟨Nat.zero_le _, Nat.zero_le _⟩ hP hD hS (fun H locs hP hD hS => ?_)
      refine lv_if_ne (tgt := 25) hx hb dX3_freeBlocks_18 (by decide) (fun c4 => ?_) (fun c4 => ?_)
      · have hf := iff_ c4 hf
        refine lv_iconst (v := zI 0) hx hb dX3_freeBlocks_25 (by decide) ?_
        refine lv_iadd hx hb dX3_freeBlocks_26 ?_
        refine lv_istore_n (lv' := [(1, .int (x1 + (zI 0))), (0, .ref (a 0)), (2, .int x2)]) hx hb dX3_freeBlocks_27 rfl hl (by decide) rfl (fun ls hl => ?_)
        refine lv_iinc (v := x2 + (zI 1)) (lv' := [(2, .int (x2 + (zI 1))), (1, .int (x1 + (zI 0))), (0, .ref (a 0))]) hx hb dX3_freeBlocks_28 hl (k := 2) rfl rfl (by decide) rfl (fun ls hl => ?_)
        refine lv_goto (tgt := 4) hx hb dX3_freeBlocks_31 (by decide) ?_
        exact ih (x1 + (zI 0)) (x2 + (zI 1)) z2.2 _ _ _ _ _ hf hP hD hS (lv_sub hl [2, 1, 0] rfl)
      · have hf := ift c4 hf
        refine lv_iconst (v := zI 1) hx hb dX3_freeBlocks_21 (by decide) ?_
        refine lv_goto (tgt := 26) hx hb dX3_freeBlocks_22 (by decide) ?_
        refine lv_iadd hx hb dX3_freeBlocks_26 ?_
        refine lv_istore_n (lv' := [(1, .int (x1 + (zI 1))), (0, .ref (a 0)), (2, .int x2)]) hx hb dX3_freeBlocks_27 rfl hl (by decide) rfl (fun ls hl => ?_)
        refine lv_iinc (v := x2 + (zI 1)) (lv' := [(2, .int (x2 + (zI 1))), (1, .int (x1 + (zI 1))), (0, .ref (a 0))]) hx hb dX3_freeBlocks_28 hl (k := 2) rfl rfl (by decide) rfl (fun ls hl => ?_)
        refine lv_goto (tgt := 4) hx hb dX3_freeBlocks_31 (by decide) ?_
        exact ih (x1 + (zI 1)) (x2 + (zI 1)) z2.2 _ _ _ _ _ hf hP hD hS (lv_sub hl [2, 1, 0] rfl)
set_option maxHeartbeats 4000000 in
set_option maxRecDepth 100000 in
theorem lbX3_freeBlocks_e {K : Nat} (X : vzX D (MT cA) A wsX3_freeBlocks cX3_freeBlocks 3 (some .int) RX3 p s m args meth c) : ∀ (u : MU) (H : Heap) (locs : List Loc) (ls : Array Slot) (r : Int32) (u2 : MU), fX3_freeBlocks n K u = some (r, u2) → va_P D vwCl (MW a n cA u) H → va_D A (MW a n cA u) → va_S A s.heap H locs → lv_has ls 3 [(0, .ref (a 0))] → W p l e (headSpec wsX3_freeBlocks rmX3_freeBlocks).room s m args below meth c H locs 0 0 (MQ below (vzQ D (MT cA) (MW a n cA) A r u2) args s 0 0 A) (F0 m 0 ls []) := by
  obtain ⟨hx, hb, hr, hml, hown, hts, hlk, hN, hK, hA⟩ := id X
  intro u H locs ls r u2 hf hP hD hS hl
  unfold fX3_freeBlocks at hf
  refine lv_iconst (v := zI 0) hx hb dX3_freeBlocks_0 (by decide) ?_
  refine lv_istore_n (lv' := [(1, .int (zI 0)), (0, .ref (a 0))]) hx hb dX3_freeBlocks_1 rfl hl (by decide) rfl (fun ls hl => ?_)
  refine lv_iconst (v := zI 0) hx hb dX3_freeBlocks_2 (by decide) ?_
  refine lv_istore_n (lv' := [(2, .int (zI 0)), (1, .int (zI 0)), (0, .ref (a 0))]) hx hb dX3_freeBlocks_3 rfl hl (by decide) rfl (fun ls hl => ?_)
  exact lbX3_freeBlocks_4 X K (zI 0) (zI 0) u _ _ _ _ _ hf hP hD hS (lv_sub hl [2, 1, 0] rfl)
end
theorem kX3_freeBlocks {l : Launch} {D : va_G} {a n : Nat → Nat} {cA : Nat → ClassId} {K : Nat} {u : MU} {r : Int32} {u2 : MU} (h : fX3_freeBlocks n K u = some (r, u2)) : vzC l D (MT cA) (MW a n cA) yX3_freeBlocks wsX3_freeBlocks rmX3_freeBlocks [.ref (a 0)] u r u2 := vzC.of (by decide) rfl (Nat.le_of_ble_eq_true rfl) (fun p e s m below meth c A ls X hP hD hl => lbX3_freeBlocks_e X u s.heap [] ls r u2 h hP hD va_S.rf hl)
abbrev rmX3_pick : Room := { frames := 3, cells := 0, slots := 0, locals := 67 }
theorem in_X3_pick_X3 : ∀ w ∈ u_ws RX3 TX3 16, w ∈ wsX3_pick := fun _ h => List.mem_cons_of_mem _ (List.mem_append_right _ h)
def fX3_pick_8 (n : Nat → Nat) (K : Nat) : Nat → Int32 → Int32 → Int32 → Int32 → Int32 → MU → Option (Int32 × MU)
  | 0, _, _, _, _, _, _ => none
  | N + 1, x1, x2, x3, x4, x5, u => if (mu_blk u) ≤ x5 then (some (x3, u)) else (vg x5 (n 5) (if x2 = 0 then ((fX3_programmed n K x5 u).bind fun z4 => (if z4.1 = x1 then (if x3 = (zI (-1)) then (fX3_pick_8 n K N x1 x2 x5 (((mu_era u) x5.toNatClampNeg) + (zI 0)) (x5 + (zI 1)) z4.2) else (if x4 ≤ (((mu_era u) x5.toNatClampNeg) + (zI 0)) then (fX3_pick_8 n K N x1 x2 x3 x4 (x5 + (zI 1)) z4.2) else (fX3_pick_8 n K N x1 x2 x5 (((mu_era u) x5.toNatClampNeg) + (zI 0)) (x5 + (zI 1)) z4.2))) else (fX3_pick_8 n K N x1 x2 x3 x4 (x5 + (zI 1)) z4.2))) else ((fX3_validIn n K x5 u).bind fun z9 => ((fX3_programmed n K x5 z9.2).bind fun z11 => (if z11.1 = x1 then (if x3 = (zI (-1)) then (fX3_pick_8 n K N x1 x2 x5 (((mu_era u) x5.toNatClampNeg) + ((zI 100000) * z9.1)) (x5 + (zI 1)) z11.2) else (if x4 ≤ (((mu_era u) x5.toNatClampNeg) + ((zI 100000) * z9.1)) then (fX3_pick_8 n K N x1 x2 x3 x4 (x5 + (zI 1)) z11.2) else (fX3_pick_8 n K N x1 x2 x5 (((mu_era u) x5.toNatClampNeg) + ((zI 100000) * z9.1)) (x5 + (zI 1)) z11.2))) else (fX3_pick_8 n K N x1 x2 x3 x4 (x5 + (zI 1)) z11.2))))))
def fX3_pick (n : Nat → Nat) (K : Nat) (x1 x2 : Int32) (u : MU) : Option (Int32 × MU) := fX3_pick_8 n K K x1 x2 (zI (-1)) (zI 0) (zI 0) u
section
variable {p : Program} {l : Launch} {e : Env} {s : State} {m : MethodId} {args : Array Value} {below : List Frame} {meth : Method} {c : Code} {D : va_G} {a n : Nat → Nat} {cA : Nat → ClassId} {A : Nat → Prop}
set_option maxHeartbeats 4000000 in
set_option maxRecDepth 100000 in
theorem lbX3_pick_8 {K : Nat} (X : vzX D (MT cA) A wsX3_pick cX3_pick 7 (some .int) RX3 p s m args meth c) : ∀ (N : Nat) (x1 x2 x3 x4 x5 : Int32) (u : MU) (H : Heap) (locs : List Loc) (ls : Array Slot) (r : Int32) (u2 : MU), fX3_pick_8 n K N x1 x2 x3 x4 x5 u = some (r, u2) → va_P D vwCl (MW a n cA u) H → va_D A (MW a n cA u) → va_S A s.heap H locs → lv_has ls 7 [(0, .ref (a 0)), (1, .int x1), (2, .int x2), (3, .int x3), (4, .int x4), (5, .int x5)] → W p l e (headSpec wsX3_pick rmX3_pick).room s m args below meth c H locs 0 0 (MQ below (vzQ D (MT cA) (MW a n cA) A r u2) args s 0 0 A) (F0 m 8 ls []) := by
  obtain ⟨hx, hb, hr, hml, hown, hts, hlk, hN, hK, hA⟩ := id X
  intro N
  induction N with
  | zero =>
    intro x1 x2 x3 x4 x5 u H locs ls r u2 hf
    cases hf
  | succ N ih =>
    intro x1 x2 x3 x4 x5 u H locs ls r u2 hf hP hD hS hl
    rw [fX3_pick_8] at hf
    refine lv_iload hx hb dX3_pick_8 (lv_at hl 5 rfl) ?_
    refine lv_aload_n hx hb dX3_pick_10 rfl (lv_at hl 0 rfl) ?_
    refine va_get (D := D) (ci := 3) (v := .int (mu_blk u)) (C := RX3) (T := TX3) (N := 16) hx hb hts in_X3_pick_X3 hown hK hP 0 rfl rfl 0 (by decide) (hts _ (List.mem_of_getElem? (i := 1) rfl)) (fun _ h9 => h9) rfl dX3_pick_11 ?_
    refine lv_icmp_ge (tgt := 79) hx hb dX3_pick_14 (by decide) (fun c1 => ?_) (fun c1 => ?_)
    · have hf := ift c1 hf
      refine lv_iload_n hx hb dX3_pick_79 rfl (lv_at hl 3 rfl) ?_
      cases hf
      exact vz_iret X hP hD hS dX3_pick_80
    · have hf := iff_ c1 hf
      refine lv_aload_n hx hb dX3_pick_17 rfl (lv_at hl 0 rfl) ?_
      refine va_get (D := D) (ci := 3) (v := .ref (a 5)) (C := RX3) (T := TX3) (N := 16) hx hb hts in_X3_pick_X3 hown hK hP 0 rfl rfl 6 (by decide) (hts _ (List.mem_of_getElem? (i := 2) rfl)) (fun _ h9 => h9) rfl dX3_pick_18 ?_
      refine lv_iload hx hb dX3_pick_21 (lv_at hl 5 rfl) ?_
      obtain ⟨g2, hf⟩ := vgs hf
      refine va_iald hx hb hK hP 5 4 rfl rfl g2 dX3_pick_23 ?_
      refine lv_iload_n hx hb dX3_pick_24 rfl (lv_at hl 2 rfl) ?_
      refine lv_if_eq (tgt := 40) hx hb dX3_pick_25 (by decide) (fun c3 => ?_) (fun c3 => ?_)
      · have hf := ift c3 hf
        refine lv_iconst (v := zI 0) hx hb dX3_pick_40 (by decide) ?_
        refine lv_iadd hx hb dX3_pick_41 ?_
        refine lv_istore (lv' := [(6, .int (((mu_era u) x5.toNatClampNeg) + (zI 0))), (0, .ref (a 0)), (1, .int x1), (2, .int x2), (3, .int x3), (4, .int x4), (5, .int x5)]) hx hb dX3_pick_42 hl (by decide) rfl (fun ls hl => ?_)
        refine lv_aload_n hx hb dX3_pick_44 rfl (lv_at hl 1 rfl) ?_
        refine lv_iload hx hb dX3_pick_45 (lv_at hl 6 rfl) ?_
        obtain ⟨z4, hz5, hf⟩ := bd hf
        refine vz_call (rest := []) X (kX3_programmed hz5) (cwV 1 hts gX3_pick_X3_programmed rfl rfl rfl (by decide +kernel) ⟨Nat.le_of_ble_eq_true rfl, Nat.le_of_ble_eq_true rfl⟩) 0 3 rfl rfl rfl hl.1 rfl (Nat.le_of_ble_eq_true rfl) dX3_pick_47 ⟨Nat.zero_le _, Nat.zero_le _⟩ hP hD hS (fun H locs hP hD hS => ?_)
        refine lv_iload_n hx hb dX3_pick_50 rfl (lv_at hl 2 rfl) ?_
        refine lv_icmp_ne (tgt := 73) hx hb dX3_pick_51 (by decide) (fun c6 => ?_) (fun c6 => ?_)
        · have hf := iff_ c6 hf
          refine lv_iinc (v := x5 + (zI 1)) (lv' := [(5, .int (x5 + (zI 1))), (6, .int (((mu_era u) x5.toNatClampNeg) + (zI 0))), (0, .ref (a 0)), (1, .int x1), (2, .int x2), (3, .int x3), (4, .int x4)]) hx hb dX3_pick_73 hl (k := 6) rfl rfl (by decide) rfl (fun ls hl => ?_)
          refine lv_goto (tgt := 8) hx hb dX3_pick_76 (by decide) ?_
          exact ih x1 x2 x3 x4 (x5 + (zI 1)) z4.2 _ _ _ _ _ hf hP hD hS (lv_sub hl [2, 3, 4, 5, 6, 0] rfl)
        · have hf := ift c6 hf
          refine lv_iload_n hx hb dX3_pick_54 rfl (lv_at hl 4 rfl) ?_
          refine lv_iconst (v := zI (-1)) hx hb dX3_pick_55 (by decide) ?_
          refine lv_icmp_eq (tgt := 66) hx hb dX3_pick_56 (by decide) (fun c7 => ?_) (fun c7 => ?_)
          · have hf := ift c7 hf
            refine lv_iload hx hb dX3_pick_66 (lv_at hl 6 rfl) ?_
            refine lv_istore_n (lv' := [(3, .int x5), (6, .int (((mu_era u) x5.toNatClampNeg) + (zI 0))), (0, .ref (a 0)), (1, .int x1), (2, .int x2), (4, .int x4), (5, .int x5)]) hx hb dX3_pick_68 rfl hl (by decide) rfl (fun ls hl => ?_)
            refine lv_iload hx hb dX3_pick_69 (lv_at hl 1 rfl) ?_
            refine lv_istore (lv' := [(4, .int (((mu_era u) x5.toNatClampNeg) + (zI 0))), (3, .int x5), (6, .int (((mu_era u) x5.toNatClampNeg) + (zI 0))), (0, .ref (a 0)), (1, .int x1), (2, .int x2), (5, .int x5)]) hx hb dX3_pick_71 hl (by decide) rfl (fun ls hl => ?_)
            refine lv_iinc (v := x5 + (zI 1)) (lv' := [(5, .int (x5 + (zI 1))), (4, .int (((mu_era u) x5.toNatClampNeg) + (zI 0))), (3, .int x5), (6, .int (((mu_era u) x5.toNatClampNeg) + (zI 0))), (0, .ref (a 0)), (1, .int x1), (2, .int x2)]) hx hb dX3_pick_73 hl (k := 6) rfl rfl (by decide) rfl (fun ls hl => ?_)
            refine lv_goto (tgt := 8) hx hb dX3_pick_76 (by decide) ?_
            exact ih x1 x2 x5 (((mu_era u) x5.toNatClampNeg) + (zI 0)) (x5 + (zI 1)) z4.2 _ _ _ _ _ hf hP hD hS (lv_sub hl [4, 5, 6, 2, 1, 0] rfl)
          · have hf := iff_ c7 hf
            refine lv_iload hx hb dX3_pick_59 (lv_at hl 0 rfl) ?_
            refine lv_iload hx hb dX3_pick_61 (lv_at hl 5 rfl) ?_
            refine lv_icmp_ge (tgt := 73) hx hb dX3_pick_63 (by decide) (fun c8 => ?_) (fun c8 => ?_)
            · have hf := ift c8 hf
              refine lv_iinc (v := x5 + (zI 1)) (lv' := [(5, .int (x5 + (zI 1))), (6, .int (((mu_era u) x5.toNatClampNeg) + (zI 0))), (0, .ref (a 0)), (1, .int x1), (2, .int x2), (3, .int x3), (4, .int x4)]) hx hb dX3_pick_73 hl (k := 6) rfl rfl (by decide) rfl (fun ls hl => ?_)
              refine lv_goto (tgt := 8) hx hb dX3_pick_76 (by decide) ?_
              exact ih x1 x2 x3 x4 (x5 + (zI 1)) z4.2 _ _ _ _ _ hf hP hD hS (lv_sub hl [2, 3, 4, 5, 6, 0] rfl)
            · have hf := iff_ c8 hf
              refine lv_iload hx hb dX3_pick_66 (lv_at hl 6 rfl) ?_
              refine lv_istore_n (lv' := [(3, .int x5), (6, .int (((mu_era u) x5.toNatClampNeg) + (zI 0))), (0, .ref (a 0)), (1, .int x1), (2, .int x2), (4, .int x4), (5, .int x5)]) hx hb dX3_pick_68 rfl hl (by decide) rfl (fun ls hl => ?_)
              refine lv_iload hx hb dX3_pick_69 (lv_at hl 1 rfl) ?_
              refine lv_istore (lv' := [(4, .int (((mu_era u) x5.toNatClampNeg) + (zI 0))), (3, .int x5), (6, .int (((mu_era u) x5.toNatClampNeg) + (zI 0))), (0, .ref (a 0)), (1, .int x1), (2, .int x2), (5, .int x5)]) hx hb dX3_pick_71 hl (by decide) rfl (fun ls hl => ?_)
              refine lv_iinc (v := x5 + (zI 1)) (lv' := [(5, .int (x5 + (zI 1))), (4, .int (((mu_era u) x5.toNatClampNeg) + (zI 0))), (3, .int x5), (6, .int (((mu_era u) x5.toNatClampNeg) + (zI 0))), (0, .ref (a 0)), (1, .int x1), (2, .int x2)]) hx hb dX3_pick_73 hl (k := 6) rfl rfl (by decide) rfl (fun ls hl => ?_)
              refine lv_goto (tgt := 8) hx hb dX3_pick_76 (by decide) ?_
              exact ih x1 x2 x5 (((mu_era u) x5.toNatClampNeg) + (zI 0)) (x5 + (zI 1)) z4.2 _ _ _ _ _ hf hP hD hS (lv_sub hl [4, 5, 6, 2, 1, 0] rfl)
      · have hf := iff_ c3 hf
        refine lv_ldc (v := zI 100000) hx hb hown (hts _ (List.mem_of_getElem? (i := 3) rfl)) dX3_pick_28 ?_
        refine lv_aload_n hx hb dX3_pick_30 rfl (lv_at hl 0 rfl) ?_
        refine lv_iload hx hb dX3_pick_31 (lv_at hl 5 rfl) ?_
        obtain ⟨z9, hz10, hf⟩ := bd hf
        refine vz_call (rest := [.int (zI 100000), .int ((mu_era u) x5.toNatClampNeg)]) X (kX3_validIn hz10) (cwV 1 hts gX3_pick_X3_validIn rfl rfl rfl (by decide +kernel) ⟨Nat.le_of_ble_eq_true rfl, Nat.le_of_ble_eq_true rfl⟩) 0 3 rfl rfl rfl hl.1 rfl (Nat.le_of_ble_eq_true rfl) dX3_pick_33 ⟨Nat.zero_le _, Nat.zero_le _⟩ hP hD hS (fun H locs hP hD hS => ?_)
        refine lv_imul hx hb dX3_pick_36 ?_
        refine lv_goto (tgt := 41) hx hb dX3_pick_37 (by decide) ?_
        refine lv_iadd hx hb dX3_pick_41 ?_
        refine lv_istore (lv' := [(6, .int (((mu_era u) x5.toNatClampNeg) + ((zI 100000) * z9.1))), (0, .ref (a 0)), (1, .int x1), (2, .int x2), (3, .int x3), (4, .int x4), (5, .int x5)]) hx hb dX3_pick_42 hl (by decide) rfl (fun ls hl => ?_)
        refine lv_aload_n hx hb dX3_pick_44 rfl (lv_at hl 1 rfl) ?_
        refine lv_iload hx hb dX3_pick_45 (lv_at hl 6 rfl) ?_
        obtain ⟨z11, hz12, hf⟩ := bd hf
        refine vz_call (rest := []) X (kX3_programmed hz12) (cwV 1 hts gX3_pick_X3_programmed rfl rfl rfl (by decide +kernel) ⟨Nat.le_of_ble_eq_true rfl, Nat.le_of_ble_eq_true rfl⟩) 0 3 rfl rfl rfl hl.1 rfl (Nat.le_of_ble_eq_true rfl) dX3_pick_47 ⟨Nat.zero_le _, Nat.zero_le _⟩ hP hD hS (fun H locs hP hD hS => ?_)
        refine lv_iload_n hx hb dX3_pick_50 rfl (lv_at hl 2 rfl) ?_
        refine lv_icmp_ne (tgt := 73) hx hb dX3_pick_51 (by decide) (fun c13 => ?_) (fun c13 => ?_)
        · have hf := iff_ c13 hf
          refine lv_iinc (v := x5 + (zI 1)) (lv' := [(5, .int (x5 + (zI 1))), (6, .int (((mu_era u) x5.toNatClampNeg) + ((zI 100000) * z9.1))), (0, .ref (a 0)), (1, .int x1), (2, .int x2), (3, .int x3), (4, .int x4)]) hx hb dX3_pick_73 hl (k := 6) rfl rfl (by decide) rfl (fun ls hl => ?_)
          refine lv_goto (tgt := 8) hx hb dX3_pick_76 (by decide) ?_
          exact ih x1 x2 x3 x4 (x5 + (zI 1)) z11.2 _ _ _ _ _ hf hP hD hS (lv_sub hl [2, 3, 4, 5, 6, 0] rfl)
        · have hf := ift c13 hf
          refine lv_iload_n hx hb dX3_pick_54 rfl (lv_at hl 4 rfl) ?_
          refine lv_iconst (v := zI (-1)) hx hb dX3_pick_55 (by decide) ?_
          refine lv_icmp_eq (tgt := 66) hx hb dX3_pick_56 (by decide) (fun c14 => ?_) (fun c14 => ?_)
          · have hf := ift c14 hf
            refine lv_iload hx hb dX3_pick_66 (lv_at hl 6 rfl) ?_
            refine lv_istore_n (lv' := [(3, .int x5), (6, .int (((mu_era u) x5.toNatClampNeg) + ((zI 100000) * z9.1))), (0, .ref (a 0)), (1, .int x1), (2, .int x2), (4, .int x4), (5, .int x5)]) hx hb dX3_pick_68 rfl hl (by decide) rfl (fun ls hl => ?_)
            refine lv_iload hx hb dX3_pick_69 (lv_at hl 1 rfl) ?_
            refine lv_istore (lv' := [(4, .int (((mu_era u) x5.toNatClampNeg) + ((zI 100000) * z9.1))), (3, .int x5), (6, .int (((mu_era u) x5.toNatClampNeg) + ((zI 100000) * z9.1))), (0, .ref (a 0)), (1, .int x1), (2, .int x2), (5, .int x5)]) hx hb dX3_pick_71 hl (by decide) rfl (fun ls hl => ?_)
            refine lv_iinc (v := x5 + (zI 1)) (lv' := [(5, .int (x5 + (zI 1))), (4, .int (((mu_era u) x5.toNatClampNeg) + ((zI 100000) * z9.1))), (3, .int x5), (6, .int (((mu_era u) x5.toNatClampNeg) + ((zI 100000) * z9.1))), (0, .ref (a 0)), (1, .int x1), (2, .int x2)]) hx hb dX3_pick_73 hl (k := 6) rfl rfl (by decide) rfl (fun ls hl => ?_)
            refine lv_goto (tgt := 8) hx hb dX3_pick_76 (by decide) ?_
            exact ih x1 x2 x5 (((mu_era u) x5.toNatClampNeg) + ((zI 100000) * z9.1)) (x5 + (zI 1)) z11.2 _ _ _ _ _ hf hP hD hS (lv_sub hl [4, 5, 6, 2, 1, 0] rfl)
          · have hf := iff_ c14 hf
            refine lv_iload hx hb dX3_pick_59 (lv_at hl 0 rfl) ?_
            refine lv_iload hx hb dX3_pick_61 (lv_at hl 5 rfl) ?_
            refine lv_icmp_ge (tgt := 73) hx hb dX3_pick_63 (by decide) (fun c15 => ?_) (fun c15 => ?_)
            · have hf := ift c15 hf
              refine lv_iinc (v := x5 + (zI 1)) (lv' := [(5, .int (x5 + (zI 1))), (6, .int (((mu_era u) x5.toNatClampNeg) + ((zI 100000) * z9.1))), (0, .ref (a 0)), (1, .int x1), (2, .int x2), (3, .int x3), (4, .int x4)]) hx hb dX3_pick_73 hl (k := 6) rfl rfl (by decide) rfl (fun ls hl => ?_)
              refine lv_goto (tgt := 8) hx hb dX3_pick_76 (by decide) ?_
              exact ih x1 x2 x3 x4 (x5 + (zI 1)) z11.2 _ _ _ _ _ hf hP hD hS (lv_sub hl [2, 3, 4, 5, 6, 0] rfl)
            · have hf := iff_ c15 hf
              refine lv_iload hx hb dX3_pick_66 (lv_at hl 6 rfl) ?_
              refine lv_istore_n (lv' := [(3, .int x5), (6, .int (((mu_era u) x5.toNatClampNeg) + ((zI 100000) * z9.1))), (0, .ref (a 0)), (1, .int x1), (2, .int x2), (4, .int x4), (5, .int x5)]) hx hb dX3_pick_68 rfl hl (by decide) rfl (fun ls hl => ?_)
              refine lv_iload hx hb dX3_pick_69 (lv_at hl 1 rfl) ?_
              refine lv_istore (lv' := [(4, .int (((mu_era u) x5.toNatClampNeg) + ((zI 100000) * z9.1))), (3, .int x5), (6, .int (((mu_era u) x5.toNatClampNeg) + ((zI 100000) * z9.1))), (0, .ref (a 0)), (1, .int x1), (2, .int x2), (5, .int x5)]) hx hb dX3_pick_71 hl (by decide) rfl (fun ls hl => ?_)
              refine lv_iinc (v := x5 + (zI 1)) (lv' := [(5, .int (x5 + (zI 1))), (4, .int (((mu_era u) x5.toNatClampNeg) + ((zI 100000) * z9.1))), (3, .int x5), (6, .int (((mu_era u) x5.toNatClampNeg) + ((zI 100000) * z9.1))), (0, .ref (a 0)), (1, .int x1), (2, .int x2)]) hx hb dX3_pick_73 hl (k := 6) rfl rfl (by decide) rfl (fun ls hl => ?_)
              refine lv_goto (tgt := 8) hx hb dX3_pick_76 (by decide) ?_
              exact ih x1 x2 x5 (((mu_era u) x5.toNatClampNeg) + ((zI 100000) * z9.1)) (x5 + (zI 1)) z11.2 _ _ _ _ _ hf hP hD hS (lv_sub hl [4, 5, 6, 2, 1, 0] rfl)
set_option maxHeartbeats 4000000 in
set_option maxRecDepth 100000 in
theorem lbX3_pick_e {K : Nat} (X : vzX D (MT cA) A wsX3_pick cX3_pick 7 (some .int) RX3 p s m args meth c) : ∀ (x1 x2 : Int32) (u : MU) (H : Heap) (locs : List Loc) (ls : Array Slot) (r : Int32) (u2 : MU), fX3_pick n K x1 x2 u = some (r, u2) → va_P D vwCl (MW a n cA u) H → va_D A (MW a n cA u) → va_S A s.heap H locs → lv_has ls 7 [(0, .ref (a 0)), (1, .int x1), (2, .int x2)] → W p l e (headSpec wsX3_pick rmX3_pick).room s m args below meth c H locs 0 0 (MQ below (vzQ D (MT cA) (MW a n cA) A r u2) args s 0 0 A) (F0 m 0 ls []) := by
  obtain ⟨hx, hb, hr, hml, hown, hts, hlk, hN, hK, hA⟩ := id X
  intro x1 x2 u H locs ls r u2 hf hP hD hS hl
  unfold fX3_pick at hf
  refine lv_iconst (v := zI (-1)) hx hb dX3_pick_0 (by decide) ?_
  refine lv_istore_n (lv' := [(3, .int (zI (-1))), (0, .ref (a 0)), (1, .int x1), (2, .int x2)]) hx hb dX3_pick_1 rfl hl (by decide) rfl (fun ls hl => ?_)
  refine lv_iconst (v := zI 0) hx hb dX3_pick_2 (by decide) ?_
  refine lv_istore (lv' := [(4, .int (zI 0)), (3, .int (zI (-1))), (0, .ref (a 0)), (1, .int x1), (2, .int x2)]) hx hb dX3_pick_3 hl (by decide) rfl (fun ls hl => ?_)
  refine lv_iconst (v := zI 0) hx hb dX3_pick_5 (by decide) ?_
  refine lv_istore (lv' := [(5, .int (zI 0)), (4, .int (zI 0)), (3, .int (zI (-1))), (0, .ref (a 0)), (1, .int x1), (2, .int x2)]) hx hb dX3_pick_6 hl (by decide) rfl (fun ls hl => ?_)
  exact lbX3_pick_8 X K x1 x2 (zI (-1)) (zI 0) (zI 0) u _ _ _ _ _ hf hP hD hS (lv_sub hl [3, 4, 5, 2, 1, 0] rfl)
end
theorem kX3_pick {l : Launch} {D : va_G} {a n : Nat → Nat} {cA : Nat → ClassId} {K : Nat} {x1 x2 : Int32} {u : MU} {r : Int32} {u2 : MU} (h : fX3_pick n K x1 x2 u = some (r, u2)) : vzC l D (MT cA) (MW a n cA) yX3_pick wsX3_pick rmX3_pick [.ref (a 0), .int x1, .int x2] u r u2 := vzC.of (by decide) rfl (Nat.le_of_ble_eq_true rfl) (fun p e s m below meth c A ls X hP hD hl => lbX3_pick_e X x1 x2 u s.heap [] ls r u2 h hP hD va_S.rf hl)
abbrev rmX3_uneven : Room := { frames := 0, cells := 0, slots := 0, locals := 0 }
theorem in_X3_uneven_X3 : ∀ w ∈ u_ws RX3 TX3 16, w ∈ wsX3_uneven := fun _ h => List.mem_cons_of_mem _ (List.mem_append_right _ h)
def fX3_uneven_16 (n : Nat → Nat) (K : Nat) : Nat → Int32 → Int32 → Int32 → MU → Option (Int32 × MU)
  | 0, _, _, _, _ => none
  | N + 1, x1, x2, x3, u => if (mu_blk u) ≤ x3 then (if (x1 - x2) ≤ (mu_spr u) then (some (zI 0, u)) else (some (zI 1, u))) else (vg x3 (n 5) (if ((mu_era u) x3.toNatClampNeg) ≤ x1 then (vg x3 (n 5) (if x2 ≤ ((mu_era u) x3.toNatClampNeg) then (fX3_uneven_16 n K N x1 x2 (x3 + (zI 1)) u) else (vg x3 (n 5) (fX3_uneven_16 n K N x1 ((mu_era u) x3.toNatClampNeg) (x3 + (zI 1)) u)))) else (vg x3 (n 5) (vg x3 (n 5) (if x2 ≤ ((mu_era u) x3.toNatClampNeg) then (fX3_uneven_16 n K N ((mu_era u) x3.toNatClampNeg) x2 (x3 + (zI 1)) u) else (vg x3 (n 5) (fX3_uneven_16 n K N ((mu_era u) x3.toNatClampNeg) ((mu_era u) x3.toNatClampNeg) (x3 + (zI 1)) u)))))))
def fX3_uneven (n : Nat → Nat) (K : Nat) (u : MU) : Option (Int32 × MU) := vg (zI 0) (n 5) (vg (zI 0) (n 5) (fX3_uneven_16 n K K ((mu_era u) ((zI 0)).toNatClampNeg) ((mu_era u) ((zI 0)).toNatClampNeg) (zI 1) u))
section
variable {p : Program} {l : Launch} {e : Env} {s : State} {m : MethodId} {args : Array Value} {below : List Frame} {meth : Method} {c : Code} {D : va_G} {a n : Nat → Nat} {cA : Nat → ClassId} {A : Nat → Prop}
set_option maxHeartbeats 4000000 in
set_option maxRecDepth 100000 in
theorem lbX3_uneven_16 {K : Nat} (X : vzX D (MT cA) A wsX3_uneven cX3_uneven 4 (some .boolean) RX3 p s m args meth c) : ∀ (N : Nat) (x1 x2 x3 : Int32) (u : MU) (H : Heap) (locs : List Loc) (ls : Array Slot) (r : Int32) (u2 : MU), fX3_uneven_16 n K N x1 x2 x3 u = some (r, u2) → va_P D vwCl (MW a n cA u) H → va_D A (MW a n cA u) → va_S A s.heap H locs → lv_has ls 4 [(0, .ref (a 0)), (1, .int x1), (2, .int x2), (3, .int x3)] → W p l e (headSpec wsX3_uneven rmX3_uneven).room s m args below meth c H locs 0 0 (MQ below (vzQ D (MT cA) (MW a n cA) A r u2) args s 0 0 A) (F0 m 16 ls []) := by
  obtain ⟨hx, hb, hr, hml, hown, hts, hlk, hN, hK, hA⟩ := id X
  intro N
  induction N with
  | zero =>
    intro x1 x2 x3 u H locs ls r u2 hf
    cases hf
  | succ N ih =>
    intro x1 x2 x3 u H locs ls r u2 hf hP hD hS hl
    rw [fX3_uneven_16] at hf
    refine lv_iload_n hx hb dX3_uneven_16 rfl (lv_at hl 3 rfl) ?_
    refine lv_aload_n hx hb dX3_uneven_17 rfl (lv_at hl 0 rfl) ?_
    refine va_get (D := D) (ci := 3) (v := .int (mu_blk u)) (C := RX3) (T := TX3) (N := 16) hx hb hts in_X3_uneven_X3 hown hK hP 0 rfl rfl 0 (by decide) (hts _ (List.mem_of_getElem? (i := 2) rfl)) (fun _ h9 => h9) rfl dX3_uneven_18 ?_
    refine lv_icmp_ge (tgt := 72) hx hb dX3_uneven_21 (by decide) (fun c3 => ?_) (fun c3 => ?_)
    · have hf := ift c3 hf
      refine lv_iload_n hx hb dX3_uneven_72 rfl (lv_at hl 1 rfl) ?_
      refine lv_iload_n hx hb dX3_uneven_73 rfl (lv_at hl 2 rfl) ?_
      refine lv_isub hx hb dX3_uneven_74 ?_
      refine lv_aload_n hx hb dX3_uneven_75 rfl (lv_at hl 0 rfl) ?_
      refine va_get (D := D) (ci := 3) (v := .int (mu_spr u)) (C := RX3) (T := TX3) (N := 16) hx hb hts in_X3_uneven_X3 hown hK hP 0 rfl rfl 1 (by decide) (hts _ (List.mem_of_getElem? (i := 3) rfl)) (fun _ h9 => h9) rfl dX3_uneven_76 ?_
      refine lv_icmp_le (tgt := 86) hx hb dX3_uneven_79 (by decide) (fun c4 => ?_) (fun c4 => ?_)
      · have hf := ift c4 hf
        refine lv_iconst (v := zI 0) hx hb dX3_uneven_86 (by decide) ?_
        cases hf
        exact vz_zret X rfl hP hD hS dX3_uneven_87
      · have hf := iff_ c4 hf
        refine lv_iconst (v := zI 1) hx hb dX3_uneven_82 (by decide) ?_
        refine lv_goto (tgt := 87) hx hb dX3_uneven_83 (by decide) ?_
        cases hf
        exact vz_zret X rfl hP hD hS dX3_uneven_87
    · have hf := iff_ c3 hf
      refine lv_aload_n hx hb dX3_uneven_24 rfl (lv_at hl 0 rfl) ?_
      refine va_get (D := D) (ci := 3) (v := .ref (a 5)) (C := RX3) (T := TX3) (N := 16) hx hb hts in_X3_uneven_X3 hown hK hP 0 rfl rfl 6 (by decide) (hts _ (List.mem_of_getElem? (i := 1) rfl)) (fun _ h9 => h9) rfl dX3_uneven_25 ?_
      refine lv_iload_n hx hb dX3_uneven_28 rfl (lv_at hl 3 rfl) ?_
      obtain ⟨g5, hf⟩ := vgs hf
      refine va_iald hx hb hK hP 5 4 rfl rfl g5 dX3_uneven_29 ?_
      refine lv_iload_n hx hb dX3_uneven_30 rfl (lv_at hl 1 rfl) ?_
      refine lv_icmp_le (tgt := 43) hx hb dX3_uneven_31 (by decide) (fun c6 => ?_) (fun c6 => ?_)
      · have hf := ift c6 hf
        refine lv_iload_n hx hb dX3_uneven_43 rfl (lv_at hl 1 rfl) ?_
        refine lv_istore_n (lv' := [(1, .int x1), (0, .ref (a 0)), (2, .int x2), (3, .int x3)]) hx hb dX3_uneven_44 rfl hl (by decide) rfl (fun ls hl => ?_)
        refine lv_aload_n hx hb dX3_uneven_45 rfl (lv_at hl 1 rfl) ?_
        refine va_get (D := D) (ci := 3) (v := .ref (a 5)) (C := RX3) (T := TX3) (N := 16) hx hb hts in_X3_uneven_X3 hown hK hP 0 rfl rfl 6 (by decide) (hts _ (List.mem_of_getElem? (i := 1) rfl)) (fun _ h9 => h9) rfl dX3_uneven_46 ?_
        refine lv_iload_n hx hb dX3_uneven_49 rfl (lv_at hl 3 rfl) ?_
        obtain ⟨g7, hf⟩ := vgs hf
        refine va_iald hx hb hK hP 5 4 rfl rfl g7 dX3_uneven_50 ?_
        refine lv_iload_n hx hb dX3_uneven_51 rfl (lv_at hl 2 rfl) ?_
        refine lv_icmp_ge (tgt := 64) hx hb dX3_uneven_52 (by decide) (fun c8 => ?_) (fun c8 => ?_)
        · have hf := ift c8 hf
          refine lv_iload_n hx hb dX3_uneven_64 rfl (lv_at hl 2 rfl) ?_
          refine lv_istore_n (lv' := [(2, .int x2), (1, .int x1), (0, .ref (a 0)), (3, .int x3)]) hx hb dX3_uneven_65 rfl hl (by decide) rfl (fun ls hl => ?_)
          refine lv_iinc (v := x3 + (zI 1)) (lv' := [(3, .int (x3 + (zI 1))), (2, .int x2), (1, .int x1), (0, .ref (a 0))]) hx hb dX3_uneven_66 hl (k := 3) rfl rfl (by decide) rfl (fun ls hl => ?_)
          refine lv_goto (tgt := 16) hx hb dX3_uneven_69 (by decide) ?_
          exact ih x1 x2 (x3 + (zI 1)) u _ _ _ _ _ hf hP hD hS (lv_sub hl [3, 2, 1, 0] rfl)
        · have hf := iff_ c8 hf
          refine lv_aload_n hx hb dX3_uneven_55 rfl (lv_at hl 1 rfl) ?_
          refine va_get (D := D) (ci := 3) (v := .ref (a 5)) (C := RX3) (T := TX3) (N := 16) hx hb hts in_X3_uneven_X3 hown hK hP 0 rfl rfl 6 (by decide) (hts _ (List.mem_of_getElem? (i := 1) rfl)) (fun _ h9 => h9) rfl dX3_uneven_56 ?_
          refine lv_iload_n hx hb dX3_uneven_59 rfl (lv_at hl 3 rfl) ?_
          obtain ⟨g9, hf⟩ := vgs hf
          refine va_iald hx hb hK hP 5 4 rfl rfl g9 dX3_uneven_60 ?_
          refine lv_goto (tgt := 65) hx hb dX3_uneven_61 (by decide) ?_
          refine lv_istore_n (lv' := [(2, .int ((mu_era u) x3.toNatClampNeg)), (1, .int x1), (0, .ref (a 0)), (3, .int x3)]) hx hb dX3_uneven_65 rfl hl (by decide) rfl (fun ls hl => ?_)
          refine lv_iinc (v := x3 + (zI 1)) (lv' := [(3, .int (x3 + (zI 1))), (2, .int ((mu_era u) x3.toNatClampNeg)), (1, .int x1), (0, .ref (a 0))]) hx hb dX3_uneven_66 hl (k := 3) rfl rfl (by decide) rfl (fun ls hl => ?_)
          refine lv_goto (tgt := 16) hx hb dX3_uneven_69 (by decide) ?_
          exact ih x1 ((mu_era u) x3.toNatClampNeg) (x3 + (zI 1)) u _ _ _ _ _ hf hP hD hS (lv_sub hl [3, 2, 1, 0] rfl)
      · have hf := iff_ c6 hf
        refine lv_aload_n hx hb dX3_uneven_34 rfl (lv_at hl 0 rfl) ?_
        refine va_get (D := D) (ci := 3) (v := .ref (a 5)) (C := RX3) (T := TX3) (N := 16) hx hb hts in_X3_uneven_X3 hown hK hP 0 rfl rfl 6 (by decide) (hts _ (List.mem_of_getElem? (i := 1) rfl)) (fun _ h9 => h9) rfl dX3_uneven_35 ?_
        refine lv_iload_n hx hb dX3_uneven_38 rfl (lv_at hl 3 rfl) ?_
        obtain ⟨g10, hf⟩ := vgs hf
        refine va_iald hx hb hK hP 5 4 rfl rfl g10 dX3_uneven_39 ?_
        refine lv_goto (tgt := 44) hx hb dX3_uneven_40 (by decide) ?_
        refine lv_istore_n (lv' := [(1, .int ((mu_era u) x3.toNatClampNeg)), (0, .ref (a 0)), (2, .int x2), (3, .int x3)]) hx hb dX3_uneven_44 rfl hl (by decide) rfl (fun ls hl => ?_)
        refine lv_aload_n hx hb dX3_uneven_45 rfl (lv_at hl 1 rfl) ?_
        refine va_get (D := D) (ci := 3) (v := .ref (a 5)) (C := RX3) (T := TX3) (N := 16) hx hb hts in_X3_uneven_X3 hown hK hP 0 rfl rfl 6 (by decide) (hts _ (List.mem_of_getElem? (i := 1) rfl)) (fun _ h9 => h9) rfl dX3_uneven_46 ?_
        refine lv_iload_n hx hb dX3_uneven_49 rfl (lv_at hl 3 rfl) ?_
        obtain ⟨g11, hf⟩ := vgs hf
        refine va_iald hx hb hK hP 5 4 rfl rfl g11 dX3_uneven_50 ?_
        refine lv_iload_n hx hb dX3_uneven_51 rfl (lv_at hl 2 rfl) ?_
        refine lv_icmp_ge (tgt := 64) hx hb dX3_uneven_52 (by decide) (fun c12 => ?_) (fun c12 => ?_)
        · have hf := ift c12 hf
          refine lv_iload_n hx hb dX3_uneven_64 rfl (lv_at hl 2 rfl) ?_
          refine lv_istore_n (lv' := [(2, .int x2), (1, .int ((mu_era u) x3.toNatClampNeg)), (0, .ref (a 0)), (3, .int x3)]) hx hb dX3_uneven_65 rfl hl (by decide) rfl (fun ls hl => ?_)
          refine lv_iinc (v := x3 + (zI 1)) (lv' := [(3, .int (x3 + (zI 1))), (2, .int x2), (1, .int ((mu_era u) x3.toNatClampNeg)), (0, .ref (a 0))]) hx hb dX3_uneven_66 hl (k := 3) rfl rfl (by decide) rfl (fun ls hl => ?_)
          refine lv_goto (tgt := 16) hx hb dX3_uneven_69 (by decide) ?_
          exact ih ((mu_era u) x3.toNatClampNeg) x2 (x3 + (zI 1)) u _ _ _ _ _ hf hP hD hS (lv_sub hl [3, 2, 1, 0] rfl)
        · have hf := iff_ c12 hf
          refine lv_aload_n hx hb dX3_uneven_55 rfl (lv_at hl 1 rfl) ?_
          refine va_get (D := D) (ci := 3) (v := .ref (a 5)) (C := RX3) (T := TX3) (N := 16) hx hb hts in_X3_uneven_X3 hown hK hP 0 rfl rfl 6 (by decide) (hts _ (List.mem_of_getElem? (i := 1) rfl)) (fun _ h9 => h9) rfl dX3_uneven_56 ?_
          refine lv_iload_n hx hb dX3_uneven_59 rfl (lv_at hl 3 rfl) ?_
          obtain ⟨g13, hf⟩ := vgs hf
          refine va_iald hx hb hK hP 5 4 rfl rfl g13 dX3_uneven_60 ?_
          refine lv_goto (tgt := 65) hx hb dX3_uneven_61 (by decide) ?_
          refine lv_istore_n (lv' := [(2, .int ((mu_era u) x3.toNatClampNeg)), (1, .int ((mu_era u) x3.toNatClampNeg)), (0, .ref (a 0)), (3, .int x3)]) hx hb dX3_uneven_65 rfl hl (by decide) rfl (fun ls hl => ?_)
          refine lv_iinc (v := x3 + (zI 1)) (lv' := [(3, .int (x3 + (zI 1))), (2, .int ((mu_era u) x3.toNatClampNeg)), (1, .int ((mu_era u) x3.toNatClampNeg)), (0, .ref (a 0))]) hx hb dX3_uneven_66 hl (k := 3) rfl rfl (by decide) rfl (fun ls hl => ?_)
          refine lv_goto (tgt := 16) hx hb dX3_uneven_69 (by decide) ?_
          exact ih ((mu_era u) x3.toNatClampNeg) ((mu_era u) x3.toNatClampNeg) (x3 + (zI 1)) u _ _ _ _ _ hf hP hD hS (lv_sub hl [3, 2, 1, 0] rfl)
set_option maxHeartbeats 4000000 in
set_option maxRecDepth 100000 in
theorem lbX3_uneven_e {K : Nat} (X : vzX D (MT cA) A wsX3_uneven cX3_uneven 4 (some .boolean) RX3 p s m args meth c) : ∀ (u : MU) (H : Heap) (locs : List Loc) (ls : Array Slot) (r : Int32) (u2 : MU), fX3_uneven n K u = some (r, u2) → va_P D vwCl (MW a n cA u) H → va_D A (MW a n cA u) → va_S A s.heap H locs → lv_has ls 4 [(0, .ref (a 0))] → W p l e (headSpec wsX3_uneven rmX3_uneven).room s m args below meth c H locs 0 0 (MQ below (vzQ D (MT cA) (MW a n cA) A r u2) args s 0 0 A) (F0 m 0 ls []) := by
  obtain ⟨hx, hb, hr, hml, hown, hts, hlk, hN, hK, hA⟩ := id X
  intro u H locs ls r u2 hf hP hD hS hl
  unfold fX3_uneven at hf
  refine lv_aload_n hx hb dX3_uneven_0 rfl (lv_at hl 0 rfl) ?_
  refine va_get (D := D) (ci := 3) (v := .ref (a 5)) (C := RX3) (T := TX3) (N := 16) hx hb hts in_X3_uneven_X3 hown hK hP 0 rfl rfl 6 (by decide) (hts _ (List.mem_of_getElem? (i := 1) rfl)) (fun _ h9 => h9) rfl dX3_uneven_1 ?_
  refine lv_iconst (v := zI 0) hx hb dX3_uneven_4 (by decide) ?_
  obtain ⟨g1, hf⟩ := vgs hf
  refine va_iald hx hb hK hP 5 4 rfl rfl g1 dX3_uneven_5 ?_
  refine lv_istore_n (lv' := [(1, .int ((mu_era u) ((zI 0)).toNatClampNeg)), (0, .ref (a 0))]) hx hb dX3_uneven_6 rfl hl (by decide) rfl (fun ls hl => ?_)
  refine lv_aload_n hx hb dX3_uneven_7 rfl (lv_at hl 1 rfl) ?_
  refine va_get (D := D) (ci := 3) (v := .ref (a 5)) (C := RX3) (T := TX3) (N := 16) hx hb hts in_X3_uneven_X3 hown hK hP 0 rfl rfl 6 (by decide) (hts _ (List.mem_of_getElem? (i := 1) rfl)) (fun _ h9 => h9) rfl dX3_uneven_8 ?_
  refine lv_iconst (v := zI 0) hx hb dX3_uneven_11 (by decide) ?_
  obtain ⟨g2, hf⟩ := vgs hf
  refine va_iald hx hb hK hP 5 4 rfl rfl g2 dX3_uneven_12 ?_
  refine lv_istore_n (lv' := [(2, .int ((mu_era u) ((zI 0)).toNatClampNeg)), (1, .int ((mu_era u) ((zI 0)).toNatClampNeg)), (0, .ref (a 0))]) hx hb dX3_uneven_13 rfl hl (by decide) rfl (fun ls hl => ?_)
  refine lv_iconst (v := zI 1) hx hb dX3_uneven_14 (by decide) ?_
  refine lv_istore_n (lv' := [(3, .int (zI 1)), (2, .int ((mu_era u) ((zI 0)).toNatClampNeg)), (1, .int ((mu_era u) ((zI 0)).toNatClampNeg)), (0, .ref (a 0))]) hx hb dX3_uneven_15 rfl hl (by decide) rfl (fun ls hl => ?_)
  exact lbX3_uneven_16 X K ((mu_era u) ((zI 0)).toNatClampNeg) ((mu_era u) ((zI 0)).toNatClampNeg) (zI 1) u _ _ _ _ _ hf hP hD hS (lv_sub hl [3, 2, 1, 0] rfl)
end
theorem kX3_uneven {l : Launch} {D : va_G} {a n : Nat → Nat} {cA : Nat → ClassId} {K : Nat} {u : MU} {r : Int32} {u2 : MU} (h : fX3_uneven n K u = some (r, u2)) : vzC l D (MT cA) (MW a n cA) yX3_uneven wsX3_uneven rmX3_uneven [.ref (a 0)] u r u2 := vzC.of (by decide) rfl (Nat.le_of_ble_eq_true rfl) (fun p e s m below meth c A ls X hP hD hl => lbX3_uneven_e X u s.heap [] ls r u2 h hP hD va_S.rf hl)
abbrev rmX3_operates : Room := { frames := 0, cells := 0, slots := 0, locals := 0 }
theorem in_X3_operates_X3 : ∀ w ∈ u_ws RX3 TX3 16, w ∈ wsX3_operates := fun _ h => List.mem_cons_of_mem _ (List.mem_append_right _ h)
def fX3_operates (n : Nat → Nat) (K : Nat) (u : MU) : Option (Int32 × MU) := if (mu_fus u) = (zI 1) then (some (zI 0, mu_s_gon (mu_s_fus u (zI 0)) (zI 1))) else (if (mu_fus u) ≤ 0 then (some (zI 1, mu_s_ops (mu_s_fus u (zI 0)) ((mu_ops u) + (zI 1)))) else (some (zI 1, mu_s_ops (mu_s_fus u ((mu_fus u) - (zI 1))) ((mu_ops u) + (zI 1)))))
section
variable {p : Program} {l : Launch} {e : Env} {s : State} {m : MethodId} {args : Array Value} {below : List Frame} {meth : Method} {c : Code} {D : va_G} {a n : Nat → Nat} {cA : Nat → ClassId} {A : Nat → Prop}
set_option maxHeartbeats 4000000 in
set_option maxRecDepth 100000 in
theorem lbX3_operates_e {K : Nat} (X : vzX D (MT cA) A wsX3_operates cX3_operates 1 (some .boolean) RX3 p s m args meth c) : ∀ (u : MU) (H : Heap) (locs : List Loc) (ls : Array Slot) (r : Int32) (u2 : MU), fX3_operates n K u = some (r, u2) → va_P D vwCl (MW a n cA u) H → va_D A (MW a n cA u) → va_S A s.heap H locs → lv_has ls 1 [(0, .ref (a 0))] → W p l e (headSpec wsX3_operates rmX3_operates).room s m args below meth c H locs 0 0 (MQ below (vzQ D (MT cA) (MW a n cA) A r u2) args s 0 0 A) (F0 m 0 ls []) := by
  obtain ⟨hx, hb, hr, hml, hown, hts, hlk, hN, hK, hA⟩ := id X
  intro u H locs ls r u2 hf hP hD hS hl
  unfold fX3_operates at hf
  refine lv_aload_n hx hb dX3_operates_0 rfl (lv_at hl 0 rfl) ?_
  refine va_get (D := D) (ci := 3) (v := .int (mu_fus u)) (C := RX3) (T := TX3) (N := 16) hx hb hts in_X3_operates_X3 hown hK hP 0 rfl rfl 10 (by decide) (hts _ (List.mem_of_getElem? (i := 1) rfl)) (fun _ h9 => h9) rfl dX3_operates_1 ?_
  refine lv_iconst (v := zI 1) hx hb dX3_operates_4 (by decide) ?_
  refine lv_icmp_ne (tgt := 20) hx hb dX3_operates_5 (by decide) (fun c1 => ?_) (fun c1 => ?_)
  · have hf := iff_ c1 hf
    refine lv_aload_n hx hb dX3_operates_20 rfl (lv_at hl 0 rfl) ?_
    refine lv_aload_n hx hb dX3_operates_21 rfl (lv_at hl 0 rfl) ?_
    refine va_get (D := D) (ci := 3) (v := .int (mu_fus u)) (C := RX3) (T := TX3) (N := 16) hx hb hts in_X3_operates_X3 hown hK hP 0 rfl rfl 10 (by decide) (hts _ (List.mem_of_getElem? (i := 1) rfl)) (fun _ h9 => h9) rfl dX3_operates_22 ?_
    refine lv_if_le (tgt := 37) hx hb dX3_operates_25 (by decide) (fun c2 => ?_) (fun c2 => ?_)
    · have hf := ift c2 hf
      refine lv_iconst (v := zI 0) hx hb dX3_operates_37 (by decide) ?_
      refine va_put (D := D) (ci := 3) (v := .int (zI 0)) (ty := .int) (C := RX3) (T := TX3) (N := 16) hx hb hts in_X3_operates_X3 tyX3 tyX3_ok nmX3 hown hK hP hD hS 0 rfl rfl 10 (by decide) (hts _ (List.mem_of_getElem? (i := 1) rfl)) (fun _ h9 => h9) rfl (by decide +kernel) rfl rfl (Nat.le_of_ble_eq_true rfl) dX3_operates_38 (fun H locs hP hD hS => ?_)
      have hP : va_P D vwCl (MW a n cA (mu_s_fus u (zI 0))) H := hP
      have hD : va_D A (MW a n cA (mu_s_fus u (zI 0))) := hD
      refine lv_aload_n hx hb dX3_operates_41 rfl (lv_at hl 0 rfl) ?_
      refine lv_dup hx hb dX3_operates_42 rfl ?_
      refine va_get (D := D) (ci := 3) (v := .int (mu_ops u)) (C := RX3) (T := TX3) (N := 16) hx hb hts in_X3_operates_X3 hown hK hP 0 rfl rfl 9 (by decide) (hts _ (List.mem_of_getElem? (i := 3) rfl)) (fun _ h9 => h9) rfl dX3_operates_43 ?_
      refine lv_iconst (v := zI 1) hx hb dX3_operates_46 (by decide) ?_
      refine lv_iadd hx hb dX3_operates_47 ?_
      refine va_put (D := D) (ci := 3) (v := .int ((mu_ops u) + (zI 1))) (ty := .int) (C := RX3) (T := TX3) (N := 16) hx hb hts in_X3_operates_X3 tyX3 tyX3_ok nmX3 hown hK hP hD hS 0 rfl rfl 9 (by decide) (hts _ (List.mem_of_getElem? (i := 3) rfl)) (fun _ h9 => h9) rfl (by decide +kernel) rfl rfl (Nat.le_of_ble_eq_true rfl) dX3_operates_48 (fun H locs hP hD hS => ?_)
      have hP : va_P D vwCl (MW a n cA (mu_s_ops (mu_s_fus u (zI 0)) ((mu_ops u) + (zI 1)))) H := hP
      have hD : va_D A (MW a n cA (mu_s_ops (mu_s_fus u (zI 0)) ((mu_ops u) + (zI 1)))) := hD
      refine lv_iconst (v := zI 1) hx hb dX3_operates_51 (by decide) ?_
      cases hf
      exact vz_zret X rfl hP hD hS dX3_operates_52
    · have hf := iff_ c2 hf
      refine lv_aload_n hx hb dX3_operates_28 rfl (lv_at hl 0 rfl) ?_
      refine va_get (D := D) (ci := 3) (v := .int (mu_fus u)) (C := RX3) (T := TX3) (N := 16) hx hb hts in_X3_operates_X3 hown hK hP 0 rfl rfl 10 (by decide) (hts _ (List.mem_of_getElem? (i := 1) rfl)) (fun _ h9 => h9) rfl dX3_operates_29 ?_
      refine lv_iconst (v := zI 1) hx hb dX3_operates_32 (by decide) ?_
      refine lv_isub hx hb dX3_operates_33 ?_
      refine lv_goto (tgt := 38) hx hb dX3_operates_34 (by decide) ?_
      refine va_put (D := D) (ci := 3) (v := .int ((mu_fus u) - (zI 1))) (ty := .int) (C := RX3) (T := TX3) (N := 16) hx hb hts in_X3_operates_X3 tyX3 tyX3_ok nmX3 hown hK hP hD hS 0 rfl rfl 10 (by decide) (hts _ (List.mem_of_getElem? (i := 1) rfl)) (fun _ h9 => h9) rfl (by decide +kernel) rfl rfl (Nat.le_of_ble_eq_true rfl) dX3_operates_38 (fun H locs hP hD hS => ?_)
      have hP : va_P D vwCl (MW a n cA (mu_s_fus u ((mu_fus u) - (zI 1)))) H := hP
      have hD : va_D A (MW a n cA (mu_s_fus u ((mu_fus u) - (zI 1)))) := hD
      refine lv_aload_n hx hb dX3_operates_41 rfl (lv_at hl 0 rfl) ?_
      refine lv_dup hx hb dX3_operates_42 rfl ?_
      refine va_get (D := D) (ci := 3) (v := .int (mu_ops u)) (C := RX3) (T := TX3) (N := 16) hx hb hts in_X3_operates_X3 hown hK hP 0 rfl rfl 9 (by decide) (hts _ (List.mem_of_getElem? (i := 3) rfl)) (fun _ h9 => h9) rfl dX3_operates_43 ?_
      refine lv_iconst (v := zI 1) hx hb dX3_operates_46 (by decide) ?_
      refine lv_iadd hx hb dX3_operates_47 ?_
      refine va_put (D := D) (ci := 3) (v := .int ((mu_ops u) + (zI 1))) (ty := .int) (C := RX3) (T := TX3) (N := 16) hx hb hts in_X3_operates_X3 tyX3 tyX3_ok nmX3 hown hK hP hD hS 0 rfl rfl 9 (by decide) (hts _ (List.mem_of_getElem? (i := 3) rfl)) (fun _ h9 => h9) rfl (by decide +kernel) rfl rfl (Nat.le_of_ble_eq_true rfl) dX3_operates_48 (fun H locs hP hD hS => ?_)
      have hP : va_P D vwCl (MW a n cA (mu_s_ops (mu_s_fus u ((mu_fus u) - (zI 1))) ((mu_ops u) + (zI 1)))) H := hP
      have hD : va_D A (MW a n cA (mu_s_ops (mu_s_fus u ((mu_fus u) - (zI 1))) ((mu_ops u) + (zI 1)))) := hD
      refine lv_iconst (v := zI 1) hx hb dX3_operates_51 (by decide) ?_
      cases hf
      exact vz_zret X rfl hP hD hS dX3_operates_52
  · have hf := ift c1 hf
    refine lv_aload_n hx hb dX3_operates_8 rfl (lv_at hl 0 rfl) ?_
    refine lv_iconst (v := zI 0) hx hb dX3_operates_9 (by decide) ?_
    refine va_put (D := D) (ci := 3) (v := .int (zI 0)) (ty := .int) (C := RX3) (T := TX3) (N := 16) hx hb hts in_X3_operates_X3 tyX3 tyX3_ok nmX3 hown hK hP hD hS 0 rfl rfl 10 (by decide) (hts _ (List.mem_of_getElem? (i := 1) rfl)) (fun _ h9 => h9) rfl (by decide +kernel) rfl rfl (Nat.le_of_ble_eq_true rfl) dX3_operates_10 (fun H locs hP hD hS => ?_)
    have hP : va_P D vwCl (MW a n cA (mu_s_fus u (zI 0))) H := hP
    have hD : va_D A (MW a n cA (mu_s_fus u (zI 0))) := hD
    refine lv_aload_n hx hb dX3_operates_13 rfl (lv_at hl 0 rfl) ?_
    refine lv_iconst (v := zI 1) hx hb dX3_operates_14 (by decide) ?_
    refine va_put (D := D) (ci := 3) (v := .int (zI 1)) (ty := .boolean) (C := RX3) (T := TX3) (N := 16) hx hb hts in_X3_operates_X3 tyX3 tyX3_ok nmX3 hown hK hP hD hS 0 rfl rfl 11 (by decide) (hts _ (List.mem_of_getElem? (i := 2) rfl)) (fun _ h9 => h9) rfl (by decide +kernel) rfl rfl (Nat.le_of_ble_eq_true rfl) dX3_operates_15 (fun H locs hP hD hS => ?_)
    have hP : va_P D vwCl (MW a n cA (mu_s_gon (mu_s_fus u (zI 0)) (zI 1))) H := hP
    have hD : va_D A (MW a n cA (mu_s_gon (mu_s_fus u (zI 0)) (zI 1))) := hD
    refine lv_iconst (v := zI 0) hx hb dX3_operates_18 (by decide) ?_
    cases hf
    exact vz_zret X rfl hP hD hS dX3_operates_19
end
theorem kX3_operates {l : Launch} {D : va_G} {a n : Nat → Nat} {cA : Nat → ClassId} {K : Nat} {u : MU} {r : Int32} {u2 : MU} (h : fX3_operates n K u = some (r, u2)) : vzC l D (MT cA) (MW a n cA) yX3_operates wsX3_operates rmX3_operates [.ref (a 0)] u r u2 := vzC.of (by decide) rfl (Nat.le_of_ble_eq_true rfl) (fun p e s m below meth c A ls X hP hD hl => lbX3_operates_e X u s.heap [] ls r u2 h hP hD va_S.rf hl)
end
section
abbrev rmX3_put : Room := { frames := 1, cells := 0, slots := 0, locals := 20 }
theorem in_X3_put_X3 : ∀ w ∈ u_ws RX3 TX3 16, w ∈ wsX3_put := fun _ h => List.mem_cons_of_mem _ (List.mem_append_right _ h)
def fX3_put_8 (n : Nat → Nat) (K : Nat) : Nat → Int32 → Int32 → Int32 → Int32 → MU → Option (Int32 × MU)
  | 0, _, _, _, _, _ => none
  | N + 1, x1, x2, x3, x4, u => if (((zI 4) * (mu_opn u)) + (zI 3)) ≤ x4 then ((fX3_operates n K u).bind fun z2 => (if z2.1 = 0 then (some (zI 0, z2.2)) else (vg x4 (n 1) (vg x4 (n 2) (vg x4 (n 4) (vg x4 (n 3) (some (zI 1, mu_s_nxt (mu_s_ser (mu_s_sor (mu_s_val (mu_s_sec z2.2 (upd (mu_sec z2.2) (x4).toNatClampNeg x1)) (upd (mu_val z2.2) (x4).toNatClampNeg x2)) (upd (mu_sor z2.2) (x4).toNatClampNeg x3)) (upd (mu_ser z2.2) (x4).toNatClampNeg (mu_nxt z2.2))) ((mu_nxt z2.2) + (zI 1)))))))))) else (vg x4 (n 1) (if ((mu_sec u) x4.toNatClampNeg) = (zI (-1)) then ((fX3_operates n K u).bind fun z11 => (if z11.1 = 0 then (some (zI 0, z11.2)) else (vg x4 (n 1) (vg x4 (n 2) (vg x4 (n 4) (vg x4 (n 3) (some (zI 1, mu_s_nxt (mu_s_ser (mu_s_sor (mu_s_val (mu_s_sec z11.2 (upd (mu_sec z11.2) (x4).toNatClampNeg x1)) (upd (mu_val z11.2) (x4).toNatClampNeg x2)) (upd (mu_sor z11.2) (x4).toNatClampNeg x3)) (upd (mu_ser z11.2) (x4).toNatClampNeg (mu_nxt z11.2))) ((mu_nxt z11.2) + (zI 1)))))))))) else (fX3_put_8 n K N x1 x2 x3 (x4 + (zI 1)) u)))
def fX3_put (n : Nat → Nat) (K : Nat) (x1 x2 x3 : Int32) (u : MU) : Option (Int32 × MU) := fX3_put_8 n K K x1 x2 x3 ((zI 4) * (mu_opn u)) u
section
variable {p : Program} {l : Launch} {e : Env} {s : State} {m : MethodId} {args : Array Value} {below : List Frame} {meth : Method} {c : Code} {D : va_G} {a n : Nat → Nat} {cA : Nat → ClassId} {A : Nat → Prop}
set_option maxHeartbeats 4000000 in
set_option maxRecDepth 100000 in
theorem lbX3_put_8 {K : Nat} (X : vzX D (MT cA) A wsX3_put cX3_put 5 (some .boolean) RX3 p s m args meth c) : ∀ (N : Nat) (x1 x2 x3 x4 : Int32) (u : MU) (H : Heap) (locs : List Loc) (ls : Array Slot) (r : Int32) (u2 : MU), fX3_put_8 n K N x1 x2 x3 x4 u = some (r, u2) → va_P D vwCl (MW a n cA u) H → va_D A (MW a n cA u) → va_S A s.heap H locs → lv_has ls 5 [(0, .ref (a 0)), (1, .int x1), (2, .int x2), (3, .int x3), (4, .int x4)] → W p l e (headSpec wsX3_put rmX3_put).room s m args below meth c H locs 0 0 (MQ below (vzQ D (MT cA) (MW a n cA) A r u2) args s 0 0 A) (F0 m 8 ls []) := by
  obtain ⟨hx, hb, hr, hml, hown, hts, hlk, hN, hK, hA⟩ := id X
  intro N
  induction N with
  | zero =>
    intro x1 x2 x3 x4 u H locs ls r u2 hf
    cases hf
  | succ N ih =>
    intro x1 x2 x3 x4 u H locs ls r u2 hf hP hD hS hl
    rw [fX3_put_8] at hf
    refine lv_iload hx hb dX3_put_8 (lv_at hl 4 rfl) ?_
    refine lv_iconst (v := zI 4) hx hb dX3_put_10 (by decide) ?_
    refine lv_aload_n hx hb dX3_put_11 rfl (lv_at hl 0 rfl) ?_
    refine va_get (D := D) (ci := 3) (v := .int (mu_opn u)) (C := RX3) (T := TX3) (N := 16) hx hb hts in_X3_put_X3 hown hK hP 0 rfl rfl 8 (by decide) (hts _ (List.mem_of_getElem? (i := 1) rfl)) (fun _ h9 => h9) rfl dX3_put_12 ?_
    refine lv_imul hx hb dX3_put_15 ?_
    refine lv_iconst (v := zI 3) hx hb dX3_put_16 (by decide) ?_
    refine lv_iadd hx hb dX3_put_17 ?_
    refine lv_icmp_ge (tgt := 38) hx hb dX3_put_18 (by decide) (fun c1 => ?_) (fun c1 => ?_)
    · have hf := ift c1 hf
      refine lv_aload_n hx hb dX3_put_38 rfl (lv_at hl 0 rfl) ?_
      obtain ⟨z2, hz3, hf⟩ := bd hf
      refine vz_call (rest := []) X (kX3_operates hz3) (cwV 0 hts gX3_put_X3_operates rfl rfl rfl (by decide +kernel) ⟨Nat.le_of_ble_eq_true rfl, Nat.le_of_ble_eq_true rfl⟩) 0 3 rfl rfl rfl hl.1 rfl (Nat.le_of_ble_eq_true rfl) dX3_put_39 ⟨Nat.zero_le _, Nat.zero_le _⟩ hP hD hS (fun H locs hP hD hS => ?_)
      refine lv_if_ne (tgt := 47) hx hb dX3_put_42 (by decide) (fun c4 => ?_) (fun c4 => ?_)
      · have hf := iff_ c4 hf
        refine lv_aload_n hx hb dX3_put_47 rfl (lv_at hl 0 rfl) ?_
        refine va_get (D := D) (ci := 3) (v := .ref (a 1)) (C := RX3) (T := TX3) (N := 16) hx hb hts in_X3_put_X3 hown hK hP 0 rfl rfl 2 (by decide) (hts _ (List.mem_of_getElem? (i := 2) rfl)) (fun _ h9 => h9) rfl dX3_put_48 ?_
        refine lv_iload hx hb dX3_put_51 (lv_at hl 4 rfl) ?_
        refine lv_iload_n hx hb dX3_put_53 rfl (lv_at hl 1 rfl) ?_
        obtain ⟨g5, hf⟩ := vgs hf
        refine va_iast hx hb hK hP hD hS 1 0 rfl rfl g5 dX3_put_54 (fun H locs hP hD hS => ?_)
        have hP : va_P D vwCl (MW a n cA (mu_s_sec z2.2 (upd (mu_sec z2.2) (x4).toNatClampNeg x1))) H := hP
        have hD : va_D A (MW a n cA (mu_s_sec z2.2 (upd (mu_sec z2.2) (x4).toNatClampNeg x1))) := hD
        refine lv_aload_n hx hb dX3_put_55 rfl (lv_at hl 0 rfl) ?_
        refine va_get (D := D) (ci := 3) (v := .ref (a 2)) (C := RX3) (T := TX3) (N := 16) hx hb hts in_X3_put_X3 hown hK hP 0 rfl rfl 3 (by decide) (hts _ (List.mem_of_getElem? (i := 3) rfl)) (fun _ h9 => h9) rfl dX3_put_56 ?_
        refine lv_iload hx hb dX3_put_59 (lv_at hl 4 rfl) ?_
        refine lv_iload_n hx hb dX3_put_61 rfl (lv_at hl 2 rfl) ?_
        obtain ⟨g6, hf⟩ := vgs hf
        refine va_iast hx hb hK hP hD hS 2 1 rfl rfl g6 dX3_put_62 (fun H locs hP hD hS => ?_)
        have hP : va_P D vwCl (MW a n cA (mu_s_val (mu_s_sec z2.2 (upd (mu_sec z2.2) (x4).toNatClampNeg x1)) (upd (mu_val z2.2) (x4).toNatClampNeg x2))) H := hP
        have hD : va_D A (MW a n cA (mu_s_val (mu_s_sec z2.2 (upd (mu_sec z2.2) (x4).toNatClampNeg x1)) (upd (mu_val z2.2) (x4).toNatClampNeg x2))) := hD
        refine lv_aload_n hx hb dX3_put_63 rfl (lv_at hl 0 rfl) ?_
        refine va_get (D := D) (ci := 3) (v := .ref (a 4)) (C := RX3) (T := TX3) (N := 16) hx hb hts in_X3_put_X3 hown hK hP 0 rfl rfl 5 (by decide) (hts _ (List.mem_of_getElem? (i := 4) rfl)) (fun _ h9 => h9) rfl dX3_put_64 ?_
        refine lv_iload hx hb dX3_put_67 (lv_at hl 4 rfl) ?_
        refine lv_iload_n hx hb dX3_put_69 rfl (lv_at hl 3 rfl) ?_
        obtain ⟨g7, hf⟩ := vgs hf
        refine va_iast hx hb hK hP hD hS 4 3 rfl rfl g7 dX3_put_70 (fun H locs hP hD hS => ?_)
        have hP : va_P D vwCl (MW a n cA (mu_s_sor (mu_s_val (mu_s_sec z2.2 (upd (mu_sec z2.2) (x4).toNatClampNeg x1)) (upd (mu_val z2.2) (x4).toNatClampNeg x2)) (upd (mu_sor z2.2) (x4).toNatClampNeg x3))) H := hP
        have hD : va_D A (MW a n cA (mu_s_sor (mu_s_val (mu_s_sec z2.2 (upd (mu_sec z2.2) (x4).toNatClampNeg x1)) (upd (mu_val z2.2) (x4).toNatClampNeg x2)) (upd (mu_sor z2.2) (x4).toNatClampNeg x3))) := hD
        refine lv_aload_n hx hb dX3_put_71 rfl (lv_at hl 0 rfl) ?_
        refine va_get (D := D) (ci := 3) (v := .ref (a 3)) (C := RX3) (T := TX3) (N := 16) hx hb hts in_X3_put_X3 hown hK hP 0 rfl rfl 4 (by decide) (hts _ (List.mem_of_getElem? (i := 5) rfl)) (fun _ h9 => h9) rfl dX3_put_72 ?_
        refine lv_iload hx hb dX3_put_75 (lv_at hl 4 rfl) ?_
        refine lv_aload_n hx hb dX3_put_77 rfl (lv_at hl 0 rfl) ?_
        refine va_get (D := D) (ci := 3) (v := .int (mu_nxt z2.2)) (C := RX3) (T := TX3) (N := 16) hx hb hts in_X3_put_X3 hown hK hP 0 rfl rfl 7 (by decide) (hts _ (List.mem_of_getElem? (i := 6) rfl)) (fun _ h9 => h9) rfl dX3_put_78 ?_
        obtain ⟨g8, hf⟩ := vgs hf
        refine va_iast hx hb hK hP hD hS 3 2 rfl rfl g8 dX3_put_81 (fun H locs hP hD hS => ?_)
        have hP : va_P D vwCl (MW a n cA (mu_s_ser (mu_s_sor (mu_s_val (mu_s_sec z2.2 (upd (mu_sec z2.2) (x4).toNatClampNeg x1)) (upd (mu_val z2.2) (x4).toNatClampNeg x2)) (upd (mu_sor z2.2) (x4).toNatClampNeg x3)) (upd (mu_ser z2.2) (x4).toNatClampNeg (mu_nxt z2.2)))) H := hP
        have hD : va_D A (MW a n cA (mu_s_ser (mu_s_sor (mu_s_val (mu_s_sec z2.2 (upd (mu_sec z2.2) (x4).toNatClampNeg x1)) (upd (mu_val z2.2) (x4).toNatClampNeg x2)) (upd (mu_sor z2.2) (x4).toNatClampNeg x3)) (upd (mu_ser z2.2) (x4).toNatClampNeg (mu_nxt z2.2)))) := hD
        refine lv_aload_n hx hb dX3_put_82 rfl (lv_at hl 0 rfl) ?_
        refine lv_dup hx hb dX3_put_83 rfl ?_
        refine va_get (D := D) (ci := 3) (v := .int (mu_nxt z2.2)) (C := RX3) (T := TX3) (N := 16) hx hb hts in_X3_put_X3 hown hK hP 0 rfl rfl 7 (by decide) (hts _ (List.mem_of_getElem? (i := 6) rfl)) (fun _ h9 => h9) rfl dX3_put_84 ?_
        refine lv_iconst (v := zI 1) hx hb dX3_put_87 (by decide) ?_
        refine lv_iadd hx hb dX3_put_88 ?_
        refine va_put (D := D) (ci := 3) (v := .int ((mu_nxt z2.2) + (zI 1))) (ty := .int) (C := RX3) (T := TX3) (N := 16) hx hb hts in_X3_put_X3 tyX3 tyX3_ok nmX3 hown hK hP hD hS 0 rfl rfl 7 (by decide) (hts _ (List.mem_of_getElem? (i := 6) rfl)) (fun _ h9 => h9) rfl (by decide +kernel) rfl rfl (Nat.le_of_ble_eq_true rfl) dX3_put_89 (fun H locs hP hD hS => ?_)
        have hP : va_P D vwCl (MW a n cA (mu_s_nxt (mu_s_ser (mu_s_sor (mu_s_val (mu_s_sec z2.2 (upd (mu_sec z2.2) (x4).toNatClampNeg x1)) (upd (mu_val z2.2) (x4).toNatClampNeg x2)) (upd (mu_sor z2.2) (x4).toNatClampNeg x3)) (upd (mu_ser z2.2) (x4).toNatClampNeg (mu_nxt z2.2))) ((mu_nxt z2.2) + (zI 1)))) H := hP
        have hD : va_D A (MW a n cA (mu_s_nxt (mu_s_ser (mu_s_sor (mu_s_val (mu_s_sec z2.2 (upd (mu_sec z2.2) (x4).toNatClampNeg x1)) (upd (mu_val z2.2) (x4).toNatClampNeg x2)) (upd (mu_sor z2.2) (x4).toNatClampNeg x3)) (upd (mu_ser z2.2) (x4).toNatClampNeg (mu_nxt z2.2))) ((mu_nxt z2.2) + (zI 1)))) := hD
        refine lv_iconst (v := zI 1) hx hb dX3_put_92 (by decide) ?_
        cases hf
        exact vz_zret X rfl hP hD hS dX3_put_93
      · have hf := ift c4 hf
        refine lv_iconst (v := zI 0) hx hb dX3_put_45 (by decide) ?_
        cases hf
        exact vz_zret X rfl hP hD hS dX3_put_46
    · have hf := iff_ c1 hf
      refine lv_aload_n hx hb dX3_put_21 rfl (lv_at hl 0 rfl) ?_
      refine va_get (D := D) (ci := 3) (v := .ref (a 1)) (C := RX3) (T := TX3) (N := 16) hx hb hts in_X3_put_X3 hown hK hP 0 rfl rfl 2 (by decide) (hts _ (List.mem_of_getElem? (i := 2) rfl)) (fun _ h9 => h9) rfl dX3_put_22 ?_
      refine lv_iload hx hb dX3_put_25 (lv_at hl 4 rfl) ?_
      obtain ⟨g9, hf⟩ := vgs hf
      refine va_iald hx hb hK hP 1 0 rfl rfl g9 dX3_put_27 ?_
      refine lv_iconst (v := zI (-1)) hx hb dX3_put_28 (by decide) ?_
      refine lv_icmp_eq (tgt := 38) hx hb dX3_put_29 (by decide) (fun c10 => ?_) (fun c10 => ?_)
      · have hf := ift c10 hf
        refine lv_aload_n hx hb dX3_put_38 rfl (lv_at hl 0 rfl) ?_
        obtain ⟨z11, hz12, hf⟩ := bd hf
        refine vz_call (rest := []) X (kX3_operates hz12) (cwV 0 hts gX3_put_X3_operates rfl rfl rfl (by decide +kernel) ⟨Nat.le_of_ble_eq_true rfl, Nat.le_of_ble_eq_true rfl⟩) 0 3 rfl rfl rfl hl.1 rfl (Nat.le_of_ble_eq_true rfl) dX3_put_39 ⟨Nat.zero_le _, Nat.zero_le _⟩ hP hD hS (fun H locs hP hD hS => ?_)
        refine lv_if_ne (tgt := 47) hx hb dX3_put_42 (by decide) (fun c13 => ?_) (fun c13 => ?_)
        · have hf := iff_ c13 hf
          refine lv_aload_n hx hb dX3_put_47 rfl (lv_at hl 0 rfl) ?_
          refine va_get (D := D) (ci := 3) (v := .ref (a 1)) (C := RX3) (T := TX3) (N := 16) hx hb hts in_X3_put_X3 hown hK hP 0 rfl rfl 2 (by decide) (hts _ (List.mem_of_getElem? (i := 2) rfl)) (fun _ h9 => h9) rfl dX3_put_48 ?_
          refine lv_iload hx hb dX3_put_51 (lv_at hl 4 rfl) ?_
          refine lv_iload_n hx hb dX3_put_53 rfl (lv_at hl 1 rfl) ?_
          obtain ⟨g14, hf⟩ := vgs hf
          refine va_iast hx hb hK hP hD hS 1 0 rfl rfl g14 dX3_put_54 (fun H locs hP hD hS => ?_)
          have hP : va_P D vwCl (MW a n cA (mu_s_sec z11.2 (upd (mu_sec z11.2) (x4).toNatClampNeg x1))) H := hP
          have hD : va_D A (MW a n cA (mu_s_sec z11.2 (upd (mu_sec z11.2) (x4).toNatClampNeg x1))) := hD
          refine lv_aload_n hx hb dX3_put_55 rfl (lv_at hl 0 rfl) ?_
          refine va_get (D := D) (ci := 3) (v := .ref (a 2)) (C := RX3) (T := TX3) (N := 16) hx hb hts in_X3_put_X3 hown hK hP 0 rfl rfl 3 (by decide) (hts _ (List.mem_of_getElem? (i := 3) rfl)) (fun _ h9 => h9) rfl dX3_put_56 ?_
          refine lv_iload hx hb dX3_put_59 (lv_at hl 4 rfl) ?_
          refine lv_iload_n hx hb dX3_put_61 rfl (lv_at hl 2 rfl) ?_
          obtain ⟨g15, hf⟩ := vgs hf
          refine va_iast hx hb hK hP hD hS 2 1 rfl rfl g15 dX3_put_62 (fun H locs hP hD hS => ?_)
          have hP : va_P D vwCl (MW a n cA (mu_s_val (mu_s_sec z11.2 (upd (mu_sec z11.2) (x4).toNatClampNeg x1)) (upd (mu_val z11.2) (x4).toNatClampNeg x2))) H := hP
          have hD : va_D A (MW a n cA (mu_s_val (mu_s_sec z11.2 (upd (mu_sec z11.2) (x4).toNatClampNeg x1)) (upd (mu_val z11.2) (x4).toNatClampNeg x2))) := hD
          refine lv_aload_n hx hb dX3_put_63 rfl (lv_at hl 0 rfl) ?_
          refine va_get (D := D) (ci := 3) (v := .ref (a 4)) (C := RX3) (T := TX3) (N := 16) hx hb hts in_X3_put_X3 hown hK hP 0 rfl rfl 5 (by decide) (hts _ (List.mem_of_getElem? (i := 4) rfl)) (fun _ h9 => h9) rfl dX3_put_64 ?_
          refine lv_iload hx hb dX3_put_67 (lv_at hl 4 rfl) ?_
          refine lv_iload_n hx hb dX3_put_69 rfl (lv_at hl 3 rfl) ?_
          obtain ⟨g16, hf⟩ := vgs hf
          refine va_iast hx hb hK hP hD hS 4 3 rfl rfl g16 dX3_put_70 (fun H locs hP hD hS => ?_)
          have hP : va_P D vwCl (MW a n cA (mu_s_sor (mu_s_val (mu_s_sec z11.2 (upd (mu_sec z11.2) (x4).toNatClampNeg x1)) (upd (mu_val z11.2) (x4).toNatClampNeg x2)) (upd (mu_sor z11.2) (x4).toNatClampNeg x3))) H := hP
          have hD : va_D A (MW a n cA (mu_s_sor (mu_s_val (mu_s_sec z11.2 (upd (mu_sec z11.2) (x4).toNatClampNeg x1)) (upd (mu_val z11.2) (x4).toNatClampNeg x2)) (upd (mu_sor z11.2) (x4).toNatClampNeg x3))) := hD
          refine lv_aload_n hx hb dX3_put_71 rfl (lv_at hl 0 rfl) ?_
          refine va_get (D := D) (ci := 3) (v := .ref (a 3)) (C := RX3) (T := TX3) (N := 16) hx hb hts in_X3_put_X3 hown hK hP 0 rfl rfl 4 (by decide) (hts _ (List.mem_of_getElem? (i := 5) rfl)) (fun _ h9 => h9) rfl dX3_put_72 ?_
          refine lv_iload hx hb dX3_put_75 (lv_at hl 4 rfl) ?_
          refine lv_aload_n hx hb dX3_put_77 rfl (lv_at hl 0 rfl) ?_
          refine va_get (D := D) (ci := 3) (v := .int (mu_nxt z11.2)) (C := RX3) (T := TX3) (N := 16) hx hb hts in_X3_put_X3 hown hK hP 0 rfl rfl 7 (by decide) (hts _ (List.mem_of_getElem? (i := 6) rfl)) (fun _ h9 => h9) rfl dX3_put_78 ?_
          obtain ⟨g17, hf⟩ := vgs hf
          refine va_iast hx hb hK hP hD hS 3 2 rfl rfl g17 dX3_put_81 (fun H locs hP hD hS => ?_)
          have hP : va_P D vwCl (MW a n cA (mu_s_ser (mu_s_sor (mu_s_val (mu_s_sec z11.2 (upd (mu_sec z11.2) (x4).toNatClampNeg x1)) (upd (mu_val z11.2) (x4).toNatClampNeg x2)) (upd (mu_sor z11.2) (x4).toNatClampNeg x3)) (upd (mu_ser z11.2) (x4).toNatClampNeg (mu_nxt z11.2)))) H := hP
          have hD : va_D A (MW a n cA (mu_s_ser (mu_s_sor (mu_s_val (mu_s_sec z11.2 (upd (mu_sec z11.2) (x4).toNatClampNeg x1)) (upd (mu_val z11.2) (x4).toNatClampNeg x2)) (upd (mu_sor z11.2) (x4).toNatClampNeg x3)) (upd (mu_ser z11.2) (x4).toNatClampNeg (mu_nxt z11.2)))) := hD
          refine lv_aload_n hx hb dX3_put_82 rfl (lv_at hl 0 rfl) ?_
          refine lv_dup hx hb dX3_put_83 rfl ?_
          refine va_get (D := D) (ci := 3) (v := .int (mu_nxt z11.2)) (C := RX3) (T := TX3) (N := 16) hx hb hts in_X3_put_X3 hown hK hP 0 rfl rfl 7 (by decide) (hts _ (List.mem_of_getElem? (i := 6) rfl)) (fun _ h9 => h9) rfl dX3_put_84 ?_
          refine lv_iconst (v := zI 1) hx hb dX3_put_87 (by decide) ?_
          refine lv_iadd hx hb dX3_put_88 ?_
          refine va_put (D := D) (ci := 3) (v := .int ((mu_nxt z11.2) + (zI 1))) (ty := .int) (C := RX3) (T := TX3) (N := 16) hx hb hts in_X3_put_X3 tyX3 tyX3_ok nmX3 hown hK hP hD hS 0 rfl rfl 7 (by decide) (hts _ (List.mem_of_getElem? (i := 6) rfl)) (fun _ h9 => h9) rfl (by decide +kernel) rfl rfl (Nat.le_of_ble_eq_true rfl) dX3_put_89 (fun H locs hP hD hS => ?_)
          have hP : va_P D vwCl (MW a n cA (mu_s_nxt (mu_s_ser (mu_s_sor (mu_s_val (mu_s_sec z11.2 (upd (mu_sec z11.2) (x4).toNatClampNeg x1)) (upd (mu_val z11.2) (x4).toNatClampNeg x2)) (upd (mu_sor z11.2) (x4).toNatClampNeg x3)) (upd (mu_ser z11.2) (x4).toNatClampNeg (mu_nxt z11.2))) ((mu_nxt z11.2) + (zI 1)))) H := hP
          have hD : va_D A (MW a n cA (mu_s_nxt (mu_s_ser (mu_s_sor (mu_s_val (mu_s_sec z11.2 (upd (mu_sec z11.2) (x4).toNatClampNeg x1)) (upd (mu_val z11.2) (x4).toNatClampNeg x2)) (upd (mu_sor z11.2) (x4).toNatClampNeg x3)) (upd (mu_ser z11.2) (x4).toNatClampNeg (mu_nxt z11.2))) ((mu_nxt z11.2) + (zI 1)))) := hD
          refine lv_iconst (v := zI 1) hx hb dX3_put_92 (by decide) ?_
          cases hf
          exact vz_zret X rfl hP hD hS dX3_put_93
        · have hf := ift c13 hf
          refine lv_iconst (v := zI 0) hx hb dX3_put_45 (by decide) ?_
          cases hf
          exact vz_zret X rfl hP hD hS dX3_put_46
      · have hf := iff_ c10 hf
        refine lv_iinc (v := x4 + (zI 1)) (lv' := [(4, .int (x4 + (zI 1))), (0, .ref (a 0)), (1, .int x1), (2, .int x2), (3, .int x3)]) hx hb dX3_put_32 hl (k := 4) rfl rfl (by decide) rfl (fun ls hl => ?_)
        refine lv_goto (tgt := 8) hx hb dX3_put_35 (by decide) ?_
        exact ih x1 x2 x3 (x4 + (zI 1)) u _ _ _ _ _ hf hP hD hS (lv_sub hl [1, 2, 3, 4, 0] rfl)
set_option maxHeartbeats 4000000 in
set_option maxRecDepth 100000 in
theorem lbX3_put_e {K : Nat} (X : vzX D (MT cA) A wsX3_put cX3_put 5 (some .boolean) RX3 p s m args meth c) : ∀ (x1 x2 x3 : Int32) (u : MU) (H : Heap) (locs : List Loc) (ls : Array Slot) (r : Int32) (u2 : MU), fX3_put n K x1 x2 x3 u = some (r, u2) → va_P D vwCl (MW a n cA u) H → va_D A (MW a n cA u) → va_S A s.heap H locs → lv_has ls 5 [(0, .ref (a 0)), (1, .int x1), (2, .int x2), (3, .int x3)] → W p l e (headSpec wsX3_put rmX3_put).room s m args below meth c H locs 0 0 (MQ below (vzQ D (MT cA) (MW a n cA) A r u2) args s 0 0 A) (F0 m 0 ls []) := by
  obtain ⟨hx, hb, hr, hml, hown, hts, hlk, hN, hK, hA⟩ := id X
  intro x1 x2 x3 u H locs ls r u2 hf hP hD hS hl
  unfold fX3_put at hf
  refine lv_iconst (v := zI 4) hx hb dX3_put_0 (by decide) ?_
  refine lv_aload_n hx hb dX3_put_1 rfl (lv_at hl 0 rfl) ?_
  refine va_get (D := D) (ci := 3) (v := .int (mu_opn u)) (C := RX3) (T := TX3) (N := 16) hx hb hts in_X3_put_X3 hown hK hP 0 rfl rfl 8 (by decide) (hts _ (List.mem_of_getElem? (i := 1) rfl)) (fun _ h9 => h9) rfl dX3_put_2 ?_
  refine lv_imul hx hb dX3_put_5 ?_
  refine lv_istore (lv' := [(4, .int ((zI 4) * (mu_opn u))), (0, .ref (a 0)), (1, .int x1), (2, .int x2), (3, .int x3)]) hx hb dX3_put_6 hl (by decide) rfl (fun ls hl => ?_)
  exact lbX3_put_8 X K x1 x2 x3 ((zI 4) * (mu_opn u)) u _ _ _ _ _ hf hP hD hS (lv_sub hl [1, 2, 3, 4, 0] rfl)
end
theorem kX3_put {l : Launch} {D : va_G} {a n : Nat → Nat} {cA : Nat → ClassId} {K : Nat} {x1 x2 x3 : Int32} {u : MU} {r : Int32} {u2 : MU} (h : fX3_put n K x1 x2 x3 u = some (r, u2)) : vzC l D (MT cA) (MW a n cA) yX3_put wsX3_put rmX3_put [.ref (a 0), .int x1, .int x2, .int x3] u r u2 := vzC.of (by decide) rfl (Nat.le_of_ble_eq_true rfl) (fun p e s m below meth c A ls X hP hD hl => lbX3_put_e X x1 x2 x3 u s.heap [] ls r u2 h hP hD va_S.rf hl)
abbrev rmX3_collect : Room := { frames := 2, cells := 0, slots := 0, locals := 44 }
theorem in_X3_collect_X3 : ∀ w ∈ u_ws RX3 TX3 16, w ∈ wsX3_collect := fun _ h => List.mem_cons_of_mem _ (List.mem_append_right _ h)
def fX3_collect_67 (n : Nat → Nat) (K : Nat) : Nat → Int32 → Int32 → MU → Option (Int32 × MU)
  | 0, _, _, _ => none
  | N + 1, x1, x2, u => if (((zI 4) * x1) + (zI 4)) ≤ x2 then (vg x1 (n 5) (vg x1 (n 5) (some (zI 1, mu_s_era u (upd (mu_era u) (x1).toNatClampNeg (((mu_era u) x1.toNatClampNeg) + (zI 1))))))) else (vg x2 (n 1) (fX3_collect_67 n K N x1 (x2 + (zI 1)) (mu_s_sec u (upd (mu_sec u) (x2).toNatClampNeg (zI (-1))))))
def fX3_collect_4 (n : Nat → Nat) (K : Nat) : Nat → Int32 → Int32 → MU → Option (Int32 × MU)
  | 0, _, _, _ => none
  | N + 1, x1, x2, u => if (((zI 4) * x1) + (zI 4)) ≤ x2 then ((fX3_operates n K u).bind fun z2 => (if z2.1 = 0 then (some (zI 0, z2.2)) else (fX3_collect_67 n K K x1 ((zI 4) * x1) z2.2))) else ((fX3_isValid n K x2 u).bind fun z9 => (if z9.1 = 0 then (fX3_collect_4 n K N x1 (x2 + (zI 1)) z9.2) else (vg x2 (n 1) (vg x2 (n 2) (vg x2 (n 4) ((fX3_put n K ((mu_sec z9.2) x2.toNatClampNeg) ((mu_val z9.2) x2.toNatClampNeg) ((mu_sor z9.2) x2.toNatClampNeg) z9.2).bind fun z15 => (if z15.1 = 0 then (some (zI 0, z15.2)) else (fX3_collect_4 n K N x1 (x2 + (zI 1)) z15.2))))))))
def fX3_collect (n : Nat → Nat) (K : Nat) (x1 : Int32) (u : MU) : Option (Int32 × MU) := fX3_collect_4 n K K x1 ((zI 4) * x1) u
section
variable {p : Program} {l : Launch} {e : Env} {s : State} {m : MethodId} {args : Array Value} {below : List Frame} {meth : Method} {c : Code} {D : va_G} {a n : Nat → Nat} {cA : Nat → ClassId} {A : Nat → Prop}
set_option maxHeartbeats 4000000 in
set_option maxRecDepth 100000 in
theorem lbX3_collect_67 {K : Nat} (X : vzX D (MT cA) A wsX3_collect cX3_collect 3 (some .boolean) RX3 p s m args meth c) : ∀ (N : Nat) (x1 x2 : Int32) (u : MU) (H : Heap) (locs : List Loc) (ls : Array Slot) (r : Int32) (u2 : MU), fX3_collect_67 n K N x1 x2 u = some (r, u2) → va_P D vwCl (MW a n cA u) H → va_D A (MW a n cA u) → va_S A s.heap H locs → lv_has ls 3 [(0, .ref (a 0)), (1, .int x1), (2, .int x2)] → W p l e (headSpec wsX3_collect rmX3_collect).room s m args below meth c H locs 0 0 (MQ below (vzQ D (MT cA) (MW a n cA) A r u2) args s 0 0 A) (F0 m 67 ls []) := by
  obtain ⟨hx, hb, hr, hml, hown, hts, hlk, hN, hK, hA⟩ := id X
  intro N
  induction N with
  | zero =>
    intro x1 x2 u H locs ls r u2 hf
    cases hf
  | succ N ih =>
    intro x1 x2 u H locs ls r u2 hf hP hD hS hl
    rw [fX3_collect_67] at hf
    refine lv_iload_n hx hb dX3_collect_67 rfl (lv_at hl 2 rfl) ?_
    refine lv_iconst (v := zI 4) hx hb dX3_collect_68 (by decide) ?_
    refine lv_iload_n hx hb dX3_collect_69 rfl (lv_at hl 1 rfl) ?_
    refine lv_imul hx hb dX3_collect_70 ?_
    refine lv_iconst (v := zI 4) hx hb dX3_collect_71 (by decide) ?_
    refine lv_iadd hx hb dX3_collect_72 ?_
    refine lv_icmp_ge (tgt := 89) hx hb dX3_collect_73 (by decide) (fun c5 => ?_) (fun c5 => ?_)
    · have hf := ift c5 hf
      refine lv_aload_n hx hb dX3_collect_89 rfl (lv_at hl 0 rfl) ?_
      refine va_get (D := D) (ci := 3) (v := .ref (a 5)) (C := RX3) (T := TX3) (N := 16) hx hb hts in_X3_collect_X3 hown hK hP 0 rfl rfl 6 (by decide) (hts _ (List.mem_of_getElem? (i := 4) rfl)) (fun _ h9 => h9) rfl dX3_collect_90 ?_
      refine lv_iload_n hx hb dX3_collect_93 rfl (lv_at hl 1 rfl) ?_
      refine lv_dup2_11 hx hb dX3_collect_94 rfl rfl ?_
      obtain ⟨g6, hf⟩ := vgs hf
      refine va_iald hx hb hK hP 5 4 rfl rfl g6 dX3_collect_95 ?_
      refine lv_iconst (v := zI 1) hx hb dX3_collect_96 (by decide) ?_
      refine lv_iadd hx hb dX3_collect_97 ?_
      obtain ⟨g7, hf⟩ := vgs hf
      refine va_iast hx hb hK hP hD hS 5 4 rfl rfl g7 dX3_collect_98 (fun H locs hP hD hS => ?_)
      have hP : va_P D vwCl (MW a n cA (mu_s_era u (upd (mu_era u) (x1).toNatClampNeg (((mu_era u) x1.toNatClampNeg) + (zI 1))))) H := hP
      have hD : va_D A (MW a n cA (mu_s_era u (upd (mu_era u) (x1).toNatClampNeg (((mu_era u) x1.toNatClampNeg) + (zI 1))))) := hD
      refine lv_iconst (v := zI 1) hx hb dX3_collect_99 (by decide) ?_
      cases hf
      exact vz_zret X rfl hP hD hS dX3_collect_100
    · have hf := iff_ c5 hf
      refine lv_aload_n hx hb dX3_collect_76 rfl (lv_at hl 0 rfl) ?_
      refine va_get (D := D) (ci := 3) (v := .ref (a 1)) (C := RX3) (T := TX3) (N := 16) hx hb hts in_X3_collect_X3 hown hK hP 0 rfl rfl 2 (by decide) (hts _ (List.mem_of_getElem? (i := 1) rfl)) (fun _ h9 => h9) rfl dX3_collect_77 ?_
      refine lv_iload_n hx hb dX3_collect_80 rfl (lv_at hl 2 rfl) ?_
      refine lv_iconst (v := zI (-1)) hx hb dX3_collect_81 (by decide) ?_
      obtain ⟨g8, hf⟩ := vgs hf
      refine va_iast hx hb hK hP hD hS 1 0 rfl rfl g8 dX3_collect_82 (fun H locs hP hD hS => ?_)
      have hP : va_P D vwCl (MW a n cA (mu_s_sec u (upd (mu_sec u) (x2).toNatClampNeg (zI (-1))))) H := hP
      have hD : va_D A (MW a n cA (mu_s_sec u (upd (mu_sec u) (x2).toNatClampNeg (zI (-1))))) := hD
      refine lv_iinc (v := x2 + (zI 1)) (lv' := [(2, .int (x2 + (zI 1))), (0, .ref (a 0)), (1, .int x1)]) hx hb dX3_collect_83 hl (k := 2) rfl rfl (by decide) rfl (fun ls hl => ?_)
      refine lv_goto (tgt := 67) hx hb dX3_collect_86 (by decide) ?_
      exact ih x1 (x2 + (zI 1)) (mu_s_sec u (upd (mu_sec u) (x2).toNatClampNeg (zI (-1)))) _ _ _ _ _ hf hP hD hS (lv_sub hl [1, 2, 0] rfl)
set_option maxHeartbeats 4000000 in
set_option maxRecDepth 100000 in
theorem lbX3_collect_4 {K : Nat} (X : vzX D (MT cA) A wsX3_collect cX3_collect 3 (some .boolean) RX3 p s m args meth c) : ∀ (N : Nat) (x1 x2 : Int32) (u : MU) (H : Heap) (locs : List Loc) (ls : Array Slot) (r : Int32) (u2 : MU), fX3_collect_4 n K N x1 x2 u = some (r, u2) → va_P D vwCl (MW a n cA u) H → va_D A (MW a n cA u) → va_S A s.heap H locs → lv_has ls 3 [(0, .ref (a 0)), (1, .int x1), (2, .int x2)] → W p l e (headSpec wsX3_collect rmX3_collect).room s m args below meth c H locs 0 0 (MQ below (vzQ D (MT cA) (MW a n cA) A r u2) args s 0 0 A) (F0 m 4 ls []) := by
  obtain ⟨hx, hb, hr, hml, hown, hts, hlk, hN, hK, hA⟩ := id X
  intro N
  induction N with
  | zero =>
    intro x1 x2 u H locs ls r u2 hf
    cases hf
  | succ N ih =>
    intro x1 x2 u H locs ls r u2 hf hP hD hS hl
    rw [fX3_collect_4] at hf
    refine lv_iload_n hx hb dX3_collect_4 rfl (lv_at hl 2 rfl) ?_
    refine lv_iconst (v := zI 4) hx hb dX3_collect_5 (by decide) ?_
    refine lv_iload_n hx hb dX3_collect_6 rfl (lv_at hl 1 rfl) ?_
    refine lv_imul hx hb dX3_collect_7 ?_
    refine lv_iconst (v := zI 4) hx hb dX3_collect_8 (by decide) ?_
    refine lv_iadd hx hb dX3_collect_9 ?_
    refine lv_icmp_ge (tgt := 54) hx hb dX3_collect_10 (by decide) (fun c1 => ?_) (fun c1 => ?_)
    · have hf := ift c1 hf
      refine lv_aload_n hx hb dX3_collect_54 rfl (lv_at hl 0 rfl) ?_
      obtain ⟨z2, hz3, hf⟩ := bd hf
      refine vz_call (rest := []) X (kX3_operates hz3) (cwV 0 hts gX3_collect_X3_operates rfl rfl rfl (by decide +kernel) ⟨Nat.le_of_ble_eq_true rfl, Nat.le_of_ble_eq_true rfl⟩) 0 3 rfl rfl rfl hl.1 rfl (Nat.le_of_ble_eq_true rfl) dX3_collect_55 ⟨Nat.zero_le _, Nat.zero_le _⟩ hP hD hS (fun H locs hP hD hS => ?_)
      refine lv_if_ne (tgt := 63) hx hb dX3_collect_58 (by decide) (fun c4 => ?_) (fun c4 => ?_)
      · have hf := iff_ c4 hf
        refine lv_iconst (v := zI 4) hx hb dX3_collect_63 (by decide) ?_
        refine lv_iload_n hx hb dX3_collect_64 rfl (lv_at hl 1 rfl) ?_
        refine lv_imul hx hb dX3_collect_65 ?_
        refine lv_istore_n (lv' := [(2, .int ((zI 4) * x1)), (0, .ref (a 0)), (1, .int x1)]) hx hb dX3_collect_66 rfl hl (by decide) rfl (fun ls hl => ?_)
        exact lbX3_collect_67 X K x1 ((zI 4) * x1) z2.2 _ _ _ _ _ hf hP hD hS (lv_sub hl [1, 2, 0] rfl)
      · have hf := ift c4 hf
        refine lv_iconst (v := zI 0) hx hb dX3_collect_61 (by decide) ?_
        cases hf
        exact vz_zret X rfl hP hD hS dX3_collect_62
    · have hf := iff_ c1 hf
      refine lv_aload_n hx hb dX3_collect_13 rfl (lv_at hl 0 rfl) ?_
      refine lv_iload_n hx hb dX3_collect_14 rfl (lv_at hl 2 rfl) ?_
      obtain ⟨z9, hz10, hf⟩ := bd hf
      refine vz_call (rest := []) X (kX3_isValid hz10) (cwV 1 hts gX3_collect_X3_isValid rfl rfl rfl (by decide +kernel) ⟨Nat.le_of_ble_eq_true rfl, Nat.le_of_ble_eq_true rfl⟩) 0 3 rfl rfl rfl hl.1 rfl (Nat.le_of_ble_eq_true rfl) dX3_collect_15 ⟨Nat.zero_le _, Nat.zero_le _⟩ hP hD hS (fun H locs hP hD hS => ?_)
      refine lv_if_eq (tgt := 48) hx hb dX3_collect_18 (by decide) (fun c11 => ?_) (fun c11 => ?_)
      · have hf := ift c11 hf
        refine lv_iinc (v := x2 + (zI 1)) (lv' := [(2, .int (x2 + (zI 1))), (0, .ref (a 0)), (1, .int x1)]) hx hb dX3_collect_48 hl (k := 2) rfl rfl (by decide) rfl (fun ls hl => ?_)
        refine lv_goto (tgt := 4) hx hb dX3_collect_51 (by decide) ?_
        exact ih x1 (x2 + (zI 1)) z9.2 _ _ _ _ _ hf hP hD hS (lv_sub hl [1, 2, 0] rfl)
      · have hf := iff_ c11 hf
        refine lv_aload_n hx hb dX3_collect_21 rfl (lv_at hl 0 rfl) ?_
        refine lv_aload_n hx hb dX3_collect_22 rfl (lv_at hl 0 rfl) ?_
        refine va_get (D := D) (ci := 3) (v := .ref (a 1)) (C := RX3) (T := TX3) (N := 16) hx hb hts in_X3_collect_X3 hown hK hP 0 rfl rfl 2 (by decide) (hts _ (List.mem_of_getElem? (i := 1) rfl)) (fun _ h9 => h9) rfl dX3_collect_23 ?_
        refine lv_iload_n hx hb dX3_collect_26 rfl (lv_at hl 2 rfl) ?_
        obtain ⟨g12, hf⟩ := vgs hf
        refine va_iald hx hb hK hP 1 0 rfl rfl g12 dX3_collect_27 ?_
        refine lv_aload_n hx hb dX3_collect_28 rfl (lv_at hl 0 rfl) ?_
        refine va_get (D := D) (ci := 3) (v := .ref (a 2)) (C := RX3) (T := TX3) (N := 16) hx hb hts in_X3_collect_X3 hown hK hP 0 rfl rfl 3 (by decide) (hts _ (List.mem_of_getElem? (i := 2) rfl)) (fun _ h9 => h9) rfl dX3_collect_29 ?_
        refine lv_iload_n hx hb dX3_collect_32 rfl (lv_at hl 2 rfl) ?_
        obtain ⟨g13, hf⟩ := vgs hf
        refine va_iald hx hb hK hP 2 1 rfl rfl g13 dX3_collect_33 ?_
        refine lv_aload_n hx hb dX3_collect_34 rfl (lv_at hl 0 rfl) ?_
        refine va_get (D := D) (ci := 3) (v := .ref (a 4)) (C := RX3) (T := TX3) (N := 16) hx hb hts in_X3_collect_X3 hown hK hP 0 rfl rfl 5 (by decide) (hts _ (List.mem_of_getElem? (i := 3) rfl)) (fun _ h9 => h9) rfl dX3_collect_35 ?_
        refine lv_iload_n hx hb dX3_collect_38 rfl (lv_at hl 2 rfl) ?_
        obtain ⟨g14, hf⟩ := vgs hf
        refine va_iald hx hb hK hP 4 3 rfl rfl g14 dX3_collect_39 ?_
        obtain ⟨z15, hz16, hf⟩ := bd hf
        refine vz_call (rest := []) X (kX3_put hz16) (cwV 3 hts gX3_collect_X3_put rfl rfl rfl (by decide +kernel) ⟨Nat.le_of_ble_eq_true rfl, Nat.le_of_ble_eq_true rfl⟩) 0 3 rfl rfl rfl hl.1 rfl (Nat.le_of_ble_eq_true rfl) dX3_collect_40 ⟨Nat.zero_le _, Nat.zero_le _⟩ hP hD hS (fun H locs hP hD hS => ?_)
        refine lv_if_ne (tgt := 48) hx hb dX3_collect_43 (by decide) (fun c17 => ?_) (fun c17 => ?_)
        · have hf := iff_ c17 hf
          refine lv_iinc (v := x2 + (zI 1)) (lv' := [(2, .int (x2 + (zI 1))), (0, .ref (a 0)), (1, .int x1)]) hx hb dX3_collect_48 hl (k := 2) rfl rfl (by decide) rfl (fun ls hl => ?_)
          refine lv_goto (tgt := 4) hx hb dX3_collect_51 (by decide) ?_
          exact ih x1 (x2 + (zI 1)) z15.2 _ _ _ _ _ hf hP hD hS (lv_sub hl [1, 2, 0] rfl)
        · have hf := ift c17 hf
          refine lv_iconst (v := zI 0) hx hb dX3_collect_46 (by decide) ?_
          cases hf
          exact vz_zret X rfl hP hD hS dX3_collect_47
set_option maxHeartbeats 4000000 in
set_option maxRecDepth 100000 in
theorem lbX3_collect_e {K : Nat} (X : vzX D (MT cA) A wsX3_collect cX3_collect 3 (some .boolean) RX3 p s m args meth c) : ∀ (x1 : Int32) (u : MU) (H : Heap) (locs : List Loc) (ls : Array Slot) (r : Int32) (u2 : MU), fX3_collect n K x1 u = some (r, u2) → va_P D vwCl (MW a n cA u) H → va_D A (MW a n cA u) → va_S A s.heap H locs → lv_has ls 3 [(0, .ref (a 0)), (1, .int x1)] → W p l e (headSpec wsX3_collect rmX3_collect).room s m args below meth c H locs 0 0 (MQ below (vzQ D (MT cA) (MW a n cA) A r u2) args s 0 0 A) (F0 m 0 ls []) := by
  obtain ⟨hx, hb, hr, hml, hown, hts, hlk, hN, hK, hA⟩ := id X
  intro x1 u H locs ls r u2 hf hP hD hS hl
  unfold fX3_collect at hf
  refine lv_iconst (v := zI 4) hx hb dX3_collect_0 (by decide) ?_
  refine lv_iload_n hx hb dX3_collect_1 rfl (lv_at hl 1 rfl) ?_
  refine lv_imul hx hb dX3_collect_2 ?_
  refine lv_istore_n (lv' := [(2, .int ((zI 4) * x1)), (0, .ref (a 0)), (1, .int x1)]) hx hb dX3_collect_3 rfl hl (by decide) rfl (fun ls hl => ?_)
  exact lbX3_collect_4 X K x1 ((zI 4) * x1) u _ _ _ _ _ hf hP hD hS (lv_sub hl [1, 2, 0] rfl)
end
theorem kX3_collect {l : Launch} {D : va_G} {a n : Nat → Nat} {cA : Nat → ClassId} {K : Nat} {x1 : Int32} {u : MU} {r : Int32} {u2 : MU} (h : fX3_collect n K x1 u = some (r, u2)) : vzC l D (MT cA) (MW a n cA) yX3_collect wsX3_collect rmX3_collect [.ref (a 0), .int x1] u r u2 := vzC.of (by decide) rfl (Nat.le_of_ble_eq_true rfl) (fun p e s m below meth c A ls X hP hD hl => lbX3_collect_e X x1 u s.heap [] ls r u2 h hP hD va_S.rf hl)
end
section
abbrev rmX3_room : Room := { frames := 4, cells := 0, slots := 0, locals := 93 }
theorem in_X3_room_X3 : ∀ w ∈ u_ws RX3 TX3 16, w ∈ wsX3_room := fun _ h => List.mem_cons_of_mem _ (List.mem_append_right _ h)
def fX3_room_4 (n : Nat → Nat) (K : Nat) : Nat → Int32 → Int32 → MU → Option (Int32 × MU)
  | 0, _, _, _ => none
  | N + 1, x1, x2, u => if (zI 1000) ≤ x2 then (some (zI 1, u)) else (if (mu_opn u) = (zI (-1)) then ((fX3_freeBlocks n K u).bind fun z3 => (if (zI 2) ≤ z3.1 then ((fX3_pick n K (zI 0) (zI 0) z3.2).bind fun z6 => (fX3_room_4 n K N x1 (x2 + (zI 1)) (mu_s_opn z6.2 z6.1))) else ((fX3_pick n K (zI 0) (zI 0) z3.2).bind fun z9 => (if x1 = 0 then ((fX3_uneven n K (mu_s_opn z9.2 z9.1)).bind fun z20 => (if z20.1 = 0 then ((fX3_pick n K (zI 4) (zI 1) z20.2).bind fun z26 => ((fX3_collect n K z26.1 z26.2).bind fun z28 => (if z28.1 = 0 then (some (zI 0, z28.2)) else (fX3_room_4 n K N (zI 0) (x2 + (zI 1)) z28.2)))) else ((fX3_pick n K (zI 4) (zI 0) z20.2).bind fun z34 => ((fX3_collect n K z34.1 z34.2).bind fun z36 => (if z36.1 = 0 then (some (zI 0, z36.2)) else (fX3_room_4 n K N (zI 1) (x2 + (zI 1)) z36.2)))))) else ((fX3_pick n K (zI 4) (zI 1) (mu_s_opn z9.2 z9.1)).bind fun z15 => ((fX3_collect n K z15.1 z15.2).bind fun z17 => (if z17.1 = 0 then (some (zI 0, z17.2)) else (fX3_room_4 n K N (zI 1) (x2 + (zI 1)) z17.2)))))))) else ((fX3_programmed n K (mu_opn u) u).bind fun z39 => (if z39.1 = (zI 4) then ((fX3_freeBlocks n K z39.2).bind fun z42 => (if (zI 2) ≤ z42.1 then ((fX3_pick n K (zI 0) (zI 0) z42.2).bind fun z45 => (fX3_room_4 n K N x1 (x2 + (zI 1)) (mu_s_opn z45.2 z45.1))) else ((fX3_pick n K (zI 0) (zI 0) z42.2).bind fun z48 => (if x1 = 0 then ((fX3_uneven n K (mu_s_opn z48.2 z48.1)).bind fun z59 => (if z59.1 = 0 then ((fX3_pick n K (zI 4) (zI 1) z59.2).bind fun z65 => ((fX3_collect n K z65.1 z65.2).bind fun z67 => (if z67.1 = 0 then (some (zI 0, z67.2)) else (fX3_room_4 n K N (zI 0) (x2 + (zI 1)) z67.2)))) else ((fX3_pick n K (zI 4) (zI 0) z59.2).bind fun z73 => ((fX3_collect n K z73.1 z73.2).bind fun z75 => (if z75.1 = 0 then (some (zI 0, z75.2)) else (fX3_room_4 n K N (zI 1) (x2 + (zI 1)) z75.2)))))) else ((fX3_pick n K (zI 4) (zI 1) (mu_s_opn z48.2 z48.1)).bind fun z54 => ((fX3_collect n K z54.1 z54.2).bind fun z56 => (if z56.1 = 0 then (some (zI 0, z56.2)) else (fX3_room_4 n K N (zI 1) (x2 + (zI 1)) z56.2)))))))) else (some (zI 1, z39.2)))))
def fX3_room (n : Nat → Nat) (K : Nat) (u : MU) : Option (Int32 × MU) := fX3_room_4 n K K (zI 0) (zI 0) u
section
variable {p : Program} {l : Launch} {e : Env} {s : State} {m : MethodId} {args : Array Value} {below : List Frame} {meth : Method} {c : Code} {D : va_G} {a n : Nat → Nat} {cA : Nat → ClassId} {A : Nat → Prop}
set_option maxHeartbeats 4000000 in
set_option maxRecDepth 100000 in
theorem lbX3_room_4 {K : Nat} (X : vzX D (MT cA) A wsX3_room cX3_room 5 (some .boolean) RX3 p s m args meth c) : ∀ (N : Nat) (x1 x2 : Int32) (u : MU) (H : Heap) (locs : List Loc) (ls : Array Slot) (r : Int32) (u2 : MU), fX3_room_4 n K N x1 x2 u = some (r, u2) → va_P D vwCl (MW a n cA u) H → va_D A (MW a n cA u) → va_S A s.heap H locs → lv_has ls 5 [(0, .ref (a 0)), (1, .int x1), (2, .int x2)] → W p l e (headSpec wsX3_room rmX3_room).room s m args below meth c H locs 0 0 (MQ below (vzQ D (MT cA) (MW a n cA) A r u2) args s 0 0 A) (F0 m 4 ls []) := by
  obtain ⟨hx, hb, hr, hml, hown, hts, hlk, hN, hK, hA⟩ := id X
  intro N
  induction N with
  | zero =>
    intro x1 x2 u H locs ls r u2 hf
    cases hf
  | succ N ih =>
    intro x1 x2 u H locs ls r u2 hf hP hD hS hl
    rw [fX3_room_4] at hf
    refine lv_iload_n hx hb dX3_room_4 rfl (lv_at hl 2 rfl) ?_
    refine lv_sipush (v := zI 1000) hx hb dX3_room_5 (by decide) ?_
    refine lv_icmp_ge (tgt := 122) hx hb dX3_room_8 (by decide) (fun c1 => ?_) (fun c1 => ?_)
    · have hf := ift c1 hf
      refine lv_iconst (v := zI 1) hx hb dX3_room_122 (by decide) ?_
      cases hf
      exact vz_zret X rfl hP hD hS dX3_room_123
    · have hf := iff_ c1 hf
      refine lv_aload_n hx hb dX3_room_11 rfl (lv_at hl 0 rfl) ?_
      refine va_get (D := D) (ci := 3) (v := .int (mu_opn u)) (C := RX3) (T := TX3) (N := 16) hx hb hts in_X3_room_X3 hown hK hP 0 rfl rfl 8 (by decide) (hts _ (List.mem_of_getElem? (i := 1) rfl)) (fun _ h9 => h9) rfl dX3_room_12 ?_
      refine lv_iconst (v := zI (-1)) hx hb dX3_room_15 (by decide) ?_
      refine lv_icmp_eq (tgt := 31) hx hb dX3_room_16 (by decide) (fun c2 => ?_) (fun c2 => ?_)
      · have hf := ift c2 hf
        refine lv_aload_n hx hb dX3_room_31 rfl (lv_at hl 0 rfl) ?_
        obtain ⟨z3, hz4, hf⟩ := bd hf
        refine vz_call (rest := []) X (kX3_freeBlocks hz4) (cwV 0 hts gX3_room_X3_freeBlocks rfl rfl rfl (by decide +kernel) ⟨Nat.le_of_ble_eq_true rfl, Nat.le_of_ble_eq_true rfl⟩) 0 3 rfl rfl rfl hl.1 rfl (Nat.le_of_ble_eq_true rfl) dX3_room_32 ⟨Nat.zero_le _, Nat.zero_le _⟩ hP hD hS (fun H locs hP hD hS => ?_)
        refine lv_iconst (v := zI 2) hx hb dX3_room_35 (by decide) ?_
        refine lv_icmp_ge (tgt := 43) hx hb dX3_room_36 (by decide) (fun c5 => ?_) (fun c5 => ?_)
        · have hf := ift c5 hf
          refine lv_iconst (v := zI 0) hx hb dX3_room_43 (by decide) ?_
          refine lv_istore_n (lv' := [(3, .int (zI 0)), (0, .ref (a 0)), (1, .int x1), (2, .int x2)]) hx hb dX3_room_44 rfl hl (by decide) rfl (fun ls hl => ?_)
          refine lv_aload_n hx hb dX3_room_45 rfl (lv_at hl 1 rfl) ?_
          refine lv_aload_n hx hb dX3_room_46 rfl (lv_at hl 1 rfl) ?_
          refine lv_iconst (v := zI 0) hx hb dX3_room_47 (by decide) ?_
          refine lv_iconst (v := zI 0) hx hb dX3_room_48 (by decide) ?_
          obtain ⟨z6, hz7, hf⟩ := bd hf
          refine vz_call (rest := [.ref (a 0)]) X (kX3_pick hz7) (cwV 2 hts gX3_room_X3_pick rfl rfl rfl (by decide +kernel) ⟨Nat.le_of_ble_eq_true rfl, Nat.le_of_ble_eq_true rfl⟩) 0 3 rfl rfl rfl hl.1 rfl (Nat.le_of_ble_eq_true rfl) dX3_room_49 ⟨Nat.zero_le _, Nat.zero_le _⟩ hP hD hS (fun H locs hP hD hS => ?_)
          refine va_put (D := D) (ci := 3) (v := .int z6.1) (ty := .int) (C := RX3) (T := TX3) (N := 16) hx hb hts in_X3_room_X3 tyX3 tyX3_ok nmX3 hown hK hP hD hS 0 rfl rfl 8 (by decide) (hts _ (List.mem_of_getElem? (i := 1) rfl)) (fun _ h9 => h9) rfl (by decide +kernel) rfl rfl (Nat.le_of_ble_eq_true rfl) dX3_room_52 (fun H locs hP hD hS => ?_)
          have hP : va_P D vwCl (MW a n cA (mu_s_opn z6.2 z6.1)) H := hP
          have hD : va_D A (MW a n cA (mu_s_opn z6.2 z6.1)) := hD
          refine lv_iload_n hx hb dX3_room_55 rfl (lv_at hl 0 rfl) ?_
          refine lv_if_eq (tgt := 116) hx hb dX3_room_56 (by decide) (fun c8 => ?_) (fun c8 => absurd (by decide) c8)
          refine lv_iinc (v := x2 + (zI 1)) (lv' := [(2, .int (x2 + (zI 1))), (3, .int (zI 0)), (0, .ref (a 0)), (1, .int x1)]) hx hb dX3_room_116 hl (k := 3) rfl rfl (by decide) rfl (fun ls hl => ?_)
          refine lv_goto (tgt := 4) hx hb dX3_room_119 (by decide) ?_
          exact ih x1 (x2 + (zI 1)) (mu_s_opn z6.2 z6.1) _ _ _ _ _ hf hP hD hS (lv_sub hl [2, 3, 0] rfl)
        · have hf := iff_ c5 hf
          refine lv_iconst (v := zI 1) hx hb dX3_room_39 (by decide) ?_
          refine lv_goto (tgt := 44) hx hb dX3_room_40 (by decide) ?_
          refine lv_istore_n (lv' := [(3, .int (zI 1)), (0, .ref (a 0)), (1, .int x1), (2, .int x2)]) hx hb dX3_room_44 rfl hl (by decide) rfl (fun ls hl => ?_)
          refine lv_aload_n hx hb dX3_room_45 rfl (lv_at hl 1 rfl) ?_
          refine lv_aload_n hx hb dX3_room_46 rfl (lv_at hl 1 rfl) ?_
          refine lv_iconst (v := zI 0) hx hb dX3_room_47 (by decide) ?_
          refine lv_iconst (v := zI 0) hx hb dX3_room_48 (by decide) ?_
          obtain ⟨z9, hz10, hf⟩ := bd hf
          refine vz_call (rest := [.ref (a 0)]) X (kX3_pick hz10) (cwV 2 hts gX3_room_X3_pick rfl rfl rfl (by decide +kernel) ⟨Nat.le_of_ble_eq_true rfl, Nat.le_of_ble_eq_true rfl⟩) 0 3 rfl rfl rfl hl.1 rfl (Nat.le_of_ble_eq_true rfl) dX3_room_49 ⟨Nat.zero_le _, Nat.zero_le _⟩ hP hD hS (fun H locs hP hD hS => ?_)
          refine va_put (D := D) (ci := 3) (v := .int z9.1) (ty := .int) (C := RX3) (T := TX3) (N := 16) hx hb hts in_X3_room_X3 tyX3 tyX3_ok nmX3 hown hK hP hD hS 0 rfl rfl 8 (by decide) (hts _ (List.mem_of_getElem? (i := 1) rfl)) (fun _ h9 => h9) rfl (by decide +kernel) rfl rfl (Nat.le_of_ble_eq_true rfl) dX3_room_52 (fun H locs hP hD hS => ?_)
          have hP : va_P D vwCl (MW a n cA (mu_s_opn z9.2 z9.1)) H := hP
          have hD : va_D A (MW a n cA (mu_s_opn z9.2 z9.1)) := hD
          refine lv_iload_n hx hb dX3_room_55 rfl (lv_at hl 0 rfl) ?_
          refine lv_if_eq (tgt := 116) hx hb dX3_room_56 (by decide) (fun c11 => absurd c11 (by decide)) (fun c11 => ?_)
          refine lv_iload_n hx hb dX3_room_59 rfl (lv_at hl 2 rfl) ?_
          refine lv_if_ne (tgt := 74) hx hb dX3_room_60 (by decide) (fun c12 => ?_) (fun c12 => ?_)
          · have hf := iff_ c12 hf
            refine lv_iconst (v := zI 0) hx hb dX3_room_74 (by decide) ?_
            refine lv_istore (lv' := [(4, .int (zI 0)), (3, .int (zI 1)), (0, .ref (a 0)), (1, .int x1), (2, .int x2)]) hx hb dX3_room_75 hl (by decide) rfl (fun ls hl => ?_)
            refine lv_iload_n hx hb dX3_room_77 rfl (lv_at hl 3 rfl) ?_
            refine lv_if_ne (tgt := 86) hx hb dX3_room_78 (by decide) (fun c13 => ?_) (fun c13 => absurd c13 c12)
            refine lv_iconst (v := zI 1) hx hb dX3_room_86 (by decide) ?_
            refine lv_goto (tgt := 91) hx hb dX3_room_87 (by decide) ?_
            refine lv_istore_n (lv' := [(1, .int (zI 1)), (4, .int (zI 0)), (3, .int (zI 1)), (0, .ref (a 0)), (2, .int x2)]) hx hb dX3_room_91 rfl hl (by decide) rfl (fun ls hl => ?_)
            refine lv_aload_n hx hb dX3_room_92 rfl (lv_at hl 3 rfl) ?_
            refine lv_aload_n hx hb dX3_room_93 rfl (lv_at hl 3 rfl) ?_
            refine lv_iconst (v := zI 4) hx hb dX3_room_94 (by decide) ?_
            refine lv_iload hx hb dX3_room_95 (lv_at hl 1 rfl) ?_
            refine lv_if_ne (tgt := 104) hx hb dX3_room_97 (by decide) (fun c14 => absurd (by decide) c14) (fun c14 => ?_)
            refine lv_iconst (v := zI 1) hx hb dX3_room_100 (by decide) ?_
            refine lv_goto (tgt := 105) hx hb dX3_room_101 (by decide) ?_
            obtain ⟨z15, hz16, hf⟩ := bd hf
            refine vz_call (rest := [.ref (a 0)]) X (kX3_pick hz16) (cwV 2 hts gX3_room_X3_pick rfl rfl rfl (by decide +kernel) ⟨Nat.le_of_ble_eq_true rfl, Nat.le_of_ble_eq_true rfl⟩) 0 3 rfl rfl rfl hl.1 rfl (Nat.le_of_ble_eq_true rfl) dX3_room_105 ⟨Nat.zero_le _, Nat.zero_le _⟩ hP hD hS (fun H locs hP hD hS => ?_)
            obtain ⟨z17, hz18, hf⟩ := bd hf
            refine vz_call (rest := []) X (kX3_collect hz18) (cwV 1 hts gX3_room_X3_collect rfl rfl rfl (by decide +kernel) ⟨Nat.le_of_ble_eq_true rfl, Nat.le_of_ble_eq_true rfl⟩) 0 3 rfl rfl rfl hl.1 rfl (Nat.le_of_ble_eq_true rfl) dX3_room_108 ⟨Nat.zero_le _, Nat.zero_le _⟩ hP hD hS (fun H locs hP hD hS => ?_)
            refine lv_if_ne (tgt := 116) hx hb dX3_room_111 (by decide) (fun c19 => ?_) (fun c19 => ?_)
            · have hf := iff_ c19 hf
              refine lv_iinc (v := x2 + (zI 1)) (lv' := [(2, .int (x2 + (zI 1))), (1, .int (zI 1)), (4, .int (zI 0)), (3, .int (zI 1)), (0, .ref (a 0))]) hx hb dX3_room_116 hl (k := 4) rfl rfl (by decide) rfl (fun ls hl => ?_)
              refine lv_goto (tgt := 4) hx hb dX3_room_119 (by decide) ?_
              exact ih (zI 1) (x2 + (zI 1)) z17.2 _ _ _ _ _ hf hP hD hS (lv_sub hl [4, 1, 0] rfl)
            · have hf := ift c19 hf
              refine lv_iconst (v := zI 0) hx hb dX3_room_114 (by decide) ?_
              cases hf
              exact vz_zret X rfl hP hD hS dX3_room_115
          · have hf := ift c12 hf
            refine lv_aload_n hx hb dX3_room_63 rfl (lv_at hl 1 rfl) ?_
            obtain ⟨z20, hz21, hf⟩ := bd hf
            refine vz_call (rest := []) X (kX3_uneven hz21) (cwV 0 hts gX3_room_X3_uneven rfl rfl rfl (by decide +kernel) ⟨Nat.le_of_ble_eq_true rfl, Nat.le_of_ble_eq_true rfl⟩) 0 3 rfl rfl rfl hl.1 rfl (Nat.le_of_ble_eq_true rfl) dX3_room_64 ⟨Nat.zero_le _, Nat.zero_le _⟩ hP hD hS (fun H locs hP hD hS => ?_)
            refine lv_if_eq (tgt := 74) hx hb dX3_room_67 (by decide) (fun c22 => ?_) (fun c22 => ?_)
            · have hf := ift c22 hf
              refine lv_iconst (v := zI 0) hx hb dX3_room_74 (by decide) ?_
              refine lv_istore (lv' := [(4, .int (zI 0)), (3, .int (zI 1)), (0, .ref (a 0)), (1, .int x1), (2, .int x2)]) hx hb dX3_room_75 hl (by decide) rfl (fun ls hl => ?_)
              refine lv_iload_n hx hb dX3_room_77 rfl (lv_at hl 3 rfl) ?_
              refine lv_if_ne (tgt := 86) hx hb dX3_room_78 (by decide) (fun c23 => absurd c12 c23) (fun c23 => ?_)
              refine lv_iload hx hb dX3_room_81 (lv_at hl 0 rfl) ?_
              refine lv_if_eq (tgt := 90) hx hb dX3_room_83 (by decide) (fun c24 => ?_) (fun c24 => absurd (by decide) c24)
              refine lv_iconst (v := zI 0) hx hb dX3_room_90 (by decide) ?_
              refine lv_istore_n (lv' := [(1, .int (zI 0)), (4, .int (zI 0)), (3, .int (zI 1)), (0, .ref (a 0)), (2, .int x2)]) hx hb dX3_room_91 rfl hl (by decide) rfl (fun ls hl => ?_)
              refine lv_aload_n hx hb dX3_room_92 rfl (lv_at hl 3 rfl) ?_
              refine lv_aload_n hx hb dX3_room_93 rfl (lv_at hl 3 rfl) ?_
              refine lv_iconst (v := zI 4) hx hb dX3_room_94 (by decide) ?_
              refine lv_iload hx hb dX3_room_95 (lv_at hl 1 rfl) ?_
              refine lv_if_ne (tgt := 104) hx hb dX3_room_97 (by decide) (fun c25 => absurd (by decide) c25) (fun c25 => ?_)
              refine lv_iconst (v := zI 1) hx hb dX3_room_100 (by decide) ?_
              refine lv_goto (tgt := 105) hx hb dX3_room_101 (by decide) ?_
              obtain ⟨z26, hz27, hf⟩ := bd hf
              refine vz_call (rest := [.ref (a 0)]) X (kX3_pick hz27) (cwV 2 hts gX3_room_X3_pick rfl rfl rfl (by decide +kernel) ⟨Nat.le_of_ble_eq_true rfl, Nat.le_of_ble_eq_true rfl⟩) 0 3 rfl rfl rfl hl.1 rfl (Nat.le_of_ble_eq_true rfl) dX3_room_105 ⟨Nat.zero_le _, Nat.zero_le _⟩ hP hD hS (fun H locs hP hD hS => ?_)
              obtain ⟨z28, hz29, hf⟩ := bd hf
              refine vz_call (rest := []) X (kX3_collect hz29) (cwV 1 hts gX3_room_X3_collect rfl rfl rfl (by decide +kernel) ⟨Nat.le_of_ble_eq_true rfl, Nat.le_of_ble_eq_true rfl⟩) 0 3 rfl rfl rfl hl.1 rfl (Nat.le_of_ble_eq_true rfl) dX3_room_108 ⟨Nat.zero_le _, Nat.zero_le _⟩ hP hD hS (fun H locs hP hD hS => ?_)
              refine lv_if_ne (tgt := 116) hx hb dX3_room_111 (by decide) (fun c30 => ?_) (fun c30 => ?_)
              · have hf := iff_ c30 hf
                refine lv_iinc (v := x2 + (zI 1)) (lv' := [(2, .int (x2 + (zI 1))), (1, .int (zI 0)), (4, .int (zI 0)), (3, .int (zI 1)), (0, .ref (a 0))]) hx hb dX3_room_116 hl (k := 4) rfl rfl (by decide) rfl (fun ls hl => ?_)
                refine lv_goto (tgt := 4) hx hb dX3_room_119 (by decide) ?_
                exact ih (zI 0) (x2 + (zI 1)) z28.2 _ _ _ _ _ hf hP hD hS (lv_sub hl [4, 1, 0] rfl)
              · have hf := ift c30 hf
                refine lv_iconst (v := zI 0) hx hb dX3_room_114 (by decide) ?_
                cases hf
                exact vz_zret X rfl hP hD hS dX3_room_115
            · have hf := iff_ c22 hf
              refine lv_iconst (v := zI 1) hx hb dX3_room_70 (by decide) ?_
              refine lv_goto (tgt := 75) hx hb dX3_room_71 (by decide) ?_
              refine lv_istore (lv' := [(4, .int (zI 1)), (3, .int (zI 1)), (0, .ref (a 0)), (1, .int x1), (2, .int x2)]) hx hb dX3_room_75 hl (by decide) rfl (fun ls hl => ?_)
              refine lv_iload_n hx hb dX3_room_77 rfl (lv_at hl 3 rfl) ?_
              refine lv_if_ne (tgt := 86) hx hb dX3_room_78 (by decide) (fun c31 => absurd c12 c31) (fun c31 => ?_)
              refine lv_iload hx hb dX3_room_81 (lv_at hl 0 rfl) ?_
              refine lv_if_eq (tgt := 90) hx hb dX3_room_83 (by decide) (fun c32 => absurd c32 (by decide)) (fun c32 => ?_)
              refine lv_iconst (v := zI 1) hx hb dX3_room_86 (by decide) ?_
              refine lv_goto (tgt := 91) hx hb dX3_room_87 (by decide) ?_
              refine lv_istore_n (lv' := [(1, .int (zI 1)), (4, .int (zI 1)), (3, .int (zI 1)), (0, .ref (a 0)), (2, .int x2)]) hx hb dX3_room_91 rfl hl (by decide) rfl (fun ls hl => ?_)
              refine lv_aload_n hx hb dX3_room_92 rfl (lv_at hl 3 rfl) ?_
              refine lv_aload_n hx hb dX3_room_93 rfl (lv_at hl 3 rfl) ?_
              refine lv_iconst (v := zI 4) hx hb dX3_room_94 (by decide) ?_
              refine lv_iload hx hb dX3_room_95 (lv_at hl 1 rfl) ?_
              refine lv_if_ne (tgt := 104) hx hb dX3_room_97 (by decide) (fun c33 => ?_) (fun c33 => absurd c33 (by decide))
              refine lv_iconst (v := zI 0) hx hb dX3_room_104 (by decide) ?_
              obtain ⟨z34, hz35, hf⟩ := bd hf
              refine vz_call (rest := [.ref (a 0)]) X (kX3_pick hz35) (cwV 2 hts gX3_room_X3_pick rfl rfl rfl (by decide +kernel) ⟨Nat.le_of_ble_eq_true rfl, Nat.le_of_ble_eq_true rfl⟩) 0 3 rfl rfl rfl hl.1 rfl (Nat.le_of_ble_eq_true rfl) dX3_room_105 ⟨Nat.zero_le _, Nat.zero_le _⟩ hP hD hS (fun H locs hP hD hS => ?_)
              obtain ⟨z36, hz37, hf⟩ := bd hf
              refine vz_call (rest := []) X (kX3_collect hz37) (cwV 1 hts gX3_room_X3_collect rfl rfl rfl (by decide +kernel) ⟨Nat.le_of_ble_eq_true rfl, Nat.le_of_ble_eq_true rfl⟩) 0 3 rfl rfl rfl hl.1 rfl (Nat.le_of_ble_eq_true rfl) dX3_room_108 ⟨Nat.zero_le _, Nat.zero_le _⟩ hP hD hS (fun H locs hP hD hS => ?_)
              refine lv_if_ne (tgt := 116) hx hb dX3_room_111 (by decide) (fun c38 => ?_) (fun c38 => ?_)
              · have hf := iff_ c38 hf
                refine lv_iinc (v := x2 + (zI 1)) (lv' := [(2, .int (x2 + (zI 1))), (1, .int (zI 1)), (4, .int (zI 1)), (3, .int (zI 1)), (0, .ref (a 0))]) hx hb dX3_room_116 hl (k := 4) rfl rfl (by decide) rfl (fun ls hl => ?_)
                refine lv_goto (tgt := 4) hx hb dX3_room_119 (by decide) ?_
                exact ih (zI 1) (x2 + (zI 1)) z36.2 _ _ _ _ _ hf hP hD hS (lv_sub hl [4, 1, 0] rfl)
              · have hf := ift c38 hf
                refine lv_iconst (v := zI 0) hx hb dX3_room_114 (by decide) ?_
                cases hf
                exact vz_zret X rfl hP hD hS dX3_room_115
      · have hf := iff_ c2 hf
        refine lv_aload_n hx hb dX3_room_19 rfl (lv_at hl 0 rfl) ?_
        refine lv_aload_n hx hb dX3_room_20 rfl (lv_at hl 0 rfl) ?_
        refine va_get (D := D) (ci := 3) (v := .int (mu_opn u)) (C := RX3) (T := TX3) (N := 16) hx hb hts in_X3_room_X3 hown hK hP 0 rfl rfl 8 (by decide) (hts _ (List.mem_of_getElem? (i := 1) rfl)) (fun _ h9 => h9) rfl dX3_room_21 ?_
        obtain ⟨z39, hz40, hf⟩ := bd hf
        refine vz_call (rest := []) X (kX3_programmed hz40) (cwV 1 hts gX3_room_X3_programmed rfl rfl rfl (by decide +kernel) ⟨Nat.le_of_ble_eq_true rfl, Nat.le_of_ble_eq_true rfl⟩) 0 3 rfl rfl rfl hl.1 rfl (Nat.le_of_ble_eq_true rfl) dX3_room_24 ⟨Nat.zero_le _, Nat.zero_le _⟩ hP hD hS (fun H locs hP hD hS => ?_)
        refine lv_iconst (v := zI 4) hx hb dX3_room_27 (by decide) ?_
        refine lv_icmp_ne (tgt := 122) hx hb dX3_room_28 (by decide) (fun c41 => ?_) (fun c41 => ?_)
        · have hf := iff_ c41 hf
          refine lv_iconst (v := zI 1) hx hb dX3_room_122 (by decide) ?_
          cases hf
          exact vz_zret X rfl hP hD hS dX3_room_123
        · have hf := ift c41 hf
          refine lv_aload_n hx hb dX3_room_31 rfl (lv_at hl 0 rfl) ?_
          obtain ⟨z42, hz43, hf⟩ := bd hf
          refine vz_call (rest := []) X (kX3_freeBlocks hz43) (cwV 0 hts gX3_room_X3_freeBlocks rfl rfl rfl (by decide +kernel) ⟨Nat.le_of_ble_eq_true rfl, Nat.le_of_ble_eq_true rfl⟩) 0 3 rfl rfl rfl hl.1 rfl (Nat.le_of_ble_eq_true rfl) dX3_room_32 ⟨Nat.zero_le _, Nat.zero_le _⟩ hP hD hS (fun H locs hP hD hS => ?_)
          refine lv_iconst (v := zI 2) hx hb dX3_room_35 (by decide) ?_
          refine lv_icmp_ge (tgt := 43) hx hb dX3_room_36 (by decide) (fun c44 => ?_) (fun c44 => ?_)
          · have hf := ift c44 hf
            refine lv_iconst (v := zI 0) hx hb dX3_room_43 (by decide) ?_
            refine lv_istore_n (lv' := [(3, .int (zI 0)), (0, .ref (a 0)), (1, .int x1), (2, .int x2)]) hx hb dX3_room_44 rfl hl (by decide) rfl (fun ls hl => ?_)
            refine lv_aload_n hx hb dX3_room_45 rfl (lv_at hl 1 rfl) ?_
            refine lv_aload_n hx hb dX3_room_46 rfl (lv_at hl 1 rfl) ?_
            refine lv_iconst (v := zI 0) hx hb dX3_room_47 (by decide) ?_
            refine lv_iconst (v := zI 0) hx hb dX3_room_48 (by decide) ?_
            obtain ⟨z45, hz46, hf⟩ := bd hf
            refine vz_call (rest := [.ref (a 0)]) X (kX3_pick hz46) (cwV 2 hts gX3_room_X3_pick rfl rfl rfl (by decide +kernel) ⟨Nat.le_of_ble_eq_true rfl, Nat.le_of_ble_eq_true rfl⟩) 0 3 rfl rfl rfl hl.1 rfl (Nat.le_of_ble_eq_true rfl) dX3_room_49 ⟨Nat.zero_le _, Nat.zero_le _⟩ hP hD hS (fun H locs hP hD hS => ?_)
            refine va_put (D := D) (ci := 3) (v := .int z45.1) (ty := .int) (C := RX3) (T := TX3) (N := 16) hx hb hts in_X3_room_X3 tyX3 tyX3_ok nmX3 hown hK hP hD hS 0 rfl rfl 8 (by decide) (hts _ (List.mem_of_getElem? (i := 1) rfl)) (fun _ h9 => h9) rfl (by decide +kernel) rfl rfl (Nat.le_of_ble_eq_true rfl) dX3_room_52 (fun H locs hP hD hS => ?_)
            have hP : va_P D vwCl (MW a n cA (mu_s_opn z45.2 z45.1)) H := hP
            have hD : va_D A (MW a n cA (mu_s_opn z45.2 z45.1)) := hD
            refine lv_iload_n hx hb dX3_room_55 rfl (lv_at hl 0 rfl) ?_
            refine lv_if_eq (tgt := 116) hx hb dX3_room_56 (by decide) (fun c47 => ?_) (fun c47 => absurd (by decide) c47)
            refine lv_iinc (v := x2 + (zI 1)) (lv' := [(2, .int (x2 + (zI 1))), (3, .int (zI 0)), (0, .ref (a 0)), (1, .int x1)]) hx hb dX3_room_116 hl (k := 3) rfl rfl (by decide) rfl (fun ls hl => ?_)
            refine lv_goto (tgt := 4) hx hb dX3_room_119 (by decide) ?_
            exact ih x1 (x2 + (zI 1)) (mu_s_opn z45.2 z45.1) _ _ _ _ _ hf hP hD hS (lv_sub hl [2, 3, 0] rfl)
          · have hf := iff_ c44 hf
            refine lv_iconst (v := zI 1) hx hb dX3_room_39 (by decide) ?_
            refine lv_goto (tgt := 44) hx hb dX3_room_40 (by decide) ?_
            refine lv_istore_n (lv' := [(3, .int (zI 1)), (0, .ref (a 0)), (1, .int x1), (2, .int x2)]) hx hb dX3_room_44 rfl hl (by decide) rfl (fun ls hl => ?_)
            refine lv_aload_n hx hb dX3_room_45 rfl (lv_at hl 1 rfl) ?_
            refine lv_aload_n hx hb dX3_room_46 rfl (lv_at hl 1 rfl) ?_
            refine lv_iconst (v := zI 0) hx hb dX3_room_47 (by decide) ?_
            refine lv_iconst (v := zI 0) hx hb dX3_room_48 (by decide) ?_
            obtain ⟨z48, hz49, hf⟩ := bd hf
            refine vz_call (rest := [.ref (a 0)]) X (kX3_pick hz49) (cwV 2 hts gX3_room_X3_pick rfl rfl rfl (by decide +kernel) ⟨Nat.le_of_ble_eq_true rfl, Nat.le_of_ble_eq_true rfl⟩) 0 3 rfl rfl rfl hl.1 rfl (Nat.le_of_ble_eq_true rfl) dX3_room_49 ⟨Nat.zero_le _, Nat.zero_le _⟩ hP hD hS (fun H locs hP hD hS => ?_)
            refine va_put (D := D) (ci := 3) (v := .int z48.1) (ty := .int) (C := RX3) (T := TX3) (N := 16) hx hb hts in_X3_room_X3 tyX3 tyX3_ok nmX3 hown hK hP hD hS 0 rfl rfl 8 (by decide) (hts _ (List.mem_of_getElem? (i := 1) rfl)) (fun _ h9 => h9) rfl (by decide +kernel) rfl rfl (Nat.le_of_ble_eq_true rfl) dX3_room_52 (fun H locs hP hD hS => ?_)
            have hP : va_P D vwCl (MW a n cA (mu_s_opn z48.2 z48.1)) H := hP
            have hD : va_D A (MW a n cA (mu_s_opn z48.2 z48.1)) := hD
            refine lv_iload_n hx hb dX3_room_55 rfl (lv_at hl 0 rfl) ?_
            refine lv_if_eq (tgt := 116) hx hb dX3_room_56 (by decide) (fun c50 => absurd c50 (by decide)) (fun c50 => ?_)
            refine lv_iload_n hx hb dX3_room_59 rfl (lv_at hl 2 rfl) ?_
            refine lv_if_ne (tgt := 74) hx hb dX3_room_60 (by decide) (fun c51 => ?_) (fun c51 => ?_)
            · have hf := iff_ c51 hf
              refine lv_iconst (v := zI 0) hx hb dX3_room_74 (by decide) ?_
              refine lv_istore (lv' := [(4, .int (zI 0)), (3, .int (zI 1)), (0, .ref (a 0)), (1, .int x1), (2, .int x2)]) hx hb dX3_room_75 hl (by decide) rfl (fun ls hl => ?_)
              refine lv_iload_n hx hb dX3_room_77 rfl (lv_at hl 3 rfl) ?_
              refine lv_if_ne (tgt := 86) hx hb dX3_room_78 (by decide) (fun c52 => ?_) (fun c52 => absurd c52 c51)
              refine lv_iconst (v := zI 1) hx hb dX3_room_86 (by decide) ?_
              refine lv_goto (tgt := 91) hx hb dX3_room_87 (by decide) ?_
              refine lv_istore_n (lv' := [(1, .int (zI 1)), (4, .int (zI 0)), (3, .int (zI 1)), (0, .ref (a 0)), (2, .int x2)]) hx hb dX3_room_91 rfl hl (by decide) rfl (fun ls hl => ?_)
              refine lv_aload_n hx hb dX3_room_92 rfl (lv_at hl 3 rfl) ?_
              refine lv_aload_n hx hb dX3_room_93 rfl (lv_at hl 3 rfl) ?_
              refine lv_iconst (v := zI 4) hx hb dX3_room_94 (by decide) ?_
              refine lv_iload hx hb dX3_room_95 (lv_at hl 1 rfl) ?_
              refine lv_if_ne (tgt := 104) hx hb dX3_room_97 (by decide) (fun c53 => absurd (by decide) c53) (fun c53 => ?_)
              refine lv_iconst (v := zI 1) hx hb dX3_room_100 (by decide) ?_
              refine lv_goto (tgt := 105) hx hb dX3_room_101 (by decide) ?_
              obtain ⟨z54, hz55, hf⟩ := bd hf
              refine vz_call (rest := [.ref (a 0)]) X (kX3_pick hz55) (cwV 2 hts gX3_room_X3_pick rfl rfl rfl (by decide +kernel) ⟨Nat.le_of_ble_eq_true rfl, Nat.le_of_ble_eq_true rfl⟩) 0 3 rfl rfl rfl hl.1 rfl (Nat.le_of_ble_eq_true rfl) dX3_room_105 ⟨Nat.zero_le _, Nat.zero_le _⟩ hP hD hS (fun H locs hP hD hS => ?_)
              obtain ⟨z56, hz57, hf⟩ := bd hf
              refine vz_call (rest := []) X (kX3_collect hz57) (cwV 1 hts gX3_room_X3_collect rfl rfl rfl (by decide +kernel) ⟨Nat.le_of_ble_eq_true rfl, Nat.le_of_ble_eq_true rfl⟩) 0 3 rfl rfl rfl hl.1 rfl (Nat.le_of_ble_eq_true rfl) dX3_room_108 ⟨Nat.zero_le _, Nat.zero_le _⟩ hP hD hS (fun H locs hP hD hS => ?_)
              refine lv_if_ne (tgt := 116) hx hb dX3_room_111 (by decide) (fun c58 => ?_) (fun c58 => ?_)
              · have hf := iff_ c58 hf
                refine lv_iinc (v := x2 + (zI 1)) (lv' := [(2, .int (x2 + (zI 1))), (1, .int (zI 1)), (4, .int (zI 0)), (3, .int (zI 1)), (0, .ref (a 0))]) hx hb dX3_room_116 hl (k := 4) rfl rfl (by decide) rfl (fun ls hl => ?_)
                refine lv_goto (tgt := 4) hx hb dX3_room_119 (by decide) ?_
                exact ih (zI 1) (x2 + (zI 1)) z56.2 _ _ _ _ _ hf hP hD hS (lv_sub hl [4, 1, 0] rfl)
              · have hf := ift c58 hf
                refine lv_iconst (v := zI 0) hx hb dX3_room_114 (by decide) ?_
                cases hf
                exact vz_zret X rfl hP hD hS dX3_room_115
            · have hf := ift c51 hf
              refine lv_aload_n hx hb dX3_room_63 rfl (lv_at hl 1 rfl) ?_
              obtain ⟨z59, hz60, hf⟩ := bd hf
              refine vz_call (rest := []) X (kX3_uneven hz60) (cwV 0 hts gX3_room_X3_uneven rfl rfl rfl (by decide +kernel) ⟨Nat.le_of_ble_eq_true rfl, Nat.le_of_ble_eq_true rfl⟩) 0 3 rfl rfl rfl hl.1 rfl (Nat.le_of_ble_eq_true rfl) dX3_room_64 ⟨Nat.zero_le _, Nat.zero_le _⟩ hP hD hS (fun H locs hP hD hS => ?_)
              refine lv_if_eq (tgt := 74) hx hb dX3_room_67 (by decide) (fun c61 => ?_) (fun c61 => ?_)
              · have hf := ift c61 hf
                refine lv_iconst (v := zI 0) hx hb dX3_room_74 (by decide) ?_
                refine lv_istore (lv' := [(4, .int (zI 0)), (3, .int (zI 1)), (0, .ref (a 0)), (1, .int x1), (2, .int x2)]) hx hb dX3_room_75 hl (by decide) rfl (fun ls hl => ?_)
                refine lv_iload_n hx hb dX3_room_77 rfl (lv_at hl 3 rfl) ?_
                refine lv_if_ne (tgt := 86) hx hb dX3_room_78 (by decide) (fun c62 => absurd c51 c62) (fun c62 => ?_)
                refine lv_iload hx hb dX3_room_81 (lv_at hl 0 rfl) ?_
                refine lv_if_eq (tgt := 90) hx hb dX3_room_83 (by decide) (fun c63 => ?_) (fun c63 => absurd (by decide) c63)
                refine lv_iconst (v := zI 0) hx hb dX3_room_90 (by decide) ?_
                refine lv_istore_n (lv' := [(1, .int (zI 0)), (4, .int (zI 0)), (3, .int (zI 1)), (0, .ref (a 0)), (2, .int x2)]) hx hb dX3_room_91 rfl hl (by decide) rfl (fun ls hl => ?_)
                refine lv_aload_n hx hb dX3_room_92 rfl (lv_at hl 3 rfl) ?_
                refine lv_aload_n hx hb dX3_room_93 rfl (lv_at hl 3 rfl) ?_
                refine lv_iconst (v := zI 4) hx hb dX3_room_94 (by decide) ?_
                refine lv_iload hx hb dX3_room_95 (lv_at hl 1 rfl) ?_
                refine lv_if_ne (tgt := 104) hx hb dX3_room_97 (by decide) (fun c64 => absurd (by decide) c64) (fun c64 => ?_)
                refine lv_iconst (v := zI 1) hx hb dX3_room_100 (by decide) ?_
                refine lv_goto (tgt := 105) hx hb dX3_room_101 (by decide) ?_
                obtain ⟨z65, hz66, hf⟩ := bd hf
                refine vz_call (rest := [.ref (a 0)]) X (kX3_pick hz66) (cwV 2 hts gX3_room_X3_pick rfl rfl rfl (by decide +kernel) ⟨Nat.le_of_ble_eq_true rfl, Nat.le_of_ble_eq_true rfl⟩) 0 3 rfl rfl rfl hl.1 rfl (Nat.le_of_ble_eq_true rfl) dX3_room_105 ⟨Nat.zero_le _, Nat.zero_le _⟩ hP hD hS (fun H locs hP hD hS => ?_)
                obtain ⟨z67, hz68, hf⟩ := bd hf
                refine vz_call (rest := []) X (kX3_collect hz68) (cwV 1 hts gX3_room_X3_collect rfl rfl rfl (by decide +kernel) ⟨Nat.le_of_ble_eq_true rfl, Nat.le_of_ble_eq_true rfl⟩) 0 3 rfl rfl rfl hl.1 rfl (Nat.le_of_ble_eq_true rfl) dX3_room_108 ⟨Nat.zero_le _, Nat.zero_le _⟩ hP hD hS (fun H locs hP hD hS => ?_)
                refine lv_if_ne (tgt := 116) hx hb dX3_room_111 (by decide) (fun c69 => ?_) (fun c69 => ?_)
                · have hf := iff_ c69 hf
                  refine lv_iinc (v := x2 + (zI 1)) (lv' := [(2, .int (x2 + (zI 1))), (1, .int (zI 0)), (4, .int (zI 0)), (3, .int (zI 1)), (0, .ref (a 0))]) hx hb dX3_room_116 hl (k := 4) rfl rfl (by decide) rfl (fun ls hl => ?_)
                  refine lv_goto (tgt := 4) hx hb dX3_room_119 (by decide) ?_
                  exact ih (zI 0) (x2 + (zI 1)) z67.2 _ _ _ _ _ hf hP hD hS (lv_sub hl [4, 1, 0] rfl)
                · have hf := ift c69 hf
                  refine lv_iconst (v := zI 0) hx hb dX3_room_114 (by decide) ?_
                  cases hf
                  exact vz_zret X rfl hP hD hS dX3_room_115
              · have hf := iff_ c61 hf
                refine lv_iconst (v := zI 1) hx hb dX3_room_70 (by decide) ?_
                refine lv_goto (tgt := 75) hx hb dX3_room_71 (by decide) ?_
                refine lv_istore (lv' := [(4, .int (zI 1)), (3, .int (zI 1)), (0, .ref (a 0)), (1, .int x1), (2, .int x2)]) hx hb dX3_room_75 hl (by decide) rfl (fun ls hl => ?_)
                refine lv_iload_n hx hb dX3_room_77 rfl (lv_at hl 3 rfl) ?_
                refine lv_if_ne (tgt := 86) hx hb dX3_room_78 (by decide) (fun c70 => absurd c51 c70) (fun c70 => ?_)
                refine lv_iload hx hb dX3_room_81 (lv_at hl 0 rfl) ?_
                refine lv_if_eq (tgt := 90) hx hb dX3_room_83 (by decide) (fun c71 => absurd c71 (by decide)) (fun c71 => ?_)
                refine lv_iconst (v := zI 1) hx hb dX3_room_86 (by decide) ?_
                refine lv_goto (tgt := 91) hx hb dX3_room_87 (by decide) ?_
                refine lv_istore_n (lv' := [(1, .int (zI 1)), (4, .int (zI 1)), (3, .int (zI 1)), (0, .ref (a 0)), (2, .int x2)]) hx hb dX3_room_91 rfl hl (by decide) rfl (fun ls hl => ?_)
                refine lv_aload_n hx hb dX3_room_92 rfl (lv_at hl 3 rfl) ?_
                refine lv_aload_n hx hb dX3_room_93 rfl (lv_at hl 3 rfl) ?_
                refine lv_iconst (v := zI 4) hx hb dX3_room_94 (by decide) ?_
                refine lv_iload hx hb dX3_room_95 (lv_at hl 1 rfl) ?_
                refine lv_if_ne (tgt := 104) hx hb dX3_room_97 (by decide) (fun c72 => ?_) (fun c72 => absurd c72 (by decide))
                refine lv_iconst (v := zI 0) hx hb dX3_room_104 (by decide) ?_
                obtain ⟨z73, hz74, hf⟩ := bd hf
                refine vz_call (rest := [.ref (a 0)]) X (kX3_pick hz74) (cwV 2 hts gX3_room_X3_pick rfl rfl rfl (by decide +kernel) ⟨Nat.le_of_ble_eq_true rfl, Nat.le_of_ble_eq_true rfl⟩) 0 3 rfl rfl rfl hl.1 rfl (Nat.le_of_ble_eq_true rfl) dX3_room_105 ⟨Nat.zero_le _, Nat.zero_le _⟩ hP hD hS (fun H locs hP hD hS => ?_)
                obtain ⟨z75, hz76, hf⟩ := bd hf
                refine vz_call (rest := []) X (kX3_collect hz76) (cwV 1 hts gX3_room_X3_collect rfl rfl rfl (by decide +kernel) ⟨Nat.le_of_ble_eq_true rfl, Nat.le_of_ble_eq_true rfl⟩) 0 3 rfl rfl rfl hl.1 rfl (Nat.le_of_ble_eq_true rfl) dX3_room_108 ⟨Nat.zero_le _, Nat.zero_le _⟩ hP hD hS (fun H locs hP hD hS => ?_)
                refine lv_if_ne (tgt := 116) hx hb dX3_room_111 (by decide) (fun c77 => ?_) (fun c77 => ?_)
                · have hf := iff_ c77 hf
                  refine lv_iinc (v := x2 + (zI 1)) (lv' := [(2, .int (x2 + (zI 1))), (1, .int (zI 1)), (4, .int (zI 1)), (3, .int (zI 1)), (0, .ref (a 0))]) hx hb dX3_room_116 hl (k := 4) rfl rfl (by decide) rfl (fun ls hl => ?_)
                  refine lv_goto (tgt := 4) hx hb dX3_room_119 (by decide) ?_
                  exact ih (zI 1) (x2 + (zI 1)) z75.2 _ _ _ _ _ hf hP hD hS (lv_sub hl [4, 1, 0] rfl)
                · have hf := ift c77 hf
                  refine lv_iconst (v := zI 0) hx hb dX3_room_114 (by decide) ?_
                  cases hf
                  exact vz_zret X rfl hP hD hS dX3_room_115
set_option maxHeartbeats 4000000 in
set_option maxRecDepth 100000 in
theorem lbX3_room_e {K : Nat} (X : vzX D (MT cA) A wsX3_room cX3_room 5 (some .boolean) RX3 p s m args meth c) : ∀ (u : MU) (H : Heap) (locs : List Loc) (ls : Array Slot) (r : Int32) (u2 : MU), fX3_room n K u = some (r, u2) → va_P D vwCl (MW a n cA u) H → va_D A (MW a n cA u) → va_S A s.heap H locs → lv_has ls 5 [(0, .ref (a 0))] → W p l e (headSpec wsX3_room rmX3_room).room s m args below meth c H locs 0 0 (MQ below (vzQ D (MT cA) (MW a n cA) A r u2) args s 0 0 A) (F0 m 0 ls []) := by
  obtain ⟨hx, hb, hr, hml, hown, hts, hlk, hN, hK, hA⟩ := id X
  intro u H locs ls r u2 hf hP hD hS hl
  unfold fX3_room at hf
  refine lv_iconst (v := zI 0) hx hb dX3_room_0 (by decide) ?_
  refine lv_istore_n (lv' := [(1, .int (zI 0)), (0, .ref (a 0))]) hx hb dX3_room_1 rfl hl (by decide) rfl (fun ls hl => ?_)
  refine lv_iconst (v := zI 0) hx hb dX3_room_2 (by decide) ?_
  refine lv_istore_n (lv' := [(2, .int (zI 0)), (1, .int (zI 0)), (0, .ref (a 0))]) hx hb dX3_room_3 rfl hl (by decide) rfl (fun ls hl => ?_)
  exact lbX3_room_4 X K (zI 0) (zI 0) u _ _ _ _ _ hf hP hD hS (lv_sub hl [2, 1, 0] rfl)
end
theorem kX3_room {l : Launch} {D : va_G} {a n : Nat → Nat} {cA : Nat → ClassId} {K : Nat} {u : MU} {r : Int32} {u2 : MU} (h : fX3_room n K u = some (r, u2)) : vzC l D (MT cA) (MW a n cA) yX3_room wsX3_room rmX3_room [.ref (a 0)] u r u2 := vzC.of (by decide) rfl (Nat.le_of_ble_eq_true rfl) (fun p e s m below meth c A ls X hP hD hl => lbX3_room_e X u s.heap [] ls r u2 h hP hD va_S.rf hl)
end
section
abbrev rmX3_store : Room := { frames := 5, cells := 0, slots := 0, locals := 117 }
theorem in_X3_store_X3 : ∀ w ∈ u_ws RX3 TX3 16, w ∈ wsX3_store := fun _ h => List.mem_cons_of_mem _ (List.mem_append_right _ h)
def fX3_store_46 (n : Nat → Nat) (K : Nat) : Nat → Int32 → MU → Option (Int32 × MU)
  | 0, _, _ => none
  | N + 1, x1, u => if (mu_ent u) ≤ x1 then (some (zI 1, u)) else (vg (x1 + (zI 1)) (n 6) (vg x1 (n 6) (vg (x1 + (zI 1)) (n 7) (vg x1 (n 7) (vg (x1 + (zI 1)) (n 8) (vg x1 (n 8) (fX3_store_46 n K N (x1 + (zI 1)) (mu_s_eso (mu_s_eva (mu_s_ese u (upd (mu_ese u) (x1).toNatClampNeg ((mu_ese u) ((x1 + (zI 1))).toNatClampNeg))) (upd (mu_eva u) (x1).toNatClampNeg ((mu_eva u) ((x1 + (zI 1))).toNatClampNeg))) (upd (mu_eso u) (x1).toNatClampNeg ((mu_eso u) ((x1 + (zI 1))).toNatClampNeg))))))))))
def fX3_store (n : Nat → Nat) (K : Nat) (u : MU) : Option (Int32 × MU) := (fX3_room n K u).bind fun z1 => (if z1.1 = 0 then (some (zI 0, z1.2)) else (vg (zI 0) (n 6) (vg (zI 0) (n 7) (vg (zI 0) (n 8) ((fX3_put n K ((mu_ese z1.2) ((zI 0)).toNatClampNeg) ((mu_eva z1.2) ((zI 0)).toNatClampNeg) ((mu_eso z1.2) ((zI 0)).toNatClampNeg) z1.2).bind fun z7 => (if z7.1 = 0 then (some (zI 0, z7.2)) else (fX3_store_46 n K K (zI 0) (mu_s_ent z7.2 ((mu_ent z7.2) - (zI 1))))))))))
section
variable {p : Program} {l : Launch} {e : Env} {s : State} {m : MethodId} {args : Array Value} {below : List Frame} {meth : Method} {c : Code} {D : va_G} {a n : Nat → Nat} {cA : Nat → ClassId} {A : Nat → Prop}
set_option maxHeartbeats 4000000 in
set_option maxRecDepth 100000 in
theorem lbX3_store_46 {K : Nat} (X : vzX D (MT cA) A wsX3_store cX3_store 2 (some .boolean) RX3 p s m args meth c) : ∀ (N : Nat) (x1 : Int32) (u : MU) (H : Heap) (locs : List Loc) (ls : Array Slot) (r : Int32) (u2 : MU), fX3_store_46 n K N x1 u = some (r, u2) → va_P D vwCl (MW a n cA u) H → va_D A (MW a n cA u) → va_S A s.heap H locs → lv_has ls 2 [(0, .ref (a 0)), (1, .int x1)] → W p l e (headSpec wsX3_store rmX3_store).room s m args below meth c H locs 0 0 (MQ below (vzQ D (MT cA) (MW a n cA) A r u2) args s 0 0 A) (F0 m 46 ls []) := by
  obtain ⟨hx, hb, hr, hml, hown, hts, hlk, hN, hK, hA⟩ := id X
  intro N
  induction N with
  | zero =>
    intro x1 u H locs ls r u2 hf
    cases hf
  | succ N ih =>
    intro x1 u H locs ls r u2 hf hP hD hS hl
    rw [fX3_store_46] at hf
    refine lv_iload_n hx hb dX3_store_46 rfl (lv_at hl 1 rfl) ?_
    refine lv_aload_n hx hb dX3_store_47 rfl (lv_at hl 0 rfl) ?_
    refine va_get (D := D) (ci := 3) (v := .int (mu_ent u)) (C := RX3) (T := TX3) (N := 16) hx hb hts in_X3_store_X3 hown hK hP 0 rfl rfl 12 (by decide) (hts _ (List.mem_of_getElem? (i := 4) rfl)) (fun _ h9 => h9) rfl dX3_store_48 ?_
    refine lv_icmp_ge (tgt := 102) hx hb dX3_store_51 (by decide) (fun c10 => ?_) (fun c10 => ?_)
    · have hf := ift c10 hf
      refine lv_iconst (v := zI 1) hx hb dX3_store_102 (by decide) ?_
      cases hf
      exact vz_zret X rfl hP hD hS dX3_store_103
    · have hf := iff_ c10 hf
      refine lv_aload_n hx hb dX3_store_54 rfl (lv_at hl 0 rfl) ?_
      refine va_get (D := D) (ci := 3) (v := .ref (a 6)) (C := RX3) (T := TX3) (N := 16) hx hb hts in_X3_store_X3 hown hK hP 0 rfl rfl 13 (by decide) (hts _ (List.mem_of_getElem? (i := 1) rfl)) (fun _ h9 => h9) rfl dX3_store_55 ?_
      refine lv_iload_n hx hb dX3_store_58 rfl (lv_at hl 1 rfl) ?_
      refine lv_aload_n hx hb dX3_store_59 rfl (lv_at hl 0 rfl) ?_
      refine va_get (D := D) (ci := 3) (v := .ref (a 6)) (C := RX3) (T := TX3) (N := 16) hx hb hts in_X3_store_X3 hown hK hP 0 rfl rfl 13 (by decide) (hts _ (List.mem_of_getElem? (i := 1) rfl)) (fun _ h9 => h9) rfl dX3_store_60 ?_
      refine lv_iload_n hx hb dX3_store_63 rfl (lv_at hl 1 rfl) ?_
      refine lv_iconst (v := zI 1) hx hb dX3_store_64 (by decide) ?_
      refine lv_iadd hx hb dX3_store_65 ?_
      obtain ⟨g11, hf⟩ := vgs hf
      refine va_iald hx hb hK hP 6 5 rfl rfl g11 dX3_store_66 ?_
      obtain ⟨g12, hf⟩ := vgs hf
      refine va_iast hx hb hK hP hD hS 6 5 rfl rfl g12 dX3_store_67 (fun H locs hP hD hS => ?_)
      have hP : va_P D vwCl (MW a n cA (mu_s_ese u (upd (mu_ese u) (x1).toNatClampNeg ((mu_ese u) ((x1 + (zI 1))).toNatClampNeg)))) H := hP
      have hD : va_D A (MW a n cA (mu_s_ese u (upd (mu_ese u) (x1).toNatClampNeg ((mu_ese u) ((x1 + (zI 1))).toNatClampNeg)))) := hD
      refine lv_aload_n hx hb dX3_store_68 rfl (lv_at hl 0 rfl) ?_
      refine va_get (D := D) (ci := 3) (v := .ref (a 7)) (C := RX3) (T := TX3) (N := 16) hx hb hts in_X3_store_X3 hown hK hP 0 rfl rfl 14 (by decide) (hts _ (List.mem_of_getElem? (i := 2) rfl)) (fun _ h9 => h9) rfl dX3_store_69 ?_
      refine lv_iload_n hx hb dX3_store_72 rfl (lv_at hl 1 rfl) ?_
      refine lv_aload_n hx hb dX3_store_73 rfl (lv_at hl 0 rfl) ?_
      refine va_get (D := D) (ci := 3) (v := .ref (a 7)) (C := RX3) (T := TX3) (N := 16) hx hb hts in_X3_store_X3 hown hK hP 0 rfl rfl 14 (by decide) (hts _ (List.mem_of_getElem? (i := 2) rfl)) (fun _ h9 => h9) rfl dX3_store_74 ?_
      refine lv_iload_n hx hb dX3_store_77 rfl (lv_at hl 1 rfl) ?_
      refine lv_iconst (v := zI 1) hx hb dX3_store_78 (by decide) ?_
      refine lv_iadd hx hb dX3_store_79 ?_
      obtain ⟨g13, hf⟩ := vgs hf
      refine va_iald hx hb hK hP 7 6 rfl rfl g13 dX3_store_80 ?_
      obtain ⟨g14, hf⟩ := vgs hf
      refine va_iast hx hb hK hP hD hS 7 6 rfl rfl g14 dX3_store_81 (fun H locs hP hD hS => ?_)
      have hP : va_P D vwCl (MW a n cA (mu_s_eva (mu_s_ese u (upd (mu_ese u) (x1).toNatClampNeg ((mu_ese u) ((x1 + (zI 1))).toNatClampNeg))) (upd (mu_eva u) (x1).toNatClampNeg ((mu_eva u) ((x1 + (zI 1))).toNatClampNeg)))) H := hP
      have hD : va_D A (MW a n cA (mu_s_eva (mu_s_ese u (upd (mu_ese u) (x1).toNatClampNeg ((mu_ese u) ((x1 + (zI 1))).toNatClampNeg))) (upd (mu_eva u) (x1).toNatClampNeg ((mu_eva u) ((x1 + (zI 1))).toNatClampNeg)))) := hD
      refine lv_aload_n hx hb dX3_store_82 rfl (lv_at hl 0 rfl) ?_
      refine va_get (D := D) (ci := 3) (v := .ref (a 8)) (C := RX3) (T := TX3) (N := 16) hx hb hts in_X3_store_X3 hown hK hP 0 rfl rfl 15 (by decide) (hts _ (List.mem_of_getElem? (i := 3) rfl)) (fun _ h9 => h9) rfl dX3_store_83 ?_
      refine lv_iload_n hx hb dX3_store_86 rfl (lv_at hl 1 rfl) ?_
      refine lv_aload_n hx hb dX3_store_87 rfl (lv_at hl 0 rfl) ?_
      refine va_get (D := D) (ci := 3) (v := .ref (a 8)) (C := RX3) (T := TX3) (N := 16) hx hb hts in_X3_store_X3 hown hK hP 0 rfl rfl 15 (by decide) (hts _ (List.mem_of_getElem? (i := 3) rfl)) (fun _ h9 => h9) rfl dX3_store_88 ?_
      refine lv_iload_n hx hb dX3_store_91 rfl (lv_at hl 1 rfl) ?_
      refine lv_iconst (v := zI 1) hx hb dX3_store_92 (by decide) ?_
      refine lv_iadd hx hb dX3_store_93 ?_
      obtain ⟨g15, hf⟩ := vgs hf
      refine va_iald hx hb hK hP 8 7 rfl rfl g15 dX3_store_94 ?_
      obtain ⟨g16, hf⟩ := vgs hf
      refine va_iast hx hb hK hP hD hS 8 7 rfl rfl g16 dX3_store_95 (fun H locs hP hD hS => ?_)
      have hP : va_P D vwCl (MW a n cA (mu_s_eso (mu_s_eva (mu_s_ese u (upd (mu_ese u) (x1).toNatClampNeg ((mu_ese u) ((x1 + (zI 1))).toNatClampNeg))) (upd (mu_eva u) (x1).toNatClampNeg ((mu_eva u) ((x1 + (zI 1))).toNatClampNeg))) (upd (mu_eso u) (x1).toNatClampNeg ((mu_eso u) ((x1 + (zI 1))).toNatClampNeg)))) H := hP
      have hD : va_D A (MW a n cA (mu_s_eso (mu_s_eva (mu_s_ese u (upd (mu_ese u) (x1).toNatClampNeg ((mu_ese u) ((x1 + (zI 1))).toNatClampNeg))) (upd (mu_eva u) (x1).toNatClampNeg ((mu_eva u) ((x1 + (zI 1))).toNatClampNeg))) (upd (mu_eso u) (x1).toNatClampNeg ((mu_eso u) ((x1 + (zI 1))).toNatClampNeg)))) := hD
      refine lv_iinc (v := x1 + (zI 1)) (lv' := [(1, .int (x1 + (zI 1))), (0, .ref (a 0))]) hx hb dX3_store_96 hl (k := 1) rfl rfl (by decide) rfl (fun ls hl => ?_)
      refine lv_goto (tgt := 46) hx hb dX3_store_99 (by decide) ?_
      exact ih (x1 + (zI 1)) (mu_s_eso (mu_s_eva (mu_s_ese u (upd (mu_ese u) (x1).toNatClampNeg ((mu_ese u) ((x1 + (zI 1))).toNatClampNeg))) (upd (mu_eva u) (x1).toNatClampNeg ((mu_eva u) ((x1 + (zI 1))).toNatClampNeg))) (upd (mu_eso u) (x1).toNatClampNeg ((mu_eso u) ((x1 + (zI 1))).toNatClampNeg))) _ _ _ _ _ hf hP hD hS (lv_sub hl [1, 0] rfl)
set_option maxHeartbeats 4000000 in
set_option maxRecDepth 100000 in
theorem lbX3_store_e {K : Nat} (X : vzX D (MT cA) A wsX3_store cX3_store 2 (some .boolean) RX3 p s m args meth c) : ∀ (u : MU) (H : Heap) (locs : List Loc) (ls : Array Slot) (r : Int32) (u2 : MU), fX3_store n K u = some (r, u2) → va_P D vwCl (MW a n cA u) H → va_D A (MW a n cA u) → va_S A s.heap H locs → lv_has ls 2 [(0, .ref (a 0))] → W p l e (headSpec wsX3_store rmX3_store).room s m args below meth c H locs 0 0 (MQ below (vzQ D (MT cA) (MW a n cA) A r u2) args s 0 0 A) (F0 m 0 ls []) := by
  obtain ⟨hx, hb, hr, hml, hown, hts, hlk, hN, hK, hA⟩ := id X
  intro u H locs ls r u2 hf hP hD hS hl
  unfold fX3_store at hf
  refine lv_aload_n hx hb dX3_store_0 rfl (lv_at hl 0 rfl) ?_
  obtain ⟨z1, hz2, hf⟩ := bd hf
  refine vz_call (rest := []) X (kX3_room hz2) (cwV 0 hts gX3_store_X3_room rfl rfl rfl (by decide +kernel) ⟨Nat.le_of_ble_eq_true rfl, Nat.le_of_ble_eq_true rfl⟩) 0 3 rfl rfl rfl hl.1 rfl (Nat.le_of_ble_eq_true rfl) dX3_store_1 ⟨Nat.zero_le _, Nat.zero_le _⟩ hP hD hS (fun H locs hP hD hS => ?_)
  refine lv_if_eq (tgt := 32) hx hb dX3_store_4 (by decide) (fun c3 => ?_) (fun c3 => ?_)
  · have hf := ift c3 hf
    refine lv_iconst (v := zI 0) hx hb dX3_store_32 (by decide) ?_
    cases hf
    exact vz_zret X rfl hP hD hS dX3_store_33
  · have hf := iff_ c3 hf
    refine lv_aload_n hx hb dX3_store_7 rfl (lv_at hl 0 rfl) ?_
    refine lv_aload_n hx hb dX3_store_8 rfl (lv_at hl 0 rfl) ?_
    refine va_get (D := D) (ci := 3) (v := .ref (a 6)) (C := RX3) (T := TX3) (N := 16) hx hb hts in_X3_store_X3 hown hK hP 0 rfl rfl 13 (by decide) (hts _ (List.mem_of_getElem? (i := 1) rfl)) (fun _ h9 => h9) rfl dX3_store_9 ?_
    refine lv_iconst (v := zI 0) hx hb dX3_store_12 (by decide) ?_
    obtain ⟨g4, hf⟩ := vgs hf
    refine va_iald hx hb hK hP 6 5 rfl rfl g4 dX3_store_13 ?_
    refine lv_aload_n hx hb dX3_store_14 rfl (lv_at hl 0 rfl) ?_
    refine va_get (D := D) (ci := 3) (v := .ref (a 7)) (C := RX3) (T := TX3) (N := 16) hx hb hts in_X3_store_X3 hown hK hP 0 rfl rfl 14 (by decide) (hts _ (List.mem_of_getElem? (i := 2) rfl)) (fun _ h9 => h9) rfl dX3_store_15 ?_
    refine lv_iconst (v := zI 0) hx hb dX3_store_18 (by decide) ?_
    obtain ⟨g5, hf⟩ := vgs hf
    refine va_iald hx hb hK hP 7 6 rfl rfl g5 dX3_store_19 ?_
    refine lv_aload_n hx hb dX3_store_20 rfl (lv_at hl 0 rfl) ?_
    refine va_get (D := D) (ci := 3) (v := .ref (a 8)) (C := RX3) (T := TX3) (N := 16) hx hb hts in_X3_store_X3 hown hK hP 0 rfl rfl 15 (by decide) (hts _ (List.mem_of_getElem? (i := 3) rfl)) (fun _ h9 => h9) rfl dX3_store_21 ?_
    refine lv_iconst (v := zI 0) hx hb dX3_store_24 (by decide) ?_
    obtain ⟨g6, hf⟩ := vgs hf
    refine va_iald hx hb hK hP 8 7 rfl rfl g6 dX3_store_25 ?_
    obtain ⟨z7, hz8, hf⟩ := bd hf
    refine vz_call (rest := []) X (kX3_put hz8) (cwV 3 hts gX3_store_X3_put rfl rfl rfl (by decide +kernel) ⟨Nat.le_of_ble_eq_true rfl, Nat.le_of_ble_eq_true rfl⟩) 0 3 rfl rfl rfl hl.1 rfl (Nat.le_of_ble_eq_true rfl) dX3_store_26 ⟨Nat.zero_le _, Nat.zero_le _⟩ hP hD hS (fun H locs hP hD hS => ?_)
    refine lv_if_ne (tgt := 34) hx hb dX3_store_29 (by decide) (fun c9 => ?_) (fun c9 => ?_)
    · have hf := iff_ c9 hf
      refine lv_aload_n hx hb dX3_store_34 rfl (lv_at hl 0 rfl) ?_
      refine lv_dup hx hb dX3_store_35 rfl ?_
      refine va_get (D := D) (ci := 3) (v := .int (mu_ent z7.2)) (C := RX3) (T := TX3) (N := 16) hx hb hts in_X3_store_X3 hown hK hP 0 rfl rfl 12 (by decide) (hts _ (List.mem_of_getElem? (i := 4) rfl)) (fun _ h9 => h9) rfl dX3_store_36 ?_
      refine lv_iconst (v := zI 1) hx hb dX3_store_39 (by decide) ?_
      refine lv_isub hx hb dX3_store_40 ?_
      refine va_put (D := D) (ci := 3) (v := .int ((mu_ent z7.2) - (zI 1))) (ty := .int) (C := RX3) (T := TX3) (N := 16) hx hb hts in_X3_store_X3 tyX3 tyX3_ok nmX3 hown hK hP hD hS 0 rfl rfl 12 (by decide) (hts _ (List.mem_of_getElem? (i := 4) rfl)) (fun _ h9 => h9) rfl (by decide +kernel) rfl rfl (Nat.le_of_ble_eq_true rfl) dX3_store_41 (fun H locs hP hD hS => ?_)
      have hP : va_P D vwCl (MW a n cA (mu_s_ent z7.2 ((mu_ent z7.2) - (zI 1)))) H := hP
      have hD : va_D A (MW a n cA (mu_s_ent z7.2 ((mu_ent z7.2) - (zI 1)))) := hD
      refine lv_iconst (v := zI 0) hx hb dX3_store_44 (by decide) ?_
      refine lv_istore_n (lv' := [(1, .int (zI 0)), (0, .ref (a 0))]) hx hb dX3_store_45 rfl hl (by decide) rfl (fun ls hl => ?_)
      exact lbX3_store_46 X K (zI 0) (mu_s_ent z7.2 ((mu_ent z7.2) - (zI 1))) _ _ _ _ _ hf hP hD hS (lv_sub hl [1, 0] rfl)
    · have hf := ift c9 hf
      refine lv_iconst (v := zI 0) hx hb dX3_store_32 (by decide) ?_
      cases hf
      exact vz_zret X rfl hP hD hS dX3_store_33
end
theorem kX3_store {l : Launch} {D : va_G} {a n : Nat → Nat} {cA : Nat → ClassId} {K : Nat} {u : MU} {r : Int32} {u2 : MU} (h : fX3_store n K u = some (r, u2)) : vzC l D (MT cA) (MW a n cA) yX3_store wsX3_store rmX3_store [.ref (a 0)] u r u2 := vzC.of (by decide) rfl (Nat.le_of_ble_eq_true rfl) (fun p e s m below meth c A ls X hP hD hl => lbX3_store_e X u s.heap [] ls r u2 h hP hD va_S.rf hl)
abbrev rmX3_cut : Room := { frames := 4, cells := 0, slots := 0, locals := 93 }
theorem in_X3_cut_X3 : ∀ w ∈ u_ws RX3 TX3 16, w ∈ wsX3_cut := fun _ h => List.mem_cons_of_mem _ (List.mem_append_right _ h)
def fX3_cut_77 (n : Nat → Nat) (K : Nat) (kk : MU → Option MU) : Nat → Int32 → MU → Option MU
  | 0, _, _ => none
  | N + 1, x1, u => if ((zI 4) * (mu_blk u)) ≤ x1 then ((fX3_freeBlocks n K u).bind fun z4 => (if 0 < z4.1 then (kk (mu_s_gon z4.2 (zI 0))) else ((fX3_pick n K (zI 4) (zI 1) z4.2).bind fun z8 => ((fX3_collect n K z8.1 z8.2).bind fun z10 => (if z10.1 = 0 then (kk (mu_s_gon z10.2 (zI 1))) else (kk (mu_s_gon z10.2 (zI 0)))))))) else (vg x1 (n 1) (if ((mu_sec u) x1.toNatClampNeg) = (zI (-1)) then (fX3_cut_77 n K kk N (x1 + (zI 1)) (mu_s_nxt u (mu_nxt u))) else (vg x1 (n 3) (if ((mu_ser u) x1.toNatClampNeg) < (mu_nxt u) then (fX3_cut_77 n K kk N (x1 + (zI 1)) (mu_s_nxt u (mu_nxt u))) else (vg x1 (n 3) (fX3_cut_77 n K kk N (x1 + (zI 1)) (mu_s_nxt u (((mu_ser u) x1.toNatClampNeg) + (zI 1)))))))))
def fX3_cut_34 (n : Nat → Nat) (K : Nat) (kk : MU → Option MU) : Nat → Int32 → MU → Option MU
  | 0, _, _ => none
  | N + 1, x1, u => if (mu_blk u) ≤ x1 then (fX3_cut_77 n K kk K (zI 0) u) else ((fX3_programmed n K x1 u).bind fun z20 => (if z20.1 ≤ 0 then (fX3_cut_34 n K kk N (x1 + (zI 1)) (mu_s_opn z20.2 (mu_opn z20.2))) else (if (zI 4) ≤ z20.1 then (fX3_cut_34 n K kk N (x1 + (zI 1)) (mu_s_opn z20.2 (mu_opn z20.2))) else (fX3_cut_34 n K kk N (x1 + (zI 1)) (mu_s_opn z20.2 x1)))))
def fX3_cut_5 (n : Nat → Nat) (K : Nat) : Nat → MU → Option MU
  | 0, _ => none
  | N + 1, u => if (mu_gon u) = 0 then (some u) else (fX3_cut_34 n K (fX3_cut_5 n K N) K (zI 0) (mu_s_nxt (mu_s_opn (mu_s_ent (mu_s_gon u (zI 0)) (zI 0)) (zI (-1))) (zI 0)))
def fX3_cut (n : Nat → Nat) (K : Nat) (u : MU) : Option MU := fX3_cut_5 n K K (mu_s_gon u (zI 1))
section
variable {p : Program} {l : Launch} {e : Env} {s : State} {m : MethodId} {args : Array Value} {below : List Frame} {meth : Method} {c : Code} {D : va_G} {a n : Nat → Nat} {cA : Nat → ClassId} {A : Nat → Prop}
set_option maxHeartbeats 4000000 in
set_option maxRecDepth 100000 in
theorem lbX3_cut_77 {K : Nat} (X : vzX D (MT cA) A wsX3_cut cX3_cut 3 none RX3 p s m args meth c) {kk : MU → Option MU} (hk : ∀ (u : MU) (H : Heap) (locs : List Loc) (ls : Array Slot) (u2 : MU), kk u = some u2 → va_P D vwCl (MW a n cA u) H → va_D A (MW a n cA u) → va_S A s.heap H locs → lv_has ls 3 [(0, .ref (a 0))] → W p l e (headSpec wsX3_cut rmX3_cut).room s m args below meth c H locs 0 0 (MQ below (vzQv D (MT cA) (MW a n cA) A u2) args s 0 0 A) (F0 m 5 ls [])) : ∀ (N : Nat) (x1 : Int32) (u : MU) (H : Heap) (locs : List Loc) (ls : Array Slot) (u2 : MU), fX3_cut_77 n K kk N x1 u = some u2 → va_P D vwCl (MW a n cA u) H → va_D A (MW a n cA u) → va_S A s.heap H locs → lv_has ls 3 [(0, .ref (a 0)), (1, .int x1)] → W p l e (headSpec wsX3_cut rmX3_cut).room s m args below meth c H locs 0 0 (MQ below (vzQv D (MT cA) (MW a n cA) A u2) args s 0 0 A) (F0 m 77 ls []) := by
  obtain ⟨hx, hb, hr, hml, hown, hts, hlk, hN, hK, hA⟩ := id X
  intro N
  induction N with
  | zero =>
    intro x1 u H locs ls u2 hf
    cases hf
  | succ N ih =>
    intro x1 u H locs ls u2 hf hP hD hS hl
    rw [fX3_cut_77] at hf
    refine lv_iload_n hx hb dX3_cut_77 rfl (lv_at hl 1 rfl) ?_
    refine lv_iconst (v := zI 4) hx hb dX3_cut_78 (by decide) ?_
    refine lv_aload_n hx hb dX3_cut_79 rfl (lv_at hl 0 rfl) ?_
    refine va_get (D := D) (ci := 3) (v := .int (mu_blk u)) (C := RX3) (T := TX3) (N := 16) hx hb hts in_X3_cut_X3 hown hK hP 0 rfl rfl 0 (by decide) (hts _ (List.mem_of_getElem? (i := 5) rfl)) (fun _ h9 => h9) rfl dX3_cut_80 ?_
    refine lv_imul hx hb dX3_cut_83 ?_
    refine lv_icmp_ge (tgt := 135) hx hb dX3_cut_84 (by decide) (fun c3 => ?_) (fun c3 => ?_)
    · have hf := ift c3 hf
      refine lv_aload_n hx hb dX3_cut_135 rfl (lv_at hl 0 rfl) ?_
      obtain ⟨z4, hz5, hf⟩ := bd hf
      refine vz_call (rest := []) X (kX3_freeBlocks hz5) (cwV 0 hts gX3_cut_X3_freeBlocks rfl rfl rfl (by decide +kernel) ⟨Nat.le_of_ble_eq_true rfl, Nat.le_of_ble_eq_true rfl⟩) 0 3 rfl rfl rfl hl.1 rfl (Nat.le_of_ble_eq_true rfl) dX3_cut_136 ⟨Nat.zero_le _, Nat.zero_le _⟩ hP hD hS (fun H locs hP hD hS => ?_)
      refine lv_if_gt (tgt := 155) hx hb dX3_cut_139 (by decide) (fun c6 => ?_) (fun c6 => ?_)
      · have hf := ift c6 hf
        refine lv_iconst (v := zI 1) hx hb dX3_cut_155 (by decide) ?_
        refine lv_goto (tgt := 160) hx hb dX3_cut_156 (by decide) ?_
        refine lv_istore_n (lv' := [(1, .int (zI 1)), (0, .ref (a 0))]) hx hb dX3_cut_160 rfl hl (by decide) rfl (fun ls hl => ?_)
        refine lv_aload_n hx hb dX3_cut_161 rfl (lv_at hl 1 rfl) ?_
        refine lv_iload_n hx hb dX3_cut_162 rfl (lv_at hl 0 rfl) ?_
        refine lv_if_ne (tgt := 170) hx hb dX3_cut_163 (by decide) (fun c7 => ?_) (fun c7 => absurd c7 (by decide))
        refine lv_iconst (v := zI 0) hx hb dX3_cut_170 (by decide) ?_
        refine va_put (D := D) (ci := 3) (v := .int (zI 0)) (ty := .boolean) (C := RX3) (T := TX3) (N := 16) hx hb hts in_X3_cut_X3 tyX3 tyX3_ok nmX3 hown hK hP hD hS 0 rfl rfl 11 (by decide) (hts _ (List.mem_of_getElem? (i := 1) rfl)) (fun _ h9 => h9) rfl (by decide +kernel) rfl rfl (Nat.le_of_ble_eq_true rfl) dX3_cut_171 (fun H locs hP hD hS => ?_)
        have hP : va_P D vwCl (MW a n cA (mu_s_gon z4.2 (zI 0))) H := hP
        have hD : va_D A (MW a n cA (mu_s_gon z4.2 (zI 0))) := hD
        refine lv_goto (tgt := 5) hx hb dX3_cut_174 (by decide) ?_
        exact hk (mu_s_gon z4.2 (zI 0)) _ _ _ _ hf hP hD hS (lv_sub hl [1] rfl)
      · have hf := iff_ c6 hf
        refine lv_aload_n hx hb dX3_cut_142 rfl (lv_at hl 0 rfl) ?_
        refine lv_aload_n hx hb dX3_cut_143 rfl (lv_at hl 0 rfl) ?_
        refine lv_iconst (v := zI 4) hx hb dX3_cut_144 (by decide) ?_
        refine lv_iconst (v := zI 1) hx hb dX3_cut_145 (by decide) ?_
        obtain ⟨z8, hz9, hf⟩ := bd hf
        refine vz_call (rest := [.ref (a 0)]) X (kX3_pick hz9) (cwV 2 hts gX3_cut_X3_pick rfl rfl rfl (by decide +kernel) ⟨Nat.le_of_ble_eq_true rfl, Nat.le_of_ble_eq_true rfl⟩) 0 3 rfl rfl rfl hl.1 rfl (Nat.le_of_ble_eq_true rfl) dX3_cut_146 ⟨Nat.zero_le _, Nat.zero_le _⟩ hP hD hS (fun H locs hP hD hS => ?_)
        obtain ⟨z10, hz11, hf⟩ := bd hf
        refine vz_call (rest := []) X (kX3_collect hz11) (cwV 1 hts gX3_cut_X3_collect rfl rfl rfl (by decide +kernel) ⟨Nat.le_of_ble_eq_true rfl, Nat.le_of_ble_eq_true rfl⟩) 0 3 rfl rfl rfl hl.1 rfl (Nat.le_of_ble_eq_true rfl) dX3_cut_149 ⟨Nat.zero_le _, Nat.zero_le _⟩ hP hD hS (fun H locs hP hD hS => ?_)
        refine lv_if_eq (tgt := 159) hx hb dX3_cut_152 (by decide) (fun c12 => ?_) (fun c12 => ?_)
        · have hf := ift c12 hf
          refine lv_iconst (v := zI 0) hx hb dX3_cut_159 (by decide) ?_
          refine lv_istore_n (lv' := [(1, .int (zI 0)), (0, .ref (a 0))]) hx hb dX3_cut_160 rfl hl (by decide) rfl (fun ls hl => ?_)
          refine lv_aload_n hx hb dX3_cut_161 rfl (lv_at hl 1 rfl) ?_
          refine lv_iload_n hx hb dX3_cut_162 rfl (lv_at hl 0 rfl) ?_
          refine lv_if_ne (tgt := 170) hx hb dX3_cut_163 (by decide) (fun c13 => absurd (by decide) c13) (fun c13 => ?_)
          refine lv_iconst (v := zI 1) hx hb dX3_cut_166 (by decide) ?_
          refine lv_goto (tgt := 171) hx hb dX3_cut_167 (by decide) ?_
          refine va_put (D := D) (ci := 3) (v := .int (zI 1)) (ty := .boolean) (C := RX3) (T := TX3) (N := 16) hx hb hts in_X3_cut_X3 tyX3 tyX3_ok nmX3 hown hK hP hD hS 0 rfl rfl 11 (by decide) (hts _ (List.mem_of_getElem? (i := 1) rfl)) (fun _ h9 => h9) rfl (by decide +kernel) rfl rfl (Nat.le_of_ble_eq_true rfl) dX3_cut_171 (fun H locs hP hD hS => ?_)
          have hP : va_P D vwCl (MW a n cA (mu_s_gon z10.2 (zI 1))) H := hP
          have hD : va_D A (MW a n cA (mu_s_gon z10.2 (zI 1))) := hD
          refine lv_goto (tgt := 5) hx hb dX3_cut_174 (by decide) ?_
          exact hk (mu_s_gon z10.2 (zI 1)) _ _ _ _ hf hP hD hS (lv_sub hl [1] rfl)
        · have hf := iff_ c12 hf
          refine lv_iconst (v := zI 1) hx hb dX3_cut_155 (by decide) ?_
          refine lv_goto (tgt := 160) hx hb dX3_cut_156 (by decide) ?_
          refine lv_istore_n (lv' := [(1, .int (zI 1)), (0, .ref (a 0))]) hx hb dX3_cut_160 rfl hl (by decide) rfl (fun ls hl => ?_)
          refine lv_aload_n hx hb dX3_cut_161 rfl (lv_at hl 1 rfl) ?_
          refine lv_iload_n hx hb dX3_cut_162 rfl (lv_at hl 0 rfl) ?_
          refine lv_if_ne (tgt := 170) hx hb dX3_cut_163 (by decide) (fun c14 => ?_) (fun c14 => absurd c14 (by decide))
          refine lv_iconst (v := zI 0) hx hb dX3_cut_170 (by decide) ?_
          refine va_put (D := D) (ci := 3) (v := .int (zI 0)) (ty := .boolean) (C := RX3) (T := TX3) (N := 16) hx hb hts in_X3_cut_X3 tyX3 tyX3_ok nmX3 hown hK hP hD hS 0 rfl rfl 11 (by decide) (hts _ (List.mem_of_getElem? (i := 1) rfl)) (fun _ h9 => h9) rfl (by decide +kernel) rfl rfl (Nat.le_of_ble_eq_true rfl) dX3_cut_171 (fun H locs hP hD hS => ?_)
          have hP : va_P D vwCl (MW a n cA (mu_s_gon z10.2 (zI 0))) H := hP
          have hD : va_D A (MW a n cA (mu_s_gon z10.2 (zI 0))) := hD
          refine lv_goto (tgt := 5) hx hb dX3_cut_174 (by decide) ?_
          exact hk (mu_s_gon z10.2 (zI 0)) _ _ _ _ hf hP hD hS (lv_sub hl [1] rfl)
    · have hf := iff_ c3 hf
      refine lv_aload_n hx hb dX3_cut_87 rfl (lv_at hl 0 rfl) ?_
      refine lv_aload_n hx hb dX3_cut_88 rfl (lv_at hl 0 rfl) ?_
      refine va_get (D := D) (ci := 3) (v := .ref (a 1)) (C := RX3) (T := TX3) (N := 16) hx hb hts in_X3_cut_X3 hown hK hP 0 rfl rfl 2 (by decide) (hts _ (List.mem_of_getElem? (i := 6) rfl)) (fun _ h9 => h9) rfl dX3_cut_89 ?_
      refine lv_iload_n hx hb dX3_cut_92 rfl (lv_at hl 1 rfl) ?_
      obtain ⟨g15, hf⟩ := vgs hf
      refine va_iald hx hb hK hP 1 0 rfl rfl g15 dX3_cut_93 ?_
      refine lv_iconst (v := zI (-1)) hx hb dX3_cut_94 (by decide) ?_
      refine lv_icmp_eq (tgt := 122) hx hb dX3_cut_95 (by decide) (fun c16 => ?_) (fun c16 => ?_)
      · have hf := ift c16 hf
        refine lv_aload_n hx hb dX3_cut_122 rfl (lv_at hl 0 rfl) ?_
        refine va_get (D := D) (ci := 3) (v := .int (mu_nxt u)) (C := RX3) (T := TX3) (N := 16) hx hb hts in_X3_cut_X3 hown hK hP 0 rfl rfl 7 (by decide) (hts _ (List.mem_of_getElem? (i := 4) rfl)) (fun _ h9 => h9) rfl dX3_cut_123 ?_
        refine va_put (D := D) (ci := 3) (v := .int (mu_nxt u)) (ty := .int) (C := RX3) (T := TX3) (N := 16) hx hb hts in_X3_cut_X3 tyX3 tyX3_ok nmX3 hown hK hP hD hS 0 rfl rfl 7 (by decide) (hts _ (List.mem_of_getElem? (i := 4) rfl)) (fun _ h9 => h9) rfl (by decide +kernel) rfl rfl (Nat.le_of_ble_eq_true rfl) dX3_cut_126 (fun H locs hP hD hS => ?_)
        have hP : va_P D vwCl (MW a n cA (mu_s_nxt u (mu_nxt u))) H := hP
        have hD : va_D A (MW a n cA (mu_s_nxt u (mu_nxt u))) := hD
        refine lv_iinc (v := x1 + (zI 1)) (lv' := [(1, .int (x1 + (zI 1))), (0, .ref (a 0))]) hx hb dX3_cut_129 hl (k := 1) rfl rfl (by decide) rfl (fun ls hl => ?_)
        refine lv_goto (tgt := 77) hx hb dX3_cut_132 (by decide) ?_
        exact ih (x1 + (zI 1)) (mu_s_nxt u (mu_nxt u)) _ _ _ _ hf hP hD hS (lv_sub hl [1, 0] rfl)
      · have hf := iff_ c16 hf
        refine lv_aload_n hx hb dX3_cut_98 rfl (lv_at hl 0 rfl) ?_
        refine va_get (D := D) (ci := 3) (v := .ref (a 3)) (C := RX3) (T := TX3) (N := 16) hx hb hts in_X3_cut_X3 hown hK hP 0 rfl rfl 4 (by decide) (hts _ (List.mem_of_getElem? (i := 7) rfl)) (fun _ h9 => h9) rfl dX3_cut_99 ?_
        refine lv_iload_n hx hb dX3_cut_102 rfl (lv_at hl 1 rfl) ?_
        obtain ⟨g17, hf⟩ := vgs hf
        refine va_iald hx hb hK hP 3 2 rfl rfl g17 dX3_cut_103 ?_
        refine lv_aload_n hx hb dX3_cut_104 rfl (lv_at hl 0 rfl) ?_
        refine va_get (D := D) (ci := 3) (v := .int (mu_nxt u)) (C := RX3) (T := TX3) (N := 16) hx hb hts in_X3_cut_X3 hown hK hP 0 rfl rfl 7 (by decide) (hts _ (List.mem_of_getElem? (i := 4) rfl)) (fun _ h9 => h9) rfl dX3_cut_105 ?_
        refine lv_icmp_lt (tgt := 122) hx hb dX3_cut_108 (by decide) (fun c18 => ?_) (fun c18 => ?_)
        · have hf := ift c18 hf
          refine lv_aload_n hx hb dX3_cut_122 rfl (lv_at hl 0 rfl) ?_
          refine va_get (D := D) (ci := 3) (v := .int (mu_nxt u)) (C := RX3) (T := TX3) (N := 16) hx hb hts in_X3_cut_X3 hown hK hP 0 rfl rfl 7 (by decide) (hts _ (List.mem_of_getElem? (i := 4) rfl)) (fun _ h9 => h9) rfl dX3_cut_123 ?_
          refine va_put (D := D) (ci := 3) (v := .int (mu_nxt u)) (ty := .int) (C := RX3) (T := TX3) (N := 16) hx hb hts in_X3_cut_X3 tyX3 tyX3_ok nmX3 hown hK hP hD hS 0 rfl rfl 7 (by decide) (hts _ (List.mem_of_getElem? (i := 4) rfl)) (fun _ h9 => h9) rfl (by decide +kernel) rfl rfl (Nat.le_of_ble_eq_true rfl) dX3_cut_126 (fun H locs hP hD hS => ?_)
          have hP : va_P D vwCl (MW a n cA (mu_s_nxt u (mu_nxt u))) H := hP
          have hD : va_D A (MW a n cA (mu_s_nxt u (mu_nxt u))) := hD
          refine lv_iinc (v := x1 + (zI 1)) (lv' := [(1, .int (x1 + (zI 1))), (0, .ref (a 0))]) hx hb dX3_cut_129 hl (k := 1) rfl rfl (by decide) rfl (fun ls hl => ?_)
          refine lv_goto (tgt := 77) hx hb dX3_cut_132 (by decide) ?_
          exact ih (x1 + (zI 1)) (mu_s_nxt u (mu_nxt u)) _ _ _ _ hf hP hD hS (lv_sub hl [1, 0] rfl)
        · have hf := iff_ c18 hf
          refine lv_aload_n hx hb dX3_cut_111 rfl (lv_at hl 0 rfl) ?_
          refine va_get (D := D) (ci := 3) (v := .ref (a 3)) (C := RX3) (T := TX3) (N := 16) hx hb hts in_X3_cut_X3 hown hK hP 0 rfl rfl 4 (by decide) (hts _ (List.mem_of_getElem? (i := 7) rfl)) (fun _ h9 => h9) rfl dX3_cut_112 ?_
          refine lv_iload_n hx hb dX3_cut_115 rfl (lv_at hl 1 rfl) ?_
          obtain ⟨g19, hf⟩ := vgs hf
          refine va_iald hx hb hK hP 3 2 rfl rfl g19 dX3_cut_116 ?_
          refine lv_iconst (v := zI 1) hx hb dX3_cut_117 (by decide) ?_
          refine lv_iadd hx hb dX3_cut_118 ?_
          refine lv_goto (tgt := 126) hx hb dX3_cut_119 (by decide) ?_
          refine va_put (D := D) (ci := 3) (v := .int (((mu_ser u) x1.toNatClampNeg) + (zI 1))) (ty := .int) (C := RX3) (T := TX3) (N := 16) hx hb hts in_X3_cut_X3 tyX3 tyX3_ok nmX3 hown hK hP hD hS 0 rfl rfl 7 (by decide) (hts _ (List.mem_of_getElem? (i := 4) rfl)) (fun _ h9 => h9) rfl (by decide +kernel) rfl rfl (Nat.le_of_ble_eq_true rfl) dX3_cut_126 (fun H locs hP hD hS => ?_)
          have hP : va_P D vwCl (MW a n cA (mu_s_nxt u (((mu_ser u) x1.toNatClampNeg) + (zI 1)))) H := hP
          have hD : va_D A (MW a n cA (mu_s_nxt u (((mu_ser u) x1.toNatClampNeg) + (zI 1)))) := hD
          refine lv_iinc (v := x1 + (zI 1)) (lv' := [(1, .int (x1 + (zI 1))), (0, .ref (a 0))]) hx hb dX3_cut_129 hl (k := 1) rfl rfl (by decide) rfl (fun ls hl => ?_)
          refine lv_goto (tgt := 77) hx hb dX3_cut_132 (by decide) ?_
          exact ih (x1 + (zI 1)) (mu_s_nxt u (((mu_ser u) x1.toNatClampNeg) + (zI 1))) _ _ _ _ hf hP hD hS (lv_sub hl [1, 0] rfl)
set_option maxHeartbeats 4000000 in
set_option maxRecDepth 100000 in
theorem lbX3_cut_34 {K : Nat} (X : vzX D (MT cA) A wsX3_cut cX3_cut 3 none RX3 p s m args meth c) {kk : MU → Option MU} (hk : ∀ (u : MU) (H : Heap) (locs : List Loc) (ls : Array Slot) (u2 : MU), kk u = some u2 → va_P D vwCl (MW a n cA u) H → va_D A (MW a n cA u) → va_S A s.heap H locs → lv_has ls 3 [(0, .ref (a 0))] → W p l e (headSpec wsX3_cut rmX3_cut).room s m args below meth c H locs 0 0 (MQ below (vzQv D (MT cA) (MW a n cA) A u2) args s 0 0 A) (F0 m 5 ls [])) : ∀ (N : Nat) (x1 : Int32) (u : MU) (H : Heap) (locs : List Loc) (ls : Array Slot) (u2 : MU), fX3_cut_34 n K kk N x1 u = some u2 → va_P D vwCl (MW a n cA u) H → va_D A (MW a n cA u) → va_S A s.heap H locs → lv_has ls 3 [(0, .ref (a 0)), (1, .int x1)] → W p l e (headSpec wsX3_cut rmX3_cut).room s m args below meth c H locs 0 0 (MQ below (vzQv D (MT cA) (MW a n cA) A u2) args s 0 0 A) (F0 m 34 ls []) := by
  obtain ⟨hx, hb, hr, hml, hown, hts, hlk, hN, hK, hA⟩ := id X
  intro N
  induction N with
  | zero =>
    intro x1 u H locs ls u2 hf
    cases hf
  | succ N ih =>
    intro x1 u H locs ls u2 hf hP hD hS hl
    rw [fX3_cut_34] at hf
    refine lv_iload_n hx hb dX3_cut_34 rfl (lv_at hl 1 rfl) ?_
    refine lv_aload_n hx hb dX3_cut_35 rfl (lv_at hl 0 rfl) ?_
    refine va_get (D := D) (ci := 3) (v := .int (mu_blk u)) (C := RX3) (T := TX3) (N := 16) hx hb hts in_X3_cut_X3 hown hK hP 0 rfl rfl 0 (by decide) (hts _ (List.mem_of_getElem? (i := 5) rfl)) (fun _ h9 => h9) rfl dX3_cut_36 ?_
    refine lv_icmp_ge (tgt := 75) hx hb dX3_cut_39 (by decide) (fun c2 => ?_) (fun c2 => ?_)
    · have hf := ift c2 hf
      refine lv_iconst (v := zI 0) hx hb dX3_cut_75 (by decide) ?_
      refine lv_istore_n (lv' := [(1, .int (zI 0)), (0, .ref (a 0))]) hx hb dX3_cut_76 rfl hl (by decide) rfl (fun ls hl => ?_)
      exact lbX3_cut_77 X hk K (zI 0) u _ _ _ _ hf hP hD hS (lv_sub hl [1, 0] rfl)
    · have hf := iff_ c2 hf
      refine lv_aload_n hx hb dX3_cut_42 rfl (lv_at hl 0 rfl) ?_
      refine lv_iload_n hx hb dX3_cut_43 rfl (lv_at hl 1 rfl) ?_
      obtain ⟨z20, hz21, hf⟩ := bd hf
      refine vz_call (rest := []) X (kX3_programmed hz21) (cwV 1 hts gX3_cut_X3_programmed rfl rfl rfl (by decide +kernel) ⟨Nat.le_of_ble_eq_true rfl, Nat.le_of_ble_eq_true rfl⟩) 0 3 rfl rfl rfl hl.1 rfl (Nat.le_of_ble_eq_true rfl) dX3_cut_44 ⟨Nat.zero_le _, Nat.zero_le _⟩ hP hD hS (fun H locs hP hD hS => ?_)
      refine lv_istore_n (lv' := [(2, .int z20.1), (0, .ref (a 0)), (1, .int x1)]) hx hb dX3_cut_47 rfl hl (by decide) rfl (fun ls hl => ?_)
      refine lv_aload_n hx hb dX3_cut_48 rfl (lv_at hl 1 rfl) ?_
      refine lv_iload_n hx hb dX3_cut_49 rfl (lv_at hl 0 rfl) ?_
      refine lv_if_le (tgt := 62) hx hb dX3_cut_50 (by decide) (fun c22 => ?_) (fun c22 => ?_)
      · have hf := ift c22 hf
        refine lv_aload_n hx hb dX3_cut_62 rfl (lv_at hl 1 rfl) ?_
        refine va_get (D := D) (ci := 3) (v := .int (mu_opn z20.2)) (C := RX3) (T := TX3) (N := 16) hx hb hts in_X3_cut_X3 hown hK hP 0 rfl rfl 8 (by decide) (hts _ (List.mem_of_getElem? (i := 3) rfl)) (fun _ h9 => h9) rfl dX3_cut_63 ?_
        refine va_put (D := D) (ci := 3) (v := .int (mu_opn z20.2)) (ty := .int) (C := RX3) (T := TX3) (N := 16) hx hb hts in_X3_cut_X3 tyX3 tyX3_ok nmX3 hown hK hP hD hS 0 rfl rfl 8 (by decide) (hts _ (List.mem_of_getElem? (i := 3) rfl)) (fun _ h9 => h9) rfl (by decide +kernel) rfl rfl (Nat.le_of_ble_eq_true rfl) dX3_cut_66 (fun H locs hP hD hS => ?_)
        have hP : va_P D vwCl (MW a n cA (mu_s_opn z20.2 (mu_opn z20.2))) H := hP
        have hD : va_D A (MW a n cA (mu_s_opn z20.2 (mu_opn z20.2))) := hD
        refine lv_iinc (v := x1 + (zI 1)) (lv' := [(1, .int (x1 + (zI 1))), (2, .int z20.1), (0, .ref (a 0))]) hx hb dX3_cut_69 hl (k := 2) rfl rfl (by decide) rfl (fun ls hl => ?_)
        refine lv_goto (tgt := 34) hx hb dX3_cut_72 (by decide) ?_
        exact ih (x1 + (zI 1)) (mu_s_opn z20.2 (mu_opn z20.2)) _ _ _ _ hf hP hD hS (lv_sub hl [2, 0] rfl)
      · have hf := iff_ c22 hf
        refine lv_iload_n hx hb dX3_cut_53 rfl (lv_at hl 0 rfl) ?_
        refine lv_iconst (v := zI 4) hx hb dX3_cut_54 (by decide) ?_
        refine lv_icmp_ge (tgt := 62) hx hb dX3_cut_55 (by decide) (fun c23 => ?_) (fun c23 => ?_)
        · have hf := ift c23 hf
          refine lv_aload_n hx hb dX3_cut_62 rfl (lv_at hl 1 rfl) ?_
          refine va_get (D := D) (ci := 3) (v := .int (mu_opn z20.2)) (C := RX3) (T := TX3) (N := 16) hx hb hts in_X3_cut_X3 hown hK hP 0 rfl rfl 8 (by decide) (hts _ (List.mem_of_getElem? (i := 3) rfl)) (fun _ h9 => h9) rfl dX3_cut_63 ?_
          refine va_put (D := D) (ci := 3) (v := .int (mu_opn z20.2)) (ty := .int) (C := RX3) (T := TX3) (N := 16) hx hb hts in_X3_cut_X3 tyX3 tyX3_ok nmX3 hown hK hP hD hS 0 rfl rfl 8 (by decide) (hts _ (List.mem_of_getElem? (i := 3) rfl)) (fun _ h9 => h9) rfl (by decide +kernel) rfl rfl (Nat.le_of_ble_eq_true rfl) dX3_cut_66 (fun H locs hP hD hS => ?_)
          have hP : va_P D vwCl (MW a n cA (mu_s_opn z20.2 (mu_opn z20.2))) H := hP
          have hD : va_D A (MW a n cA (mu_s_opn z20.2 (mu_opn z20.2))) := hD
          refine lv_iinc (v := x1 + (zI 1)) (lv' := [(1, .int (x1 + (zI 1))), (2, .int z20.1), (0, .ref (a 0))]) hx hb dX3_cut_69 hl (k := 2) rfl rfl (by decide) rfl (fun ls hl => ?_)
          refine lv_goto (tgt := 34) hx hb dX3_cut_72 (by decide) ?_
          exact ih (x1 + (zI 1)) (mu_s_opn z20.2 (mu_opn z20.2)) _ _ _ _ hf hP hD hS (lv_sub hl [2, 0] rfl)
        · have hf := iff_ c23 hf
          refine lv_iload_n hx hb dX3_cut_58 rfl (lv_at hl 2 rfl) ?_
          refine lv_goto (tgt := 66) hx hb dX3_cut_59 (by decide) ?_
          refine va_put (D := D) (ci := 3) (v := .int x1) (ty := .int) (C := RX3) (T := TX3) (N := 16) hx hb hts in_X3_cut_X3 tyX3 tyX3_ok nmX3 hown hK hP hD hS 0 rfl rfl 8 (by decide) (hts _ (List.mem_of_getElem? (i := 3) rfl)) (fun _ h9 => h9) rfl (by decide +kernel) rfl rfl (Nat.le_of_ble_eq_true rfl) dX3_cut_66 (fun H locs hP hD hS => ?_)
          have hP : va_P D vwCl (MW a n cA (mu_s_opn z20.2 x1)) H := hP
          have hD : va_D A (MW a n cA (mu_s_opn z20.2 x1)) := hD
          refine lv_iinc (v := x1 + (zI 1)) (lv' := [(1, .int (x1 + (zI 1))), (2, .int z20.1), (0, .ref (a 0))]) hx hb dX3_cut_69 hl (k := 2) rfl rfl (by decide) rfl (fun ls hl => ?_)
          refine lv_goto (tgt := 34) hx hb dX3_cut_72 (by decide) ?_
          exact ih (x1 + (zI 1)) (mu_s_opn z20.2 x1) _ _ _ _ hf hP hD hS (lv_sub hl [2, 0] rfl)
set_option maxHeartbeats 4000000 in
set_option maxRecDepth 100000 in
theorem lbX3_cut_5 {K : Nat} (X : vzX D (MT cA) A wsX3_cut cX3_cut 3 none RX3 p s m args meth c) : ∀ (N : Nat) (u : MU) (H : Heap) (locs : List Loc) (ls : Array Slot) (u2 : MU), fX3_cut_5 n K N u = some u2 → va_P D vwCl (MW a n cA u) H → va_D A (MW a n cA u) → va_S A s.heap H locs → lv_has ls 3 [(0, .ref (a 0))] → W p l e (headSpec wsX3_cut rmX3_cut).room s m args below meth c H locs 0 0 (MQ below (vzQv D (MT cA) (MW a n cA) A u2) args s 0 0 A) (F0 m 5 ls []) := by
  obtain ⟨hx, hb, hr, hml, hown, hts, hlk, hN, hK, hA⟩ := id X
  intro N
  induction N with
  | zero =>
    intro u H locs ls u2 hf
    cases hf
  | succ N ih =>
    intro u H locs ls u2 hf hP hD hS hl
    rw [fX3_cut_5] at hf
    refine lv_aload_n hx hb dX3_cut_5 rfl (lv_at hl 0 rfl) ?_
    refine va_get (D := D) (ci := 3) (v := .int (mu_gon u)) (C := RX3) (T := TX3) (N := 16) hx hb hts in_X3_cut_X3 hown hK hP 0 rfl rfl 11 (by decide) (hts _ (List.mem_of_getElem? (i := 1) rfl)) (fun _ h9 => h9) rfl dX3_cut_6 ?_
    refine lv_if_eq (tgt := 177) hx hb dX3_cut_9 (by decide) (fun c1 => ?_) (fun c1 => ?_)
    · have hf := ift c1 hf
      cases hf
      exact vz_vret X hP hD hS dX3_cut_177
    · have hf := iff_ c1 hf
      refine lv_aload_n hx hb dX3_cut_12 rfl (lv_at hl 0 rfl) ?_
      refine lv_iconst (v := zI 0) hx hb dX3_cut_13 (by decide) ?_
      refine va_put (D := D) (ci := 3) (v := .int (zI 0)) (ty := .boolean) (C := RX3) (T := TX3) (N := 16) hx hb hts in_X3_cut_X3 tyX3 tyX3_ok nmX3 hown hK hP hD hS 0 rfl rfl 11 (by decide) (hts _ (List.mem_of_getElem? (i := 1) rfl)) (fun _ h9 => h9) rfl (by decide +kernel) rfl rfl (Nat.le_of_ble_eq_true rfl) dX3_cut_14 (fun H locs hP hD hS => ?_)
      have hP : va_P D vwCl (MW a n cA (mu_s_gon u (zI 0))) H := hP
      have hD : va_D A (MW a n cA (mu_s_gon u (zI 0))) := hD
      refine lv_aload_n hx hb dX3_cut_17 rfl (lv_at hl 0 rfl) ?_
      refine lv_iconst (v := zI 0) hx hb dX3_cut_18 (by decide) ?_
      refine va_put (D := D) (ci := 3) (v := .int (zI 0)) (ty := .int) (C := RX3) (T := TX3) (N := 16) hx hb hts in_X3_cut_X3 tyX3 tyX3_ok nmX3 hown hK hP hD hS 0 rfl rfl 12 (by decide) (hts _ (List.mem_of_getElem? (i := 2) rfl)) (fun _ h9 => h9) rfl (by decide +kernel) rfl rfl (Nat.le_of_ble_eq_true rfl) dX3_cut_19 (fun H locs hP hD hS => ?_)
      have hP : va_P D vwCl (MW a n cA (mu_s_ent (mu_s_gon u (zI 0)) (zI 0))) H := hP
      have hD : va_D A (MW a n cA (mu_s_ent (mu_s_gon u (zI 0)) (zI 0))) := hD
      refine lv_aload_n hx hb dX3_cut_22 rfl (lv_at hl 0 rfl) ?_
      refine lv_iconst (v := zI (-1)) hx hb dX3_cut_23 (by decide) ?_
      refine va_put (D := D) (ci := 3) (v := .int (zI (-1))) (ty := .int) (C := RX3) (T := TX3) (N := 16) hx hb hts in_X3_cut_X3 tyX3 tyX3_ok nmX3 hown hK hP hD hS 0 rfl rfl 8 (by decide) (hts _ (List.mem_of_getElem? (i := 3) rfl)) (fun _ h9 => h9) rfl (by decide +kernel) rfl rfl (Nat.le_of_ble_eq_true rfl) dX3_cut_24 (fun H locs hP hD hS => ?_)
      have hP : va_P D vwCl (MW a n cA (mu_s_opn (mu_s_ent (mu_s_gon u (zI 0)) (zI 0)) (zI (-1)))) H := hP
      have hD : va_D A (MW a n cA (mu_s_opn (mu_s_ent (mu_s_gon u (zI 0)) (zI 0)) (zI (-1)))) := hD
      refine lv_aload_n hx hb dX3_cut_27 rfl (lv_at hl 0 rfl) ?_
      refine lv_iconst (v := zI 0) hx hb dX3_cut_28 (by decide) ?_
      refine va_put (D := D) (ci := 3) (v := .int (zI 0)) (ty := .int) (C := RX3) (T := TX3) (N := 16) hx hb hts in_X3_cut_X3 tyX3 tyX3_ok nmX3 hown hK hP hD hS 0 rfl rfl 7 (by decide) (hts _ (List.mem_of_getElem? (i := 4) rfl)) (fun _ h9 => h9) rfl (by decide +kernel) rfl rfl (Nat.le_of_ble_eq_true rfl) dX3_cut_29 (fun H locs hP hD hS => ?_)
      have hP : va_P D vwCl (MW a n cA (mu_s_nxt (mu_s_opn (mu_s_ent (mu_s_gon u (zI 0)) (zI 0)) (zI (-1))) (zI 0))) H := hP
      have hD : va_D A (MW a n cA (mu_s_nxt (mu_s_opn (mu_s_ent (mu_s_gon u (zI 0)) (zI 0)) (zI (-1))) (zI 0))) := hD
      refine lv_iconst (v := zI 0) hx hb dX3_cut_32 (by decide) ?_
      refine lv_istore_n (lv' := [(1, .int (zI 0)), (0, .ref (a 0))]) hx hb dX3_cut_33 rfl hl (by decide) rfl (fun ls hl => ?_)
      exact lbX3_cut_34 X ih K (zI 0) (mu_s_nxt (mu_s_opn (mu_s_ent (mu_s_gon u (zI 0)) (zI 0)) (zI (-1))) (zI 0)) _ _ _ _ hf hP hD hS (lv_sub hl [1, 0] rfl)
set_option maxHeartbeats 4000000 in
set_option maxRecDepth 100000 in
theorem lbX3_cut_e {K : Nat} (X : vzX D (MT cA) A wsX3_cut cX3_cut 3 none RX3 p s m args meth c) : ∀ (u : MU) (H : Heap) (locs : List Loc) (ls : Array Slot) (u2 : MU), fX3_cut n K u = some u2 → va_P D vwCl (MW a n cA u) H → va_D A (MW a n cA u) → va_S A s.heap H locs → lv_has ls 3 [(0, .ref (a 0))] → W p l e (headSpec wsX3_cut rmX3_cut).room s m args below meth c H locs 0 0 (MQ below (vzQv D (MT cA) (MW a n cA) A u2) args s 0 0 A) (F0 m 0 ls []) := by
  obtain ⟨hx, hb, hr, hml, hown, hts, hlk, hN, hK, hA⟩ := id X
  intro u H locs ls u2 hf hP hD hS hl
  unfold fX3_cut at hf
  refine lv_aload_n hx hb dX3_cut_0 rfl (lv_at hl 0 rfl) ?_
  refine lv_iconst (v := zI 1) hx hb dX3_cut_1 (by decide) ?_
  refine va_put (D := D) (ci := 3) (v := .int (zI 1)) (ty := .boolean) (C := RX3) (T := TX3) (N := 16) hx hb hts in_X3_cut_X3 tyX3 tyX3_ok nmX3 hown hK hP hD hS 0 rfl rfl 11 (by decide) (hts _ (List.mem_of_getElem? (i := 1) rfl)) (fun _ h9 => h9) rfl (by decide +kernel) rfl rfl (Nat.le_of_ble_eq_true rfl) dX3_cut_2 (fun H locs hP hD hS => ?_)
  have hP : va_P D vwCl (MW a n cA (mu_s_gon u (zI 1))) H := hP
  have hD : va_D A (MW a n cA (mu_s_gon u (zI 1))) := hD
  exact lbX3_cut_5 X K (mu_s_gon u (zI 1)) _ _ _ _ hf hP hD hS (lv_sub hl [0] rfl)
end
theorem kX3_cut {l : Launch} {D : va_G} {a n : Nat → Nat} {cA : Nat → ClassId} {K : Nat} {u : MU} {u2 : MU} (h : fX3_cut n K u = some u2) : vzV l D (MT cA) (MW a n cA) yX3_cut wsX3_cut rmX3_cut [.ref (a 0)] u u2 := vzV.of (by decide) rfl (Nat.le_of_ble_eq_true rfl) (fun p e s m below meth c A ls X hP hD hl => lbX3_cut_e X u s.heap [] ls u2 h hP hD va_S.rf hl)
end
section
abbrev rmX3_find : Room := { frames := 0, cells := 0, slots := 0, locals := 0 }
theorem in_X3_find_X3 : ∀ w ∈ u_ws RX3 TX3 16, w ∈ wsX3_find := fun _ h => List.mem_cons_of_mem _ (List.mem_append_right _ h)
def fX3_find_2 (n : Nat → Nat) (K : Nat) : Nat → Int32 → Int32 → MU → Option (Int32 × MU)
  | 0, _, _, _ => none
  | N + 1, x1, x2, u => if (mu_ent u) ≤ x2 then (some (zI (-1), u)) else (vg x2 (n 6) (if ((mu_ese u) x2.toNatClampNeg) = x1 then (some (x2, u)) else (fX3_find_2 n K N x1 (x2 + (zI 1)) u)))
def fX3_find (n : Nat → Nat) (K : Nat) (x1 : Int32) (u : MU) : Option (Int32 × MU) := fX3_find_2 n K K x1 (zI 0) u
section
variable {p : Program} {l : Launch} {e : Env} {s : State} {m : MethodId} {args : Array Value} {below : List Frame} {meth : Method} {c : Code} {D : va_G} {a n : Nat → Nat} {cA : Nat → ClassId} {A : Nat → Prop}
set_option maxHeartbeats 4000000 in
set_option maxRecDepth 100000 in
theorem lbX3_find_2 {K : Nat} (X : vzX D (MT cA) A wsX3_find cX3_find 3 (some .int) RX3 p s m args meth c) : ∀ (N : Nat) (x1 x2 : Int32) (u : MU) (H : Heap) (locs : List Loc) (ls : Array Slot) (r : Int32) (u2 : MU), fX3_find_2 n K N x1 x2 u = some (r, u2) → va_P D vwCl (MW a n cA u) H → va_D A (MW a n cA u) → va_S A s.heap H locs → lv_has ls 3 [(0, .ref (a 0)), (1, .int x1), (2, .int x2)] → W p l e (headSpec wsX3_find rmX3_find).room s m args below meth c H locs 0 0 (MQ below (vzQ D (MT cA) (MW a n cA) A r u2) args s 0 0 A) (F0 m 2 ls []) := by
  obtain ⟨hx, hb, hr, hml, hown, hts, hlk, hN, hK, hA⟩ := id X
  intro N
  induction N with
  | zero =>
    intro x1 x2 u H locs ls r u2 hf
    cases hf
  | succ N ih =>
    intro x1 x2 u H locs ls r u2 hf hP hD hS hl
    rw [fX3_find_2] at hf
    refine lv_iload_n hx hb dX3_find_2 rfl (lv_at hl 2 rfl) ?_
    refine lv_aload_n hx hb dX3_find_3 rfl (lv_at hl 0 rfl) ?_
    refine va_get (D := D) (ci := 3) (v := .int (mu_ent u)) (C := RX3) (T := TX3) (N := 16) hx hb hts in_X3_find_X3 hown hK hP 0 rfl rfl 12 (by decide) (hts _ (List.mem_of_getElem? (i := 1) rfl)) (fun _ h9 => h9) rfl dX3_find_4 ?_
    refine lv_icmp_ge (tgt := 28) hx hb dX3_find_7 (by decide) (fun c1 => ?_) (fun c1 => ?_)
    · have hf := ift c1 hf
      refine lv_iconst (v := zI (-1)) hx hb dX3_find_28 (by decide) ?_
      cases hf
      exact vz_iret X hP hD hS dX3_find_29
    · have hf := iff_ c1 hf
      refine lv_aload_n hx hb dX3_find_10 rfl (lv_at hl 0 rfl) ?_
      refine va_get (D := D) (ci := 3) (v := .ref (a 6)) (C := RX3) (T := TX3) (N := 16) hx hb hts in_X3_find_X3 hown hK hP 0 rfl rfl 13 (by decide) (hts _ (List.mem_of_getElem? (i := 2) rfl)) (fun _ h9 => h9) rfl dX3_find_11 ?_
      refine lv_iload_n hx hb dX3_find_14 rfl (lv_at hl 2 rfl) ?_
      obtain ⟨g2, hf⟩ := vgs hf
      refine va_iald hx hb hK hP 6 5 rfl rfl g2 dX3_find_15 ?_
      refine lv_iload_n hx hb dX3_find_16 rfl (lv_at hl 1 rfl) ?_
      refine lv_icmp_ne (tgt := 22) hx hb dX3_find_17 (by decide) (fun c3 => ?_) (fun c3 => ?_)
      · have hf := iff_ c3 hf
        refine lv_iinc (v := x2 + (zI 1)) (lv' := [(2, .int (x2 + (zI 1))), (0, .ref (a 0)), (1, .int x1)]) hx hb dX3_find_22 hl (k := 2) rfl rfl (by decide) rfl (fun ls hl => ?_)
        refine lv_goto (tgt := 2) hx hb dX3_find_25 (by decide) ?_
        exact ih x1 (x2 + (zI 1)) u _ _ _ _ _ hf hP hD hS (lv_sub hl [1, 2, 0] rfl)
      · have hf := ift c3 hf
        refine lv_iload_n hx hb dX3_find_20 rfl (lv_at hl 2 rfl) ?_
        cases hf
        exact vz_iret X hP hD hS dX3_find_21
set_option maxHeartbeats 4000000 in
set_option maxRecDepth 100000 in
theorem lbX3_find_e {K : Nat} (X : vzX D (MT cA) A wsX3_find cX3_find 3 (some .int) RX3 p s m args meth c) : ∀ (x1 : Int32) (u : MU) (H : Heap) (locs : List Loc) (ls : Array Slot) (r : Int32) (u2 : MU), fX3_find n K x1 u = some (r, u2) → va_P D vwCl (MW a n cA u) H → va_D A (MW a n cA u) → va_S A s.heap H locs → lv_has ls 3 [(0, .ref (a 0)), (1, .int x1)] → W p l e (headSpec wsX3_find rmX3_find).room s m args below meth c H locs 0 0 (MQ below (vzQ D (MT cA) (MW a n cA) A r u2) args s 0 0 A) (F0 m 0 ls []) := by
  obtain ⟨hx, hb, hr, hml, hown, hts, hlk, hN, hK, hA⟩ := id X
  intro x1 u H locs ls r u2 hf hP hD hS hl
  unfold fX3_find at hf
  refine lv_iconst (v := zI 0) hx hb dX3_find_0 (by decide) ?_
  refine lv_istore_n (lv' := [(2, .int (zI 0)), (0, .ref (a 0)), (1, .int x1)]) hx hb dX3_find_1 rfl hl (by decide) rfl (fun ls hl => ?_)
  exact lbX3_find_2 X K x1 (zI 0) u _ _ _ _ _ hf hP hD hS (lv_sub hl [1, 2, 0] rfl)
end
theorem kX3_find {l : Launch} {D : va_G} {a n : Nat → Nat} {cA : Nat → ClassId} {K : Nat} {x1 : Int32} {u : MU} {r : Int32} {u2 : MU} (h : fX3_find n K x1 u = some (r, u2)) : vzC l D (MT cA) (MW a n cA) yX3_find wsX3_find rmX3_find [.ref (a 0), .int x1] u r u2 := vzC.of (by decide) rfl (Nat.le_of_ble_eq_true rfl) (fun p e s m below meth c A ls X hP hD hl => lbX3_find_e X x1 u s.heap [] ls r u2 h hP hD va_S.rf hl)
abbrev rmX3_change : Room := { frames := 6, cells := 0, slots := 0, locals := 138 }
theorem in_X3_change_X3 : ∀ w ∈ u_ws RX3 TX3 16, w ∈ wsX3_change := fun _ h => List.mem_cons_of_mem _ (List.mem_append_right _ h)
def fX3_change (n : Nat → Nat) (K : Nat) (x1 x2 x3 : Int32) (u : MU) : Option (Int32 × MU) := (fX3_isSector n K x1 u).bind fun z1 => (if z1.1 = 0 then (some (zI (-1), z1.2)) else ((fX3_find n K x1 z1.2).bind fun z4 => (if z4.1 = (zI (-1)) then (if (mu_ent z4.2) = (zI 3) then ((fX3_store n K z4.2).bind fun z16 => (if z16.1 = 0 then ((fX3_cut n K z16.2).bind fun z23 => (some (zI 1, z23))) else (vg (mu_ent z16.2) (n 6) (vg (mu_ent z16.2) (n 7) (vg (mu_ent z16.2) (n 8) (some (zI 0, mu_s_eso (mu_s_eva (mu_s_ese (mu_s_ent z16.2 ((mu_ent z16.2) + (zI 1))) (upd (mu_ese z16.2) ((mu_ent z16.2)).toNatClampNeg x1)) (upd (mu_eva z16.2) ((mu_ent z16.2)).toNatClampNeg x2)) (upd (mu_eso z16.2) ((mu_ent z16.2)).toNatClampNeg x3)))))))) else (vg (mu_ent z4.2) (n 6) (vg (mu_ent z4.2) (n 7) (vg (mu_ent z4.2) (n 8) (some (zI 0, mu_s_eso (mu_s_eva (mu_s_ese (mu_s_ent z4.2 ((mu_ent z4.2) + (zI 1))) (upd (mu_ese z4.2) ((mu_ent z4.2)).toNatClampNeg x1)) (upd (mu_eva z4.2) ((mu_ent z4.2)).toNatClampNeg x2)) (upd (mu_eso z4.2) ((mu_ent z4.2)).toNatClampNeg x3))))))) else (vg z4.1 (n 6) (vg z4.1 (n 7) (vg z4.1 (n 8) (some (zI 0, mu_s_eso (mu_s_eva (mu_s_ese z4.2 (upd (mu_ese z4.2) (z4.1).toNatClampNeg x1)) (upd (mu_eva z4.2) (z4.1).toNatClampNeg x2)) (upd (mu_eso z4.2) (z4.1).toNatClampNeg x3)))))))))
section
variable {p : Program} {l : Launch} {e : Env} {s : State} {m : MethodId} {args : Array Value} {below : List Frame} {meth : Method} {c : Code} {D : va_G} {a n : Nat → Nat} {cA : Nat → ClassId} {A : Nat → Prop}
set_option maxHeartbeats 4000000 in
set_option maxRecDepth 100000 in
theorem lbX3_change_e {K : Nat} (X : vzX D (MT cA) A wsX3_change cX3_change 5 (some .int) RX3 p s m args meth c) : ∀ (x1 x2 x3 : Int32) (u : MU) (H : Heap) (locs : List Loc) (ls : Array Slot) (r : Int32) (u2 : MU), fX3_change n K x1 x2 x3 u = some (r, u2) → va_P D vwCl (MW a n cA u) H → va_D A (MW a n cA u) → va_S A s.heap H locs → lv_has ls 5 [(0, .ref (a 0)), (1, .int x1), (2, .int x2), (3, .int x3)] → W p l e (headSpec wsX3_change rmX3_change).room s m args below meth c H locs 0 0 (MQ below (vzQ D (MT cA) (MW a n cA) A r u2) args s 0 0 A) (F0 m 0 ls []) := by
  obtain ⟨hx, hb, hr, hml, hown, hts, hlk, hN, hK, hA⟩ := id X
  intro x1 x2 x3 u H locs ls r u2 hf hP hD hS hl
  unfold fX3_change at hf
  refine lv_aload_n hx hb dX3_change_0 rfl (lv_at hl 0 rfl) ?_
  refine lv_iload_n hx hb dX3_change_1 rfl (lv_at hl 1 rfl) ?_
  obtain ⟨z1, hz2, hf⟩ := bd hf
  refine vz_call (rest := []) X (kX3_isSector hz2) (cwV 1 hts gX3_change_X3_isSector rfl rfl rfl (by decide +kernel) ⟨Nat.le_of_ble_eq_true rfl, Nat.le_of_ble_eq_true rfl⟩) 0 3 rfl rfl rfl hl.1 rfl (Nat.le_of_ble_eq_true rfl) dX3_change_2 ⟨Nat.zero_le _, Nat.zero_le _⟩ hP hD hS (fun H locs hP hD hS => ?_)
  refine lv_if_ne (tgt := 10) hx hb dX3_change_5 (by decide) (fun c3 => ?_) (fun c3 => ?_)
  · have hf := iff_ c3 hf
    refine lv_aload_n hx hb dX3_change_10 rfl (lv_at hl 0 rfl) ?_
    refine lv_iload_n hx hb dX3_change_11 rfl (lv_at hl 1 rfl) ?_
    obtain ⟨z4, hz5, hf⟩ := bd hf
    refine vz_call (rest := []) X (kX3_find hz5) (cwV 1 hts gX3_change_X3_find rfl rfl rfl (by decide +kernel) ⟨Nat.le_of_ble_eq_true rfl, Nat.le_of_ble_eq_true rfl⟩) 0 3 rfl rfl rfl hl.1 rfl (Nat.le_of_ble_eq_true rfl) dX3_change_12 ⟨Nat.zero_le _, Nat.zero_le _⟩ hP hD hS (fun H locs hP hD hS => ?_)
    refine lv_istore (lv' := [(4, .int z4.1), (0, .ref (a 0)), (1, .int x1), (2, .int x2), (3, .int x3)]) hx hb dX3_change_15 hl (by decide) rfl (fun ls hl => ?_)
    refine lv_iload hx hb dX3_change_17 (lv_at hl 0 rfl) ?_
    refine lv_iconst (v := zI (-1)) hx hb dX3_change_19 (by decide) ?_
    refine lv_icmp_ne (tgt := 44) hx hb dX3_change_20 (by decide) (fun c6 => ?_) (fun c6 => ?_)
    · have hf := iff_ c6 hf
      refine lv_iload hx hb dX3_change_44 (lv_at hl 0 rfl) ?_
      refine lv_iconst (v := zI (-1)) hx hb dX3_change_46 (by decide) ?_
      refine lv_icmp_ne (tgt := 66) hx hb dX3_change_47 (by decide) (fun c7 => ?_) (fun c7 => absurd c7 c6)
      refine lv_aload_n hx hb dX3_change_66 rfl (lv_at hl 1 rfl) ?_
      refine va_get (D := D) (ci := 3) (v := .ref (a 6)) (C := RX3) (T := TX3) (N := 16) hx hb hts in_X3_change_X3 hown hK hP 0 rfl rfl 13 (by decide) (hts _ (List.mem_of_getElem? (i := 2) rfl)) (fun _ h9 => h9) rfl dX3_change_67 ?_
      refine lv_iload hx hb dX3_change_70 (lv_at hl 0 rfl) ?_
      refine lv_iload_n hx hb dX3_change_72 rfl (lv_at hl 2 rfl) ?_
      obtain ⟨g8, hf⟩ := vgs hf
      refine va_iast hx hb hK hP hD hS 6 5 rfl rfl g8 dX3_change_73 (fun H locs hP hD hS => ?_)
      have hP : va_P D vwCl (MW a n cA (mu_s_ese z4.2 (upd (mu_ese z4.2) (z4.1).toNatClampNeg x1))) H := hP
      have hD : va_D A (MW a n cA (mu_s_ese z4.2 (upd (mu_ese z4.2) (z4.1).toNatClampNeg x1))) := hD
      refine lv_aload_n hx hb dX3_change_74 rfl (lv_at hl 1 rfl) ?_
      refine va_get (D := D) (ci := 3) (v := .ref (a 7)) (C := RX3) (T := TX3) (N := 16) hx hb hts in_X3_change_X3 hown hK hP 0 rfl rfl 14 (by decide) (hts _ (List.mem_of_getElem? (i := 3) rfl)) (fun _ h9 => h9) rfl dX3_change_75 ?_
      refine lv_iload hx hb dX3_change_78 (lv_at hl 0 rfl) ?_
      refine lv_iload_n hx hb dX3_change_80 rfl (lv_at hl 3 rfl) ?_
      obtain ⟨g9, hf⟩ := vgs hf
      refine va_iast hx hb hK hP hD hS 7 6 rfl rfl g9 dX3_change_81 (fun H locs hP hD hS => ?_)
      have hP : va_P D vwCl (MW a n cA (mu_s_eva (mu_s_ese z4.2 (upd (mu_ese z4.2) (z4.1).toNatClampNeg x1)) (upd (mu_eva z4.2) (z4.1).toNatClampNeg x2))) H := hP
      have hD : va_D A (MW a n cA (mu_s_eva (mu_s_ese z4.2 (upd (mu_ese z4.2) (z4.1).toNatClampNeg x1)) (upd (mu_eva z4.2) (z4.1).toNatClampNeg x2))) := hD
      refine lv_aload_n hx hb dX3_change_82 rfl (lv_at hl 1 rfl) ?_
      refine va_get (D := D) (ci := 3) (v := .ref (a 8)) (C := RX3) (T := TX3) (N := 16) hx hb hts in_X3_change_X3 hown hK hP 0 rfl rfl 15 (by decide) (hts _ (List.mem_of_getElem? (i := 4) rfl)) (fun _ h9 => h9) rfl dX3_change_83 ?_
      refine lv_iload hx hb dX3_change_86 (lv_at hl 0 rfl) ?_
      refine lv_iload_n hx hb dX3_change_88 rfl (lv_at hl 4 rfl) ?_
      obtain ⟨g10, hf⟩ := vgs hf
      refine va_iast hx hb hK hP hD hS 8 7 rfl rfl g10 dX3_change_89 (fun H locs hP hD hS => ?_)
      have hP : va_P D vwCl (MW a n cA (mu_s_eso (mu_s_eva (mu_s_ese z4.2 (upd (mu_ese z4.2) (z4.1).toNatClampNeg x1)) (upd (mu_eva z4.2) (z4.1).toNatClampNeg x2)) (upd (mu_eso z4.2) (z4.1).toNatClampNeg x3))) H := hP
      have hD : va_D A (MW a n cA (mu_s_eso (mu_s_eva (mu_s_ese z4.2 (upd (mu_ese z4.2) (z4.1).toNatClampNeg x1)) (upd (mu_eva z4.2) (z4.1).toNatClampNeg x2)) (upd (mu_eso z4.2) (z4.1).toNatClampNeg x3))) := hD
      refine lv_iconst (v := zI 0) hx hb dX3_change_90 (by decide) ?_
      cases hf
      exact vz_iret X hP hD hS dX3_change_91
    · have hf := ift c6 hf
      refine lv_aload_n hx hb dX3_change_23 rfl (lv_at hl 1 rfl) ?_
      refine va_get (D := D) (ci := 3) (v := .int (mu_ent z4.2)) (C := RX3) (T := TX3) (N := 16) hx hb hts in_X3_change_X3 hown hK hP 0 rfl rfl 12 (by decide) (hts _ (List.mem_of_getElem? (i := 1) rfl)) (fun _ h9 => h9) rfl dX3_change_24 ?_
      refine lv_iconst (v := zI 3) hx hb dX3_change_27 (by decide) ?_
      refine lv_icmp_ne (tgt := 44) hx hb dX3_change_28 (by decide) (fun c11 => ?_) (fun c11 => ?_)
      · have hf := iff_ c11 hf
        refine lv_iload hx hb dX3_change_44 (lv_at hl 0 rfl) ?_
        refine lv_iconst (v := zI (-1)) hx hb dX3_change_46 (by decide) ?_
        refine lv_icmp_ne (tgt := 66) hx hb dX3_change_47 (by decide) (fun c12 => absurd c6 c12) (fun c12 => ?_)
        refine lv_aload_n hx hb dX3_change_50 rfl (lv_at hl 1 rfl) ?_
        refine va_get (D := D) (ci := 3) (v := .int (mu_ent z4.2)) (C := RX3) (T := TX3) (N := 16) hx hb hts in_X3_change_X3 hown hK hP 0 rfl rfl 12 (by decide) (hts _ (List.mem_of_getElem? (i := 1) rfl)) (fun _ h9 => h9) rfl dX3_change_51 ?_
        refine lv_istore (lv' := [(4, .int (mu_ent z4.2)), (0, .ref (a 0)), (1, .int x1), (2, .int x2), (3, .int x3)]) hx hb dX3_change_54 hl (by decide) rfl (fun ls hl => ?_)
        refine lv_aload_n hx hb dX3_change_56 rfl (lv_at hl 1 rfl) ?_
        refine lv_dup hx hb dX3_change_57 rfl ?_
        refine va_get (D := D) (ci := 3) (v := .int (mu_ent z4.2)) (C := RX3) (T := TX3) (N := 16) hx hb hts in_X3_change_X3 hown hK hP 0 rfl rfl 12 (by decide) (hts _ (List.mem_of_getElem? (i := 1) rfl)) (fun _ h9 => h9) rfl dX3_change_58 ?_
        refine lv_iconst (v := zI 1) hx hb dX3_change_61 (by decide) ?_
        refine lv_iadd hx hb dX3_change_62 ?_
        refine va_put (D := D) (ci := 3) (v := .int ((mu_ent z4.2) + (zI 1))) (ty := .int) (C := RX3) (T := TX3) (N := 16) hx hb hts in_X3_change_X3 tyX3 tyX3_ok nmX3 hown hK hP hD hS 0 rfl rfl 12 (by decide) (hts _ (List.mem_of_getElem? (i := 1) rfl)) (fun _ h9 => h9) rfl (by decide +kernel) rfl rfl (Nat.le_of_ble_eq_true rfl) dX3_change_63 (fun H locs hP hD hS => ?_)
        have hP : va_P D vwCl (MW a n cA (mu_s_ent z4.2 ((mu_ent z4.2) + (zI 1)))) H := hP
        have hD : va_D A (MW a n cA (mu_s_ent z4.2 ((mu_ent z4.2) + (zI 1)))) := hD
        refine lv_aload_n hx hb dX3_change_66 rfl (lv_at hl 1 rfl) ?_
        refine va_get (D := D) (ci := 3) (v := .ref (a 6)) (C := RX3) (T := TX3) (N := 16) hx hb hts in_X3_change_X3 hown hK hP 0 rfl rfl 13 (by decide) (hts _ (List.mem_of_getElem? (i := 2) rfl)) (fun _ h9 => h9) rfl dX3_change_67 ?_
        refine lv_iload hx hb dX3_change_70 (lv_at hl 0 rfl) ?_
        refine lv_iload_n hx hb dX3_change_72 rfl (lv_at hl 2 rfl) ?_
        obtain ⟨g13, hf⟩ := vgs hf
        refine va_iast hx hb hK hP hD hS 6 5 rfl rfl g13 dX3_change_73 (fun H locs hP hD hS => ?_)
        have hP : va_P D vwCl (MW a n cA (mu_s_ese (mu_s_ent z4.2 ((mu_ent z4.2) + (zI 1))) (upd (mu_ese z4.2) ((mu_ent z4.2)).toNatClampNeg x1))) H := hP
        have hD : va_D A (MW a n cA (mu_s_ese (mu_s_ent z4.2 ((mu_ent z4.2) + (zI 1))) (upd (mu_ese z4.2) ((mu_ent z4.2)).toNatClampNeg x1))) := hD
        refine lv_aload_n hx hb dX3_change_74 rfl (lv_at hl 1 rfl) ?_
        refine va_get (D := D) (ci := 3) (v := .ref (a 7)) (C := RX3) (T := TX3) (N := 16) hx hb hts in_X3_change_X3 hown hK hP 0 rfl rfl 14 (by decide) (hts _ (List.mem_of_getElem? (i := 3) rfl)) (fun _ h9 => h9) rfl dX3_change_75 ?_
        refine lv_iload hx hb dX3_change_78 (lv_at hl 0 rfl) ?_
        refine lv_iload_n hx hb dX3_change_80 rfl (lv_at hl 3 rfl) ?_
        obtain ⟨g14, hf⟩ := vgs hf
        refine va_iast hx hb hK hP hD hS 7 6 rfl rfl g14 dX3_change_81 (fun H locs hP hD hS => ?_)
        have hP : va_P D vwCl (MW a n cA (mu_s_eva (mu_s_ese (mu_s_ent z4.2 ((mu_ent z4.2) + (zI 1))) (upd (mu_ese z4.2) ((mu_ent z4.2)).toNatClampNeg x1)) (upd (mu_eva z4.2) ((mu_ent z4.2)).toNatClampNeg x2))) H := hP
        have hD : va_D A (MW a n cA (mu_s_eva (mu_s_ese (mu_s_ent z4.2 ((mu_ent z4.2) + (zI 1))) (upd (mu_ese z4.2) ((mu_ent z4.2)).toNatClampNeg x1)) (upd (mu_eva z4.2) ((mu_ent z4.2)).toNatClampNeg x2))) := hD
        refine lv_aload_n hx hb dX3_change_82 rfl (lv_at hl 1 rfl) ?_
        refine va_get (D := D) (ci := 3) (v := .ref (a 8)) (C := RX3) (T := TX3) (N := 16) hx hb hts in_X3_change_X3 hown hK hP 0 rfl rfl 15 (by decide) (hts _ (List.mem_of_getElem? (i := 4) rfl)) (fun _ h9 => h9) rfl dX3_change_83 ?_
        refine lv_iload hx hb dX3_change_86 (lv_at hl 0 rfl) ?_
        refine lv_iload_n hx hb dX3_change_88 rfl (lv_at hl 4 rfl) ?_
        obtain ⟨g15, hf⟩ := vgs hf
        refine va_iast hx hb hK hP hD hS 8 7 rfl rfl g15 dX3_change_89 (fun H locs hP hD hS => ?_)
        have hP : va_P D vwCl (MW a n cA (mu_s_eso (mu_s_eva (mu_s_ese (mu_s_ent z4.2 ((mu_ent z4.2) + (zI 1))) (upd (mu_ese z4.2) ((mu_ent z4.2)).toNatClampNeg x1)) (upd (mu_eva z4.2) ((mu_ent z4.2)).toNatClampNeg x2)) (upd (mu_eso z4.2) ((mu_ent z4.2)).toNatClampNeg x3))) H := hP
        have hD : va_D A (MW a n cA (mu_s_eso (mu_s_eva (mu_s_ese (mu_s_ent z4.2 ((mu_ent z4.2) + (zI 1))) (upd (mu_ese z4.2) ((mu_ent z4.2)).toNatClampNeg x1)) (upd (mu_eva z4.2) ((mu_ent z4.2)).toNatClampNeg x2)) (upd (mu_eso z4.2) ((mu_ent z4.2)).toNatClampNeg x3))) := hD
        refine lv_iconst (v := zI 0) hx hb dX3_change_90 (by decide) ?_
        cases hf
        exact vz_iret X hP hD hS dX3_change_91
      · have hf := ift c11 hf
        refine lv_aload_n hx hb dX3_change_31 rfl (lv_at hl 1 rfl) ?_
        obtain ⟨z16, hz17, hf⟩ := bd hf
        refine vz_call (rest := []) X (kX3_store hz17) (cwV 0 hts gX3_change_X3_store rfl rfl rfl (by decide +kernel) ⟨Nat.le_of_ble_eq_true rfl, Nat.le_of_ble_eq_true rfl⟩) 0 3 rfl rfl rfl hl.1 rfl (Nat.le_of_ble_eq_true rfl) dX3_change_32 ⟨Nat.zero_le _, Nat.zero_le _⟩ hP hD hS (fun H locs hP hD hS => ?_)
        refine lv_if_ne (tgt := 44) hx hb dX3_change_35 (by decide) (fun c18 => ?_) (fun c18 => ?_)
        · have hf := iff_ c18 hf
          refine lv_iload hx hb dX3_change_44 (lv_at hl 0 rfl) ?_
          refine lv_iconst (v := zI (-1)) hx hb dX3_change_46 (by decide) ?_
          refine lv_icmp_ne (tgt := 66) hx hb dX3_change_47 (by decide) (fun c19 => absurd c6 c19) (fun c19 => ?_)
          refine lv_aload_n hx hb dX3_change_50 rfl (lv_at hl 1 rfl) ?_
          refine va_get (D := D) (ci := 3) (v := .int (mu_ent z16.2)) (C := RX3) (T := TX3) (N := 16) hx hb hts in_X3_change_X3 hown hK hP 0 rfl rfl 12 (by decide) (hts _ (List.mem_of_getElem? (i := 1) rfl)) (fun _ h9 => h9) rfl dX3_change_51 ?_
          refine lv_istore (lv' := [(4, .int (mu_ent z16.2)), (0, .ref (a 0)), (1, .int x1), (2, .int x2), (3, .int x3)]) hx hb dX3_change_54 hl (by decide) rfl (fun ls hl => ?_)
          refine lv_aload_n hx hb dX3_change_56 rfl (lv_at hl 1 rfl) ?_
          refine lv_dup hx hb dX3_change_57 rfl ?_
          refine va_get (D := D) (ci := 3) (v := .int (mu_ent z16.2)) (C := RX3) (T := TX3) (N := 16) hx hb hts in_X3_change_X3 hown hK hP 0 rfl rfl 12 (by decide) (hts _ (List.mem_of_getElem? (i := 1) rfl)) (fun _ h9 => h9) rfl dX3_change_58 ?_
          refine lv_iconst (v := zI 1) hx hb dX3_change_61 (by decide) ?_
          refine lv_iadd hx hb dX3_change_62 ?_
          refine va_put (D := D) (ci := 3) (v := .int ((mu_ent z16.2) + (zI 1))) (ty := .int) (C := RX3) (T := TX3) (N := 16) hx hb hts in_X3_change_X3 tyX3 tyX3_ok nmX3 hown hK hP hD hS 0 rfl rfl 12 (by decide) (hts _ (List.mem_of_getElem? (i := 1) rfl)) (fun _ h9 => h9) rfl (by decide +kernel) rfl rfl (Nat.le_of_ble_eq_true rfl) dX3_change_63 (fun H locs hP hD hS => ?_)
          have hP : va_P D vwCl (MW a n cA (mu_s_ent z16.2 ((mu_ent z16.2) + (zI 1)))) H := hP
          have hD : va_D A (MW a n cA (mu_s_ent z16.2 ((mu_ent z16.2) + (zI 1)))) := hD
          refine lv_aload_n hx hb dX3_change_66 rfl (lv_at hl 1 rfl) ?_
          refine va_get (D := D) (ci := 3) (v := .ref (a 6)) (C := RX3) (T := TX3) (N := 16) hx hb hts in_X3_change_X3 hown hK hP 0 rfl rfl 13 (by decide) (hts _ (List.mem_of_getElem? (i := 2) rfl)) (fun _ h9 => h9) rfl dX3_change_67 ?_
          refine lv_iload hx hb dX3_change_70 (lv_at hl 0 rfl) ?_
          refine lv_iload_n hx hb dX3_change_72 rfl (lv_at hl 2 rfl) ?_
          obtain ⟨g20, hf⟩ := vgs hf
          refine va_iast hx hb hK hP hD hS 6 5 rfl rfl g20 dX3_change_73 (fun H locs hP hD hS => ?_)
          have hP : va_P D vwCl (MW a n cA (mu_s_ese (mu_s_ent z16.2 ((mu_ent z16.2) + (zI 1))) (upd (mu_ese z16.2) ((mu_ent z16.2)).toNatClampNeg x1))) H := hP
          have hD : va_D A (MW a n cA (mu_s_ese (mu_s_ent z16.2 ((mu_ent z16.2) + (zI 1))) (upd (mu_ese z16.2) ((mu_ent z16.2)).toNatClampNeg x1))) := hD
          refine lv_aload_n hx hb dX3_change_74 rfl (lv_at hl 1 rfl) ?_
          refine va_get (D := D) (ci := 3) (v := .ref (a 7)) (C := RX3) (T := TX3) (N := 16) hx hb hts in_X3_change_X3 hown hK hP 0 rfl rfl 14 (by decide) (hts _ (List.mem_of_getElem? (i := 3) rfl)) (fun _ h9 => h9) rfl dX3_change_75 ?_
          refine lv_iload hx hb dX3_change_78 (lv_at hl 0 rfl) ?_
          refine lv_iload_n hx hb dX3_change_80 rfl (lv_at hl 3 rfl) ?_
          obtain ⟨g21, hf⟩ := vgs hf
          refine va_iast hx hb hK hP hD hS 7 6 rfl rfl g21 dX3_change_81 (fun H locs hP hD hS => ?_)
          have hP : va_P D vwCl (MW a n cA (mu_s_eva (mu_s_ese (mu_s_ent z16.2 ((mu_ent z16.2) + (zI 1))) (upd (mu_ese z16.2) ((mu_ent z16.2)).toNatClampNeg x1)) (upd (mu_eva z16.2) ((mu_ent z16.2)).toNatClampNeg x2))) H := hP
          have hD : va_D A (MW a n cA (mu_s_eva (mu_s_ese (mu_s_ent z16.2 ((mu_ent z16.2) + (zI 1))) (upd (mu_ese z16.2) ((mu_ent z16.2)).toNatClampNeg x1)) (upd (mu_eva z16.2) ((mu_ent z16.2)).toNatClampNeg x2))) := hD
          refine lv_aload_n hx hb dX3_change_82 rfl (lv_at hl 1 rfl) ?_
          refine va_get (D := D) (ci := 3) (v := .ref (a 8)) (C := RX3) (T := TX3) (N := 16) hx hb hts in_X3_change_X3 hown hK hP 0 rfl rfl 15 (by decide) (hts _ (List.mem_of_getElem? (i := 4) rfl)) (fun _ h9 => h9) rfl dX3_change_83 ?_
          refine lv_iload hx hb dX3_change_86 (lv_at hl 0 rfl) ?_
          refine lv_iload_n hx hb dX3_change_88 rfl (lv_at hl 4 rfl) ?_
          obtain ⟨g22, hf⟩ := vgs hf
          refine va_iast hx hb hK hP hD hS 8 7 rfl rfl g22 dX3_change_89 (fun H locs hP hD hS => ?_)
          have hP : va_P D vwCl (MW a n cA (mu_s_eso (mu_s_eva (mu_s_ese (mu_s_ent z16.2 ((mu_ent z16.2) + (zI 1))) (upd (mu_ese z16.2) ((mu_ent z16.2)).toNatClampNeg x1)) (upd (mu_eva z16.2) ((mu_ent z16.2)).toNatClampNeg x2)) (upd (mu_eso z16.2) ((mu_ent z16.2)).toNatClampNeg x3))) H := hP
          have hD : va_D A (MW a n cA (mu_s_eso (mu_s_eva (mu_s_ese (mu_s_ent z16.2 ((mu_ent z16.2) + (zI 1))) (upd (mu_ese z16.2) ((mu_ent z16.2)).toNatClampNeg x1)) (upd (mu_eva z16.2) ((mu_ent z16.2)).toNatClampNeg x2)) (upd (mu_eso z16.2) ((mu_ent z16.2)).toNatClampNeg x3))) := hD
          refine lv_iconst (v := zI 0) hx hb dX3_change_90 (by decide) ?_
          cases hf
          exact vz_iret X hP hD hS dX3_change_91
        · have hf := ift c18 hf
          refine lv_aload_n hx hb dX3_change_38 rfl (lv_at hl 1 rfl) ?_
          obtain ⟨z23, hz24, hf⟩ := bd hf
          refine vz_callv (rest := []) X (kX3_cut hz24) (cwV 0 hts gX3_change_X3_cut rfl rfl rfl (by decide +kernel) ⟨Nat.le_of_ble_eq_true rfl, Nat.le_of_ble_eq_true rfl⟩) 0 3 rfl rfl rfl hl.1 rfl (Nat.le_of_ble_eq_true rfl) dX3_change_39 ⟨Nat.zero_le _, Nat.zero_le _⟩ hP hD hS (fun H locs hP hD hS => ?_)
          refine lv_iconst (v := zI 1) hx hb dX3_change_42 (by decide) ?_
          cases hf
          exact vz_iret X hP hD hS dX3_change_43
  · have hf := ift c3 hf
    refine lv_iconst (v := zI (-1)) hx hb dX3_change_8 (by decide) ?_
    cases hf
    exact vz_iret X hP hD hS dX3_change_9
end
theorem kX3_change {l : Launch} {D : va_G} {a n : Nat → Nat} {cA : Nat → ClassId} {K : Nat} {x1 x2 x3 : Int32} {u : MU} {r : Int32} {u2 : MU} (h : fX3_change n K x1 x2 x3 u = some (r, u2)) : vzC l D (MT cA) (MW a n cA) yX3_change wsX3_change rmX3_change [.ref (a 0), .int x1, .int x2, .int x3] u r u2 := vzC.of (by decide) rfl (Nat.le_of_ble_eq_true rfl) (fun p e s m below meth c A ls X hP hD hl => lbX3_change_e X x1 x2 x3 u s.heap [] ls r u2 h hP hD va_S.rf hl)
abbrev rmX3_write : Room := { frames := 7, cells := 0, slots := 0, locals := 162 }
theorem in_X3_write_X3 : ∀ w ∈ u_ws RX3 TX3 16, w ∈ wsX3_write := fun _ h => List.mem_cons_of_mem _ (List.mem_append_right _ h)
def fX3_write (n : Nat → Nat) (K : Nat) (x1 x2 : Int32) (u : MU) : Option (Int32 × MU) := (fX3_change n K x1 x2 (zI 1) u).bind fun z1 => (some (z1.1, z1.2))
section
variable {p : Program} {l : Launch} {e : Env} {s : State} {m : MethodId} {args : Array Value} {below : List Frame} {meth : Method} {c : Code} {D : va_G} {a n : Nat → Nat} {cA : Nat → ClassId} {A : Nat → Prop}
set_option maxHeartbeats 4000000 in
set_option maxRecDepth 100000 in
theorem lbX3_write_e {K : Nat} (X : vzX D (MT cA) A wsX3_write cX3_write 3 (some .int) RX3 p s m args meth c) : ∀ (x1 x2 : Int32) (u : MU) (H : Heap) (locs : List Loc) (ls : Array Slot) (r : Int32) (u2 : MU), fX3_write n K x1 x2 u = some (r, u2) → va_P D vwCl (MW a n cA u) H → va_D A (MW a n cA u) → va_S A s.heap H locs → lv_has ls 3 [(0, .ref (a 0)), (1, .int x1), (2, .int x2)] → W p l e (headSpec wsX3_write rmX3_write).room s m args below meth c H locs 0 0 (MQ below (vzQ D (MT cA) (MW a n cA) A r u2) args s 0 0 A) (F0 m 0 ls []) := by
  obtain ⟨hx, hb, hr, hml, hown, hts, hlk, hN, hK, hA⟩ := id X
  intro x1 x2 u H locs ls r u2 hf hP hD hS hl
  unfold fX3_write at hf
  refine lv_aload_n hx hb dX3_write_0 rfl (lv_at hl 0 rfl) ?_
  refine lv_iload_n hx hb dX3_write_1 rfl (lv_at hl 1 rfl) ?_
  refine lv_iload_n hx hb dX3_write_2 rfl (lv_at hl 2 rfl) ?_
  refine lv_iconst (v := zI 1) hx hb dX3_write_3 (by decide) ?_
  obtain ⟨z1, hz2, hf⟩ := bd hf
  refine vz_call (rest := []) X (kX3_change hz2) (cwV 3 hts gX3_write_X3_change rfl rfl rfl (by decide +kernel) ⟨Nat.le_of_ble_eq_true rfl, Nat.le_of_ble_eq_true rfl⟩) 0 3 rfl rfl rfl hl.1 rfl (Nat.le_of_ble_eq_true rfl) dX3_write_4 ⟨Nat.zero_le _, Nat.zero_le _⟩ hP hD hS (fun H locs hP hD hS => ?_)
  cases hf
  exact vz_iret X hP hD hS dX3_write_7
end
theorem kX3_write {l : Launch} {D : va_G} {a n : Nat → Nat} {cA : Nat → ClassId} {K : Nat} {x1 x2 : Int32} {u : MU} {r : Int32} {u2 : MU} (h : fX3_write n K x1 x2 u = some (r, u2)) : vzC l D (MT cA) (MW a n cA) yX3_write wsX3_write rmX3_write [.ref (a 0), .int x1, .int x2] u r u2 := vzC.of (by decide) rfl (Nat.le_of_ble_eq_true rfl) (fun p e s m below meth c A ls X hP hD hl => lbX3_write_e X x1 x2 u s.heap [] ls r u2 h hP hD va_S.rf hl)
abbrev rmX3_trim : Room := { frames := 7, cells := 0, slots := 0, locals := 162 }
theorem in_X3_trim_X3 : ∀ w ∈ u_ws RX3 TX3 16, w ∈ wsX3_trim := fun _ h => List.mem_cons_of_mem _ (List.mem_append_right _ h)
def fX3_trim (n : Nat → Nat) (K : Nat) (x1 : Int32) (u : MU) : Option (Int32 × MU) := (fX3_change n K x1 (zI 0) (zI 2) u).bind fun z1 => (some (z1.1, z1.2))
section
variable {p : Program} {l : Launch} {e : Env} {s : State} {m : MethodId} {args : Array Value} {below : List Frame} {meth : Method} {c : Code} {D : va_G} {a n : Nat → Nat} {cA : Nat → ClassId} {A : Nat → Prop}
set_option maxHeartbeats 4000000 in
set_option maxRecDepth 100000 in
theorem lbX3_trim_e {K : Nat} (X : vzX D (MT cA) A wsX3_trim cX3_trim 2 (some .int) RX3 p s m args meth c) : ∀ (x1 : Int32) (u : MU) (H : Heap) (locs : List Loc) (ls : Array Slot) (r : Int32) (u2 : MU), fX3_trim n K x1 u = some (r, u2) → va_P D vwCl (MW a n cA u) H → va_D A (MW a n cA u) → va_S A s.heap H locs → lv_has ls 2 [(0, .ref (a 0)), (1, .int x1)] → W p l e (headSpec wsX3_trim rmX3_trim).room s m args below meth c H locs 0 0 (MQ below (vzQ D (MT cA) (MW a n cA) A r u2) args s 0 0 A) (F0 m 0 ls []) := by
  obtain ⟨hx, hb, hr, hml, hown, hts, hlk, hN, hK, hA⟩ := id X
  intro x1 u H locs ls r u2 hf hP hD hS hl
  unfold fX3_trim at hf
  refine lv_aload_n hx hb dX3_trim_0 rfl (lv_at hl 0 rfl) ?_
  refine lv_iload_n hx hb dX3_trim_1 rfl (lv_at hl 1 rfl) ?_
  refine lv_iconst (v := zI 0) hx hb dX3_trim_2 (by decide) ?_
  refine lv_iconst (v := zI 2) hx hb dX3_trim_3 (by decide) ?_
  obtain ⟨z1, hz2, hf⟩ := bd hf
  refine vz_call (rest := []) X (kX3_change hz2) (cwV 3 hts gX3_trim_X3_change rfl rfl rfl (by decide +kernel) ⟨Nat.le_of_ble_eq_true rfl, Nat.le_of_ble_eq_true rfl⟩) 0 3 rfl rfl rfl hl.1 rfl (Nat.le_of_ble_eq_true rfl) dX3_trim_4 ⟨Nat.zero_le _, Nat.zero_le _⟩ hP hD hS (fun H locs hP hD hS => ?_)
  cases hf
  exact vz_iret X hP hD hS dX3_trim_7
end
theorem kX3_trim {l : Launch} {D : va_G} {a n : Nat → Nat} {cA : Nat → ClassId} {K : Nat} {x1 : Int32} {u : MU} {r : Int32} {u2 : MU} (h : fX3_trim n K x1 u = some (r, u2)) : vzC l D (MT cA) (MW a n cA) yX3_trim wsX3_trim rmX3_trim [.ref (a 0), .int x1] u r u2 := vzC.of (by decide) rfl (Nat.le_of_ble_eq_true rfl) (fun p e s m below meth c A ls X hP hD hl => lbX3_trim_e X x1 u s.heap [] ls r u2 h hP hD va_S.rf hl)
abbrev rmX3_flush : Room := { frames := 6, cells := 0, slots := 0, locals := 138 }
theorem in_X3_flush_X3 : ∀ w ∈ u_ws RX3 TX3 16, w ∈ wsX3_flush := fun _ h => List.mem_cons_of_mem _ (List.mem_append_right _ h)
def fX3_flush_0 (n : Nat → Nat) (K : Nat) : Nat → MU → Option (Int32 × MU)
  | 0, _ => none
  | N + 1, u => if (mu_ent u) ≤ 0 then (some (zI 0, u)) else ((fX3_store n K u).bind fun z2 => (if z2.1 = 0 then ((fX3_cut n K z2.2).bind fun z5 => (some (zI 1, z5))) else (fX3_flush_0 n K N z2.2)))
def fX3_flush (n : Nat → Nat) (K : Nat) (u : MU) : Option (Int32 × MU) := fX3_flush_0 n K K u
section
variable {p : Program} {l : Launch} {e : Env} {s : State} {m : MethodId} {args : Array Value} {below : List Frame} {meth : Method} {c : Code} {D : va_G} {a n : Nat → Nat} {cA : Nat → ClassId} {A : Nat → Prop}
set_option maxHeartbeats 4000000 in
set_option maxRecDepth 100000 in
theorem lbX3_flush_0 {K : Nat} (X : vzX D (MT cA) A wsX3_flush cX3_flush 1 (some .int) RX3 p s m args meth c) : ∀ (N : Nat) (u : MU) (H : Heap) (locs : List Loc) (ls : Array Slot) (r : Int32) (u2 : MU), fX3_flush_0 n K N u = some (r, u2) → va_P D vwCl (MW a n cA u) H → va_D A (MW a n cA u) → va_S A s.heap H locs → lv_has ls 1 [(0, .ref (a 0))] → W p l e (headSpec wsX3_flush rmX3_flush).room s m args below meth c H locs 0 0 (MQ below (vzQ D (MT cA) (MW a n cA) A r u2) args s 0 0 A) (F0 m 0 ls []) := by
  obtain ⟨hx, hb, hr, hml, hown, hts, hlk, hN, hK, hA⟩ := id X
  intro N
  induction N with
  | zero =>
    intro u H locs ls r u2 hf
    cases hf
  | succ N ih =>
    intro u H locs ls r u2 hf hP hD hS hl
    rw [fX3_flush_0] at hf
    refine lv_aload_n hx hb dX3_flush_0 rfl (lv_at hl 0 rfl) ?_
    refine va_get (D := D) (ci := 3) (v := .int (mu_ent u)) (C := RX3) (T := TX3) (N := 16) hx hb hts in_X3_flush_X3 hown hK hP 0 rfl rfl 12 (by decide) (hts _ (List.mem_of_getElem? (i := 1) rfl)) (fun _ h9 => h9) rfl dX3_flush_1 ?_
    refine lv_if_le (tgt := 20) hx hb dX3_flush_4 (by decide) (fun c1 => ?_) (fun c1 => ?_)
    · have hf := ift c1 hf
      refine lv_iconst (v := zI 0) hx hb dX3_flush_20 (by decide) ?_
      cases hf
      exact vz_iret X hP hD hS dX3_flush_21
    · have hf := iff_ c1 hf
      refine lv_aload_n hx hb dX3_flush_7 rfl (lv_at hl 0 rfl) ?_
      obtain ⟨z2, hz3, hf⟩ := bd hf
      refine vz_call (rest := []) X (kX3_store hz3) (cwV 0 hts gX3_flush_X3_store rfl rfl rfl (by decide +kernel) ⟨Nat.le_of_ble_eq_true rfl, Nat.le_of_ble_eq_true rfl⟩) 0 3 rfl rfl rfl hl.1 rfl (Nat.le_of_ble_eq_true rfl) dX3_flush_8 ⟨Nat.zero_le _, Nat.zero_le _⟩ hP hD hS (fun H locs hP hD hS => ?_)
      refine lv_if_ne (tgt := 0) hx hb dX3_flush_11 (by decide) (fun c4 => ?_) (fun c4 => ?_)
      · have hf := iff_ c4 hf
        exact ih z2.2 _ _ _ _ _ hf hP hD hS (lv_sub hl [0] rfl)
      · have hf := ift c4 hf
        refine lv_aload_n hx hb dX3_flush_14 rfl (lv_at hl 0 rfl) ?_
        obtain ⟨z5, hz6, hf⟩ := bd hf
        refine vz_callv (rest := []) X (kX3_cut hz6) (cwV 0 hts gX3_flush_X3_cut rfl rfl rfl (by decide +kernel) ⟨Nat.le_of_ble_eq_true rfl, Nat.le_of_ble_eq_true rfl⟩) 0 3 rfl rfl rfl hl.1 rfl (Nat.le_of_ble_eq_true rfl) dX3_flush_15 ⟨Nat.zero_le _, Nat.zero_le _⟩ hP hD hS (fun H locs hP hD hS => ?_)
        refine lv_iconst (v := zI 1) hx hb dX3_flush_18 (by decide) ?_
        cases hf
        exact vz_iret X hP hD hS dX3_flush_19
set_option maxHeartbeats 4000000 in
set_option maxRecDepth 100000 in
theorem lbX3_flush_e {K : Nat} (X : vzX D (MT cA) A wsX3_flush cX3_flush 1 (some .int) RX3 p s m args meth c) : ∀ (u : MU) (H : Heap) (locs : List Loc) (ls : Array Slot) (r : Int32) (u2 : MU), fX3_flush n K u = some (r, u2) → va_P D vwCl (MW a n cA u) H → va_D A (MW a n cA u) → va_S A s.heap H locs → lv_has ls 1 [(0, .ref (a 0))] → W p l e (headSpec wsX3_flush rmX3_flush).room s m args below meth c H locs 0 0 (MQ below (vzQ D (MT cA) (MW a n cA) A r u2) args s 0 0 A) (F0 m 0 ls []) := by
  obtain ⟨hx, hb, hr, hml, hown, hts, hlk, hN, hK, hA⟩ := id X
  intro u H locs ls r u2 hf hP hD hS hl
  unfold fX3_flush at hf
  exact lbX3_flush_0 X K u _ _ _ _ _ hf hP hD hS (lv_sub hl [0] rfl)
end
theorem kX3_flush {l : Launch} {D : va_G} {a n : Nat → Nat} {cA : Nat → ClassId} {K : Nat} {u : MU} {r : Int32} {u2 : MU} (h : fX3_flush n K u = some (r, u2)) : vzC l D (MT cA) (MW a n cA) yX3_flush wsX3_flush rmX3_flush [.ref (a 0)] u r u2 := vzC.of (by decide) rfl (Nat.le_of_ble_eq_true rfl) (fun p e s m below meth c A ls X hP hD hl => lbX3_flush_e X u s.heap [] ls r u2 h hP hD va_S.rf hl)
abbrev rmX3_fuse : Room := { frames := 0, cells := 0, slots := 0, locals := 0 }
theorem in_X3_fuse_X3 : ∀ w ∈ u_ws RX3 TX3 16, w ∈ wsX3_fuse := fun _ h => List.mem_cons_of_mem _ (List.mem_append_right _ h)
def fX3_fuse (n : Nat → Nat) (K : Nat) (x1 : Int32) (u : MU) : Option (Int32 × MU) := if x1 < 0 then (some (zI 0, u)) else (if x1 ≤ (zI 1000) then (some (zI 1, mu_s_fus u x1)) else (some (zI 0, u)))
section
variable {p : Program} {l : Launch} {e : Env} {s : State} {m : MethodId} {args : Array Value} {below : List Frame} {meth : Method} {c : Code} {D : va_G} {a n : Nat → Nat} {cA : Nat → ClassId} {A : Nat → Prop}
set_option maxHeartbeats 4000000 in
set_option maxRecDepth 100000 in
theorem lbX3_fuse_e {K : Nat} (X : vzX D (MT cA) A wsX3_fuse cX3_fuse 2 (some .boolean) RX3 p s m args meth c) : ∀ (x1 : Int32) (u : MU) (H : Heap) (locs : List Loc) (ls : Array Slot) (r : Int32) (u2 : MU), fX3_fuse n K x1 u = some (r, u2) → va_P D vwCl (MW a n cA u) H → va_D A (MW a n cA u) → va_S A s.heap H locs → lv_has ls 2 [(0, .ref (a 0)), (1, .int x1)] → W p l e (headSpec wsX3_fuse rmX3_fuse).room s m args below meth c H locs 0 0 (MQ below (vzQ D (MT cA) (MW a n cA) A r u2) args s 0 0 A) (F0 m 0 ls []) := by
  obtain ⟨hx, hb, hr, hml, hown, hts, hlk, hN, hK, hA⟩ := id X
  intro x1 u H locs ls r u2 hf hP hD hS hl
  unfold fX3_fuse at hf
  refine lv_iload_n hx hb dX3_fuse_0 rfl (lv_at hl 1 rfl) ?_
  refine lv_if_lt (tgt := 11) hx hb dX3_fuse_1 (by decide) (fun c1 => ?_) (fun c1 => ?_)
  · have hf := ift c1 hf
    refine lv_iconst (v := zI 0) hx hb dX3_fuse_11 (by decide) ?_
    cases hf
    exact vz_zret X rfl hP hD hS dX3_fuse_12
  · have hf := iff_ c1 hf
    refine lv_iload_n hx hb dX3_fuse_4 rfl (lv_at hl 1 rfl) ?_
    refine lv_sipush (v := zI 1000) hx hb dX3_fuse_5 (by decide) ?_
    refine lv_icmp_le (tgt := 13) hx hb dX3_fuse_8 (by decide) (fun c2 => ?_) (fun c2 => ?_)
    · have hf := ift c2 hf
      refine lv_aload_n hx hb dX3_fuse_13 rfl (lv_at hl 0 rfl) ?_
      refine lv_iload_n hx hb dX3_fuse_14 rfl (lv_at hl 1 rfl) ?_
      refine va_put (D := D) (ci := 3) (v := .int x1) (ty := .int) (C := RX3) (T := TX3) (N := 16) hx hb hts in_X3_fuse_X3 tyX3 tyX3_ok nmX3 hown hK hP hD hS 0 rfl rfl 10 (by decide) (hts _ (List.mem_of_getElem? (i := 1) rfl)) (fun _ h9 => h9) rfl (by decide +kernel) rfl rfl (Nat.le_of_ble_eq_true rfl) dX3_fuse_15 (fun H locs hP hD hS => ?_)
      have hP : va_P D vwCl (MW a n cA (mu_s_fus u x1)) H := hP
      have hD : va_D A (MW a n cA (mu_s_fus u x1)) := hD
      refine lv_iconst (v := zI 1) hx hb dX3_fuse_18 (by decide) ?_
      cases hf
      exact vz_zret X rfl hP hD hS dX3_fuse_19
    · have hf := iff_ c2 hf
      refine lv_iconst (v := zI 0) hx hb dX3_fuse_11 (by decide) ?_
      cases hf
      exact vz_zret X rfl hP hD hS dX3_fuse_12
end
theorem kX3_fuse {l : Launch} {D : va_G} {a n : Nat → Nat} {cA : Nat → ClassId} {K : Nat} {x1 : Int32} {u : MU} {r : Int32} {u2 : MU} (h : fX3_fuse n K x1 u = some (r, u2)) : vzC l D (MT cA) (MW a n cA) yX3_fuse wsX3_fuse rmX3_fuse [.ref (a 0), .int x1] u r u2 := vzC.of (by decide) rfl (Nat.le_of_ble_eq_true rfl) (fun p e s m below meth c A ls X hP hD hl => lbX3_fuse_e X x1 u s.heap [] ls r u2 h hP hD va_S.rf hl)
end
section
abbrev rmX3_read : Room := { frames := 2, cells := 0, slots := 0, locals := 41 }
theorem in_X3_read_X3 : ∀ w ∈ u_ws RX3 TX3 16, w ∈ wsX3_read := fun _ h => List.mem_cons_of_mem _ (List.mem_append_right _ h)
def fX3_read (n : Nat → Nat) (K : Nat) (x1 : Int32) (u : MU) : Option (Int32 × MU) := (fX3_isSector n K x1 u).bind fun z1 => (if z1.1 = 0 then ((fX3_isSector n K x1 z1.2).bind fun z5 => (if z5.1 = 0 then (some (zI 0, z5.2)) else ((fX3_newest n K x1 z5.2).bind fun z9 => (if z9.1 = (zI (-1)) then (some (zI 0, z9.2)) else (vg z9.1 (n 2) (some ((mu_val z9.2) (z9.1).toNatClampNeg, z9.2))))))) else ((fX3_find n K x1 z1.2).bind fun z13 => (if z13.1 = (zI (-1)) then ((fX3_isSector n K x1 z13.2).bind fun z16 => (if z16.1 = 0 then (some (zI 0, z16.2)) else ((fX3_newest n K x1 z16.2).bind fun z20 => (if z20.1 = (zI (-1)) then (some (zI 0, z20.2)) else (vg z20.1 (n 2) (some ((mu_val z20.2) (z20.1).toNatClampNeg, z20.2))))))) else (vg z13.1 (n 7) (some ((mu_eva z13.2) (z13.1).toNatClampNeg, z13.2))))))
section
variable {p : Program} {l : Launch} {e : Env} {s : State} {m : MethodId} {args : Array Value} {below : List Frame} {meth : Method} {c : Code} {D : va_G} {a n : Nat → Nat} {cA : Nat → ClassId} {A : Nat → Prop}
set_option maxHeartbeats 4000000 in
set_option maxRecDepth 100000 in
theorem lbX3_read_e {K : Nat} (X : vzX D (MT cA) A wsX3_read cX3_read 4 (some .int) RX3 p s m args meth c) : ∀ (x1 : Int32) (u : MU) (H : Heap) (locs : List Loc) (ls : Array Slot) (r : Int32) (u2 : MU), fX3_read n K x1 u = some (r, u2) → va_P D vwCl (MW a n cA u) H → va_D A (MW a n cA u) → va_S A s.heap H locs → lv_has ls 4 [(0, .ref (a 0)), (1, .int x1)] → W p l e (headSpec wsX3_read rmX3_read).room s m args below meth c H locs 0 0 (MQ below (vzQ D (MT cA) (MW a n cA) A r u2) args s 0 0 A) (F0 m 0 ls []) := by
  obtain ⟨hx, hb, hr, hml, hown, hts, hlk, hN, hK, hA⟩ := id X
  intro x1 u H locs ls r u2 hf hP hD hS hl
  unfold fX3_read at hf
  refine lv_aload_n hx hb dX3_read_0 rfl (lv_at hl 0 rfl) ?_
  refine lv_iload_n hx hb dX3_read_1 rfl (lv_at hl 1 rfl) ?_
  obtain ⟨z1, hz2, hf⟩ := bd hf
  refine vz_call (rest := []) X (kX3_isSector hz2) (cwV 1 hts gX3_read_X3_isSector rfl rfl rfl (by decide +kernel) ⟨Nat.le_of_ble_eq_true rfl, Nat.le_of_ble_eq_true rfl⟩) 0 3 rfl rfl rfl hl.1 rfl (Nat.le_of_ble_eq_true rfl) dX3_read_2 ⟨Nat.zero_le _, Nat.zero_le _⟩ hP hD hS (fun H locs hP hD hS => ?_)
  refine lv_if_eq (tgt := 16) hx hb dX3_read_5 (by decide) (fun c3 => ?_) (fun c3 => ?_)
  · have hf := ift c3 hf
    refine lv_iconst (v := zI (-1)) hx hb dX3_read_16 (by decide) ?_
    refine lv_istore_n (lv' := [(2, .int (zI (-1))), (0, .ref (a 0)), (1, .int x1)]) hx hb dX3_read_17 rfl hl (by decide) rfl (fun ls hl => ?_)
    refine lv_iload_n hx hb dX3_read_18 rfl (lv_at hl 0 rfl) ?_
    refine lv_iconst (v := zI (-1)) hx hb dX3_read_19 (by decide) ?_
    refine lv_icmp_eq (tgt := 30) hx hb dX3_read_20 (by decide) (fun c4 => ?_) (fun c4 => absurd (by decide) c4)
    refine lv_aload_n hx hb dX3_read_30 rfl (lv_at hl 1 rfl) ?_
    refine lv_iload_n hx hb dX3_read_31 rfl (lv_at hl 2 rfl) ?_
    obtain ⟨z5, hz6, hf⟩ := bd hf
    refine vz_call (rest := []) X (kX3_isSector hz6) (cwV 1 hts gX3_read_X3_isSector rfl rfl rfl (by decide +kernel) ⟨Nat.le_of_ble_eq_true rfl, Nat.le_of_ble_eq_true rfl⟩) 0 3 rfl rfl rfl hl.1 rfl (Nat.le_of_ble_eq_true rfl) dX3_read_32 ⟨Nat.zero_le _, Nat.zero_le _⟩ hP hD hS (fun H locs hP hD hS => ?_)
    refine lv_if_eq (tgt := 46) hx hb dX3_read_35 (by decide) (fun c7 => ?_) (fun c7 => ?_)
    · have hf := ift c7 hf
      refine lv_iconst (v := zI (-1)) hx hb dX3_read_46 (by decide) ?_
      refine lv_istore_n (lv' := [(3, .int (zI (-1))), (2, .int (zI (-1))), (0, .ref (a 0)), (1, .int x1)]) hx hb dX3_read_47 rfl hl (by decide) rfl (fun ls hl => ?_)
      refine lv_iload_n hx hb dX3_read_48 rfl (lv_at hl 0 rfl) ?_
      refine lv_iconst (v := zI (-1)) hx hb dX3_read_49 (by decide) ?_
      refine lv_icmp_ne (tgt := 57) hx hb dX3_read_50 (by decide) (fun c8 => absurd (by decide) c8) (fun c8 => ?_)
      refine lv_iconst (v := zI 0) hx hb dX3_read_53 (by decide) ?_
      refine lv_goto (tgt := 63) hx hb dX3_read_54 (by decide) ?_
      cases hf
      exact vz_iret X hP hD hS dX3_read_63
    · have hf := iff_ c7 hf
      refine lv_aload_n hx hb dX3_read_38 rfl (lv_at hl 1 rfl) ?_
      refine lv_iload_n hx hb dX3_read_39 rfl (lv_at hl 2 rfl) ?_
      obtain ⟨z9, hz10, hf⟩ := bd hf
      refine vz_call (rest := []) X (kX3_newest hz10) (cwV 1 hts gX3_read_X3_newest rfl rfl rfl (by decide +kernel) ⟨Nat.le_of_ble_eq_true rfl, Nat.le_of_ble_eq_true rfl⟩) 0 3 rfl rfl rfl hl.1 rfl (Nat.le_of_ble_eq_true rfl) dX3_read_40 ⟨Nat.zero_le _, Nat.zero_le _⟩ hP hD hS (fun H locs hP hD hS => ?_)
      refine lv_goto (tgt := 47) hx hb dX3_read_43 (by decide) ?_
      refine lv_istore_n (lv' := [(3, .int z9.1), (2, .int (zI (-1))), (0, .ref (a 0)), (1, .int x1)]) hx hb dX3_read_47 rfl hl (by decide) rfl (fun ls hl => ?_)
      refine lv_iload_n hx hb dX3_read_48 rfl (lv_at hl 0 rfl) ?_
      refine lv_iconst (v := zI (-1)) hx hb dX3_read_49 (by decide) ?_
      refine lv_icmp_ne (tgt := 57) hx hb dX3_read_50 (by decide) (fun c11 => ?_) (fun c11 => ?_)
      · have hf := iff_ c11 hf
        refine lv_aload_n hx hb dX3_read_57 rfl (lv_at hl 2 rfl) ?_
        refine va_get (D := D) (ci := 3) (v := .ref (a 2)) (C := RX3) (T := TX3) (N := 16) hx hb hts in_X3_read_X3 hown hK hP 0 rfl rfl 3 (by decide) (hts _ (List.mem_of_getElem? (i := 2) rfl)) (fun _ h9 => h9) rfl dX3_read_58 ?_
        refine lv_iload_n hx hb dX3_read_61 rfl (lv_at hl 0 rfl) ?_
        obtain ⟨g12, hf⟩ := vgs hf
        refine va_iald hx hb hK hP 2 1 rfl rfl g12 dX3_read_62 ?_
        cases hf
        exact vz_iret X hP hD hS dX3_read_63
      · have hf := ift c11 hf
        refine lv_iconst (v := zI 0) hx hb dX3_read_53 (by decide) ?_
        refine lv_goto (tgt := 63) hx hb dX3_read_54 (by decide) ?_
        cases hf
        exact vz_iret X hP hD hS dX3_read_63
  · have hf := iff_ c3 hf
    refine lv_aload_n hx hb dX3_read_8 rfl (lv_at hl 0 rfl) ?_
    refine lv_iload_n hx hb dX3_read_9 rfl (lv_at hl 1 rfl) ?_
    obtain ⟨z13, hz14, hf⟩ := bd hf
    refine vz_call (rest := []) X (kX3_find hz14) (cwV 1 hts gX3_read_X3_find rfl rfl rfl (by decide +kernel) ⟨Nat.le_of_ble_eq_true rfl, Nat.le_of_ble_eq_true rfl⟩) 0 3 rfl rfl rfl hl.1 rfl (Nat.le_of_ble_eq_true rfl) dX3_read_10 ⟨Nat.zero_le _, Nat.zero_le _⟩ hP hD hS (fun H locs hP hD hS => ?_)
    refine lv_goto (tgt := 17) hx hb dX3_read_13 (by decide) ?_
    refine lv_istore_n (lv' := [(2, .int z13.1), (0, .ref (a 0)), (1, .int x1)]) hx hb dX3_read_17 rfl hl (by decide) rfl (fun ls hl => ?_)
    refine lv_iload_n hx hb dX3_read_18 rfl (lv_at hl 0 rfl) ?_
    refine lv_iconst (v := zI (-1)) hx hb dX3_read_19 (by decide) ?_
    refine lv_icmp_eq (tgt := 30) hx hb dX3_read_20 (by decide) (fun c15 => ?_) (fun c15 => ?_)
    · have hf := ift c15 hf
      refine lv_aload_n hx hb dX3_read_30 rfl (lv_at hl 1 rfl) ?_
      refine lv_iload_n hx hb dX3_read_31 rfl (lv_at hl 2 rfl) ?_
      obtain ⟨z16, hz17, hf⟩ := bd hf
      refine vz_call (rest := []) X (kX3_isSector hz17) (cwV 1 hts gX3_read_X3_isSector rfl rfl rfl (by decide +kernel) ⟨Nat.le_of_ble_eq_true rfl, Nat.le_of_ble_eq_true rfl⟩) 0 3 rfl rfl rfl hl.1 rfl (Nat.le_of_ble_eq_true rfl) dX3_read_32 ⟨Nat.zero_le _, Nat.zero_le _⟩ hP hD hS (fun H locs hP hD hS => ?_)
      refine lv_if_eq (tgt := 46) hx hb dX3_read_35 (by decide) (fun c18 => ?_) (fun c18 => ?_)
      · have hf := ift c18 hf
        refine lv_iconst (v := zI (-1)) hx hb dX3_read_46 (by decide) ?_
        refine lv_istore_n (lv' := [(3, .int (zI (-1))), (2, .int z13.1), (0, .ref (a 0)), (1, .int x1)]) hx hb dX3_read_47 rfl hl (by decide) rfl (fun ls hl => ?_)
        refine lv_iload_n hx hb dX3_read_48 rfl (lv_at hl 0 rfl) ?_
        refine lv_iconst (v := zI (-1)) hx hb dX3_read_49 (by decide) ?_
        refine lv_icmp_ne (tgt := 57) hx hb dX3_read_50 (by decide) (fun c19 => absurd (by decide) c19) (fun c19 => ?_)
        refine lv_iconst (v := zI 0) hx hb dX3_read_53 (by decide) ?_
        refine lv_goto (tgt := 63) hx hb dX3_read_54 (by decide) ?_
        cases hf
        exact vz_iret X hP hD hS dX3_read_63
      · have hf := iff_ c18 hf
        refine lv_aload_n hx hb dX3_read_38 rfl (lv_at hl 1 rfl) ?_
        refine lv_iload_n hx hb dX3_read_39 rfl (lv_at hl 2 rfl) ?_
        obtain ⟨z20, hz21, hf⟩ := bd hf
        refine vz_call (rest := []) X (kX3_newest hz21) (cwV 1 hts gX3_read_X3_newest rfl rfl rfl (by decide +kernel) ⟨Nat.le_of_ble_eq_true rfl, Nat.le_of_ble_eq_true rfl⟩) 0 3 rfl rfl rfl hl.1 rfl (Nat.le_of_ble_eq_true rfl) dX3_read_40 ⟨Nat.zero_le _, Nat.zero_le _⟩ hP hD hS (fun H locs hP hD hS => ?_)
        refine lv_goto (tgt := 47) hx hb dX3_read_43 (by decide) ?_
        refine lv_istore_n (lv' := [(3, .int z20.1), (2, .int z13.1), (0, .ref (a 0)), (1, .int x1)]) hx hb dX3_read_47 rfl hl (by decide) rfl (fun ls hl => ?_)
        refine lv_iload_n hx hb dX3_read_48 rfl (lv_at hl 0 rfl) ?_
        refine lv_iconst (v := zI (-1)) hx hb dX3_read_49 (by decide) ?_
        refine lv_icmp_ne (tgt := 57) hx hb dX3_read_50 (by decide) (fun c22 => ?_) (fun c22 => ?_)
        · have hf := iff_ c22 hf
          refine lv_aload_n hx hb dX3_read_57 rfl (lv_at hl 2 rfl) ?_
          refine va_get (D := D) (ci := 3) (v := .ref (a 2)) (C := RX3) (T := TX3) (N := 16) hx hb hts in_X3_read_X3 hown hK hP 0 rfl rfl 3 (by decide) (hts _ (List.mem_of_getElem? (i := 2) rfl)) (fun _ h9 => h9) rfl dX3_read_58 ?_
          refine lv_iload_n hx hb dX3_read_61 rfl (lv_at hl 0 rfl) ?_
          obtain ⟨g23, hf⟩ := vgs hf
          refine va_iald hx hb hK hP 2 1 rfl rfl g23 dX3_read_62 ?_
          cases hf
          exact vz_iret X hP hD hS dX3_read_63
        · have hf := ift c22 hf
          refine lv_iconst (v := zI 0) hx hb dX3_read_53 (by decide) ?_
          refine lv_goto (tgt := 63) hx hb dX3_read_54 (by decide) ?_
          cases hf
          exact vz_iret X hP hD hS dX3_read_63
    · have hf := iff_ c15 hf
      refine lv_aload_n hx hb dX3_read_23 rfl (lv_at hl 1 rfl) ?_
      refine va_get (D := D) (ci := 3) (v := .ref (a 7)) (C := RX3) (T := TX3) (N := 16) hx hb hts in_X3_read_X3 hown hK hP 0 rfl rfl 14 (by decide) (hts _ (List.mem_of_getElem? (i := 1) rfl)) (fun _ h9 => h9) rfl dX3_read_24 ?_
      refine lv_iload_n hx hb dX3_read_27 rfl (lv_at hl 0 rfl) ?_
      obtain ⟨g24, hf⟩ := vgs hf
      refine va_iald hx hb hK hP 7 6 rfl rfl g24 dX3_read_28 ?_
      cases hf
      exact vz_iret X hP hD hS dX3_read_29
end
theorem kX3_read {l : Launch} {D : va_G} {a n : Nat → Nat} {cA : Nat → ClassId} {K : Nat} {x1 : Int32} {u : MU} {r : Int32} {u2 : MU} (h : fX3_read n K x1 u = some (r, u2)) : vzC l D (MT cA) (MW a n cA) yX3_read wsX3_read rmX3_read [.ref (a 0), .int x1] u r u2 := vzC.of (by decide) rfl (Nat.le_of_ble_eq_true rfl) (fun p e s m below meth c A ls X hP hD hl => lbX3_read_e X x1 u s.heap [] ls r u2 h hP hD va_S.rf hl)
abbrev rmX3_holds : Room := { frames := 2, cells := 0, slots := 0, locals := 41 }
theorem in_X3_holds_X3 : ∀ w ∈ u_ws RX3 TX3 16, w ∈ wsX3_holds := fun _ h => List.mem_cons_of_mem _ (List.mem_append_right _ h)
def fX3_holds (n : Nat → Nat) (K : Nat) (x1 : Int32) (u : MU) : Option (Int32 × MU) := (fX3_isSector n K x1 u).bind fun z1 => (if z1.1 = 0 then ((fX3_isSector n K x1 z1.2).bind fun z5 => (if z5.1 = 0 then (some (zI 0, z5.2)) else ((fX3_newest n K x1 z5.2).bind fun z9 => (if z9.1 = (zI (-1)) then (some (zI 0, z9.2)) else (vg z9.1 (n 4) (some ((mu_sor z9.2) (z9.1).toNatClampNeg, z9.2))))))) else ((fX3_find n K x1 z1.2).bind fun z13 => (if z13.1 = (zI (-1)) then ((fX3_isSector n K x1 z13.2).bind fun z16 => (if z16.1 = 0 then (some (zI 0, z16.2)) else ((fX3_newest n K x1 z16.2).bind fun z20 => (if z20.1 = (zI (-1)) then (some (zI 0, z20.2)) else (vg z20.1 (n 4) (some ((mu_sor z20.2) (z20.1).toNatClampNeg, z20.2))))))) else (vg z13.1 (n 8) (some ((mu_eso z13.2) (z13.1).toNatClampNeg, z13.2))))))
section
variable {p : Program} {l : Launch} {e : Env} {s : State} {m : MethodId} {args : Array Value} {below : List Frame} {meth : Method} {c : Code} {D : va_G} {a n : Nat → Nat} {cA : Nat → ClassId} {A : Nat → Prop}
set_option maxHeartbeats 4000000 in
set_option maxRecDepth 100000 in
theorem lbX3_holds_e {K : Nat} (X : vzX D (MT cA) A wsX3_holds cX3_holds 4 (some .int) RX3 p s m args meth c) : ∀ (x1 : Int32) (u : MU) (H : Heap) (locs : List Loc) (ls : Array Slot) (r : Int32) (u2 : MU), fX3_holds n K x1 u = some (r, u2) → va_P D vwCl (MW a n cA u) H → va_D A (MW a n cA u) → va_S A s.heap H locs → lv_has ls 4 [(0, .ref (a 0)), (1, .int x1)] → W p l e (headSpec wsX3_holds rmX3_holds).room s m args below meth c H locs 0 0 (MQ below (vzQ D (MT cA) (MW a n cA) A r u2) args s 0 0 A) (F0 m 0 ls []) := by
  obtain ⟨hx, hb, hr, hml, hown, hts, hlk, hN, hK, hA⟩ := id X
  intro x1 u H locs ls r u2 hf hP hD hS hl
  unfold fX3_holds at hf
  refine lv_aload_n hx hb dX3_holds_0 rfl (lv_at hl 0 rfl) ?_
  refine lv_iload_n hx hb dX3_holds_1 rfl (lv_at hl 1 rfl) ?_
  obtain ⟨z1, hz2, hf⟩ := bd hf
  refine vz_call (rest := []) X (kX3_isSector hz2) (cwV 1 hts gX3_holds_X3_isSector rfl rfl rfl (by decide +kernel) ⟨Nat.le_of_ble_eq_true rfl, Nat.le_of_ble_eq_true rfl⟩) 0 3 rfl rfl rfl hl.1 rfl (Nat.le_of_ble_eq_true rfl) dX3_holds_2 ⟨Nat.zero_le _, Nat.zero_le _⟩ hP hD hS (fun H locs hP hD hS => ?_)
  refine lv_if_eq (tgt := 16) hx hb dX3_holds_5 (by decide) (fun c3 => ?_) (fun c3 => ?_)
  · have hf := ift c3 hf
    refine lv_iconst (v := zI (-1)) hx hb dX3_holds_16 (by decide) ?_
    refine lv_istore_n (lv' := [(2, .int (zI (-1))), (0, .ref (a 0)), (1, .int x1)]) hx hb dX3_holds_17 rfl hl (by decide) rfl (fun ls hl => ?_)
    refine lv_iload_n hx hb dX3_holds_18 rfl (lv_at hl 0 rfl) ?_
    refine lv_iconst (v := zI (-1)) hx hb dX3_holds_19 (by decide) ?_
    refine lv_icmp_eq (tgt := 30) hx hb dX3_holds_20 (by decide) (fun c4 => ?_) (fun c4 => absurd (by decide) c4)
    refine lv_aload_n hx hb dX3_holds_30 rfl (lv_at hl 1 rfl) ?_
    refine lv_iload_n hx hb dX3_holds_31 rfl (lv_at hl 2 rfl) ?_
    obtain ⟨z5, hz6, hf⟩ := bd hf
    refine vz_call (rest := []) X (kX3_isSector hz6) (cwV 1 hts gX3_holds_X3_isSector rfl rfl rfl (by decide +kernel) ⟨Nat.le_of_ble_eq_true rfl, Nat.le_of_ble_eq_true rfl⟩) 0 3 rfl rfl rfl hl.1 rfl (Nat.le_of_ble_eq_true rfl) dX3_holds_32 ⟨Nat.zero_le _, Nat.zero_le _⟩ hP hD hS (fun H locs hP hD hS => ?_)
    refine lv_if_eq (tgt := 46) hx hb dX3_holds_35 (by decide) (fun c7 => ?_) (fun c7 => ?_)
    · have hf := ift c7 hf
      refine lv_iconst (v := zI (-1)) hx hb dX3_holds_46 (by decide) ?_
      refine lv_istore_n (lv' := [(3, .int (zI (-1))), (2, .int (zI (-1))), (0, .ref (a 0)), (1, .int x1)]) hx hb dX3_holds_47 rfl hl (by decide) rfl (fun ls hl => ?_)
      refine lv_iload_n hx hb dX3_holds_48 rfl (lv_at hl 0 rfl) ?_
      refine lv_iconst (v := zI (-1)) hx hb dX3_holds_49 (by decide) ?_
      refine lv_icmp_ne (tgt := 57) hx hb dX3_holds_50 (by decide) (fun c8 => absurd (by decide) c8) (fun c8 => ?_)
      refine lv_iconst (v := zI 0) hx hb dX3_holds_53 (by decide) ?_
      refine lv_goto (tgt := 63) hx hb dX3_holds_54 (by decide) ?_
      cases hf
      exact vz_iret X hP hD hS dX3_holds_63
    · have hf := iff_ c7 hf
      refine lv_aload_n hx hb dX3_holds_38 rfl (lv_at hl 1 rfl) ?_
      refine lv_iload_n hx hb dX3_holds_39 rfl (lv_at hl 2 rfl) ?_
      obtain ⟨z9, hz10, hf⟩ := bd hf
      refine vz_call (rest := []) X (kX3_newest hz10) (cwV 1 hts gX3_holds_X3_newest rfl rfl rfl (by decide +kernel) ⟨Nat.le_of_ble_eq_true rfl, Nat.le_of_ble_eq_true rfl⟩) 0 3 rfl rfl rfl hl.1 rfl (Nat.le_of_ble_eq_true rfl) dX3_holds_40 ⟨Nat.zero_le _, Nat.zero_le _⟩ hP hD hS (fun H locs hP hD hS => ?_)
      refine lv_goto (tgt := 47) hx hb dX3_holds_43 (by decide) ?_
      refine lv_istore_n (lv' := [(3, .int z9.1), (2, .int (zI (-1))), (0, .ref (a 0)), (1, .int x1)]) hx hb dX3_holds_47 rfl hl (by decide) rfl (fun ls hl => ?_)
      refine lv_iload_n hx hb dX3_holds_48 rfl (lv_at hl 0 rfl) ?_
      refine lv_iconst (v := zI (-1)) hx hb dX3_holds_49 (by decide) ?_
      refine lv_icmp_ne (tgt := 57) hx hb dX3_holds_50 (by decide) (fun c11 => ?_) (fun c11 => ?_)
      · have hf := iff_ c11 hf
        refine lv_aload_n hx hb dX3_holds_57 rfl (lv_at hl 2 rfl) ?_
        refine va_get (D := D) (ci := 3) (v := .ref (a 4)) (C := RX3) (T := TX3) (N := 16) hx hb hts in_X3_holds_X3 hown hK hP 0 rfl rfl 5 (by decide) (hts _ (List.mem_of_getElem? (i := 2) rfl)) (fun _ h9 => h9) rfl dX3_holds_58 ?_
        refine lv_iload_n hx hb dX3_holds_61 rfl (lv_at hl 0 rfl) ?_
        obtain ⟨g12, hf⟩ := vgs hf
        refine va_iald hx hb hK hP 4 3 rfl rfl g12 dX3_holds_62 ?_
        cases hf
        exact vz_iret X hP hD hS dX3_holds_63
      · have hf := ift c11 hf
        refine lv_iconst (v := zI 0) hx hb dX3_holds_53 (by decide) ?_
        refine lv_goto (tgt := 63) hx hb dX3_holds_54 (by decide) ?_
        cases hf
        exact vz_iret X hP hD hS dX3_holds_63
  · have hf := iff_ c3 hf
    refine lv_aload_n hx hb dX3_holds_8 rfl (lv_at hl 0 rfl) ?_
    refine lv_iload_n hx hb dX3_holds_9 rfl (lv_at hl 1 rfl) ?_
    obtain ⟨z13, hz14, hf⟩ := bd hf
    refine vz_call (rest := []) X (kX3_find hz14) (cwV 1 hts gX3_holds_X3_find rfl rfl rfl (by decide +kernel) ⟨Nat.le_of_ble_eq_true rfl, Nat.le_of_ble_eq_true rfl⟩) 0 3 rfl rfl rfl hl.1 rfl (Nat.le_of_ble_eq_true rfl) dX3_holds_10 ⟨Nat.zero_le _, Nat.zero_le _⟩ hP hD hS (fun H locs hP hD hS => ?_)
    refine lv_goto (tgt := 17) hx hb dX3_holds_13 (by decide) ?_
    refine lv_istore_n (lv' := [(2, .int z13.1), (0, .ref (a 0)), (1, .int x1)]) hx hb dX3_holds_17 rfl hl (by decide) rfl (fun ls hl => ?_)
    refine lv_iload_n hx hb dX3_holds_18 rfl (lv_at hl 0 rfl) ?_
    refine lv_iconst (v := zI (-1)) hx hb dX3_holds_19 (by decide) ?_
    refine lv_icmp_eq (tgt := 30) hx hb dX3_holds_20 (by decide) (fun c15 => ?_) (fun c15 => ?_)
    · have hf := ift c15 hf
      refine lv_aload_n hx hb dX3_holds_30 rfl (lv_at hl 1 rfl) ?_
      refine lv_iload_n hx hb dX3_holds_31 rfl (lv_at hl 2 rfl) ?_
      obtain ⟨z16, hz17, hf⟩ := bd hf
      refine vz_call (rest := []) X (kX3_isSector hz17) (cwV 1 hts gX3_holds_X3_isSector rfl rfl rfl (by decide +kernel) ⟨Nat.le_of_ble_eq_true rfl, Nat.le_of_ble_eq_true rfl⟩) 0 3 rfl rfl rfl hl.1 rfl (Nat.le_of_ble_eq_true rfl) dX3_holds_32 ⟨Nat.zero_le _, Nat.zero_le _⟩ hP hD hS (fun H locs hP hD hS => ?_)
      refine lv_if_eq (tgt := 46) hx hb dX3_holds_35 (by decide) (fun c18 => ?_) (fun c18 => ?_)
      · have hf := ift c18 hf
        refine lv_iconst (v := zI (-1)) hx hb dX3_holds_46 (by decide) ?_
        refine lv_istore_n (lv' := [(3, .int (zI (-1))), (2, .int z13.1), (0, .ref (a 0)), (1, .int x1)]) hx hb dX3_holds_47 rfl hl (by decide) rfl (fun ls hl => ?_)
        refine lv_iload_n hx hb dX3_holds_48 rfl (lv_at hl 0 rfl) ?_
        refine lv_iconst (v := zI (-1)) hx hb dX3_holds_49 (by decide) ?_
        refine lv_icmp_ne (tgt := 57) hx hb dX3_holds_50 (by decide) (fun c19 => absurd (by decide) c19) (fun c19 => ?_)
        refine lv_iconst (v := zI 0) hx hb dX3_holds_53 (by decide) ?_
        refine lv_goto (tgt := 63) hx hb dX3_holds_54 (by decide) ?_
        cases hf
        exact vz_iret X hP hD hS dX3_holds_63
      · have hf := iff_ c18 hf
        refine lv_aload_n hx hb dX3_holds_38 rfl (lv_at hl 1 rfl) ?_
        refine lv_iload_n hx hb dX3_holds_39 rfl (lv_at hl 2 rfl) ?_
        obtain ⟨z20, hz21, hf⟩ := bd hf
        refine vz_call (rest := []) X (kX3_newest hz21) (cwV 1 hts gX3_holds_X3_newest rfl rfl rfl (by decide +kernel) ⟨Nat.le_of_ble_eq_true rfl, Nat.le_of_ble_eq_true rfl⟩) 0 3 rfl rfl rfl hl.1 rfl (Nat.le_of_ble_eq_true rfl) dX3_holds_40 ⟨Nat.zero_le _, Nat.zero_le _⟩ hP hD hS (fun H locs hP hD hS => ?_)
        refine lv_goto (tgt := 47) hx hb dX3_holds_43 (by decide) ?_
        refine lv_istore_n (lv' := [(3, .int z20.1), (2, .int z13.1), (0, .ref (a 0)), (1, .int x1)]) hx hb dX3_holds_47 rfl hl (by decide) rfl (fun ls hl => ?_)
        refine lv_iload_n hx hb dX3_holds_48 rfl (lv_at hl 0 rfl) ?_
        refine lv_iconst (v := zI (-1)) hx hb dX3_holds_49 (by decide) ?_
        refine lv_icmp_ne (tgt := 57) hx hb dX3_holds_50 (by decide) (fun c22 => ?_) (fun c22 => ?_)
        · have hf := iff_ c22 hf
          refine lv_aload_n hx hb dX3_holds_57 rfl (lv_at hl 2 rfl) ?_
          refine va_get (D := D) (ci := 3) (v := .ref (a 4)) (C := RX3) (T := TX3) (N := 16) hx hb hts in_X3_holds_X3 hown hK hP 0 rfl rfl 5 (by decide) (hts _ (List.mem_of_getElem? (i := 2) rfl)) (fun _ h9 => h9) rfl dX3_holds_58 ?_
          refine lv_iload_n hx hb dX3_holds_61 rfl (lv_at hl 0 rfl) ?_
          obtain ⟨g23, hf⟩ := vgs hf
          refine va_iald hx hb hK hP 4 3 rfl rfl g23 dX3_holds_62 ?_
          cases hf
          exact vz_iret X hP hD hS dX3_holds_63
        · have hf := ift c22 hf
          refine lv_iconst (v := zI 0) hx hb dX3_holds_53 (by decide) ?_
          refine lv_goto (tgt := 63) hx hb dX3_holds_54 (by decide) ?_
          cases hf
          exact vz_iret X hP hD hS dX3_holds_63
    · have hf := iff_ c15 hf
      refine lv_aload_n hx hb dX3_holds_23 rfl (lv_at hl 1 rfl) ?_
      refine va_get (D := D) (ci := 3) (v := .ref (a 8)) (C := RX3) (T := TX3) (N := 16) hx hb hts in_X3_holds_X3 hown hK hP 0 rfl rfl 15 (by decide) (hts _ (List.mem_of_getElem? (i := 1) rfl)) (fun _ h9 => h9) rfl dX3_holds_24 ?_
      refine lv_iload_n hx hb dX3_holds_27 rfl (lv_at hl 0 rfl) ?_
      obtain ⟨g24, hf⟩ := vgs hf
      refine va_iald hx hb hK hP 8 7 rfl rfl g24 dX3_holds_28 ?_
      cases hf
      exact vz_iret X hP hD hS dX3_holds_29
end
theorem kX3_holds {l : Launch} {D : va_G} {a n : Nat → Nat} {cA : Nat → ClassId} {K : Nat} {x1 : Int32} {u : MU} {r : Int32} {u2 : MU} (h : fX3_holds n K x1 u = some (r, u2)) : vzC l D (MT cA) (MW a n cA) yX3_holds wsX3_holds rmX3_holds [.ref (a 0), .int x1] u r u2 := vzC.of (by decide) rfl (Nat.le_of_ble_eq_true rfl) (fun p e s m below meth c A ls X hP hD hl => lbX3_holds_e X x1 u s.heap [] ls r u2 h hP hD va_S.rf hl)
abbrev rmX3_buffered : Room := { frames := 0, cells := 0, slots := 0, locals := 0 }
theorem in_X3_buffered_X3 : ∀ w ∈ u_ws RX3 TX3 16, w ∈ wsX3_buffered := fun _ h => List.mem_cons_of_mem _ (List.mem_append_right _ h)
def fX3_buffered (n : Nat → Nat) (K : Nat) (u : MU) : Option (Int32 × MU) := some (mu_ent u, u)
section
variable {p : Program} {l : Launch} {e : Env} {s : State} {m : MethodId} {args : Array Value} {below : List Frame} {meth : Method} {c : Code} {D : va_G} {a n : Nat → Nat} {cA : Nat → ClassId} {A : Nat → Prop}
set_option maxHeartbeats 4000000 in
set_option maxRecDepth 100000 in
theorem lbX3_buffered_e {K : Nat} (X : vzX D (MT cA) A wsX3_buffered cX3_buffered 1 (some .int) RX3 p s m args meth c) : ∀ (u : MU) (H : Heap) (locs : List Loc) (ls : Array Slot) (r : Int32) (u2 : MU), fX3_buffered n K u = some (r, u2) → va_P D vwCl (MW a n cA u) H → va_D A (MW a n cA u) → va_S A s.heap H locs → lv_has ls 1 [(0, .ref (a 0))] → W p l e (headSpec wsX3_buffered rmX3_buffered).room s m args below meth c H locs 0 0 (MQ below (vzQ D (MT cA) (MW a n cA) A r u2) args s 0 0 A) (F0 m 0 ls []) := by
  obtain ⟨hx, hb, hr, hml, hown, hts, hlk, hN, hK, hA⟩ := id X
  intro u H locs ls r u2 hf hP hD hS hl
  unfold fX3_buffered at hf
  refine lv_aload_n hx hb dX3_buffered_0 rfl (lv_at hl 0 rfl) ?_
  refine va_get (D := D) (ci := 3) (v := .int (mu_ent u)) (C := RX3) (T := TX3) (N := 16) hx hb hts in_X3_buffered_X3 hown hK hP 0 rfl rfl 12 (by decide) (hts _ (List.mem_of_getElem? (i := 1) rfl)) (fun _ h9 => h9) rfl dX3_buffered_1 ?_
  cases hf
  exact vz_iret X hP hD hS dX3_buffered_4
end
theorem kX3_buffered {l : Launch} {D : va_G} {a n : Nat → Nat} {cA : Nat → ClassId} {K : Nat} {u : MU} {r : Int32} {u2 : MU} (h : fX3_buffered n K u = some (r, u2)) : vzC l D (MT cA) (MW a n cA) yX3_buffered wsX3_buffered rmX3_buffered [.ref (a 0)] u r u2 := vzC.of (by decide) rfl (Nat.le_of_ble_eq_true rfl) (fun p e s m below meth c A ls X hP hD hl => lbX3_buffered_e X u s.heap [] ls r u2 h hP hD va_S.rf hl)
abbrev rmX3_place : Room := { frames := 2, cells := 0, slots := 0, locals := 41 }
theorem in_X3_place_X3 : ∀ w ∈ u_ws RX3 TX3 16, w ∈ wsX3_place := fun _ h => List.mem_cons_of_mem _ (List.mem_append_right _ h)
def fX3_place (n : Nat → Nat) (K : Nat) (x1 : Int32) (u : MU) : Option (Int32 × MU) := (fX3_isSector n K x1 u).bind fun z1 => (if z1.1 = 0 then (some (zI (-1), z1.2)) else ((fX3_newest n K x1 z1.2).bind fun z4 => (some (z4.1, z4.2))))
section
variable {p : Program} {l : Launch} {e : Env} {s : State} {m : MethodId} {args : Array Value} {below : List Frame} {meth : Method} {c : Code} {D : va_G} {a n : Nat → Nat} {cA : Nat → ClassId} {A : Nat → Prop}
set_option maxHeartbeats 4000000 in
set_option maxRecDepth 100000 in
theorem lbX3_place_e {K : Nat} (X : vzX D (MT cA) A wsX3_place cX3_place 2 (some .int) RX3 p s m args meth c) : ∀ (x1 : Int32) (u : MU) (H : Heap) (locs : List Loc) (ls : Array Slot) (r : Int32) (u2 : MU), fX3_place n K x1 u = some (r, u2) → va_P D vwCl (MW a n cA u) H → va_D A (MW a n cA u) → va_S A s.heap H locs → lv_has ls 2 [(0, .ref (a 0)), (1, .int x1)] → W p l e (headSpec wsX3_place rmX3_place).room s m args below meth c H locs 0 0 (MQ below (vzQ D (MT cA) (MW a n cA) A r u2) args s 0 0 A) (F0 m 0 ls []) := by
  obtain ⟨hx, hb, hr, hml, hown, hts, hlk, hN, hK, hA⟩ := id X
  intro x1 u H locs ls r u2 hf hP hD hS hl
  unfold fX3_place at hf
  refine lv_aload_n hx hb dX3_place_0 rfl (lv_at hl 0 rfl) ?_
  refine lv_iload_n hx hb dX3_place_1 rfl (lv_at hl 1 rfl) ?_
  obtain ⟨z1, hz2, hf⟩ := bd hf
  refine vz_call (rest := []) X (kX3_isSector hz2) (cwV 1 hts gX3_place_X3_isSector rfl rfl rfl (by decide +kernel) ⟨Nat.le_of_ble_eq_true rfl, Nat.le_of_ble_eq_true rfl⟩) 0 3 rfl rfl rfl hl.1 rfl (Nat.le_of_ble_eq_true rfl) dX3_place_2 ⟨Nat.zero_le _, Nat.zero_le _⟩ hP hD hS (fun H locs hP hD hS => ?_)
  refine lv_if_eq (tgt := 16) hx hb dX3_place_5 (by decide) (fun c3 => ?_) (fun c3 => ?_)
  · have hf := ift c3 hf
    refine lv_iconst (v := zI (-1)) hx hb dX3_place_16 (by decide) ?_
    cases hf
    exact vz_iret X hP hD hS dX3_place_17
  · have hf := iff_ c3 hf
    refine lv_aload_n hx hb dX3_place_8 rfl (lv_at hl 0 rfl) ?_
    refine lv_iload_n hx hb dX3_place_9 rfl (lv_at hl 1 rfl) ?_
    obtain ⟨z4, hz5, hf⟩ := bd hf
    refine vz_call (rest := []) X (kX3_newest hz5) (cwV 1 hts gX3_place_X3_newest rfl rfl rfl (by decide +kernel) ⟨Nat.le_of_ble_eq_true rfl, Nat.le_of_ble_eq_true rfl⟩) 0 3 rfl rfl rfl hl.1 rfl (Nat.le_of_ble_eq_true rfl) dX3_place_10 ⟨Nat.zero_le _, Nat.zero_le _⟩ hP hD hS (fun H locs hP hD hS => ?_)
    refine lv_goto (tgt := 17) hx hb dX3_place_13 (by decide) ?_
    cases hf
    exact vz_iret X hP hD hS dX3_place_17
end
theorem kX3_place {l : Launch} {D : va_G} {a n : Nat → Nat} {cA : Nat → ClassId} {K : Nat} {x1 : Int32} {u : MU} {r : Int32} {u2 : MU} (h : fX3_place n K x1 u = some (r, u2)) : vzC l D (MT cA) (MW a n cA) yX3_place wsX3_place rmX3_place [.ref (a 0), .int x1] u r u2 := vzC.of (by decide) rfl (Nat.le_of_ble_eq_true rfl) (fun p e s m below meth c A ls X hP hD hl => lbX3_place_e X x1 u s.heap [] ls r u2 h hP hD va_S.rf hl)
abbrev rmX3_tag : Room := { frames := 1, cells := 0, slots := 0, locals := 21 }
theorem in_X3_tag_X3 : ∀ w ∈ u_ws RX3 TX3 16, w ∈ wsX3_tag := fun _ h => List.mem_cons_of_mem _ (List.mem_append_right _ h)
def fX3_tag (n : Nat → Nat) (K : Nat) (x1 : Int32) (u : MU) : Option (Int32 × MU) := (fX3_isPlace n K x1 u).bind fun z1 => (if z1.1 = 0 then (some (zI (-1), z1.2)) else (vg x1 (n 1) (some ((mu_sec z1.2) x1.toNatClampNeg, z1.2))))
section
variable {p : Program} {l : Launch} {e : Env} {s : State} {m : MethodId} {args : Array Value} {below : List Frame} {meth : Method} {c : Code} {D : va_G} {a n : Nat → Nat} {cA : Nat → ClassId} {A : Nat → Prop}
set_option maxHeartbeats 4000000 in
set_option maxRecDepth 100000 in
theorem lbX3_tag_e {K : Nat} (X : vzX D (MT cA) A wsX3_tag cX3_tag 2 (some .int) RX3 p s m args meth c) : ∀ (x1 : Int32) (u : MU) (H : Heap) (locs : List Loc) (ls : Array Slot) (r : Int32) (u2 : MU), fX3_tag n K x1 u = some (r, u2) → va_P D vwCl (MW a n cA u) H → va_D A (MW a n cA u) → va_S A s.heap H locs → lv_has ls 2 [(0, .ref (a 0)), (1, .int x1)] → W p l e (headSpec wsX3_tag rmX3_tag).room s m args below meth c H locs 0 0 (MQ below (vzQ D (MT cA) (MW a n cA) A r u2) args s 0 0 A) (F0 m 0 ls []) := by
  obtain ⟨hx, hb, hr, hml, hown, hts, hlk, hN, hK, hA⟩ := id X
  intro x1 u H locs ls r u2 hf hP hD hS hl
  unfold fX3_tag at hf
  refine lv_aload_n hx hb dX3_tag_0 rfl (lv_at hl 0 rfl) ?_
  refine lv_iload_n hx hb dX3_tag_1 rfl (lv_at hl 1 rfl) ?_
  obtain ⟨z1, hz2, hf⟩ := bd hf
  refine vz_call (rest := []) X (kX3_isPlace hz2) (cwV 1 hts gX3_tag_X3_isPlace rfl rfl rfl (by decide +kernel) ⟨Nat.le_of_ble_eq_true rfl, Nat.le_of_ble_eq_true rfl⟩) 0 3 rfl rfl rfl hl.1 rfl (Nat.le_of_ble_eq_true rfl) dX3_tag_2 ⟨Nat.zero_le _, Nat.zero_le _⟩ hP hD hS (fun H locs hP hD hS => ?_)
  refine lv_if_eq (tgt := 17) hx hb dX3_tag_5 (by decide) (fun c3 => ?_) (fun c3 => ?_)
  · have hf := ift c3 hf
    refine lv_iconst (v := zI (-1)) hx hb dX3_tag_17 (by decide) ?_
    cases hf
    exact vz_iret X hP hD hS dX3_tag_18
  · have hf := iff_ c3 hf
    refine lv_aload_n hx hb dX3_tag_8 rfl (lv_at hl 0 rfl) ?_
    refine va_get (D := D) (ci := 3) (v := .ref (a 1)) (C := RX3) (T := TX3) (N := 16) hx hb hts in_X3_tag_X3 hown hK hP 0 rfl rfl 2 (by decide) (hts _ (List.mem_of_getElem? (i := 1) rfl)) (fun _ h9 => h9) rfl dX3_tag_9 ?_
    refine lv_iload_n hx hb dX3_tag_12 rfl (lv_at hl 1 rfl) ?_
    obtain ⟨g4, hf⟩ := vgs hf
    refine va_iald hx hb hK hP 1 0 rfl rfl g4 dX3_tag_13 ?_
    refine lv_goto (tgt := 18) hx hb dX3_tag_14 (by decide) ?_
    cases hf
    exact vz_iret X hP hD hS dX3_tag_18
end
theorem kX3_tag {l : Launch} {D : va_G} {a n : Nat → Nat} {cA : Nat → ClassId} {K : Nat} {x1 : Int32} {u : MU} {r : Int32} {u2 : MU} (h : fX3_tag n K x1 u = some (r, u2)) : vzC l D (MT cA) (MW a n cA) yX3_tag wsX3_tag rmX3_tag [.ref (a 0), .int x1] u r u2 := vzC.of (by decide) rfl (Nat.le_of_ble_eq_true rfl) (fun p e s m below meth c A ls X hP hD hl => lbX3_tag_e X x1 u s.heap [] ls r u2 h hP hD va_S.rf hl)
abbrev rmX3_serial : Room := { frames := 1, cells := 0, slots := 0, locals := 21 }
theorem in_X3_serial_X3 : ∀ w ∈ u_ws RX3 TX3 16, w ∈ wsX3_serial := fun _ h => List.mem_cons_of_mem _ (List.mem_append_right _ h)
def fX3_serial (n : Nat → Nat) (K : Nat) (x1 : Int32) (u : MU) : Option (Int32 × MU) := (fX3_isPlace n K x1 u).bind fun z1 => (if z1.1 = 0 then (some (zI (-1), z1.2)) else (vg x1 (n 1) (if ((mu_sec z1.2) x1.toNatClampNeg) = (zI (-1)) then (some (zI (-1), z1.2)) else (vg x1 (n 3) (some ((mu_ser z1.2) x1.toNatClampNeg, z1.2))))))
section
variable {p : Program} {l : Launch} {e : Env} {s : State} {m : MethodId} {args : Array Value} {below : List Frame} {meth : Method} {c : Code} {D : va_G} {a n : Nat → Nat} {cA : Nat → ClassId} {A : Nat → Prop}
set_option maxHeartbeats 4000000 in
set_option maxRecDepth 100000 in
theorem lbX3_serial_e {K : Nat} (X : vzX D (MT cA) A wsX3_serial cX3_serial 2 (some .int) RX3 p s m args meth c) : ∀ (x1 : Int32) (u : MU) (H : Heap) (locs : List Loc) (ls : Array Slot) (r : Int32) (u2 : MU), fX3_serial n K x1 u = some (r, u2) → va_P D vwCl (MW a n cA u) H → va_D A (MW a n cA u) → va_S A s.heap H locs → lv_has ls 2 [(0, .ref (a 0)), (1, .int x1)] → W p l e (headSpec wsX3_serial rmX3_serial).room s m args below meth c H locs 0 0 (MQ below (vzQ D (MT cA) (MW a n cA) A r u2) args s 0 0 A) (F0 m 0 ls []) := by
  obtain ⟨hx, hb, hr, hml, hown, hts, hlk, hN, hK, hA⟩ := id X
  intro x1 u H locs ls r u2 hf hP hD hS hl
  unfold fX3_serial at hf
  refine lv_aload_n hx hb dX3_serial_0 rfl (lv_at hl 0 rfl) ?_
  refine lv_iload_n hx hb dX3_serial_1 rfl (lv_at hl 1 rfl) ?_
  obtain ⟨z1, hz2, hf⟩ := bd hf
  refine vz_call (rest := []) X (kX3_isPlace hz2) (cwV 1 hts gX3_serial_X3_isPlace rfl rfl rfl (by decide +kernel) ⟨Nat.le_of_ble_eq_true rfl, Nat.le_of_ble_eq_true rfl⟩) 0 3 rfl rfl rfl hl.1 rfl (Nat.le_of_ble_eq_true rfl) dX3_serial_2 ⟨Nat.zero_le _, Nat.zero_le _⟩ hP hD hS (fun H locs hP hD hS => ?_)
  refine lv_if_eq (tgt := 27) hx hb dX3_serial_5 (by decide) (fun c3 => ?_) (fun c3 => ?_)
  · have hf := ift c3 hf
    refine lv_iconst (v := zI (-1)) hx hb dX3_serial_27 (by decide) ?_
    cases hf
    exact vz_iret X hP hD hS dX3_serial_28
  · have hf := iff_ c3 hf
    refine lv_aload_n hx hb dX3_serial_8 rfl (lv_at hl 0 rfl) ?_
    refine va_get (D := D) (ci := 3) (v := .ref (a 1)) (C := RX3) (T := TX3) (N := 16) hx hb hts in_X3_serial_X3 hown hK hP 0 rfl rfl 2 (by decide) (hts _ (List.mem_of_getElem? (i := 1) rfl)) (fun _ h9 => h9) rfl dX3_serial_9 ?_
    refine lv_iload_n hx hb dX3_serial_12 rfl (lv_at hl 1 rfl) ?_
    obtain ⟨g4, hf⟩ := vgs hf
    refine va_iald hx hb hK hP 1 0 rfl rfl g4 dX3_serial_13 ?_
    refine lv_iconst (v := zI (-1)) hx hb dX3_serial_14 (by decide) ?_
    refine lv_icmp_eq (tgt := 27) hx hb dX3_serial_15 (by decide) (fun c5 => ?_) (fun c5 => ?_)
    · have hf := ift c5 hf
      refine lv_iconst (v := zI (-1)) hx hb dX3_serial_27 (by decide) ?_
      cases hf
      exact vz_iret X hP hD hS dX3_serial_28
    · have hf := iff_ c5 hf
      refine lv_aload_n hx hb dX3_serial_18 rfl (lv_at hl 0 rfl) ?_
      refine va_get (D := D) (ci := 3) (v := .ref (a 3)) (C := RX3) (T := TX3) (N := 16) hx hb hts in_X3_serial_X3 hown hK hP 0 rfl rfl 4 (by decide) (hts _ (List.mem_of_getElem? (i := 2) rfl)) (fun _ h9 => h9) rfl dX3_serial_19 ?_
      refine lv_iload_n hx hb dX3_serial_22 rfl (lv_at hl 1 rfl) ?_
      obtain ⟨g6, hf⟩ := vgs hf
      refine va_iald hx hb hK hP 3 2 rfl rfl g6 dX3_serial_23 ?_
      refine lv_goto (tgt := 28) hx hb dX3_serial_24 (by decide) ?_
      cases hf
      exact vz_iret X hP hD hS dX3_serial_28
end
theorem kX3_serial {l : Launch} {D : va_G} {a n : Nat → Nat} {cA : Nat → ClassId} {K : Nat} {x1 : Int32} {u : MU} {r : Int32} {u2 : MU} (h : fX3_serial n K x1 u = some (r, u2)) : vzC l D (MT cA) (MW a n cA) yX3_serial wsX3_serial rmX3_serial [.ref (a 0), .int x1] u r u2 := vzC.of (by decide) rfl (Nat.le_of_ble_eq_true rfl) (fun p e s m below meth c A ls X hP hD hl => lbX3_serial_e X x1 u s.heap [] ls r u2 h hP hD va_S.rf hl)
abbrev rmX3_valid : Room := { frames := 3, cells := 0, slots := 0, locals := 67 }
theorem in_X3_valid_X3 : ∀ w ∈ u_ws RX3 TX3 16, w ∈ wsX3_valid := fun _ h => List.mem_cons_of_mem _ (List.mem_append_right _ h)
def fX3_valid (n : Nat → Nat) (K : Nat) (x1 : Int32) (u : MU) : Option (Int32 × MU) := (fX3_isBlock n K x1 u).bind fun z1 => (if z1.1 = 0 then (some (zI (-1), z1.2)) else ((fX3_validIn n K x1 z1.2).bind fun z4 => (some (z4.1, z4.2))))
section
variable {p : Program} {l : Launch} {e : Env} {s : State} {m : MethodId} {args : Array Value} {below : List Frame} {meth : Method} {c : Code} {D : va_G} {a n : Nat → Nat} {cA : Nat → ClassId} {A : Nat → Prop}
set_option maxHeartbeats 4000000 in
set_option maxRecDepth 100000 in
theorem lbX3_valid_e {K : Nat} (X : vzX D (MT cA) A wsX3_valid cX3_valid 2 (some .int) RX3 p s m args meth c) : ∀ (x1 : Int32) (u : MU) (H : Heap) (locs : List Loc) (ls : Array Slot) (r : Int32) (u2 : MU), fX3_valid n K x1 u = some (r, u2) → va_P D vwCl (MW a n cA u) H → va_D A (MW a n cA u) → va_S A s.heap H locs → lv_has ls 2 [(0, .ref (a 0)), (1, .int x1)] → W p l e (headSpec wsX3_valid rmX3_valid).room s m args below meth c H locs 0 0 (MQ below (vzQ D (MT cA) (MW a n cA) A r u2) args s 0 0 A) (F0 m 0 ls []) := by
  obtain ⟨hx, hb, hr, hml, hown, hts, hlk, hN, hK, hA⟩ := id X
  intro x1 u H locs ls r u2 hf hP hD hS hl
  unfold fX3_valid at hf
  refine lv_aload_n hx hb dX3_valid_0 rfl (lv_at hl 0 rfl) ?_
  refine lv_iload_n hx hb dX3_valid_1 rfl (lv_at hl 1 rfl) ?_
  obtain ⟨z1, hz2, hf⟩ := bd hf
  refine vz_call (rest := []) X (kX3_isBlock hz2) (cwV 1 hts gX3_valid_X3_isBlock rfl rfl rfl (by decide +kernel) ⟨Nat.le_of_ble_eq_true rfl, Nat.le_of_ble_eq_true rfl⟩) 0 3 rfl rfl rfl hl.1 rfl (Nat.le_of_ble_eq_true rfl) dX3_valid_2 ⟨Nat.zero_le _, Nat.zero_le _⟩ hP hD hS (fun H locs hP hD hS => ?_)
  refine lv_if_eq (tgt := 16) hx hb dX3_valid_5 (by decide) (fun c3 => ?_) (fun c3 => ?_)
  · have hf := ift c3 hf
    refine lv_iconst (v := zI (-1)) hx hb dX3_valid_16 (by decide) ?_
    cases hf
    exact vz_iret X hP hD hS dX3_valid_17
  · have hf := iff_ c3 hf
    refine lv_aload_n hx hb dX3_valid_8 rfl (lv_at hl 0 rfl) ?_
    refine lv_iload_n hx hb dX3_valid_9 rfl (lv_at hl 1 rfl) ?_
    obtain ⟨z4, hz5, hf⟩ := bd hf
    refine vz_call (rest := []) X (kX3_validIn hz5) (cwV 1 hts gX3_valid_X3_validIn rfl rfl rfl (by decide +kernel) ⟨Nat.le_of_ble_eq_true rfl, Nat.le_of_ble_eq_true rfl⟩) 0 3 rfl rfl rfl hl.1 rfl (Nat.le_of_ble_eq_true rfl) dX3_valid_10 ⟨Nat.zero_le _, Nat.zero_le _⟩ hP hD hS (fun H locs hP hD hS => ?_)
    refine lv_goto (tgt := 17) hx hb dX3_valid_13 (by decide) ?_
    cases hf
    exact vz_iret X hP hD hS dX3_valid_17
end
theorem kX3_valid {l : Launch} {D : va_G} {a n : Nat → Nat} {cA : Nat → ClassId} {K : Nat} {x1 : Int32} {u : MU} {r : Int32} {u2 : MU} (h : fX3_valid n K x1 u = some (r, u2)) : vzC l D (MT cA) (MW a n cA) yX3_valid wsX3_valid rmX3_valid [.ref (a 0), .int x1] u r u2 := vzC.of (by decide) rfl (Nat.le_of_ble_eq_true rfl) (fun p e s m below meth c A ls X hP hD hl => lbX3_valid_e X x1 u s.heap [] ls r u2 h hP hD va_S.rf hl)
abbrev rmX3_erasures : Room := { frames := 1, cells := 0, slots := 0, locals := 21 }
theorem in_X3_erasures_X3 : ∀ w ∈ u_ws RX3 TX3 16, w ∈ wsX3_erasures := fun _ h => List.mem_cons_of_mem _ (List.mem_append_right _ h)
def fX3_erasures (n : Nat → Nat) (K : Nat) (x1 : Int32) (u : MU) : Option (Int32 × MU) := (fX3_isBlock n K x1 u).bind fun z1 => (if z1.1 = 0 then (some (zI (-1), z1.2)) else (vg x1 (n 5) (some ((mu_era z1.2) x1.toNatClampNeg, z1.2))))
section
variable {p : Program} {l : Launch} {e : Env} {s : State} {m : MethodId} {args : Array Value} {below : List Frame} {meth : Method} {c : Code} {D : va_G} {a n : Nat → Nat} {cA : Nat → ClassId} {A : Nat → Prop}
set_option maxHeartbeats 4000000 in
set_option maxRecDepth 100000 in
theorem lbX3_erasures_e {K : Nat} (X : vzX D (MT cA) A wsX3_erasures cX3_erasures 2 (some .int) RX3 p s m args meth c) : ∀ (x1 : Int32) (u : MU) (H : Heap) (locs : List Loc) (ls : Array Slot) (r : Int32) (u2 : MU), fX3_erasures n K x1 u = some (r, u2) → va_P D vwCl (MW a n cA u) H → va_D A (MW a n cA u) → va_S A s.heap H locs → lv_has ls 2 [(0, .ref (a 0)), (1, .int x1)] → W p l e (headSpec wsX3_erasures rmX3_erasures).room s m args below meth c H locs 0 0 (MQ below (vzQ D (MT cA) (MW a n cA) A r u2) args s 0 0 A) (F0 m 0 ls []) := by
  obtain ⟨hx, hb, hr, hml, hown, hts, hlk, hN, hK, hA⟩ := id X
  intro x1 u H locs ls r u2 hf hP hD hS hl
  unfold fX3_erasures at hf
  refine lv_aload_n hx hb dX3_erasures_0 rfl (lv_at hl 0 rfl) ?_
  refine lv_iload_n hx hb dX3_erasures_1 rfl (lv_at hl 1 rfl) ?_
  obtain ⟨z1, hz2, hf⟩ := bd hf
  refine vz_call (rest := []) X (kX3_isBlock hz2) (cwV 1 hts gX3_erasures_X3_isBlock rfl rfl rfl (by decide +kernel) ⟨Nat.le_of_ble_eq_true rfl, Nat.le_of_ble_eq_true rfl⟩) 0 3 rfl rfl rfl hl.1 rfl (Nat.le_of_ble_eq_true rfl) dX3_erasures_2 ⟨Nat.zero_le _, Nat.zero_le _⟩ hP hD hS (fun H locs hP hD hS => ?_)
  refine lv_if_eq (tgt := 17) hx hb dX3_erasures_5 (by decide) (fun c3 => ?_) (fun c3 => ?_)
  · have hf := ift c3 hf
    refine lv_iconst (v := zI (-1)) hx hb dX3_erasures_17 (by decide) ?_
    cases hf
    exact vz_iret X hP hD hS dX3_erasures_18
  · have hf := iff_ c3 hf
    refine lv_aload_n hx hb dX3_erasures_8 rfl (lv_at hl 0 rfl) ?_
    refine va_get (D := D) (ci := 3) (v := .ref (a 5)) (C := RX3) (T := TX3) (N := 16) hx hb hts in_X3_erasures_X3 hown hK hP 0 rfl rfl 6 (by decide) (hts _ (List.mem_of_getElem? (i := 1) rfl)) (fun _ h9 => h9) rfl dX3_erasures_9 ?_
    refine lv_iload_n hx hb dX3_erasures_12 rfl (lv_at hl 1 rfl) ?_
    obtain ⟨g4, hf⟩ := vgs hf
    refine va_iald hx hb hK hP 5 4 rfl rfl g4 dX3_erasures_13 ?_
    refine lv_goto (tgt := 18) hx hb dX3_erasures_14 (by decide) ?_
    cases hf
    exact vz_iret X hP hD hS dX3_erasures_18
end
theorem kX3_erasures {l : Launch} {D : va_G} {a n : Nat → Nat} {cA : Nat → ClassId} {K : Nat} {x1 : Int32} {u : MU} {r : Int32} {u2 : MU} (h : fX3_erasures n K x1 u = some (r, u2)) : vzC l D (MT cA) (MW a n cA) yX3_erasures wsX3_erasures rmX3_erasures [.ref (a 0), .int x1] u r u2 := vzC.of (by decide) rfl (Nat.le_of_ble_eq_true rfl) (fun p e s m below meth c A ls X hP hD hl => lbX3_erasures_e X x1 u s.heap [] ls r u2 h hP hD va_S.rf hl)
end
section
abbrev rmX3_open : Room := { frames := 0, cells := 0, slots := 0, locals := 0 }
theorem in_X3_open_X3 : ∀ w ∈ u_ws RX3 TX3 16, w ∈ wsX3_open := fun _ h => List.mem_cons_of_mem _ (List.mem_append_right _ h)
def fX3_open (n : Nat → Nat) (K : Nat) (u : MU) : Option (Int32 × MU) := some (mu_opn u, u)
section
variable {p : Program} {l : Launch} {e : Env} {s : State} {m : MethodId} {args : Array Value} {below : List Frame} {meth : Method} {c : Code} {D : va_G} {a n : Nat → Nat} {cA : Nat → ClassId} {A : Nat → Prop}
set_option maxHeartbeats 4000000 in
set_option maxRecDepth 100000 in
theorem lbX3_open_e {K : Nat} (X : vzX D (MT cA) A wsX3_open cX3_open 1 (some .int) RX3 p s m args meth c) : ∀ (u : MU) (H : Heap) (locs : List Loc) (ls : Array Slot) (r : Int32) (u2 : MU), fX3_open n K u = some (r, u2) → va_P D vwCl (MW a n cA u) H → va_D A (MW a n cA u) → va_S A s.heap H locs → lv_has ls 1 [(0, .ref (a 0))] → W p l e (headSpec wsX3_open rmX3_open).room s m args below meth c H locs 0 0 (MQ below (vzQ D (MT cA) (MW a n cA) A r u2) args s 0 0 A) (F0 m 0 ls []) := by
  obtain ⟨hx, hb, hr, hml, hown, hts, hlk, hN, hK, hA⟩ := id X
  intro u H locs ls r u2 hf hP hD hS hl
  unfold fX3_open at hf
  refine lv_aload_n hx hb dX3_open_0 rfl (lv_at hl 0 rfl) ?_
  refine va_get (D := D) (ci := 3) (v := .int (mu_opn u)) (C := RX3) (T := TX3) (N := 16) hx hb hts in_X3_open_X3 hown hK hP 0 rfl rfl 8 (by decide) (hts _ (List.mem_of_getElem? (i := 1) rfl)) (fun _ h9 => h9) rfl dX3_open_1 ?_
  cases hf
  exact vz_iret X hP hD hS dX3_open_4
end
theorem kX3_open {l : Launch} {D : va_G} {a n : Nat → Nat} {cA : Nat → ClassId} {K : Nat} {u : MU} {r : Int32} {u2 : MU} (h : fX3_open n K u = some (r, u2)) : vzC l D (MT cA) (MW a n cA) yX3_open wsX3_open rmX3_open [.ref (a 0)] u r u2 := vzC.of (by decide) rfl (Nat.le_of_ble_eq_true rfl) (fun p e s m below meth c A ls X hP hD hl => lbX3_open_e X u s.heap [] ls r u2 h hP hD va_S.rf hl)
abbrev rmX3_free : Room := { frames := 2, cells := 0, slots := 0, locals := 45 }
theorem in_X3_free_X3 : ∀ w ∈ u_ws RX3 TX3 16, w ∈ wsX3_free := fun _ h => List.mem_cons_of_mem _ (List.mem_append_right _ h)
def fX3_free (n : Nat → Nat) (K : Nat) (u : MU) : Option (Int32 × MU) := (fX3_freeBlocks n K u).bind fun z1 => (some (z1.1, z1.2))
section
variable {p : Program} {l : Launch} {e : Env} {s : State} {m : MethodId} {args : Array Value} {below : List Frame} {meth : Method} {c : Code} {D : va_G} {a n : Nat → Nat} {cA : Nat → ClassId} {A : Nat → Prop}
set_option maxHeartbeats 4000000 in
set_option maxRecDepth 100000 in
theorem lbX3_free_e {K : Nat} (X : vzX D (MT cA) A wsX3_free cX3_free 1 (some .int) RX3 p s m args meth c) : ∀ (u : MU) (H : Heap) (locs : List Loc) (ls : Array Slot) (r : Int32) (u2 : MU), fX3_free n K u = some (r, u2) → va_P D vwCl (MW a n cA u) H → va_D A (MW a n cA u) → va_S A s.heap H locs → lv_has ls 1 [(0, .ref (a 0))] → W p l e (headSpec wsX3_free rmX3_free).room s m args below meth c H locs 0 0 (MQ below (vzQ D (MT cA) (MW a n cA) A r u2) args s 0 0 A) (F0 m 0 ls []) := by
  obtain ⟨hx, hb, hr, hml, hown, hts, hlk, hN, hK, hA⟩ := id X
  intro u H locs ls r u2 hf hP hD hS hl
  unfold fX3_free at hf
  refine lv_aload_n hx hb dX3_free_0 rfl (lv_at hl 0 rfl) ?_
  obtain ⟨z1, hz2, hf⟩ := bd hf
  refine vz_call (rest := []) X (kX3_freeBlocks hz2) (cwV 0 hts gX3_free_X3_freeBlocks rfl rfl rfl (by decide +kernel) ⟨Nat.le_of_ble_eq_true rfl, Nat.le_of_ble_eq_true rfl⟩) 0 3 rfl rfl rfl hl.1 rfl (Nat.le_of_ble_eq_true rfl) dX3_free_1 ⟨Nat.zero_le _, Nat.zero_le _⟩ hP hD hS (fun H locs hP hD hS => ?_)
  cases hf
  exact vz_iret X hP hD hS dX3_free_4
end
theorem kX3_free {l : Launch} {D : va_G} {a n : Nat → Nat} {cA : Nat → ClassId} {K : Nat} {u : MU} {r : Int32} {u2 : MU} (h : fX3_free n K u = some (r, u2)) : vzC l D (MT cA) (MW a n cA) yX3_free wsX3_free rmX3_free [.ref (a 0)] u r u2 := vzC.of (by decide) rfl (Nat.le_of_ble_eq_true rfl) (fun p e s m below meth c A ls X hP hD hl => lbX3_free_e X u s.heap [] ls r u2 h hP hD va_S.rf hl)
abbrev rmX3_operations : Room := { frames := 0, cells := 0, slots := 0, locals := 0 }
theorem in_X3_operations_X3 : ∀ w ∈ u_ws RX3 TX3 16, w ∈ wsX3_operations := fun _ h => List.mem_cons_of_mem _ (List.mem_append_right _ h)
def fX3_operations (n : Nat → Nat) (K : Nat) (u : MU) : Option (Int32 × MU) := some (mu_ops u, u)
section
variable {p : Program} {l : Launch} {e : Env} {s : State} {m : MethodId} {args : Array Value} {below : List Frame} {meth : Method} {c : Code} {D : va_G} {a n : Nat → Nat} {cA : Nat → ClassId} {A : Nat → Prop}
set_option maxHeartbeats 4000000 in
set_option maxRecDepth 100000 in
theorem lbX3_operations_e {K : Nat} (X : vzX D (MT cA) A wsX3_operations cX3_operations 1 (some .int) RX3 p s m args meth c) : ∀ (u : MU) (H : Heap) (locs : List Loc) (ls : Array Slot) (r : Int32) (u2 : MU), fX3_operations n K u = some (r, u2) → va_P D vwCl (MW a n cA u) H → va_D A (MW a n cA u) → va_S A s.heap H locs → lv_has ls 1 [(0, .ref (a 0))] → W p l e (headSpec wsX3_operations rmX3_operations).room s m args below meth c H locs 0 0 (MQ below (vzQ D (MT cA) (MW a n cA) A r u2) args s 0 0 A) (F0 m 0 ls []) := by
  obtain ⟨hx, hb, hr, hml, hown, hts, hlk, hN, hK, hA⟩ := id X
  intro u H locs ls r u2 hf hP hD hS hl
  unfold fX3_operations at hf
  refine lv_aload_n hx hb dX3_operations_0 rfl (lv_at hl 0 rfl) ?_
  refine va_get (D := D) (ci := 3) (v := .int (mu_ops u)) (C := RX3) (T := TX3) (N := 16) hx hb hts in_X3_operations_X3 hown hK hP 0 rfl rfl 9 (by decide) (hts _ (List.mem_of_getElem? (i := 1) rfl)) (fun _ h9 => h9) rfl dX3_operations_1 ?_
  cases hf
  exact vz_iret X hP hD hS dX3_operations_4
end
theorem kX3_operations {l : Launch} {D : va_G} {a n : Nat → Nat} {cA : Nat → ClassId} {K : Nat} {u : MU} {r : Int32} {u2 : MU} (h : fX3_operations n K u = some (r, u2)) : vzC l D (MT cA) (MW a n cA) yX3_operations wsX3_operations rmX3_operations [.ref (a 0)] u r u2 := vzC.of (by decide) rfl (Nat.le_of_ble_eq_true rfl) (fun p e s m below meth c A ls X hP hD hl => lbX3_operations_e X u s.heap [] ls r u2 h hP hD va_S.rf hl)
end
