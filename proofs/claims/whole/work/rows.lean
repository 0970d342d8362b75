section
/-- a private method of a class that the tables say can be made, by its rows of tables_1 -/
def lw_okq (q : MethodName × Nat) : Prop := (q.1.cls ≠ "java/lang/invoke/MethodHandle" ∧ q.1.cls ≠ "java/lang/invoke/VarHandle") ∧ Cond.instantiable q.1.cls q.2 ∈ tables_1 ∧ Cond.privateMethod q.1 ∈ tables_1 ∧ Cond.instanceMethod q.1 ∈ tables_1
theorem lw_p0 : lw_okq (⟨"java/util/ArrayList", "add", "(Ljava/lang/Object;[Ljava/lang/Object;I)V"⟩, 3) := ⟨⟨by decide +kernel, by decide +kernel⟩, List.mem_of_getElem? (i := 27) (by decide +kernel), List.mem_of_getElem? (i := 94) (by decide +kernel), List.mem_of_getElem? (i := 95) (by decide +kernel)⟩
theorem lw_p1 : lw_okq (⟨"java/util/ArrayList", "grow", "()[Ljava/lang/Object;"⟩, 3) := ⟨⟨by decide +kernel, by decide +kernel⟩, List.mem_of_getElem? (i := 27) (by decide +kernel), List.mem_of_getElem? (i := 98) (by decide +kernel), List.mem_of_getElem? (i := 99) (by decide +kernel)⟩
theorem lw_p2 : lw_okq (⟨"java/util/ArrayList", "grow", "(I)[Ljava/lang/Object;"⟩, 3) := ⟨⟨by decide +kernel, by decide +kernel⟩, List.mem_of_getElem? (i := 27) (by decide +kernel), List.mem_of_getElem? (i := 102) (by decide +kernel), List.mem_of_getElem? (i := 103) (by decide +kernel)⟩
theorem lw_p3 : lw_okq (⟨"LayoutDesk", "typeAt", "(I)LLayoutDesk$Type;"⟩, 1) := ⟨⟨by decide +kernel, by decide +kernel⟩, List.mem_of_getElem? (i := 19) (by decide +kernel), List.mem_of_getElem? (i := 151) (by decide +kernel), List.mem_of_getElem? (i := 152) (by decide +kernel)⟩
theorem lw_p4 : lw_okq (⟨"LayoutDesk", "find", "(III)I"⟩, 1) := ⟨⟨by decide +kernel, by decide +kernel⟩, List.mem_of_getElem? (i := 19) (by decide +kernel), List.mem_of_getElem? (i := 174) (by decide +kernel), List.mem_of_getElem? (i := 175) (by decide +kernel)⟩
theorem lw_p5 : lw_okq (⟨"LayoutDesk", "isFull", "()Z"⟩, 1) := ⟨⟨by decide +kernel, by decide +kernel⟩, List.mem_of_getElem? (i := 19) (by decide +kernel), List.mem_of_getElem? (i := 182) (by decide +kernel), List.mem_of_getElem? (i := 183) (by decide +kernel)⟩
theorem lw_p6 : lw_okq (⟨"LayoutDesk", "enter", "(LLayoutDesk$Type;)I"⟩, 1) := ⟨⟨by decide +kernel, by decide +kernel⟩, List.mem_of_getElem? (i := 19) (by decide +kernel), List.mem_of_getElem? (i := 186) (by decide +kernel), List.mem_of_getElem? (i := 187) (by decide +kernel)⟩
theorem lw_p7 : lw_okq (⟨"LayoutDesk", "openRecordAt", "(I)LLayoutDesk$Compound;"⟩, 1) := ⟨⟨by decide +kernel, by decide +kernel⟩, List.mem_of_getElem? (i := 19) (by decide +kernel), List.mem_of_getElem? (i := 238) (by decide +kernel), List.mem_of_getElem? (i := 239) (by decide +kernel)⟩
theorem lw_p8 : lw_okq (⟨"LayoutDesk", "recordAt", "(I)LLayoutDesk$Compound;"⟩, 1) := ⟨⟨by decide +kernel, by decide +kernel⟩, List.mem_of_getElem? (i := 19) (by decide +kernel), List.mem_of_getElem? (i := 242) (by decide +kernel), List.mem_of_getElem? (i := 243) (by decide +kernel)⟩
theorem lw_p9 : lw_okq (⟨"LayoutDeskModel", "there", "(I)Z"⟩, 8) := ⟨⟨by decide +kernel, by decide +kernel⟩, List.mem_of_getElem? (i := 346) (by decide +kernel), List.mem_of_getElem? (i := 422) (by decide +kernel), List.mem_of_getElem? (i := 423) (by decide +kernel)⟩
theorem lw_p10 : lw_okq (⟨"LayoutDeskModel", "known", "(III)I"⟩, 8) := ⟨⟨by decide +kernel, by decide +kernel⟩, List.mem_of_getElem? (i := 346) (by decide +kernel), List.mem_of_getElem? (i := 427) (by decide +kernel), List.mem_of_getElem? (i := 428) (by decide +kernel)⟩
theorem lw_p11 : lw_okq (⟨"LayoutDeskModel", "made", "(LLayoutDeskModel$Type;)I"⟩, 8) := ⟨⟨by decide +kernel, by decide +kernel⟩, List.mem_of_getElem? (i := 346) (by decide +kernel), List.mem_of_getElem? (i := 432) (by decide +kernel), List.mem_of_getElem? (i := 433) (by decide +kernel)⟩
theorem lw_p12 : lw_okq (⟨"LayoutDeskModel", "sized", "(I)Z"⟩, 8) := ⟨⟨by decide +kernel, by decide +kernel⟩, List.mem_of_getElem? (i := 346) (by decide +kernel), List.mem_of_getElem? (i := 441) (by decide +kernel), List.mem_of_getElem? (i := 442) (by decide +kernel)⟩
theorem lw_p13 : lw_okq (⟨"LayoutDeskModel", "open", "(I)LLayoutDeskModel$Type;"⟩, 8) := ⟨⟨by decide +kernel, by decide +kernel⟩, List.mem_of_getElem? (i := 346) (by decide +kernel), List.mem_of_getElem? (i := 462) (by decide +kernel), List.mem_of_getElem? (i := 463) (by decide +kernel)⟩
theorem lw_p14 : lw_okq (⟨"LayoutDeskModel", "lay", "(LLayoutDeskModel$Type;)V"⟩, 8) := ⟨⟨by decide +kernel, by decide +kernel⟩, List.mem_of_getElem? (i := 346) (by decide +kernel), List.mem_of_getElem? (i := 466) (by decide +kernel), List.mem_of_getElem? (i := 467) (by decide +kernel)⟩
theorem lw_p15 : lw_okq (⟨"LayoutDeskModel", "put", "(IIII)V"⟩, 8) := ⟨⟨by decide +kernel, by decide +kernel⟩, List.mem_of_getElem? (i := 346) (by decide +kernel), List.mem_of_getElem? (i := 474) (by decide +kernel), List.mem_of_getElem? (i := 475) (by decide +kernel)⟩
def lw_privs_1 : List (MethodName × Nat) := [(⟨"java/util/ArrayList", "add", "(Ljava/lang/Object;[Ljava/lang/Object;I)V"⟩, 3), (⟨"java/util/ArrayList", "grow", "()[Ljava/lang/Object;"⟩, 3), (⟨"java/util/ArrayList", "grow", "(I)[Ljava/lang/Object;"⟩, 3), (⟨"LayoutDesk", "typeAt", "(I)LLayoutDesk$Type;"⟩, 1), (⟨"LayoutDesk", "find", "(III)I"⟩, 1), (⟨"LayoutDesk", "isFull", "()Z"⟩, 1), (⟨"LayoutDesk", "enter", "(LLayoutDesk$Type;)I"⟩, 1), (⟨"LayoutDesk", "openRecordAt", "(I)LLayoutDesk$Compound;"⟩, 1), (⟨"LayoutDesk", "recordAt", "(I)LLayoutDesk$Compound;"⟩, 1), (⟨"LayoutDeskModel", "there", "(I)Z"⟩, 8), (⟨"LayoutDeskModel", "known", "(III)I"⟩, 8), (⟨"LayoutDeskModel", "made", "(LLayoutDeskModel$Type;)I"⟩, 8), (⟨"LayoutDeskModel", "sized", "(I)Z"⟩, 8), (⟨"LayoutDeskModel", "open", "(I)LLayoutDeskModel$Type;"⟩, 8), (⟨"LayoutDeskModel", "lay", "(LLayoutDeskModel$Type;)V"⟩, 8), (⟨"LayoutDeskModel", "put", "(IIII)V"⟩, 8)]
theorem lw_r1 : ∀ q ∈ lw_privs_1, lw_okq q := List.forall_mem_cons.mpr ⟨lw_p0, List.forall_mem_cons.mpr ⟨lw_p1, List.forall_mem_cons.mpr ⟨lw_p2, List.forall_mem_cons.mpr ⟨lw_p3, List.forall_mem_cons.mpr ⟨lw_p4, List.forall_mem_cons.mpr ⟨lw_p5, List.forall_mem_cons.mpr ⟨lw_p6, List.forall_mem_cons.mpr ⟨lw_p7, List.forall_mem_cons.mpr ⟨lw_p8, List.forall_mem_cons.mpr ⟨lw_p9, List.forall_mem_cons.mpr ⟨lw_p10, List.forall_mem_cons.mpr ⟨lw_p11, List.forall_mem_cons.mpr ⟨lw_p12, List.forall_mem_cons.mpr ⟨lw_p13, List.forall_mem_cons.mpr ⟨lw_p14, List.forall_mem_cons.mpr ⟨lw_p15, fun _ h => absurd h List.not_mem_nil⟩⟩⟩⟩⟩⟩⟩⟩⟩⟩⟩⟩⟩⟩⟩⟩
theorem lw_p16 : lw_okq (⟨"LayoutDeskModel", "tried", "(LLayoutDeskModel$Type;III)I"⟩, 8) := ⟨⟨by decide +kernel, by decide +kernel⟩, List.mem_of_getElem? (i := 346) (by decide +kernel), List.mem_of_getElem? (i := 479) (by decide +kernel), List.mem_of_getElem? (i := 480) (by decide +kernel)⟩
theorem lw_p17 : lw_okq (⟨"java/util/ArrayList", "fastRemove", "([Ljava/lang/Object;I)V"⟩, 3) := ⟨⟨by decide +kernel, by decide +kernel⟩, List.mem_of_getElem? (i := 27) (by decide +kernel), List.mem_of_getElem? (i := 505) (by decide +kernel), List.mem_of_getElem? (i := 506) (by decide +kernel)⟩
def lw_privs_2 : List (MethodName × Nat) := [(⟨"LayoutDeskModel", "tried", "(LLayoutDeskModel$Type;III)I"⟩, 8), (⟨"java/util/ArrayList", "fastRemove", "([Ljava/lang/Object;I)V"⟩, 3)]
theorem lw_r2 : ∀ q ∈ lw_privs_2, lw_okq q := List.forall_mem_cons.mpr ⟨lw_p16, List.forall_mem_cons.mpr ⟨lw_p17, fun _ h => absurd h List.not_mem_nil⟩⟩
def lw_privs : List (MethodName × Nat) := lw_privs_1 ++ (lw_privs_2)
def lw_tbl : List Cond := k2_sels lw_privs ++ tables_1
theorem lw_privs_ok : ∀ q ∈ lw_privs, lw_okq q := by
  show ∀ q ∈ lw_privs_1 ++ (lw_privs_2), lw_okq q
  exact List.forall_mem_append.mpr ⟨lw_r1, lw_r2⟩
end
section
/-! ===== BEGIN words of one list among another's, by their places ===== -/
theorem goodIn_r {big : List Cond} (ws : List Cond) (ps : List Nat) (hp : ws = ps.filterMap (fun i => big[i]?)) (h : ws.all goodWord = true) : GoodIn big ws := by
  intro w hw
  have h1 := List.all_eq_true.mp h w hw
  rw [hp] at hw
  obtain ⟨i, -, hi⟩ := List.mem_filterMap.mp hw
  have hm : w ∈ big := by first | exact List.mem_of_getElem? hi | exact List.getElem?_mem hi
  exact ⟨hm, good_of_word h1⟩
theorem goodIn_app {big a b : List Cond} (ha : GoodIn big a) (hb : GoodIn big b) : GoodIn big (a ++ b) := fun w h => (List.mem_append.mp h).elim (ha w) (hb w)
theorem goodIn_ca {big a b : List Cond} {c : Cond} (ha : GoodIn big (c :: a)) (hb : GoodIn big b) : GoodIn big (c :: (a ++ b)) := fun w h => (List.mem_cons.mp h).elim (fun e => ha w (List.mem_cons.mpr (Or.inl e))) (fun h => (List.mem_append.mp h).elim (fun h => ha w (List.mem_cons.mpr (Or.inr h))) (hb w))
theorem goodIn_sub {big ws : List Cond} (hm : ∀ w ∈ ws, w ∈ big) (h : ws.all goodWord = true) : GoodIn big ws := fun w hw => ⟨hm w hw, good_of_word (List.all_eq_true.mp h w hw)⟩
/-! ===== END ===== -/

/-! ===== BEGIN printed: names, fields, word lists, decode rows ===== -/
def RX0 : String := "LayoutDesk$Compound"
def TX0 : u_T := fun k => match k with
  | 0 => ("LayoutDesk$Type", "bytes", "I", false)
  | 1 => ("LayoutDesk$Type", "alignment", "I", false)
  | 2 => ("LayoutDesk$Compound", "overlaid", "Z", true)
  | 3 => ("LayoutDesk$Compound", "members", "Ljava/util/ArrayList;", true)
  | 4 => ("LayoutDesk$Compound", "open", "Z", false)
  | 5 => ("LayoutDesk$Compound", "reach", "I", false)
  | 6 => ("LayoutDesk$Compound", "unitPlace", "I", false)
  | _ => ("LayoutDesk$Compound", "freeBits", "I", false)
def tyX0 : Nat → FieldType := fun k => match k with
  | 0 => .int
  | 1 => .int
  | 2 => .boolean
  | 3 => .object "java/util/ArrayList"
  | 4 => .boolean
  | 5 => .int
  | 6 => .int
  | _ => .int
abbrev wsX00 : List Cond := u_ws RX0 TX0 8
theorem nmX0 : ∀ a, a < 8 → ∀ b, b < 8 → a ≠ b → (TX0 a).2.1 ≠ (TX0 b).2.1 := by decide +kernel
theorem tyX0_ok : ∀ k, k < 8 → parseFieldDescriptor (TX0 k).2.2.1 = some (tyX0 k) := by decide +kernel
abbrev cX0_init : ByteArray := prog_2_method_1_code
def yX0_init : MethodName := ⟨RX0, "<init>", "(Z)V"⟩
abbrev cX0_hasAllMembers : ByteArray := prog_2_method_2_code
def yX0_hasAllMembers : MethodName := ⟨RX0, "hasAllMembers", "()Z"⟩
abbrev cX0_enter : ByteArray := prog_2_method_3_code
def yX0_enter : MethodName := ⟨RX0, "enter", "(LLayoutDesk$Member;)I"⟩
abbrev cX0_placeFor : ByteArray := prog_2_method_4_code
def yX0_placeFor : MethodName := ⟨RX0, "placeFor", "(I)I"⟩
abbrev cX0_occupy : ByteArray := prog_2_method_5_code
def yX0_occupy : MethodName := ⟨RX0, "occupy", "(III)V"⟩
abbrev cX0_endUnit : ByteArray := prog_2_method_6_code
def yX0_endUnit : MethodName := ⟨RX0, "endUnit", "()V"⟩
abbrev cX0_beginUnit : ByteArray := prog_2_method_7_code
def yX0_beginUnit : MethodName := ⟨RX0, "beginUnit", "()Z"⟩
abbrev cX0_takeBits : ByteArray := prog_2_method_8_code
def yX0_takeBits : MethodName := ⟨RX0, "takeBits", "(I)I"⟩
def RX1 : String := "LayoutDesk$Member"
def TX1 : u_T := fun k => match k with
  | 0 => ("LayoutDesk$Member", "place", "I", true)
  | 1 => ("LayoutDesk$Member", "type", "I", true)
  | 2 => ("LayoutDesk$Member", "lowestBit", "I", true)
  | _ => ("LayoutDesk$Member", "width", "I", true)
def tyX1 : Nat → FieldType := fun k => match k with
  | 0 => .int
  | 1 => .int
  | 2 => .int
  | _ => .int
abbrev wsX10 : List Cond := u_ws RX1 TX1 4
theorem nmX1 : ∀ a, a < 4 → ∀ b, b < 4 → a ≠ b → (TX1 a).2.1 ≠ (TX1 b).2.1 := by decide +kernel
theorem tyX1_ok : ∀ k, k < 4 → parseFieldDescriptor (TX1 k).2.2.1 = some (tyX1 k) := by decide +kernel
abbrev cX1_init : ByteArray := prog_3_method_1_code
def yX1_init : MethodName := ⟨RX1, "<init>", "(IIII)V"⟩
def RX2 : String := "LayoutDesk$Simple"
def TX2 : u_T := fun k => match k with
  | 0 => ("LayoutDesk$Type", "bytes", "I", false)
  | 1 => ("LayoutDesk$Type", "alignment", "I", false)
  | 2 => ("LayoutDesk$Simple", "kind", "I", true)
  | 3 => ("LayoutDesk$Simple", "base", "I", true)
  | _ => ("LayoutDesk$Simple", "length", "I", true)
def tyX2 : Nat → FieldType := fun k => match k with
  | 0 => .int
  | 1 => .int
  | 2 => .int
  | 3 => .int
  | _ => .int
abbrev wsX20 : List Cond := u_ws RX2 TX2 5
theorem nmX2 : ∀ a, a < 5 → ∀ b, b < 5 → a ≠ b → (TX2 a).2.1 ≠ (TX2 b).2.1 := by decide +kernel
theorem tyX2_ok : ∀ k, k < 5 → parseFieldDescriptor (TX2 k).2.2.1 = some (tyX2 k) := by decide +kernel
abbrev cX2_init : ByteArray := prog_4_method_1_code
def yX2_init : MethodName := ⟨RX2, "<init>", "(IIIII)V"⟩
abbrev cX2_isMadeFrom : ByteArray := prog_4_method_2_code
def yX2_isMadeFrom : MethodName := ⟨RX2, "isMadeFrom", "(III)Z"⟩
def RX3 : String := "LayoutDesk$Type"
def TX3 : u_T := fun k => match k with
  | _ => ("", "", "", false)
def tyX3 : Nat → FieldType := fun k => match k with
  | _ => .int
abbrev wsX30 : List Cond := u_ws RX3 TX3 0
theorem nmX3 : ∀ a, a < 0 → ∀ b, b < 0 → a ≠ b → (TX3 a).2.1 ≠ (TX3 b).2.1 := by decide +kernel
theorem tyX3_ok : ∀ k, k < 0 → parseFieldDescriptor (TX3 k).2.2.1 = some (tyX3 k) := by decide +kernel
abbrev cX3_init : ByteArray := prog_5_method_1_code
def yX3_init : MethodName := ⟨RX3, "<init>", "(II)V"⟩
def RX4 : String := "LayoutDesk"
def TX4 : u_T := fun k => match k with
  | _ => ("LayoutDesk", "known", "Ljava/util/ArrayList;", true)
def tyX4 : Nat → FieldType := fun k => match k with
  | _ => .object "java/util/ArrayList"
abbrev wsX40 : List Cond := u_ws RX4 TX4 1
theorem nmX4 : ∀ a, a < 1 → ∀ b, b < 1 → a ≠ b → (TX4 a).2.1 ≠ (TX4 b).2.1 := by decide +kernel
theorem tyX4_ok : ∀ k, k < 1 → parseFieldDescriptor (TX4 k).2.2.1 = some (tyX4 k) := by decide +kernel
abbrev cX4_init : ByteArray := prog_1_method_1_code
def yX4_init : MethodName := ⟨RX4, "<init>", "()V"⟩
abbrev cX4_pointer : ByteArray := prog_1_method_2_code
def yX4_pointer : MethodName := ⟨RX4, "pointer", "(I)I"⟩
abbrev cX4_array : ByteArray := prog_1_method_3_code
def yX4_array : MethodName := ⟨RX4, "array", "(II)I"⟩
abbrev cX4_record : ByteArray := prog_1_method_4_code
def yX4_record : MethodName := ⟨RX4, "record", "(I)I"⟩
abbrev cX4_field : ByteArray := prog_1_method_5_code
def yX4_field : MethodName := ⟨RX4, "field", "(II)I"⟩
abbrev cX4_bits : ByteArray := prog_1_method_6_code
def yX4_bits : MethodName := ⟨RX4, "bits", "(IIIZ)I"⟩
abbrev cX4_separate : ByteArray := prog_1_method_7_code
def yX4_separate : MethodName := ⟨RX4, "separate", "(I)Z"⟩
abbrev cX4_finish : ByteArray := prog_1_method_8_code
def yX4_finish : MethodName := ⟨RX4, "finish", "(I)I"⟩
abbrev cX4_types : ByteArray := prog_1_method_9_code
def yX4_types : MethodName := ⟨RX4, "types", "()I"⟩
abbrev cX4_size : ByteArray := prog_1_method_10_code
def yX4_size : MethodName := ⟨RX4, "size", "(I)I"⟩
abbrev cX4_align : ByteArray := prog_1_method_11_code
def yX4_align : MethodName := ⟨RX4, "align", "(I)I"⟩
abbrev cX4_members : ByteArray := prog_1_method_12_code
def yX4_members : MethodName := ⟨RX4, "members", "(I)I"⟩
abbrev cX4_member : ByteArray := prog_1_method_13_code
def yX4_member : MethodName := ⟨RX4, "member", "(III)I"⟩
abbrev cX4_isFull : ByteArray := prog_1_method_14_code
def yX4_isFull : MethodName := ⟨RX4, "isFull", "()Z"⟩
abbrev cX4_enter : ByteArray := prog_1_method_15_code
def yX4_enter : MethodName := ⟨RX4, "enter", "(LLayoutDesk$Type;)I"⟩
abbrev cX4_typeAt : ByteArray := prog_1_method_16_code
def yX4_typeAt : MethodName := ⟨RX4, "typeAt", "(I)LLayoutDesk$Type;"⟩
abbrev cX4_recordAt : ByteArray := prog_1_method_17_code
def yX4_recordAt : MethodName := ⟨RX4, "recordAt", "(I)LLayoutDesk$Compound;"⟩
abbrev cX4_openRecordAt : ByteArray := prog_1_method_18_code
def yX4_openRecordAt : MethodName := ⟨RX4, "openRecordAt", "(I)LLayoutDesk$Compound;"⟩
abbrev cX4_find : ByteArray := prog_1_method_19_code
def yX4_find : MethodName := ⟨RX4, "find", "(III)I"⟩
abbrev cX4_isBitFieldType : ByteArray := prog_1_method_20_code
def yX4_isBitFieldType : MethodName := ⟨RX4, "isBitFieldType", "(I)Z"⟩
abbrev cX4_roundUp : ByteArray := prog_1_method_21_code
def yX4_roundUp : MethodName := ⟨RX4, "roundUp", "(II)I"⟩
def RX5 : String := "LayoutDeskModel$Added"
def TX5 : u_T := fun k => match k with
  | 0 => ("LayoutDeskModel$Added", "type", "I", true)
  | 1 => ("LayoutDeskModel$Added", "width", "I", true)
  | _ => ("LayoutDeskModel$Added", "member", "Z", true)
def tyX5 : Nat → FieldType := fun k => match k with
  | 0 => .int
  | 1 => .int
  | _ => .boolean
abbrev wsX50 : List Cond := u_ws RX5 TX5 3
theorem nmX5 : ∀ a, a < 3 → ∀ b, b < 3 → a ≠ b → (TX5 a).2.1 ≠ (TX5 b).2.1 := by decide +kernel
theorem tyX5_ok : ∀ k, k < 3 → parseFieldDescriptor (TX5 k).2.2.1 = some (tyX5 k) := by decide +kernel
abbrev cX5_init : ByteArray := prog_8_method_1_code
def yX5_init : MethodName := ⟨RX5, "<init>", "(IIZ)V"⟩
def RX6 : String := "LayoutDeskModel$Type"
def TX6 : u_T := fun k => match k with
  | 0 => ("LayoutDeskModel$Type", "kind", "I", true)
  | 1 => ("LayoutDeskModel$Type", "to", "I", true)
  | 2 => ("LayoutDeskModel$Type", "length", "I", true)
  | 3 => ("LayoutDeskModel$Type", "size", "I", false)
  | 4 => ("LayoutDeskModel$Type", "align", "I", false)
  | 5 => ("LayoutDeskModel$Type", "added", "Ljava/util/ArrayList;", true)
  | _ => ("LayoutDeskModel$Type", "finished", "Z", false)
def tyX6 : Nat → FieldType := fun k => match k with
  | 0 => .int
  | 1 => .int
  | 2 => .int
  | 3 => .int
  | 4 => .int
  | 5 => .object "java/util/ArrayList"
  | _ => .boolean
abbrev wsX60 : List Cond := u_ws RX6 TX6 7
theorem nmX6 : ∀ a, a < 7 → ∀ b, b < 7 → a ≠ b → (TX6 a).2.1 ≠ (TX6 b).2.1 := by decide +kernel
theorem tyX6_ok : ∀ k, k < 7 → parseFieldDescriptor (TX6 k).2.2.1 = some (tyX6 k) := by decide +kernel
abbrev cX6_init : ByteArray := prog_9_method_1_code
def yX6_init : MethodName := ⟨RX6, "<init>", "(IIII)V"⟩
abbrev cX6_record : ByteArray := prog_9_method_2_code
def yX6_record : MethodName := ⟨RX6, "record", "()Z"⟩
def RX7 : String := "LayoutDeskModel"
def TX7 : u_T := fun k => match k with
  | 0 => ("LayoutDeskModel", "types", "Ljava/util/ArrayList;", true)
  | 1 => ("LayoutDeskModel", "places", "[I", true)
  | 2 => ("LayoutDeskModel", "kinds", "[I", true)
  | 3 => ("LayoutDeskModel", "lows", "[I", true)
  | 4 => ("LayoutDeskModel", "widths", "[I", true)
  | 5 => ("LayoutDeskModel", "members", "I", false)
  | 6 => ("LayoutDeskModel", "reach", "I", false)
  | _ => ("LayoutDeskModel", "align", "I", false)
def tyX7 : Nat → FieldType := fun k => match k with
  | 0 => .object "java/util/ArrayList"
  | 1 => .array .int
  | 2 => .array .int
  | 3 => .array .int
  | 4 => .array .int
  | 5 => .int
  | 6 => .int
  | _ => .int
abbrev wsX70 : List Cond := u_ws RX7 TX7 8
theorem nmX7 : ∀ a, a < 8 → ∀ b, b < 8 → a ≠ b → (TX7 a).2.1 ≠ (TX7 b).2.1 := by decide +kernel
theorem tyX7_ok : ∀ k, k < 8 → parseFieldDescriptor (TX7 k).2.2.1 = some (tyX7 k) := by decide +kernel
abbrev cX7_init : ByteArray := prog_7_method_1_code
def yX7_init : MethodName := ⟨RX7, "<init>", "()V"⟩
abbrev cX7_there : ByteArray := prog_7_method_3_code
def yX7_there : MethodName := ⟨RX7, "there", "(I)Z"⟩
abbrev cX7_open : ByteArray := prog_7_method_4_code
def yX7_open : MethodName := ⟨RX7, "open", "(I)LLayoutDeskModel$Type;"⟩
abbrev cX7_made : ByteArray := prog_7_method_5_code
def yX7_made : MethodName := ⟨RX7, "made", "(LLayoutDeskModel$Type;)I"⟩
abbrev cX7_known : ByteArray := prog_7_method_6_code
def yX7_known : MethodName := ⟨RX7, "known", "(III)I"⟩
abbrev cX7_pointer : ByteArray := prog_7_method_7_code
def yX7_pointer : MethodName := ⟨RX7, "pointer", "(I)I"⟩
abbrev cX7_array : ByteArray := prog_7_method_8_code
def yX7_array : MethodName := ⟨RX7, "array", "(II)I"⟩
abbrev cX7_sized : ByteArray := prog_7_method_9_code
def yX7_sized : MethodName := ⟨RX7, "sized", "(I)Z"⟩
abbrev cX7_record : ByteArray := prog_7_method_10_code
def yX7_record : MethodName := ⟨RX7, "record", "(I)I"⟩
abbrev cX7_up : ByteArray := prog_7_method_11_code
def yX7_up : MethodName := ⟨RX7, "up", "(II)I"⟩
abbrev cX7_lay : ByteArray := prog_7_method_12_code
def yX7_lay : MethodName := ⟨RX7, "lay", "(LLayoutDeskModel$Type;)V"⟩
abbrev cX7_put : ByteArray := prog_7_method_13_code
def yX7_put : MethodName := ⟨RX7, "put", "(IIII)V"⟩
abbrev cX7_tried : ByteArray := prog_7_method_14_code
def yX7_tried : MethodName := ⟨RX7, "tried", "(LLayoutDeskModel$Type;III)I"⟩
abbrev cX7_field : ByteArray := prog_7_method_15_code
def yX7_field : MethodName := ⟨RX7, "field", "(II)I"⟩
abbrev cX7_bits : ByteArray := prog_7_method_16_code
def yX7_bits : MethodName := ⟨RX7, "bits", "(IIIZ)I"⟩
abbrev cX7_separate : ByteArray := prog_7_method_17_code
def yX7_separate : MethodName := ⟨RX7, "separate", "(I)Z"⟩
abbrev cX7_finish : ByteArray := prog_7_method_18_code
def yX7_finish : MethodName := ⟨RX7, "finish", "(I)I"⟩
abbrev cX7_types : ByteArray := prog_7_method_19_code
def yX7_types : MethodName := ⟨RX7, "types", "()I"⟩
abbrev cX7_size : ByteArray := prog_7_method_20_code
def yX7_size : MethodName := ⟨RX7, "size", "(I)I"⟩
abbrev cX7_align : ByteArray := prog_7_method_21_code
def yX7_align : MethodName := ⟨RX7, "align", "(I)I"⟩
abbrev cX7_members : ByteArray := prog_7_method_22_code
def yX7_members : MethodName := ⟨RX7, "members", "(I)I"⟩
abbrev cX7_member : ByteArray := prog_7_method_23_code
def yX7_member : MethodName := ⟨RX7, "member", "(III)I"⟩
def RJx145de : String := "java/io/Serializable"
def TJx145de : u_T := fun k => match k with
  | _ => ("", "", "", false)
def tyJx145de : Nat → FieldType := fun k => match k with
  | _ => .int
abbrev wsJx145de0 : List Cond := u_ws RJx145de TJx145de 0
theorem nmJx145de : ∀ a, a < 0 → ∀ b, b < 0 → a ≠ b → (TJx145de a).2.1 ≠ (TJx145de b).2.1 := by decide +kernel
theorem tyJx145de_ok : ∀ k, k < 0 → parseFieldDescriptor (TJx145de k).2.2.1 = some (tyJx145de k) := by decide +kernel
def RJx8e188 : String := "java/lang/Cloneable"
def TJx8e188 : u_T := fun k => match k with
  | _ => ("", "", "", false)
def tyJx8e188 : Nat → FieldType := fun k => match k with
  | _ => .int
abbrev wsJx8e1880 : List Cond := u_ws RJx8e188 TJx8e188 0
theorem nmJx8e188 : ∀ a, a < 0 → ∀ b, b < 0 → a ≠ b → (TJx8e188 a).2.1 ≠ (TJx8e188 b).2.1 := by decide +kernel
theorem tyJx8e188_ok : ∀ k, k < 0 → parseFieldDescriptor (TJx8e188 k).2.2.1 = some (tyJx8e188 k) := by decide +kernel
def RJxab1ab : String := "java/lang/Iterable"
def TJxab1ab : u_T := fun k => match k with
  | _ => ("", "", "", false)
def tyJxab1ab : Nat → FieldType := fun k => match k with
  | _ => .int
abbrev wsJxab1ab0 : List Cond := u_ws RJxab1ab TJxab1ab 0
theorem nmJxab1ab : ∀ a, a < 0 → ∀ b, b < 0 → a ≠ b → (TJxab1ab a).2.1 ≠ (TJxab1ab b).2.1 := by decide +kernel
theorem tyJxab1ab_ok : ∀ k, k < 0 → parseFieldDescriptor (TJxab1ab k).2.2.1 = some (tyJxab1ab k) := by decide +kernel
def RJ9 : String := "java/lang/Math"
def TJ9 : u_T := fun k => match k with
  | _ => ("", "", "", false)
def tyJ9 : Nat → FieldType := fun k => match k with
  | _ => .int
abbrev wsJ90 : List Cond := u_ws RJ9 TJ9 0
theorem nmJ9 : ∀ a, a < 0 → ∀ b, b < 0 → a ≠ b → (TJ9 a).2.1 ≠ (TJ9 b).2.1 := by decide +kernel
theorem tyJ9_ok : ∀ k, k < 0 → parseFieldDescriptor (TJ9 k).2.2.1 = some (tyJ9 k) := by decide +kernel
abbrev cJ9_max_7cf53 : ByteArray := prog_13_method_65_code
def yJ9_max_7cf53 : MethodName := ⟨RJ9, "max", "(II)I"⟩
abbrev cJ9_min_7cf53 : ByteArray := prog_13_method_69_code
def yJ9_min_7cf53 : MethodName := ⟨RJ9, "min", "(II)I"⟩
def RJ10 : String := "java/lang/System"
def TJ10 : u_T := fun k => match k with
  | _ => ("", "", "", false)
def tyJ10 : Nat → FieldType := fun k => match k with
  | _ => .int
abbrev wsJ100 : List Cond := u_ws RJ10 TJ10 0
theorem nmJ10 : ∀ a, a < 0 → ∀ b, b < 0 → a ≠ b → (TJ10 a).2.1 ≠ (TJ10 b).2.1 := by decide +kernel
theorem tyJ10_ok : ∀ k, k < 0 → parseFieldDescriptor (TJ10 k).2.2.1 = some (tyJ10 k) := by decide +kernel
def RJxa1e45 : String := "java/util/AbstractCollection"
def TJxa1e45 : u_T := fun k => match k with
  | _ => ("", "", "", false)
def tyJxa1e45 : Nat → FieldType := fun k => match k with
  | _ => .int
abbrev wsJxa1e450 : List Cond := u_ws RJxa1e45 TJxa1e45 0
theorem nmJxa1e45 : ∀ a, a < 0 → ∀ b, b < 0 → a ≠ b → (TJxa1e45 a).2.1 ≠ (TJxa1e45 b).2.1 := by decide +kernel
theorem tyJxa1e45_ok : ∀ k, k < 0 → parseFieldDescriptor (TJxa1e45 k).2.2.1 = some (tyJxa1e45 k) := by decide +kernel
abbrev cJxa1e45_init_da8c8 : ByteArray := prog_15_method_1_code
def yJxa1e45_init_da8c8 : MethodName := ⟨RJxa1e45, "<init>", "()V"⟩
def RJxc12de : String := "java/util/AbstractList"
def TJxc12de : u_T := fun k => match k with
  | _ => ("", "", "", false)
def tyJxc12de : Nat → FieldType := fun k => match k with
  | _ => .int
abbrev wsJxc12de0 : List Cond := u_ws RJxc12de TJxc12de 0
theorem nmJxc12de : ∀ a, a < 0 → ∀ b, b < 0 → a ≠ b → (TJxc12de a).2.1 ≠ (TJxc12de b).2.1 := by decide +kernel
theorem tyJxc12de_ok : ∀ k, k < 0 → parseFieldDescriptor (TJxc12de k).2.2.1 = some (tyJxc12de k) := by decide +kernel
abbrev cJxc12de_init_da8c8 : ByteArray := prog_16_method_1_code
def yJxc12de_init_da8c8 : MethodName := ⟨RJxc12de, "<init>", "()V"⟩
def RJx4a65c : String := "java/util/ArrayList"
def TJx4a65c : u_T := fun k => match k with
  | 0 => ("java/util/AbstractList", "modCount", "I", false)
  | 1 => ("java/util/ArrayList", "elementData", "[Ljava/lang/Object;", false)
  | _ => ("java/util/ArrayList", "size", "I", false)
def tyJx4a65c : Nat → FieldType := fun k => match k with
  | 0 => .int
  | 1 => .array (.object "java/lang/Object")
  | _ => .int
abbrev wsJx4a65c0 : List Cond := u_ws RJx4a65c TJx4a65c 3
theorem nmJx4a65c : ∀ a, a < 3 → ∀ b, b < 3 → a ≠ b → (TJx4a65c a).2.1 ≠ (TJx4a65c b).2.1 := by decide +kernel
theorem tyJx4a65c_ok : ∀ k, k < 3 → parseFieldDescriptor (TJx4a65c k).2.2.1 = some (tyJx4a65c k) := by decide +kernel
abbrev cJx4a65c_init_da8c8 : ByteArray := prog_17_method_2_code
def yJx4a65c_init_da8c8 : MethodName := ⟨RJx4a65c, "<init>", "()V"⟩
abbrev cJx4a65c_grow_92f84 : ByteArray := prog_17_method_6_code
def yJx4a65c_grow_92f84 : MethodName := ⟨RJx4a65c, "grow", "(I)[Ljava/lang/Object;"⟩
abbrev cJx4a65c_grow_d5877 : ByteArray := prog_17_method_7_code
def yJx4a65c_grow_d5877 : MethodName := ⟨RJx4a65c, "grow", "()[Ljava/lang/Object;"⟩
abbrev cJx4a65c_size_8abf5 : ByteArray := prog_17_method_8_code
def yJx4a65c_size_8abf5 : MethodName := ⟨RJx4a65c, "size", "()I"⟩
abbrev cJx4a65c_isEmpty_aae02 : ByteArray := prog_17_method_9_code
def yJx4a65c_isEmpty_aae02 : MethodName := ⟨RJx4a65c, "isEmpty", "()Z"⟩
abbrev cJx4a65c_elementData_915e3 : ByteArray := prog_17_method_18_code
def yJx4a65c_elementData_915e3 : MethodName := ⟨RJx4a65c, "elementData", "(I)Ljava/lang/Object;"⟩
abbrev cJx4a65c_get_915e3 : ByteArray := prog_17_method_20_code
def yJx4a65c_get_915e3 : MethodName := ⟨RJx4a65c, "get", "(I)Ljava/lang/Object;"⟩
abbrev cJx4a65c_add_72be8 : ByteArray := prog_17_method_24_code
def yJx4a65c_add_72be8 : MethodName := ⟨RJx4a65c, "add", "(Ljava/lang/Object;[Ljava/lang/Object;I)V"⟩
abbrev cJx4a65c_add_9ea2d : ByteArray := prog_17_method_25_code
def yJx4a65c_add_9ea2d : MethodName := ⟨RJx4a65c, "add", "(Ljava/lang/Object;)Z"⟩
abbrev cJx4a65c_remove_915e3 : ByteArray := prog_17_method_29_code
def yJx4a65c_remove_915e3 : MethodName := ⟨RJx4a65c, "remove", "(I)Ljava/lang/Object;"⟩
abbrev cJx4a65c_fastRemove_b59b0 : ByteArray := prog_17_method_39_code
def yJx4a65c_fastRemove_b59b0 : MethodName := ⟨RJx4a65c, "fastRemove", "([Ljava/lang/Object;I)V"⟩
def RJ7 : String := "java/util/Arrays"
def TJ7 : u_T := fun k => match k with
  | _ => ("", "", "", false)
def tyJ7 : Nat → FieldType := fun k => match k with
  | _ => .int
abbrev wsJ70 : List Cond := u_ws RJ7 TJ7 0
theorem nmJ7 : ∀ a, a < 0 → ∀ b, b < 0 → a ≠ b → (TJ7 a).2.1 ≠ (TJ7 b).2.1 := by decide +kernel
theorem tyJ7_ok : ∀ k, k < 0 → parseFieldDescriptor (TJ7 k).2.2.1 = some (tyJ7 k) := by decide +kernel
abbrev cJ7_copyOf_1904c : ByteArray := prog_18_method_119_code
def yJ7_copyOf_1904c : MethodName := ⟨RJ7, "copyOf", "([Ljava/lang/Object;I)[Ljava/lang/Object;"⟩
abbrev cJ7_copyOf_6403c : ByteArray := prog_18_method_120_code
def yJ7_copyOf_6403c : MethodName := ⟨RJ7, "copyOf", "([Ljava/lang/Object;ILjava/lang/Class;)[Ljava/lang/Object;"⟩
def RJx5ef63 : String := "java/util/Collection"
def TJx5ef63 : u_T := fun k => match k with
  | _ => ("", "", "", false)
def tyJx5ef63 : Nat → FieldType := fun k => match k with
  | _ => .int
abbrev wsJx5ef630 : List Cond := u_ws RJx5ef63 TJx5ef63 0
theorem nmJx5ef63 : ∀ a, a < 0 → ∀ b, b < 0 → a ≠ b → (TJx5ef63 a).2.1 ≠ (TJx5ef63 b).2.1 := by decide +kernel
theorem tyJx5ef63_ok : ∀ k, k < 0 → parseFieldDescriptor (TJx5ef63 k).2.2.1 = some (tyJx5ef63 k) := by decide +kernel
def RJxbd725 : String := "java/util/List"
def TJxbd725 : u_T := fun k => match k with
  | _ => ("", "", "", false)
def tyJxbd725 : Nat → FieldType := fun k => match k with
  | _ => .int
abbrev wsJxbd7250 : List Cond := u_ws RJxbd725 TJxbd725 0
theorem nmJxbd725 : ∀ a, a < 0 → ∀ b, b < 0 → a ≠ b → (TJxbd725 a).2.1 ≠ (TJxbd725 b).2.1 := by decide +kernel
theorem tyJxbd725_ok : ∀ k, k < 0 → parseFieldDescriptor (TJxbd725 k).2.2.1 = some (tyJxbd725 k) := by decide +kernel
def RJ15 : String := "java/util/Objects"
def TJ15 : u_T := fun k => match k with
  | _ => ("", "", "", false)
def tyJ15 : Nat → FieldType := fun k => match k with
  | _ => .int
abbrev wsJ150 : List Cond := u_ws RJ15 TJ15 0
theorem nmJ15 : ∀ a, a < 0 → ∀ b, b < 0 → a ≠ b → (TJ15 a).2.1 ≠ (TJ15 b).2.1 := by decide +kernel
theorem tyJ15_ok : ∀ k, k < 0 → parseFieldDescriptor (TJ15 k).2.2.1 = some (tyJ15 k) := by decide +kernel
abbrev cJ15_checkIndex_7cf53 : ByteArray := prog_21_method_17_code
def yJ15_checkIndex_7cf53 : MethodName := ⟨RJ15, "checkIndex", "(II)I"⟩
def RJxf0a74 : String := "java/util/RandomAccess"
def TJxf0a74 : u_T := fun k => match k with
  | _ => ("", "", "", false)
def tyJxf0a74 : Nat → FieldType := fun k => match k with
  | _ => .int
abbrev wsJxf0a740 : List Cond := u_ws RJxf0a74 TJxf0a74 0
theorem nmJxf0a74 : ∀ a, a < 0 → ∀ b, b < 0 → a ≠ b → (TJxf0a74 a).2.1 ≠ (TJxf0a74 b).2.1 := by decide +kernel
theorem tyJxf0a74_ok : ∀ k, k < 0 → parseFieldDescriptor (TJxf0a74 k).2.2.1 = some (tyJxf0a74 k) := by decide +kernel
def RJxa66e6 : String := "java/util/SequencedCollection"
def TJxa66e6 : u_T := fun k => match k with
  | _ => ("", "", "", false)
def tyJxa66e6 : Nat → FieldType := fun k => match k with
  | _ => .int
abbrev wsJxa66e60 : List Cond := u_ws RJxa66e6 TJxa66e6 0
theorem nmJxa66e6 : ∀ a, a < 0 → ∀ b, b < 0 → a ≠ b → (TJxa66e6 a).2.1 ≠ (TJxa66e6 b).2.1 := by decide +kernel
theorem tyJxa66e6_ok : ∀ k, k < 0 → parseFieldDescriptor (TJxa66e6 k).2.2.1 = some (tyJxa66e6 k) := by decide +kernel
def RJ8 : String := "jdk/internal/util/ArraysSupport"
def TJ8 : u_T := fun k => match k with
  | _ => ("", "", "", false)
def tyJ8 : Nat → FieldType := fun k => match k with
  | _ => .int
abbrev wsJ80 : List Cond := u_ws RJ8 TJ8 0
theorem nmJ8 : ∀ a, a < 0 → ∀ b, b < 0 → a ≠ b → (TJ8 a).2.1 ≠ (TJ8 b).2.1 := by decide +kernel
theorem tyJ8_ok : ∀ k, k < 0 → parseFieldDescriptor (TJ8 k).2.2.1 = some (tyJ8 k) := by decide +kernel
abbrev cJ8_newLength_cabcc : ByteArray := prog_24_method_27_code
def yJ8_newLength_cabcc : MethodName := ⟨RJ8, "newLength", "(III)I"⟩
abbrev cJ8_hugeLength_7cf53 : ByteArray := prog_24_method_28_code
def yJ8_hugeLength_7cf53 : MethodName := ⟨RJ8, "hugeLength", "(II)I"⟩
def RJ3 : String := "jdk/internal/util/Preconditions"
def TJ3 : u_T := fun k => match k with
  | _ => ("", "", "", false)
def tyJ3 : Nat → FieldType := fun k => match k with
  | _ => .int
abbrev wsJ30 : List Cond := u_ws RJ3 TJ3 0
theorem nmJ3 : ∀ a, a < 0 → ∀ b, b < 0 → a ≠ b → (TJ3 a).2.1 ≠ (TJ3 b).2.1 := by decide +kernel
theorem tyJ3_ok : ∀ k, k < 0 → parseFieldDescriptor (TJ3 k).2.2.1 = some (tyJ3 k) := by decide +kernel
abbrev cJ3_checkIndex_8e157 : ByteArray := prog_25_method_11_code
def yJ3_checkIndex_8e157 : MethodName := ⟨RJ3, "checkIndex", "(IILjava/util/function/BiFunction;)I"⟩
def RL : String := "LayoutDeskLaw"
abbrev cL_law : ByteArray := code
def yL_law : MethodName := ⟨RL, "law", "([I)Z"⟩
def wsX3_init : List Cond := .code yX3_init cX3_init 3 none :: ([.methodLink RX3 1 objectInit, .instanceMethod objectInit, .code objectInit ⟨#[0xb1]⟩ 1 none, .fieldLink RX3 7 "LayoutDesk$Type" "bytes" "I", .fieldLink RX3 13 "LayoutDesk$Type" "alignment" "I"] ++ wsX00 ++ wsX20)
def wsJxa1e45_init_da8c8 : List Cond := .code yJxa1e45_init_da8c8 cJxa1e45_init_da8c8 1 none :: ([.methodLink RJxa1e45 1 objectInit, .instanceMethod objectInit, .code objectInit ⟨#[0xb1]⟩ 1 none])
def wsJxc12de_init_da8c8 : List Cond := .code yJxc12de_init_da8c8 cJxc12de_init_da8c8 1 none :: ([.fieldLink RJxc12de 7 "java/util/AbstractList" "modCount" "I", .methodLink RJxc12de 1 yJxa1e45_init_da8c8, .instanceMethod yJxa1e45_init_da8c8, .initialized RJxa1e45, .code yJxa1e45_init_da8c8 cJxa1e45_init_da8c8 1 none, .methodLink RJxa1e45 1 objectInit, .instanceMethod objectInit, .code objectInit ⟨#[0xb1]⟩ 1 none] ++ wsJx4a65c0)
def wsJx4a65c_init_da8c8 : List Cond := .code yJx4a65c_init_da8c8 cJx4a65c_init_da8c8 1 none :: ([.fieldLink RJx4a65c 39 "java/util/ArrayList" "DEFAULTCAPACITY_EMPTY_ELEMENTDATA" "[Ljava/lang/Object;", .fieldLink RJx4a65c 9 "java/util/ArrayList" "elementData" "[Ljava/lang/Object;", .methodLink RJx4a65c 1 yJxc12de_init_da8c8, .instanceMethod yJxc12de_init_da8c8, .initialized RJxc12de, .code yJxc12de_init_da8c8 cJxc12de_init_da8c8 1 none, .fieldLink RJxc12de 7 "java/util/AbstractList" "modCount" "I", .methodLink RJxc12de 1 yJxa1e45_init_da8c8, .instanceMethod yJxa1e45_init_da8c8, .initialized RJxa1e45, .code yJxa1e45_init_da8c8 cJxa1e45_init_da8c8 1 none, .methodLink RJxa1e45 1 objectInit, .instanceMethod objectInit, .code objectInit ⟨#[0xb1]⟩ 1 none] ++ wsJx4a65c0)
def wsX0_init_r1 : List Cond := [Cond.fieldLink RX0 9 "LayoutDesk$Compound" "overlaid" "Z", Cond.classLink RX0 15 RJx4a65c, Cond.instantiable RJx4a65c 3, Cond.initialized RJx4a65c, Cond.fieldLink RX0 20 "LayoutDesk$Compound" "members" "Ljava/util/ArrayList;", Cond.fieldLink RX0 24 "LayoutDesk$Compound" "open" "Z", Cond.methodLink RX0 3 yX3_init, Cond.instanceMethod yX3_init, Cond.initialized RX3, Cond.code yX3_init cX3_init 3 none, Cond.methodLink RX3 1 objectInit, Cond.instanceMethod objectInit, Cond.code objectInit ⟨#[0xb1]⟩ 1 none, Cond.fieldLink RX3 7 "LayoutDesk$Type" "bytes" "I", Cond.fieldLink RX3 13 "LayoutDesk$Type" "alignment" "I", Cond.methodLink RX0 17 yJx4a65c_init_da8c8, Cond.instanceMethod yJx4a65c_init_da8c8, Cond.code yJx4a65c_init_da8c8 cJx4a65c_init_da8c8 1 none, Cond.fieldLink RJx4a65c 39 "java/util/ArrayList" "DEFAULTCAPACITY_EMPTY_ELEMENTDATA" "[Ljava/lang/Object;", Cond.fieldLink RJx4a65c 9 "java/util/ArrayList" "elementData" "[Ljava/lang/Object;", Cond.methodLink RJx4a65c 1 yJxc12de_init_da8c8, Cond.instanceMethod yJxc12de_init_da8c8, Cond.initialized RJxc12de, Cond.code yJxc12de_init_da8c8 cJxc12de_init_da8c8 1 none]
def wsX0_init_r2 : List Cond := [Cond.fieldLink RJxc12de 7 "java/util/AbstractList" "modCount" "I", Cond.methodLink RJxc12de 1 yJxa1e45_init_da8c8, Cond.instanceMethod yJxa1e45_init_da8c8, Cond.initialized RJxa1e45, Cond.code yJxa1e45_init_da8c8 cJxa1e45_init_da8c8 1 none, Cond.methodLink RJxa1e45 1 objectInit]
def wsX0_init : List Cond := .code yX0_init cX0_init 2 none :: ((wsX0_init_r1 ++ wsX0_init_r2) ++ wsX00 ++ wsJx4a65c0 ++ wsX20)
def wsJx4a65c_size_8abf5 : List Cond := .code yJx4a65c_size_8abf5 cJx4a65c_size_8abf5 1 (some .int) :: ([.fieldLink RJx4a65c 48 "java/util/ArrayList" "size" "I"] ++ wsJx4a65c0)
def wsX0_hasAllMembers : List Cond := .code yX0_hasAllMembers cX0_hasAllMembers 1 (some .boolean) :: ([.fieldLink RX0 20 "LayoutDesk$Compound" "members" "Ljava/util/ArrayList;", .methodLink RX0 27 yJx4a65c_size_8abf5, .instanceMethod yJx4a65c_size_8abf5, .selects RJx4a65c yJx4a65c_size_8abf5 yJx4a65c_size_8abf5, .initialized RJx4a65c, .code yJx4a65c_size_8abf5 cJx4a65c_size_8abf5 1 (some .int), .fieldLink RJx4a65c 48 "java/util/ArrayList" "size" "I"] ++ wsX00 ++ wsJx4a65c0)
def wsJ8_hugeLength_7cf53 : List Cond := .code yJ8_hugeLength_7cf53 cJ8_hugeLength_7cf53 3 (some .int) :: ([.constant RJ8 200 (2147483639)])
def wsJ8_newLength_cabcc : List Cond := .code yJ8_newLength_cabcc cJ8_newLength_cabcc 4 (some .int) :: ([.methodLink RJ8 194 Lib.Math.max.name, .static Lib.Math.max.name, .initialized "java/lang/Math", .code Lib.Math.max.name Lib.Math.max.code 2 (some .int), .constant RJ8 200 (2147483639), .methodLink RJ8 201 yJ8_hugeLength_7cf53, .static yJ8_hugeLength_7cf53, .initialized RJ8, .code yJ8_hugeLength_7cf53 cJ8_hugeLength_7cf53 3 (some .int)])
def wsJ7_copyOf_6403c : List Cond := .code yJ7_copyOf_6403c cJ7_copyOf_6403c 4 (some (.array (.object "java/lang/Object"))) :: ([.classLink RJ7 110 "[Ljava/lang/Object;", .classLink RJ7 2 "java/lang/Object", .methodLink RJ7 304 Lib.Math.min.name, .static Lib.Math.min.name, .initialized "java/lang/Math", .code Lib.Math.min.name Lib.Math.min.code 2 (some .int), .methodLink RJ7 150 arraycopyName, .native arraycopyName, .static arraycopyName, .initialized "java/lang/System"])
def wsJ7_copyOf_1904c : List Cond := .code yJ7_copyOf_1904c cJ7_copyOf_1904c 2 (some (.array (.object "java/lang/Object"))) :: ([.methodLink RJ7 86 ⟨"java/lang/Object", "getClass", "()Ljava/lang/Class;"⟩, .selects "[Ljava/lang/Object;" ⟨"java/lang/Object", "getClass", "()Ljava/lang/Class;"⟩ ⟨"java/lang/Object", "getClass", "()Ljava/lang/Class;"⟩, .instanceMethod ⟨"java/lang/Object", "getClass", "()Ljava/lang/Class;"⟩, .native ⟨"java/lang/Object", "getClass", "()Ljava/lang/Class;"⟩, .methodLink RJ7 300 yJ7_copyOf_6403c, .static yJ7_copyOf_6403c, .initialized RJ7, .code yJ7_copyOf_6403c cJ7_copyOf_6403c 4 (some (.array (.object "java/lang/Object"))), .classLink RJ7 110 "[Ljava/lang/Object;", .classLink RJ7 2 "java/lang/Object", .methodLink RJ7 304 Lib.Math.min.name, .static Lib.Math.min.name, .initialized "java/lang/Math", .code Lib.Math.min.name Lib.Math.min.code 2 (some .int), .methodLink RJ7 150 arraycopyName, .native arraycopyName, .static arraycopyName, .initialized "java/lang/System"])
def wsJx4a65c_grow_92f84_r1 : List Cond := [Cond.fieldLink RJx4a65c 9 "java/util/ArrayList" "elementData" "[Ljava/lang/Object;", Cond.fieldLink RJx4a65c 39 "java/util/ArrayList" "DEFAULTCAPACITY_EMPTY_ELEMENTDATA" "[Ljava/lang/Object;", Cond.methodLink RJx4a65c 79 Lib.Math.max.name, Cond.static Lib.Math.max.name, Cond.initialized "java/lang/Math", Cond.code Lib.Math.max.name Lib.Math.max.code 2 (some .int), Cond.classLink RJx4a65c 7 "java/lang/Object", Cond.methodLink RJx4a65c 73 yJ8_newLength_cabcc, Cond.static yJ8_newLength_cabcc, Cond.initialized RJ8, Cond.code yJ8_newLength_cabcc cJ8_newLength_cabcc 4 (some .int), Cond.methodLink RJ8 194 Lib.Math.max.name, Cond.constant RJ8 200 (2147483639), Cond.methodLink RJ8 201 yJ8_hugeLength_7cf53, Cond.static yJ8_hugeLength_7cf53, Cond.code yJ8_hugeLength_7cf53 cJ8_hugeLength_7cf53 3 (some .int), Cond.methodLink RJx4a65c 66 yJ7_copyOf_1904c, Cond.static yJ7_copyOf_1904c, Cond.initialized RJ7, Cond.code yJ7_copyOf_1904c cJ7_copyOf_1904c 2 (some (.array (.object "java/lang/Object"))), Cond.methodLink RJ7 86 ⟨"java/lang/Object", "getClass", "()Ljava/lang/Class;"⟩, Cond.selects "[Ljava/lang/Object;" ⟨"java/lang/Object", "getClass", "()Ljava/lang/Class;"⟩ ⟨"java/lang/Object", "getClass", "()Ljava/lang/Class;"⟩, Cond.instanceMethod ⟨"java/lang/Object", "getClass", "()Ljava/lang/Class;"⟩, Cond.native ⟨"java/lang/Object", "getClass", "()Ljava/lang/Class;"⟩]
def wsJx4a65c_grow_92f84_r2 : List Cond := [Cond.methodLink RJ7 300 yJ7_copyOf_6403c, Cond.static yJ7_copyOf_6403c, Cond.code yJ7_copyOf_6403c cJ7_copyOf_6403c 4 (some (.array (.object "java/lang/Object"))), Cond.classLink RJ7 110 "[Ljava/lang/Object;", Cond.classLink RJ7 2 "java/lang/Object", Cond.methodLink RJ7 304 Lib.Math.min.name, Cond.static Lib.Math.min.name, Cond.code Lib.Math.min.name Lib.Math.min.code 2 (some .int), Cond.methodLink RJ7 150 arraycopyName, Cond.native arraycopyName, Cond.static arraycopyName, Cond.initialized "java/lang/System"]
def wsJx4a65c_grow_92f84 : List Cond := .code yJx4a65c_grow_92f84 cJx4a65c_grow_92f84 4 (some (.array (.object "java/lang/Object"))) :: ((wsJx4a65c_grow_92f84_r1 ++ wsJx4a65c_grow_92f84_r2) ++ wsJx4a65c0)
def wsJx4a65c_grow_d5877_r1 : List Cond := [Cond.fieldLink RJx4a65c 48 "java/util/ArrayList" "size" "I", Cond.methodLink RJx4a65c 69 yJx4a65c_grow_92f84, Cond.instanceMethod yJx4a65c_grow_92f84, Cond.selects RJx4a65c yJx4a65c_grow_92f84 yJx4a65c_grow_92f84, Cond.initialized RJx4a65c, Cond.code yJx4a65c_grow_92f84 cJx4a65c_grow_92f84 4 (some (.array (.object "java/lang/Object"))), Cond.fieldLink RJx4a65c 9 "java/util/ArrayList" "elementData" "[Ljava/lang/Object;", Cond.fieldLink RJx4a65c 39 "java/util/ArrayList" "DEFAULTCAPACITY_EMPTY_ELEMENTDATA" "[Ljava/lang/Object;", Cond.methodLink RJx4a65c 79 Lib.Math.max.name, Cond.static Lib.Math.max.name, Cond.initialized "java/lang/Math", Cond.code Lib.Math.max.name Lib.Math.max.code 2 (some .int), Cond.classLink RJx4a65c 7 "java/lang/Object", Cond.methodLink RJx4a65c 73 yJ8_newLength_cabcc, Cond.static yJ8_newLength_cabcc, Cond.initialized RJ8, Cond.code yJ8_newLength_cabcc cJ8_newLength_cabcc 4 (some .int), Cond.methodLink RJ8 194 Lib.Math.max.name, Cond.constant RJ8 200 (2147483639), Cond.methodLink RJ8 201 yJ8_hugeLength_7cf53, Cond.static yJ8_hugeLength_7cf53, Cond.code yJ8_hugeLength_7cf53 cJ8_hugeLength_7cf53 3 (some .int), Cond.methodLink RJx4a65c 66 yJ7_copyOf_1904c, Cond.static yJ7_copyOf_1904c]
def wsJx4a65c_grow_d5877_r2 : List Cond := [Cond.initialized RJ7, Cond.code yJ7_copyOf_1904c cJ7_copyOf_1904c 2 (some (.array (.object "java/lang/Object"))), Cond.methodLink RJ7 86 ⟨"java/lang/Object", "getClass", "()Ljava/lang/Class;"⟩, Cond.selects "[Ljava/lang/Object;" ⟨"java/lang/Object", "getClass", "()Ljava/lang/Class;"⟩ ⟨"java/lang/Object", "getClass", "()Ljava/lang/Class;"⟩, Cond.instanceMethod ⟨"java/lang/Object", "getClass", "()Ljava/lang/Class;"⟩, Cond.native ⟨"java/lang/Object", "getClass", "()Ljava/lang/Class;"⟩, Cond.methodLink RJ7 300 yJ7_copyOf_6403c, Cond.static yJ7_copyOf_6403c, Cond.code yJ7_copyOf_6403c cJ7_copyOf_6403c 4 (some (.array (.object "java/lang/Object"))), Cond.classLink RJ7 110 "[Ljava/lang/Object;", Cond.classLink RJ7 2 "java/lang/Object", Cond.methodLink RJ7 304 Lib.Math.min.name, Cond.static Lib.Math.min.name, Cond.code Lib.Math.min.name Lib.Math.min.code 2 (some .int), Cond.methodLink RJ7 150 arraycopyName, Cond.native arraycopyName, Cond.static arraycopyName, Cond.initialized "java/lang/System"]
def wsJx4a65c_grow_d5877 : List Cond := .code yJx4a65c_grow_d5877 cJx4a65c_grow_d5877 1 (some (.array (.object "java/lang/Object"))) :: ((wsJx4a65c_grow_d5877_r1 ++ wsJx4a65c_grow_d5877_r2) ++ wsJx4a65c0)
def wsJx4a65c_add_72be8_r1 : List Cond := [Cond.fieldLink RJx4a65c 48 "java/util/ArrayList" "size" "I", Cond.methodLink RJx4a65c 129 yJx4a65c_grow_d5877, Cond.instanceMethod yJx4a65c_grow_d5877, Cond.selects RJx4a65c yJx4a65c_grow_d5877 yJx4a65c_grow_d5877, Cond.initialized RJx4a65c, Cond.code yJx4a65c_grow_d5877 cJx4a65c_grow_d5877 1 (some (.array (.object "java/lang/Object"))), Cond.methodLink RJx4a65c 69 yJx4a65c_grow_92f84, Cond.instanceMethod yJx4a65c_grow_92f84, Cond.selects RJx4a65c yJx4a65c_grow_92f84 yJx4a65c_grow_92f84, Cond.code yJx4a65c_grow_92f84 cJx4a65c_grow_92f84 4 (some (.array (.object "java/lang/Object"))), Cond.fieldLink RJx4a65c 9 "java/util/ArrayList" "elementData" "[Ljava/lang/Object;", Cond.fieldLink RJx4a65c 39 "java/util/ArrayList" "DEFAULTCAPACITY_EMPTY_ELEMENTDATA" "[Ljava/lang/Object;", Cond.methodLink RJx4a65c 79 Lib.Math.max.name, Cond.static Lib.Math.max.name, Cond.initialized "java/lang/Math", Cond.code Lib.Math.max.name Lib.Math.max.code 2 (some .int), Cond.classLink RJx4a65c 7 "java/lang/Object", Cond.methodLink RJx4a65c 73 yJ8_newLength_cabcc, Cond.static yJ8_newLength_cabcc, Cond.initialized RJ8, Cond.code yJ8_newLength_cabcc cJ8_newLength_cabcc 4 (some .int), Cond.methodLink RJ8 194 Lib.Math.max.name, Cond.constant RJ8 200 (2147483639), Cond.methodLink RJ8 201 yJ8_hugeLength_7cf53]
def wsJx4a65c_add_72be8_r2 : List Cond := [Cond.static yJ8_hugeLength_7cf53, Cond.code yJ8_hugeLength_7cf53 cJ8_hugeLength_7cf53 3 (some .int), Cond.methodLink RJx4a65c 66 yJ7_copyOf_1904c, Cond.static yJ7_copyOf_1904c, Cond.initialized RJ7, Cond.code yJ7_copyOf_1904c cJ7_copyOf_1904c 2 (some (.array (.object "java/lang/Object"))), Cond.methodLink RJ7 86 ⟨"java/lang/Object", "getClass", "()Ljava/lang/Class;"⟩, Cond.selects "[Ljava/lang/Object;" ⟨"java/lang/Object", "getClass", "()Ljava/lang/Class;"⟩ ⟨"java/lang/Object", "getClass", "()Ljava/lang/Class;"⟩, Cond.instanceMethod ⟨"java/lang/Object", "getClass", "()Ljava/lang/Class;"⟩, Cond.native ⟨"java/lang/Object", "getClass", "()Ljava/lang/Class;"⟩, Cond.methodLink RJ7 300 yJ7_copyOf_6403c, Cond.static yJ7_copyOf_6403c, Cond.code yJ7_copyOf_6403c cJ7_copyOf_6403c 4 (some (.array (.object "java/lang/Object"))), Cond.classLink RJ7 110 "[Ljava/lang/Object;", Cond.classLink RJ7 2 "java/lang/Object", Cond.methodLink RJ7 304 Lib.Math.min.name, Cond.static Lib.Math.min.name, Cond.code Lib.Math.min.name Lib.Math.min.code 2 (some .int), Cond.methodLink RJ7 150 arraycopyName, Cond.native arraycopyName, Cond.static arraycopyName, Cond.initialized "java/lang/System"]
def wsJx4a65c_add_72be8 : List Cond := .code yJx4a65c_add_72be8 cJx4a65c_add_72be8 4 none :: ((wsJx4a65c_add_72be8_r1 ++ wsJx4a65c_add_72be8_r2) ++ wsJx4a65c0)
def wsJx4a65c_add_9ea2d_r1 : List Cond := [Cond.fieldLink RJx4a65c 63 "java/util/ArrayList" "modCount" "I", Cond.sameField "java/util/ArrayList" "java/util/AbstractList" "modCount" "I", Cond.fieldLink RJx4a65c 9 "java/util/ArrayList" "elementData" "[Ljava/lang/Object;", Cond.fieldLink RJx4a65c 48 "java/util/ArrayList" "size" "I", Cond.methodLink RJx4a65c 131 yJx4a65c_add_72be8, Cond.instanceMethod yJx4a65c_add_72be8, Cond.selects RJx4a65c yJx4a65c_add_72be8 yJx4a65c_add_72be8, Cond.initialized RJx4a65c, Cond.code yJx4a65c_add_72be8 cJx4a65c_add_72be8 4 none, Cond.methodLink RJx4a65c 129 yJx4a65c_grow_d5877, Cond.instanceMethod yJx4a65c_grow_d5877, Cond.selects RJx4a65c yJx4a65c_grow_d5877 yJx4a65c_grow_d5877, Cond.code yJx4a65c_grow_d5877 cJx4a65c_grow_d5877 1 (some (.array (.object "java/lang/Object"))), Cond.methodLink RJx4a65c 69 yJx4a65c_grow_92f84, Cond.instanceMethod yJx4a65c_grow_92f84, Cond.selects RJx4a65c yJx4a65c_grow_92f84 yJx4a65c_grow_92f84, Cond.code yJx4a65c_grow_92f84 cJx4a65c_grow_92f84 4 (some (.array (.object "java/lang/Object"))), Cond.fieldLink RJx4a65c 39 "java/util/ArrayList" "DEFAULTCAPACITY_EMPTY_ELEMENTDATA" "[Ljava/lang/Object;", Cond.methodLink RJx4a65c 79 Lib.Math.max.name, Cond.static Lib.Math.max.name, Cond.initialized "java/lang/Math", Cond.code Lib.Math.max.name Lib.Math.max.code 2 (some .int), Cond.classLink RJx4a65c 7 "java/lang/Object", Cond.methodLink RJx4a65c 73 yJ8_newLength_cabcc]
def wsJx4a65c_add_9ea2d_r2 : List Cond := [Cond.static yJ8_newLength_cabcc, Cond.initialized RJ8, Cond.code yJ8_newLength_cabcc cJ8_newLength_cabcc 4 (some .int), Cond.methodLink RJ8 194 Lib.Math.max.name, Cond.constant RJ8 200 (2147483639), Cond.methodLink RJ8 201 yJ8_hugeLength_7cf53, Cond.static yJ8_hugeLength_7cf53, Cond.code yJ8_hugeLength_7cf53 cJ8_hugeLength_7cf53 3 (some .int), Cond.methodLink RJx4a65c 66 yJ7_copyOf_1904c, Cond.static yJ7_copyOf_1904c, Cond.initialized RJ7, Cond.code yJ7_copyOf_1904c cJ7_copyOf_1904c 2 (some (.array (.object "java/lang/Object"))), Cond.methodLink RJ7 86 ⟨"java/lang/Object", "getClass", "()Ljava/lang/Class;"⟩, Cond.selects "[Ljava/lang/Object;" ⟨"java/lang/Object", "getClass", "()Ljava/lang/Class;"⟩ ⟨"java/lang/Object", "getClass", "()Ljava/lang/Class;"⟩, Cond.instanceMethod ⟨"java/lang/Object", "getClass", "()Ljava/lang/Class;"⟩, Cond.native ⟨"java/lang/Object", "getClass", "()Ljava/lang/Class;"⟩, Cond.methodLink RJ7 300 yJ7_copyOf_6403c, Cond.static yJ7_copyOf_6403c, Cond.code yJ7_copyOf_6403c cJ7_copyOf_6403c 4 (some (.array (.object "java/lang/Object"))), Cond.classLink RJ7 110 "[Ljava/lang/Object;", Cond.classLink RJ7 2 "java/lang/Object", Cond.methodLink RJ7 304 Lib.Math.min.name, Cond.static Lib.Math.min.name, Cond.code Lib.Math.min.name Lib.Math.min.code 2 (some .int)]
def wsJx4a65c_add_9ea2d_r3 : List Cond := [Cond.methodLink RJ7 150 arraycopyName, Cond.native arraycopyName, Cond.static arraycopyName, Cond.initialized "java/lang/System"]
def wsJx4a65c_add_9ea2d : List Cond := .code yJx4a65c_add_9ea2d cJx4a65c_add_9ea2d 2 (some .boolean) :: ((wsJx4a65c_add_9ea2d_r1 ++ (wsJx4a65c_add_9ea2d_r2 ++ wsJx4a65c_add_9ea2d_r3)) ++ wsJx4a65c0)
def wsX0_enter_r1 : List Cond := [Cond.fieldLink RX0 20 "LayoutDesk$Compound" "members" "Ljava/util/ArrayList;", Cond.methodLink RX0 31 yJx4a65c_add_9ea2d, Cond.instanceMethod yJx4a65c_add_9ea2d, Cond.selects RJx4a65c yJx4a65c_add_9ea2d yJx4a65c_add_9ea2d, Cond.initialized RJx4a65c, Cond.code yJx4a65c_add_9ea2d cJx4a65c_add_9ea2d 2 (some .boolean), Cond.fieldLink RJx4a65c 63 "java/util/ArrayList" "modCount" "I", Cond.sameField "java/util/ArrayList" "java/util/AbstractList" "modCount" "I", Cond.fieldLink RJx4a65c 9 "java/util/ArrayList" "elementData" "[Ljava/lang/Object;", Cond.fieldLink RJx4a65c 48 "java/util/ArrayList" "size" "I", Cond.methodLink RJx4a65c 131 yJx4a65c_add_72be8, Cond.instanceMethod yJx4a65c_add_72be8, Cond.selects RJx4a65c yJx4a65c_add_72be8 yJx4a65c_add_72be8, Cond.code yJx4a65c_add_72be8 cJx4a65c_add_72be8 4 none, Cond.methodLink RJx4a65c 129 yJx4a65c_grow_d5877, Cond.instanceMethod yJx4a65c_grow_d5877, Cond.selects RJx4a65c yJx4a65c_grow_d5877 yJx4a65c_grow_d5877, Cond.code yJx4a65c_grow_d5877 cJx4a65c_grow_d5877 1 (some (.array (.object "java/lang/Object"))), Cond.methodLink RJx4a65c 69 yJx4a65c_grow_92f84, Cond.instanceMethod yJx4a65c_grow_92f84, Cond.selects RJx4a65c yJx4a65c_grow_92f84 yJx4a65c_grow_92f84, Cond.code yJx4a65c_grow_92f84 cJx4a65c_grow_92f84 4 (some (.array (.object "java/lang/Object"))), Cond.fieldLink RJx4a65c 39 "java/util/ArrayList" "DEFAULTCAPACITY_EMPTY_ELEMENTDATA" "[Ljava/lang/Object;", Cond.methodLink RJx4a65c 79 Lib.Math.max.name]
def wsX0_enter_r2 : List Cond := [Cond.static Lib.Math.max.name, Cond.initialized "java/lang/Math", Cond.code Lib.Math.max.name Lib.Math.max.code 2 (some .int), Cond.classLink RJx4a65c 7 "java/lang/Object", Cond.methodLink RJx4a65c 73 yJ8_newLength_cabcc, Cond.static yJ8_newLength_cabcc, Cond.initialized RJ8, Cond.code yJ8_newLength_cabcc cJ8_newLength_cabcc 4 (some .int), Cond.methodLink RJ8 194 Lib.Math.max.name, Cond.constant RJ8 200 (2147483639), Cond.methodLink RJ8 201 yJ8_hugeLength_7cf53, Cond.static yJ8_hugeLength_7cf53, Cond.code yJ8_hugeLength_7cf53 cJ8_hugeLength_7cf53 3 (some .int), Cond.methodLink RJx4a65c 66 yJ7_copyOf_1904c, Cond.static yJ7_copyOf_1904c, Cond.initialized RJ7, Cond.code yJ7_copyOf_1904c cJ7_copyOf_1904c 2 (some (.array (.object "java/lang/Object"))), Cond.methodLink RJ7 86 ⟨"java/lang/Object", "getClass", "()Ljava/lang/Class;"⟩, Cond.selects "[Ljava/lang/Object;" ⟨"java/lang/Object", "getClass", "()Ljava/lang/Class;"⟩ ⟨"java/lang/Object", "getClass", "()Ljava/lang/Class;"⟩, Cond.instanceMethod ⟨"java/lang/Object", "getClass", "()Ljava/lang/Class;"⟩, Cond.native ⟨"java/lang/Object", "getClass", "()Ljava/lang/Class;"⟩, Cond.methodLink RJ7 300 yJ7_copyOf_6403c, Cond.static yJ7_copyOf_6403c, Cond.code yJ7_copyOf_6403c cJ7_copyOf_6403c 4 (some (.array (.object "java/lang/Object")))]
def wsX0_enter_r3 : List Cond := [Cond.classLink RJ7 110 "[Ljava/lang/Object;", Cond.classLink RJ7 2 "java/lang/Object", Cond.methodLink RJ7 304 Lib.Math.min.name, Cond.static Lib.Math.min.name, Cond.code Lib.Math.min.name Lib.Math.min.code 2 (some .int), Cond.methodLink RJ7 150 arraycopyName, Cond.native arraycopyName, Cond.static arraycopyName, Cond.initialized "java/lang/System", Cond.methodLink RX0 27 yJx4a65c_size_8abf5, Cond.instanceMethod yJx4a65c_size_8abf5, Cond.selects RJx4a65c yJx4a65c_size_8abf5 yJx4a65c_size_8abf5, Cond.code yJx4a65c_size_8abf5 cJx4a65c_size_8abf5 1 (some .int)]
def wsX0_enter : List Cond := .code yX0_enter cX0_enter 2 (some .int) :: ((wsX0_enter_r1 ++ (wsX0_enter_r2 ++ wsX0_enter_r3)) ++ wsX00 ++ wsJx4a65c0)
def wsX4_roundUp : List Cond := .code yX4_roundUp cX4_roundUp 3 (some .int) :: ([])
def wsX0_placeFor : List Cond := .code yX0_placeFor cX0_placeFor 2 (some .int) :: ([.fieldLink RX0 9 "LayoutDesk$Compound" "overlaid" "Z", .fieldLink RX0 35 "LayoutDesk$Compound" "reach" "I", .static yX4_roundUp, .initialized RX4, .code yX4_roundUp cX4_roundUp 3 (some .int)] ++ wsX00)
def wsX0_occupy : List Cond := .code yX0_occupy cX0_occupy 4 none :: ([.fieldLink RX0 35 "LayoutDesk$Compound" "reach" "I", .methodLink RX0 43 Lib.Math.max.name, .static Lib.Math.max.name, .initialized "java/lang/Math", .code Lib.Math.max.name Lib.Math.max.code 2 (some .int), .fieldLink RX0 48 "LayoutDesk$Compound" "alignment" "I", .sameField "LayoutDesk$Compound" "LayoutDesk$Type" "alignment" "I"] ++ wsX00 ++ wsX20)
def wsX0_endUnit : List Cond := .code yX0_endUnit cX0_endUnit 1 none :: ([.fieldLink RX0 51 "LayoutDesk$Compound" "freeBits" "I"] ++ wsX00)
def wsX0_beginUnit : List Cond := .code yX0_beginUnit cX0_beginUnit 2 (some .boolean) :: ([.constant RX0 58 (524288), .fieldLink RX0 63 "LayoutDesk$Compound" "unitPlace" "I", .fieldLink RX0 51 "LayoutDesk$Compound" "freeBits" "I", .methodLink RX0 54 yX0_placeFor, .instanceMethod yX0_placeFor, .selects RX0 yX0_placeFor yX0_placeFor, .initialized RX0, .code yX0_placeFor cX0_placeFor 2 (some .int), .fieldLink RX0 9 "LayoutDesk$Compound" "overlaid" "Z", .fieldLink RX0 35 "LayoutDesk$Compound" "reach" "I", .static yX4_roundUp, .initialized RX4, .code yX4_roundUp cX4_roundUp 3 (some .int), .methodLink RX0 59 yX0_occupy, .instanceMethod yX0_occupy, .selects RX0 yX0_occupy yX0_occupy, .code yX0_occupy cX0_occupy 4 none, .methodLink RX0 43 Lib.Math.max.name, .static Lib.Math.max.name, .initialized "java/lang/Math", .code Lib.Math.max.name Lib.Math.max.code 2 (some .int), .fieldLink RX0 48 "LayoutDesk$Compound" "alignment" "I", .sameField "LayoutDesk$Compound" "LayoutDesk$Type" "alignment" "I"] ++ wsX00 ++ wsX20)
def wsX0_takeBits : List Cond := .code yX0_takeBits cX0_takeBits 3 (some .int) :: ([.fieldLink RX0 51 "LayoutDesk$Compound" "freeBits" "I", .fieldLink RX0 9 "LayoutDesk$Compound" "overlaid" "Z"] ++ wsX00)
def wsX1_init : List Cond := .code yX1_init cX1_init 5 none :: ([.methodLink RX1 1 objectInit, .instanceMethod objectInit, .code objectInit ⟨#[0xb1]⟩ 1 none, .fieldLink RX1 7 "LayoutDesk$Member" "place" "I", .fieldLink RX1 13 "LayoutDesk$Member" "type" "I", .fieldLink RX1 16 "LayoutDesk$Member" "lowestBit" "I", .fieldLink RX1 19 "LayoutDesk$Member" "width" "I"] ++ wsX10)
def wsX2_init : List Cond := .code yX2_init cX2_init 6 none :: ([.fieldLink RX2 7 "LayoutDesk$Simple" "kind" "I", .fieldLink RX2 13 "LayoutDesk$Simple" "base" "I", .fieldLink RX2 16 "LayoutDesk$Simple" "length" "I", .methodLink RX2 1 yX3_init, .instanceMethod yX3_init, .initialized RX3, .code yX3_init cX3_init 3 none, .methodLink RX3 1 objectInit, .instanceMethod objectInit, .code objectInit ⟨#[0xb1]⟩ 1 none, .fieldLink RX3 7 "LayoutDesk$Type" "bytes" "I", .fieldLink RX3 13 "LayoutDesk$Type" "alignment" "I"] ++ wsX20 ++ wsX00)
def wsX2_isMadeFrom : List Cond := .code yX2_isMadeFrom cX2_isMadeFrom 4 (some .boolean) :: ([.fieldLink RX2 7 "LayoutDesk$Simple" "kind" "I", .fieldLink RX2 13 "LayoutDesk$Simple" "base" "I", .fieldLink RX2 16 "LayoutDesk$Simple" "length" "I"] ++ wsX20)
def wsX4_init_r1 : List Cond := [Cond.methodLink RX4 1 objectInit, Cond.instanceMethod objectInit, Cond.code objectInit ⟨#[0xb1]⟩ 1 none, Cond.classLink RX4 7 RJx4a65c, Cond.instantiable RJx4a65c 3, Cond.initialized RJx4a65c, Cond.fieldLink RX4 10 "LayoutDesk" "known" "Ljava/util/ArrayList;", Cond.fieldLink RX4 16 "LayoutDesk" "BASIC_BYTES" "[I", Cond.classLink RX4 20 RX2, Cond.instantiable RX2 5, Cond.initialized RX2, Cond.methodLink RX4 22 Lib.Math.min.name, Cond.static Lib.Math.min.name, Cond.initialized "java/lang/Math", Cond.code Lib.Math.min.name Lib.Math.min.code 2 (some .int), Cond.methodLink RX4 9 yJx4a65c_init_da8c8, Cond.instanceMethod yJx4a65c_init_da8c8, Cond.code yJx4a65c_init_da8c8 cJx4a65c_init_da8c8 1 none, Cond.fieldLink RJx4a65c 39 "java/util/ArrayList" "DEFAULTCAPACITY_EMPTY_ELEMENTDATA" "[Ljava/lang/Object;", Cond.fieldLink RJx4a65c 9 "java/util/ArrayList" "elementData" "[Ljava/lang/Object;", Cond.methodLink RJx4a65c 1 yJxc12de_init_da8c8, Cond.instanceMethod yJxc12de_init_da8c8, Cond.initialized RJxc12de, Cond.code yJxc12de_init_da8c8 cJxc12de_init_da8c8 1 none]
def wsX4_init_r2 : List Cond := [Cond.fieldLink RJxc12de 7 "java/util/AbstractList" "modCount" "I", Cond.methodLink RJxc12de 1 yJxa1e45_init_da8c8, Cond.instanceMethod yJxa1e45_init_da8c8, Cond.initialized RJxa1e45, Cond.code yJxa1e45_init_da8c8 cJxa1e45_init_da8c8 1 none, Cond.methodLink RJxa1e45 1 objectInit, Cond.methodLink RX4 28 yX2_init, Cond.instanceMethod yX2_init, Cond.code yX2_init cX2_init 6 none, Cond.fieldLink RX2 7 "LayoutDesk$Simple" "kind" "I", Cond.fieldLink RX2 13 "LayoutDesk$Simple" "base" "I", Cond.fieldLink RX2 16 "LayoutDesk$Simple" "length" "I", Cond.methodLink RX2 1 yX3_init, Cond.instanceMethod yX3_init, Cond.initialized RX3, Cond.code yX3_init cX3_init 3 none, Cond.methodLink RX3 1 objectInit, Cond.fieldLink RX3 7 "LayoutDesk$Type" "bytes" "I", Cond.fieldLink RX3 13 "LayoutDesk$Type" "alignment" "I", Cond.methodLink RX4 31 yJx4a65c_add_9ea2d, Cond.instanceMethod yJx4a65c_add_9ea2d, Cond.selects RJx4a65c yJx4a65c_add_9ea2d yJx4a65c_add_9ea2d, Cond.code yJx4a65c_add_9ea2d cJx4a65c_add_9ea2d 2 (some .boolean), Cond.fieldLink RJx4a65c 63 "java/util/ArrayList" "modCount" "I"]
def wsX4_init_r3 : List Cond := [Cond.sameField "java/util/ArrayList" "java/util/AbstractList" "modCount" "I", Cond.fieldLink RJx4a65c 48 "java/util/ArrayList" "size" "I", Cond.methodLink RJx4a65c 131 yJx4a65c_add_72be8, Cond.instanceMethod yJx4a65c_add_72be8, Cond.selects RJx4a65c yJx4a65c_add_72be8 yJx4a65c_add_72be8, Cond.code yJx4a65c_add_72be8 cJx4a65c_add_72be8 4 none, Cond.methodLink RJx4a65c 129 yJx4a65c_grow_d5877, Cond.instanceMethod yJx4a65c_grow_d5877, Cond.selects RJx4a65c yJx4a65c_grow_d5877 yJx4a65c_grow_d5877, Cond.code yJx4a65c_grow_d5877 cJx4a65c_grow_d5877 1 (some (.array (.object "java/lang/Object"))), Cond.methodLink RJx4a65c 69 yJx4a65c_grow_92f84, Cond.instanceMethod yJx4a65c_grow_92f84, Cond.selects RJx4a65c yJx4a65c_grow_92f84 yJx4a65c_grow_92f84, Cond.code yJx4a65c_grow_92f84 cJx4a65c_grow_92f84 4 (some (.array (.object "java/lang/Object"))), Cond.methodLink RJx4a65c 79 Lib.Math.max.name, Cond.static Lib.Math.max.name, Cond.code Lib.Math.max.name Lib.Math.max.code 2 (some .int), Cond.classLink RJx4a65c 7 "java/lang/Object", Cond.methodLink RJx4a65c 73 yJ8_newLength_cabcc, Cond.static yJ8_newLength_cabcc, Cond.initialized RJ8, Cond.code yJ8_newLength_cabcc cJ8_newLength_cabcc 4 (some .int), Cond.methodLink RJ8 194 Lib.Math.max.name, Cond.constant RJ8 200 (2147483639)]
def wsX4_init_r4 : List Cond := [Cond.methodLink RJ8 201 yJ8_hugeLength_7cf53, Cond.static yJ8_hugeLength_7cf53, Cond.code yJ8_hugeLength_7cf53 cJ8_hugeLength_7cf53 3 (some .int), Cond.methodLink RJx4a65c 66 yJ7_copyOf_1904c, Cond.static yJ7_copyOf_1904c, Cond.initialized RJ7, Cond.code yJ7_copyOf_1904c cJ7_copyOf_1904c 2 (some (.array (.object "java/lang/Object"))), Cond.methodLink RJ7 86 ⟨"java/lang/Object", "getClass", "()Ljava/lang/Class;"⟩, Cond.selects "[Ljava/lang/Object;" ⟨"java/lang/Object", "getClass", "()Ljava/lang/Class;"⟩ ⟨"java/lang/Object", "getClass", "()Ljava/lang/Class;"⟩, Cond.instanceMethod ⟨"java/lang/Object", "getClass", "()Ljava/lang/Class;"⟩, Cond.native ⟨"java/lang/Object", "getClass", "()Ljava/lang/Class;"⟩, Cond.methodLink RJ7 300 yJ7_copyOf_6403c, Cond.static yJ7_copyOf_6403c, Cond.code yJ7_copyOf_6403c cJ7_copyOf_6403c 4 (some (.array (.object "java/lang/Object"))), Cond.classLink RJ7 110 "[Ljava/lang/Object;", Cond.classLink RJ7 2 "java/lang/Object", Cond.methodLink RJ7 304 Lib.Math.min.name, Cond.methodLink RJ7 150 arraycopyName, Cond.native arraycopyName, Cond.static arraycopyName, Cond.initialized "java/lang/System"]
def wsX4_init : List Cond := .code yX4_init cX4_init 3 none :: ((wsX4_init_r1 ++ (wsX4_init_r2 ++ (wsX4_init_r3 ++ wsX4_init_r4))) ++ wsJx4a65c0 ++ wsX40 ++ wsX20 ++ wsX00)
def wsJ3_checkIndex_8e157 : List Cond := .code yJ3_checkIndex_8e157 cJ3_checkIndex_8e157 3 (some .int) :: ([])
def wsJ15_checkIndex_7cf53 : List Cond := .code yJ15_checkIndex_7cf53 cJ15_checkIndex_7cf53 2 (some .int) :: ([.methodLink RJ15 105 yJ3_checkIndex_8e157, .static yJ3_checkIndex_8e157, .initialized RJ3, .code yJ3_checkIndex_8e157 cJ3_checkIndex_8e157 3 (some .int)])
def wsJx4a65c_elementData_915e3 : List Cond := .code yJx4a65c_elementData_915e3 cJx4a65c_elementData_915e3 2 (some (.object "java/lang/Object")) :: ([.fieldLink RJx4a65c 9 "java/util/ArrayList" "elementData" "[Ljava/lang/Object;"] ++ wsJx4a65c0)
def wsJx4a65c_get_915e3 : List Cond := .code yJx4a65c_get_915e3 cJx4a65c_get_915e3 2 (some (.object "java/lang/Object")) :: ([.fieldLink RJx4a65c 48 "java/util/ArrayList" "size" "I", .methodLink RJx4a65c 118 yJ15_checkIndex_7cf53, .static yJ15_checkIndex_7cf53, .initialized RJ15, .code yJ15_checkIndex_7cf53 cJ15_checkIndex_7cf53 2 (some .int), .methodLink RJ15 105 yJ3_checkIndex_8e157, .static yJ3_checkIndex_8e157, .initialized RJ3, .code yJ3_checkIndex_8e157 cJ3_checkIndex_8e157 3 (some .int), .methodLink RJx4a65c 123 yJx4a65c_elementData_915e3, .instanceMethod yJx4a65c_elementData_915e3, .selects RJx4a65c yJx4a65c_elementData_915e3 yJx4a65c_elementData_915e3, .initialized RJx4a65c, .code yJx4a65c_elementData_915e3 cJx4a65c_elementData_915e3 2 (some (.object "java/lang/Object")), .fieldLink RJx4a65c 9 "java/util/ArrayList" "elementData" "[Ljava/lang/Object;"] ++ wsJx4a65c0)
def wsX4_typeAt_r1 : List Cond := [Cond.fieldLink RX4 10 "LayoutDesk" "known" "Ljava/util/ArrayList;", Cond.classLink RX4 53 "LayoutDesk$Type", Cond.methodLink RX4 128 yJx4a65c_size_8abf5, Cond.instanceMethod yJx4a65c_size_8abf5, Cond.selects RJx4a65c yJx4a65c_size_8abf5 yJx4a65c_size_8abf5, Cond.initialized RJx4a65c, Cond.code yJx4a65c_size_8abf5 cJx4a65c_size_8abf5 1 (some .int), Cond.fieldLink RJx4a65c 48 "java/util/ArrayList" "size" "I", Cond.methodLink RX4 135 yJx4a65c_get_915e3, Cond.instanceMethod yJx4a65c_get_915e3, Cond.selects RJx4a65c yJx4a65c_get_915e3 yJx4a65c_get_915e3, Cond.code yJx4a65c_get_915e3 cJx4a65c_get_915e3 2 (some (.object "java/lang/Object")), Cond.methodLink RJx4a65c 118 yJ15_checkIndex_7cf53, Cond.static yJ15_checkIndex_7cf53, Cond.initialized RJ15, Cond.code yJ15_checkIndex_7cf53 cJ15_checkIndex_7cf53 2 (some .int), Cond.methodLink RJ15 105 yJ3_checkIndex_8e157, Cond.static yJ3_checkIndex_8e157, Cond.initialized RJ3, Cond.code yJ3_checkIndex_8e157 cJ3_checkIndex_8e157 3 (some .int), Cond.methodLink RJx4a65c 123 yJx4a65c_elementData_915e3, Cond.instanceMethod yJx4a65c_elementData_915e3, Cond.selects RJx4a65c yJx4a65c_elementData_915e3 yJx4a65c_elementData_915e3, Cond.code yJx4a65c_elementData_915e3 cJx4a65c_elementData_915e3 2 (some (.object "java/lang/Object"))]
def wsX4_typeAt_r2 : List Cond := [Cond.fieldLink RJx4a65c 9 "java/util/ArrayList" "elementData" "[Ljava/lang/Object;"]
def wsX4_typeAt : List Cond := .code yX4_typeAt cX4_typeAt 2 (some (.object "LayoutDesk$Type")) :: ((wsX4_typeAt_r1 ++ wsX4_typeAt_r2) ++ wsX40 ++ wsJx4a65c0)
def wsX4_find_r1 : List Cond := [Cond.fieldLink RX4 10 "LayoutDesk" "known" "Ljava/util/ArrayList;", Cond.classLink RX4 20 "LayoutDesk$Simple", Cond.methodLink RX4 128 yJx4a65c_size_8abf5, Cond.instanceMethod yJx4a65c_size_8abf5, Cond.selects RJx4a65c yJx4a65c_size_8abf5 yJx4a65c_size_8abf5, Cond.initialized RJx4a65c, Cond.code yJx4a65c_size_8abf5 cJx4a65c_size_8abf5 1 (some .int), Cond.fieldLink RJx4a65c 48 "java/util/ArrayList" "size" "I", Cond.methodLink RX4 135 yJx4a65c_get_915e3, Cond.instanceMethod yJx4a65c_get_915e3, Cond.selects RJx4a65c yJx4a65c_get_915e3 yJx4a65c_get_915e3, Cond.code yJx4a65c_get_915e3 cJx4a65c_get_915e3 2 (some (.object "java/lang/Object")), Cond.methodLink RJx4a65c 118 yJ15_checkIndex_7cf53, Cond.static yJ15_checkIndex_7cf53, Cond.initialized RJ15, Cond.code yJ15_checkIndex_7cf53 cJ15_checkIndex_7cf53 2 (some .int), Cond.methodLink RJ15 105 yJ3_checkIndex_8e157, Cond.static yJ3_checkIndex_8e157, Cond.initialized RJ3, Cond.code yJ3_checkIndex_8e157 cJ3_checkIndex_8e157 3 (some .int), Cond.methodLink RJx4a65c 123 yJx4a65c_elementData_915e3, Cond.instanceMethod yJx4a65c_elementData_915e3, Cond.selects RJx4a65c yJx4a65c_elementData_915e3 yJx4a65c_elementData_915e3, Cond.code yJx4a65c_elementData_915e3 cJx4a65c_elementData_915e3 2 (some (.object "java/lang/Object"))]
def wsX4_find_r2 : List Cond := [Cond.fieldLink RJx4a65c 9 "java/util/ArrayList" "elementData" "[Ljava/lang/Object;", Cond.methodLink RX4 151 yX2_isMadeFrom, Cond.instanceMethod yX2_isMadeFrom, Cond.selects RX2 yX2_isMadeFrom yX2_isMadeFrom, Cond.initialized RX2, Cond.code yX2_isMadeFrom cX2_isMadeFrom 4 (some .boolean), Cond.fieldLink RX2 7 "LayoutDesk$Simple" "kind" "I", Cond.fieldLink RX2 13 "LayoutDesk$Simple" "base" "I", Cond.fieldLink RX2 16 "LayoutDesk$Simple" "length" "I"]
def wsX4_find : List Cond := .code yX4_find cX4_find 7 (some .int) :: ((wsX4_find_r1 ++ wsX4_find_r2) ++ wsX40 ++ wsJx4a65c0 ++ wsX20)
def wsX4_isFull : List Cond := .code yX4_isFull cX4_isFull 1 (some .boolean) :: ([.fieldLink RX4 10 "LayoutDesk" "known" "Ljava/util/ArrayList;", .methodLink RX4 128 yJx4a65c_size_8abf5, .instanceMethod yJx4a65c_size_8abf5, .selects RJx4a65c yJx4a65c_size_8abf5 yJx4a65c_size_8abf5, .initialized RJx4a65c, .code yJx4a65c_size_8abf5 cJx4a65c_size_8abf5 1 (some .int), .fieldLink RJx4a65c 48 "java/util/ArrayList" "size" "I"] ++ wsX40 ++ wsJx4a65c0)
def wsX4_enter_r1 : List Cond := [Cond.fieldLink RX4 10 "LayoutDesk" "known" "Ljava/util/ArrayList;", Cond.methodLink RX4 31 yJx4a65c_add_9ea2d, Cond.instanceMethod yJx4a65c_add_9ea2d, Cond.selects RJx4a65c yJx4a65c_add_9ea2d yJx4a65c_add_9ea2d, Cond.initialized RJx4a65c, Cond.code yJx4a65c_add_9ea2d cJx4a65c_add_9ea2d 2 (some .boolean), Cond.fieldLink RJx4a65c 63 "java/util/ArrayList" "modCount" "I", Cond.sameField "java/util/ArrayList" "java/util/AbstractList" "modCount" "I", Cond.fieldLink RJx4a65c 9 "java/util/ArrayList" "elementData" "[Ljava/lang/Object;", Cond.fieldLink RJx4a65c 48 "java/util/ArrayList" "size" "I", Cond.methodLink RJx4a65c 131 yJx4a65c_add_72be8, Cond.instanceMethod yJx4a65c_add_72be8, Cond.selects RJx4a65c yJx4a65c_add_72be8 yJx4a65c_add_72be8, Cond.code yJx4a65c_add_72be8 cJx4a65c_add_72be8 4 none, Cond.methodLink RJx4a65c 129 yJx4a65c_grow_d5877, Cond.instanceMethod yJx4a65c_grow_d5877, Cond.selects RJx4a65c yJx4a65c_grow_d5877 yJx4a65c_grow_d5877, Cond.code yJx4a65c_grow_d5877 cJx4a65c_grow_d5877 1 (some (.array (.object "java/lang/Object"))), Cond.methodLink RJx4a65c 69 yJx4a65c_grow_92f84, Cond.instanceMethod yJx4a65c_grow_92f84, Cond.selects RJx4a65c yJx4a65c_grow_92f84 yJx4a65c_grow_92f84, Cond.code yJx4a65c_grow_92f84 cJx4a65c_grow_92f84 4 (some (.array (.object "java/lang/Object"))), Cond.fieldLink RJx4a65c 39 "java/util/ArrayList" "DEFAULTCAPACITY_EMPTY_ELEMENTDATA" "[Ljava/lang/Object;", Cond.methodLink RJx4a65c 79 Lib.Math.max.name]
def wsX4_enter_r2 : List Cond := [Cond.static Lib.Math.max.name, Cond.initialized "java/lang/Math", Cond.code Lib.Math.max.name Lib.Math.max.code 2 (some .int), Cond.classLink RJx4a65c 7 "java/lang/Object", Cond.methodLink RJx4a65c 73 yJ8_newLength_cabcc, Cond.static yJ8_newLength_cabcc, Cond.initialized RJ8, Cond.code yJ8_newLength_cabcc cJ8_newLength_cabcc 4 (some .int), Cond.methodLink RJ8 194 Lib.Math.max.name, Cond.constant RJ8 200 (2147483639), Cond.methodLink RJ8 201 yJ8_hugeLength_7cf53, Cond.static yJ8_hugeLength_7cf53, Cond.code yJ8_hugeLength_7cf53 cJ8_hugeLength_7cf53 3 (some .int), Cond.methodLink RJx4a65c 66 yJ7_copyOf_1904c, Cond.static yJ7_copyOf_1904c, Cond.initialized RJ7, Cond.code yJ7_copyOf_1904c cJ7_copyOf_1904c 2 (some (.array (.object "java/lang/Object"))), Cond.methodLink RJ7 86 ⟨"java/lang/Object", "getClass", "()Ljava/lang/Class;"⟩, Cond.selects "[Ljava/lang/Object;" ⟨"java/lang/Object", "getClass", "()Ljava/lang/Class;"⟩ ⟨"java/lang/Object", "getClass", "()Ljava/lang/Class;"⟩, Cond.instanceMethod ⟨"java/lang/Object", "getClass", "()Ljava/lang/Class;"⟩, Cond.native ⟨"java/lang/Object", "getClass", "()Ljava/lang/Class;"⟩, Cond.methodLink RJ7 300 yJ7_copyOf_6403c, Cond.static yJ7_copyOf_6403c, Cond.code yJ7_copyOf_6403c cJ7_copyOf_6403c 4 (some (.array (.object "java/lang/Object")))]
def wsX4_enter_r3 : List Cond := [Cond.classLink RJ7 110 "[Ljava/lang/Object;", Cond.classLink RJ7 2 "java/lang/Object", Cond.methodLink RJ7 304 Lib.Math.min.name, Cond.static Lib.Math.min.name, Cond.code Lib.Math.min.name Lib.Math.min.code 2 (some .int), Cond.methodLink RJ7 150 arraycopyName, Cond.native arraycopyName, Cond.static arraycopyName, Cond.initialized "java/lang/System", Cond.methodLink RX4 128 yJx4a65c_size_8abf5, Cond.instanceMethod yJx4a65c_size_8abf5, Cond.selects RJx4a65c yJx4a65c_size_8abf5 yJx4a65c_size_8abf5, Cond.code yJx4a65c_size_8abf5 cJx4a65c_size_8abf5 1 (some .int)]
def wsX4_enter : List Cond := .code yX4_enter cX4_enter 2 (some .int) :: ((wsX4_enter_r1 ++ (wsX4_enter_r2 ++ wsX4_enter_r3)) ++ wsX40 ++ wsJx4a65c0)
def wsX4_pointer_r1 : List Cond := [Cond.classLink RX4 20 RX2, Cond.instantiable RX2 5, Cond.initialized RX2, Cond.methodLink RX4 35 yX4_typeAt, Cond.instanceMethod yX4_typeAt, Cond.selects RX4 yX4_typeAt yX4_typeAt, Cond.initialized RX4, Cond.code yX4_typeAt cX4_typeAt 2 (some (.object "LayoutDesk$Type")), Cond.fieldLink RX4 10 "LayoutDesk" "known" "Ljava/util/ArrayList;", Cond.classLink RX4 53 "LayoutDesk$Type", Cond.methodLink RX4 128 yJx4a65c_size_8abf5, Cond.instanceMethod yJx4a65c_size_8abf5, Cond.selects RJx4a65c yJx4a65c_size_8abf5 yJx4a65c_size_8abf5, Cond.initialized RJx4a65c, Cond.code yJx4a65c_size_8abf5 cJx4a65c_size_8abf5 1 (some .int), Cond.fieldLink RJx4a65c 48 "java/util/ArrayList" "size" "I", Cond.methodLink RX4 135 yJx4a65c_get_915e3, Cond.instanceMethod yJx4a65c_get_915e3, Cond.selects RJx4a65c yJx4a65c_get_915e3 yJx4a65c_get_915e3, Cond.code yJx4a65c_get_915e3 cJx4a65c_get_915e3 2 (some (.object "java/lang/Object")), Cond.methodLink RJx4a65c 118 yJ15_checkIndex_7cf53, Cond.static yJ15_checkIndex_7cf53, Cond.initialized RJ15, Cond.code yJ15_checkIndex_7cf53 cJ15_checkIndex_7cf53 2 (some .int)]
def wsX4_pointer_r2 : List Cond := [Cond.methodLink RJ15 105 yJ3_checkIndex_8e157, Cond.static yJ3_checkIndex_8e157, Cond.initialized RJ3, Cond.code yJ3_checkIndex_8e157 cJ3_checkIndex_8e157 3 (some .int), Cond.methodLink RJx4a65c 123 yJx4a65c_elementData_915e3, Cond.instanceMethod yJx4a65c_elementData_915e3, Cond.selects RJx4a65c yJx4a65c_elementData_915e3 yJx4a65c_elementData_915e3, Cond.code yJx4a65c_elementData_915e3 cJx4a65c_elementData_915e3 2 (some (.object "java/lang/Object")), Cond.fieldLink RJx4a65c 9 "java/util/ArrayList" "elementData" "[Ljava/lang/Object;", Cond.methodLink RX4 39 yX4_find, Cond.instanceMethod yX4_find, Cond.selects RX4 yX4_find yX4_find, Cond.code yX4_find cX4_find 7 (some .int), Cond.classLink RX4 20 "LayoutDesk$Simple", Cond.methodLink RX4 151 yX2_isMadeFrom, Cond.instanceMethod yX2_isMadeFrom, Cond.selects RX2 yX2_isMadeFrom yX2_isMadeFrom, Cond.code yX2_isMadeFrom cX2_isMadeFrom 4 (some .boolean), Cond.fieldLink RX2 7 "LayoutDesk$Simple" "kind" "I", Cond.fieldLink RX2 13 "LayoutDesk$Simple" "base" "I", Cond.fieldLink RX2 16 "LayoutDesk$Simple" "length" "I", Cond.methodLink RX4 43 yX4_isFull, Cond.instanceMethod yX4_isFull, Cond.selects RX4 yX4_isFull yX4_isFull]
def wsX4_pointer_r3 : List Cond := [Cond.code yX4_isFull cX4_isFull 1 (some .boolean), Cond.methodLink RX4 28 yX2_init, Cond.instanceMethod yX2_init, Cond.code yX2_init cX2_init 6 none, Cond.methodLink RX2 1 yX3_init, Cond.instanceMethod yX3_init, Cond.initialized RX3, Cond.code yX3_init cX3_init 3 none, Cond.methodLink RX3 1 objectInit, Cond.instanceMethod objectInit, Cond.code objectInit ⟨#[0xb1]⟩ 1 none, Cond.fieldLink RX3 7 "LayoutDesk$Type" "bytes" "I", Cond.fieldLink RX3 13 "LayoutDesk$Type" "alignment" "I", Cond.methodLink RX4 47 yX4_enter, Cond.instanceMethod yX4_enter, Cond.selects RX4 yX4_enter yX4_enter, Cond.code yX4_enter cX4_enter 2 (some .int), Cond.methodLink RX4 31 yJx4a65c_add_9ea2d, Cond.instanceMethod yJx4a65c_add_9ea2d, Cond.selects RJx4a65c yJx4a65c_add_9ea2d yJx4a65c_add_9ea2d, Cond.code yJx4a65c_add_9ea2d cJx4a65c_add_9ea2d 2 (some .boolean), Cond.fieldLink RJx4a65c 63 "java/util/ArrayList" "modCount" "I", Cond.sameField "java/util/ArrayList" "java/util/AbstractList" "modCount" "I", Cond.methodLink RJx4a65c 131 yJx4a65c_add_72be8]
def wsX4_pointer_r4 : List Cond := [Cond.instanceMethod yJx4a65c_add_72be8, Cond.selects RJx4a65c yJx4a65c_add_72be8 yJx4a65c_add_72be8, Cond.code yJx4a65c_add_72be8 cJx4a65c_add_72be8 4 none, Cond.methodLink RJx4a65c 129 yJx4a65c_grow_d5877, Cond.instanceMethod yJx4a65c_grow_d5877, Cond.selects RJx4a65c yJx4a65c_grow_d5877 yJx4a65c_grow_d5877, Cond.code yJx4a65c_grow_d5877 cJx4a65c_grow_d5877 1 (some (.array (.object "java/lang/Object"))), Cond.methodLink RJx4a65c 69 yJx4a65c_grow_92f84, Cond.instanceMethod yJx4a65c_grow_92f84, Cond.selects RJx4a65c yJx4a65c_grow_92f84 yJx4a65c_grow_92f84, Cond.code yJx4a65c_grow_92f84 cJx4a65c_grow_92f84 4 (some (.array (.object "java/lang/Object"))), Cond.fieldLink RJx4a65c 39 "java/util/ArrayList" "DEFAULTCAPACITY_EMPTY_ELEMENTDATA" "[Ljava/lang/Object;", Cond.methodLink RJx4a65c 79 Lib.Math.max.name, Cond.static Lib.Math.max.name, Cond.initialized "java/lang/Math", Cond.code Lib.Math.max.name Lib.Math.max.code 2 (some .int), Cond.classLink RJx4a65c 7 "java/lang/Object", Cond.methodLink RJx4a65c 73 yJ8_newLength_cabcc, Cond.static yJ8_newLength_cabcc, Cond.initialized RJ8, Cond.code yJ8_newLength_cabcc cJ8_newLength_cabcc 4 (some .int), Cond.methodLink RJ8 194 Lib.Math.max.name, Cond.constant RJ8 200 (2147483639), Cond.methodLink RJ8 201 yJ8_hugeLength_7cf53]
def wsX4_pointer_r5 : List Cond := [Cond.static yJ8_hugeLength_7cf53, Cond.code yJ8_hugeLength_7cf53 cJ8_hugeLength_7cf53 3 (some .int), Cond.methodLink RJx4a65c 66 yJ7_copyOf_1904c, Cond.static yJ7_copyOf_1904c, Cond.initialized RJ7, Cond.code yJ7_copyOf_1904c cJ7_copyOf_1904c 2 (some (.array (.object "java/lang/Object"))), Cond.methodLink RJ7 86 ⟨"java/lang/Object", "getClass", "()Ljava/lang/Class;"⟩, Cond.selects "[Ljava/lang/Object;" ⟨"java/lang/Object", "getClass", "()Ljava/lang/Class;"⟩ ⟨"java/lang/Object", "getClass", "()Ljava/lang/Class;"⟩, Cond.instanceMethod ⟨"java/lang/Object", "getClass", "()Ljava/lang/Class;"⟩, Cond.native ⟨"java/lang/Object", "getClass", "()Ljava/lang/Class;"⟩, Cond.methodLink RJ7 300 yJ7_copyOf_6403c, Cond.static yJ7_copyOf_6403c, Cond.code yJ7_copyOf_6403c cJ7_copyOf_6403c 4 (some (.array (.object "java/lang/Object"))), Cond.classLink RJ7 110 "[Ljava/lang/Object;", Cond.classLink RJ7 2 "java/lang/Object", Cond.methodLink RJ7 304 Lib.Math.min.name, Cond.static Lib.Math.min.name, Cond.code Lib.Math.min.name Lib.Math.min.code 2 (some .int), Cond.methodLink RJ7 150 arraycopyName, Cond.native arraycopyName, Cond.static arraycopyName, Cond.initialized "java/lang/System"]
def wsX4_pointer : List Cond := .code yX4_pointer cX4_pointer 3 (some .int) :: ((wsX4_pointer_r1 ++ (wsX4_pointer_r2 ++ (wsX4_pointer_r3 ++ (wsX4_pointer_r4 ++ wsX4_pointer_r5)))) ++ wsX20 ++ wsX40 ++ wsJx4a65c0 ++ wsX00)
def wsX4_array_r1 : List Cond := [Cond.constant RX4 51 (524288), Cond.fieldLink RX4 52 "LayoutDesk$Type" "bytes" "I", Cond.constantLong RX4 58 (524288), Cond.classLink RX4 20 RX2, Cond.instantiable RX2 5, Cond.initialized RX2, Cond.fieldLink RX4 60 "LayoutDesk$Type" "alignment" "I", Cond.methodLink RX4 35 yX4_typeAt, Cond.instanceMethod yX4_typeAt, Cond.selects RX4 yX4_typeAt yX4_typeAt, Cond.initialized RX4, Cond.code yX4_typeAt cX4_typeAt 2 (some (.object "LayoutDesk$Type")), Cond.fieldLink RX4 10 "LayoutDesk" "known" "Ljava/util/ArrayList;", Cond.classLink RX4 53 "LayoutDesk$Type", Cond.methodLink RX4 128 yJx4a65c_size_8abf5, Cond.instanceMethod yJx4a65c_size_8abf5, Cond.selects RJx4a65c yJx4a65c_size_8abf5 yJx4a65c_size_8abf5, Cond.initialized RJx4a65c, Cond.code yJx4a65c_size_8abf5 cJx4a65c_size_8abf5 1 (some .int), Cond.fieldLink RJx4a65c 48 "java/util/ArrayList" "size" "I", Cond.methodLink RX4 135 yJx4a65c_get_915e3, Cond.instanceMethod yJx4a65c_get_915e3, Cond.selects RJx4a65c yJx4a65c_get_915e3 yJx4a65c_get_915e3, Cond.code yJx4a65c_get_915e3 cJx4a65c_get_915e3 2 (some (.object "java/lang/Object"))]
def wsX4_array_r2 : List Cond := [Cond.methodLink RJx4a65c 118 yJ15_checkIndex_7cf53, Cond.static yJ15_checkIndex_7cf53, Cond.initialized RJ15, Cond.code yJ15_checkIndex_7cf53 cJ15_checkIndex_7cf53 2 (some .int), Cond.methodLink RJ15 105 yJ3_checkIndex_8e157, Cond.static yJ3_checkIndex_8e157, Cond.initialized RJ3, Cond.code yJ3_checkIndex_8e157 cJ3_checkIndex_8e157 3 (some .int), Cond.methodLink RJx4a65c 123 yJx4a65c_elementData_915e3, Cond.instanceMethod yJx4a65c_elementData_915e3, Cond.selects RJx4a65c yJx4a65c_elementData_915e3 yJx4a65c_elementData_915e3, Cond.code yJx4a65c_elementData_915e3 cJx4a65c_elementData_915e3 2 (some (.object "java/lang/Object")), Cond.fieldLink RJx4a65c 9 "java/util/ArrayList" "elementData" "[Ljava/lang/Object;", Cond.methodLink RX4 39 yX4_find, Cond.instanceMethod yX4_find, Cond.selects RX4 yX4_find yX4_find, Cond.code yX4_find cX4_find 7 (some .int), Cond.classLink RX4 20 "LayoutDesk$Simple", Cond.methodLink RX4 151 yX2_isMadeFrom, Cond.instanceMethod yX2_isMadeFrom, Cond.selects RX2 yX2_isMadeFrom yX2_isMadeFrom, Cond.code yX2_isMadeFrom cX2_isMadeFrom 4 (some .boolean), Cond.fieldLink RX2 7 "LayoutDesk$Simple" "kind" "I", Cond.fieldLink RX2 13 "LayoutDesk$Simple" "base" "I"]
def wsX4_array_r3 : List Cond := [Cond.fieldLink RX2 16 "LayoutDesk$Simple" "length" "I", Cond.methodLink RX4 43 yX4_isFull, Cond.instanceMethod yX4_isFull, Cond.selects RX4 yX4_isFull yX4_isFull, Cond.code yX4_isFull cX4_isFull 1 (some .boolean), Cond.methodLink RX4 28 yX2_init, Cond.instanceMethod yX2_init, Cond.code yX2_init cX2_init 6 none, Cond.methodLink RX2 1 yX3_init, Cond.instanceMethod yX3_init, Cond.initialized RX3, Cond.code yX3_init cX3_init 3 none, Cond.methodLink RX3 1 objectInit, Cond.instanceMethod objectInit, Cond.code objectInit ⟨#[0xb1]⟩ 1 none, Cond.fieldLink RX3 7 "LayoutDesk$Type" "bytes" "I", Cond.fieldLink RX3 13 "LayoutDesk$Type" "alignment" "I", Cond.methodLink RX4 47 yX4_enter, Cond.instanceMethod yX4_enter, Cond.selects RX4 yX4_enter yX4_enter, Cond.code yX4_enter cX4_enter 2 (some .int), Cond.methodLink RX4 31 yJx4a65c_add_9ea2d, Cond.instanceMethod yJx4a65c_add_9ea2d, Cond.selects RJx4a65c yJx4a65c_add_9ea2d yJx4a65c_add_9ea2d]
def wsX4_array_r4 : List Cond := [Cond.code yJx4a65c_add_9ea2d cJx4a65c_add_9ea2d 2 (some .boolean), Cond.fieldLink RJx4a65c 63 "java/util/ArrayList" "modCount" "I", Cond.sameField "java/util/ArrayList" "java/util/AbstractList" "modCount" "I", Cond.methodLink RJx4a65c 131 yJx4a65c_add_72be8, Cond.instanceMethod yJx4a65c_add_72be8, Cond.selects RJx4a65c yJx4a65c_add_72be8 yJx4a65c_add_72be8, Cond.code yJx4a65c_add_72be8 cJx4a65c_add_72be8 4 none, Cond.methodLink RJx4a65c 129 yJx4a65c_grow_d5877, Cond.instanceMethod yJx4a65c_grow_d5877, Cond.selects RJx4a65c yJx4a65c_grow_d5877 yJx4a65c_grow_d5877, Cond.code yJx4a65c_grow_d5877 cJx4a65c_grow_d5877 1 (some (.array (.object "java/lang/Object"))), Cond.methodLink RJx4a65c 69 yJx4a65c_grow_92f84, Cond.instanceMethod yJx4a65c_grow_92f84, Cond.selects RJx4a65c yJx4a65c_grow_92f84 yJx4a65c_grow_92f84, Cond.code yJx4a65c_grow_92f84 cJx4a65c_grow_92f84 4 (some (.array (.object "java/lang/Object"))), Cond.fieldLink RJx4a65c 39 "java/util/ArrayList" "DEFAULTCAPACITY_EMPTY_ELEMENTDATA" "[Ljava/lang/Object;", Cond.methodLink RJx4a65c 79 Lib.Math.max.name, Cond.static Lib.Math.max.name, Cond.initialized "java/lang/Math", Cond.code Lib.Math.max.name Lib.Math.max.code 2 (some .int), Cond.classLink RJx4a65c 7 "java/lang/Object", Cond.methodLink RJx4a65c 73 yJ8_newLength_cabcc, Cond.static yJ8_newLength_cabcc, Cond.initialized RJ8]
def wsX4_array_r5 : List Cond := [Cond.code yJ8_newLength_cabcc cJ8_newLength_cabcc 4 (some .int), Cond.methodLink RJ8 194 Lib.Math.max.name, Cond.constant RJ8 200 (2147483639), Cond.methodLink RJ8 201 yJ8_hugeLength_7cf53, Cond.static yJ8_hugeLength_7cf53, Cond.code yJ8_hugeLength_7cf53 cJ8_hugeLength_7cf53 3 (some .int), Cond.methodLink RJx4a65c 66 yJ7_copyOf_1904c, Cond.static yJ7_copyOf_1904c, Cond.initialized RJ7, Cond.code yJ7_copyOf_1904c cJ7_copyOf_1904c 2 (some (.array (.object "java/lang/Object"))), Cond.methodLink RJ7 86 ⟨"java/lang/Object", "getClass", "()Ljava/lang/Class;"⟩, Cond.selects "[Ljava/lang/Object;" ⟨"java/lang/Object", "getClass", "()Ljava/lang/Class;"⟩ ⟨"java/lang/Object", "getClass", "()Ljava/lang/Class;"⟩, Cond.instanceMethod ⟨"java/lang/Object", "getClass", "()Ljava/lang/Class;"⟩, Cond.native ⟨"java/lang/Object", "getClass", "()Ljava/lang/Class;"⟩, Cond.methodLink RJ7 300 yJ7_copyOf_6403c, Cond.static yJ7_copyOf_6403c, Cond.code yJ7_copyOf_6403c cJ7_copyOf_6403c 4 (some (.array (.object "java/lang/Object"))), Cond.classLink RJ7 110 "[Ljava/lang/Object;", Cond.classLink RJ7 2 "java/lang/Object", Cond.methodLink RJ7 304 Lib.Math.min.name, Cond.static Lib.Math.min.name, Cond.code Lib.Math.min.name Lib.Math.min.code 2 (some .int), Cond.methodLink RJ7 150 arraycopyName, Cond.native arraycopyName]
def wsX4_array_r6 : List Cond := [Cond.static arraycopyName, Cond.initialized "java/lang/System"]
def wsX4_array : List Cond := .code yX4_array cX4_array 7 (some .int) :: ((wsX4_array_r1 ++ (wsX4_array_r2 ++ (wsX4_array_r3 ++ (wsX4_array_r4 ++ (wsX4_array_r5 ++ wsX4_array_r6))))) ++ wsX00 ++ wsX20 ++ wsX40 ++ wsJx4a65c0)
def wsX4_record_r1 : List Cond := [Cond.classLink RX4 63 RX0, Cond.instantiable RX0 8, Cond.initialized RX0, Cond.methodLink RX4 43 yX4_isFull, Cond.instanceMethod yX4_isFull, Cond.selects RX4 yX4_isFull yX4_isFull, Cond.initialized RX4, Cond.code yX4_isFull cX4_isFull 1 (some .boolean), Cond.fieldLink RX4 10 "LayoutDesk" "known" "Ljava/util/ArrayList;", Cond.methodLink RX4 128 yJx4a65c_size_8abf5, Cond.instanceMethod yJx4a65c_size_8abf5, Cond.selects RJx4a65c yJx4a65c_size_8abf5 yJx4a65c_size_8abf5, Cond.initialized RJx4a65c, Cond.code yJx4a65c_size_8abf5 cJx4a65c_size_8abf5 1 (some .int), Cond.fieldLink RJx4a65c 48 "java/util/ArrayList" "size" "I", Cond.methodLink RX4 65 yX0_init, Cond.instanceMethod yX0_init, Cond.code yX0_init cX0_init 2 none, Cond.fieldLink RX0 9 "LayoutDesk$Compound" "overlaid" "Z", Cond.classLink RX0 15 RJx4a65c, Cond.instantiable RJx4a65c 3, Cond.fieldLink RX0 20 "LayoutDesk$Compound" "members" "Ljava/util/ArrayList;", Cond.fieldLink RX0 24 "LayoutDesk$Compound" "open" "Z", Cond.methodLink RX0 3 yX3_init]
def wsX4_record_r2 : List Cond := [Cond.instanceMethod yX3_init, Cond.initialized RX3, Cond.code yX3_init cX3_init 3 none, Cond.methodLink RX3 1 objectInit, Cond.instanceMethod objectInit, Cond.code objectInit ⟨#[0xb1]⟩ 1 none, Cond.fieldLink RX3 7 "LayoutDesk$Type" "bytes" "I", Cond.fieldLink RX3 13 "LayoutDesk$Type" "alignment" "I", Cond.methodLink RX0 17 yJx4a65c_init_da8c8, Cond.instanceMethod yJx4a65c_init_da8c8, Cond.code yJx4a65c_init_da8c8 cJx4a65c_init_da8c8 1 none, Cond.fieldLink RJx4a65c 39 "java/util/ArrayList" "DEFAULTCAPACITY_EMPTY_ELEMENTDATA" "[Ljava/lang/Object;", Cond.fieldLink RJx4a65c 9 "java/util/ArrayList" "elementData" "[Ljava/lang/Object;", Cond.methodLink RJx4a65c 1 yJxc12de_init_da8c8, Cond.instanceMethod yJxc12de_init_da8c8, Cond.initialized RJxc12de, Cond.code yJxc12de_init_da8c8 cJxc12de_init_da8c8 1 none, Cond.fieldLink RJxc12de 7 "java/util/AbstractList" "modCount" "I", Cond.methodLink RJxc12de 1 yJxa1e45_init_da8c8, Cond.instanceMethod yJxa1e45_init_da8c8, Cond.initialized RJxa1e45, Cond.code yJxa1e45_init_da8c8 cJxa1e45_init_da8c8 1 none, Cond.methodLink RJxa1e45 1 objectInit, Cond.methodLink RX4 47 yX4_enter]
def wsX4_record_r3 : List Cond := [Cond.instanceMethod yX4_enter, Cond.selects RX4 yX4_enter yX4_enter, Cond.code yX4_enter cX4_enter 2 (some .int), Cond.methodLink RX4 31 yJx4a65c_add_9ea2d, Cond.instanceMethod yJx4a65c_add_9ea2d, Cond.selects RJx4a65c yJx4a65c_add_9ea2d yJx4a65c_add_9ea2d, Cond.code yJx4a65c_add_9ea2d cJx4a65c_add_9ea2d 2 (some .boolean), Cond.fieldLink RJx4a65c 63 "java/util/ArrayList" "modCount" "I", Cond.sameField "java/util/ArrayList" "java/util/AbstractList" "modCount" "I", Cond.methodLink RJx4a65c 131 yJx4a65c_add_72be8, Cond.instanceMethod yJx4a65c_add_72be8, Cond.selects RJx4a65c yJx4a65c_add_72be8 yJx4a65c_add_72be8, Cond.code yJx4a65c_add_72be8 cJx4a65c_add_72be8 4 none, Cond.methodLink RJx4a65c 129 yJx4a65c_grow_d5877, Cond.instanceMethod yJx4a65c_grow_d5877, Cond.selects RJx4a65c yJx4a65c_grow_d5877 yJx4a65c_grow_d5877, Cond.code yJx4a65c_grow_d5877 cJx4a65c_grow_d5877 1 (some (.array (.object "java/lang/Object"))), Cond.methodLink RJx4a65c 69 yJx4a65c_grow_92f84, Cond.instanceMethod yJx4a65c_grow_92f84, Cond.selects RJx4a65c yJx4a65c_grow_92f84 yJx4a65c_grow_92f84, Cond.code yJx4a65c_grow_92f84 cJx4a65c_grow_92f84 4 (some (.array (.object "java/lang/Object"))), Cond.methodLink RJx4a65c 79 Lib.Math.max.name, Cond.static Lib.Math.max.name, Cond.initialized "java/lang/Math"]
def wsX4_record_r4 : List Cond := [Cond.code Lib.Math.max.name Lib.Math.max.code 2 (some .int), Cond.classLink RJx4a65c 7 "java/lang/Object", Cond.methodLink RJx4a65c 73 yJ8_newLength_cabcc, Cond.static yJ8_newLength_cabcc, Cond.initialized RJ8, Cond.code yJ8_newLength_cabcc cJ8_newLength_cabcc 4 (some .int), Cond.methodLink RJ8 194 Lib.Math.max.name, Cond.constant RJ8 200 (2147483639), Cond.methodLink RJ8 201 yJ8_hugeLength_7cf53, Cond.static yJ8_hugeLength_7cf53, Cond.code yJ8_hugeLength_7cf53 cJ8_hugeLength_7cf53 3 (some .int), Cond.methodLink RJx4a65c 66 yJ7_copyOf_1904c, Cond.static yJ7_copyOf_1904c, Cond.initialized RJ7, Cond.code yJ7_copyOf_1904c cJ7_copyOf_1904c 2 (some (.array (.object "java/lang/Object"))), Cond.methodLink RJ7 86 ⟨"java/lang/Object", "getClass", "()Ljava/lang/Class;"⟩, Cond.selects "[Ljava/lang/Object;" ⟨"java/lang/Object", "getClass", "()Ljava/lang/Class;"⟩ ⟨"java/lang/Object", "getClass", "()Ljava/lang/Class;"⟩, Cond.instanceMethod ⟨"java/lang/Object", "getClass", "()Ljava/lang/Class;"⟩, Cond.native ⟨"java/lang/Object", "getClass", "()Ljava/lang/Class;"⟩, Cond.methodLink RJ7 300 yJ7_copyOf_6403c, Cond.static yJ7_copyOf_6403c, Cond.code yJ7_copyOf_6403c cJ7_copyOf_6403c 4 (some (.array (.object "java/lang/Object"))), Cond.classLink RJ7 110 "[Ljava/lang/Object;", Cond.classLink RJ7 2 "java/lang/Object"]
def wsX4_record_r5 : List Cond := [Cond.methodLink RJ7 304 Lib.Math.min.name, Cond.static Lib.Math.min.name, Cond.code Lib.Math.min.name Lib.Math.min.code 2 (some .int), Cond.methodLink RJ7 150 arraycopyName, Cond.native arraycopyName, Cond.static arraycopyName, Cond.initialized "java/lang/System"]
def wsX4_record : List Cond := .code yX4_record cX4_record 2 (some .int) :: ((wsX4_record_r1 ++ (wsX4_record_r2 ++ (wsX4_record_r3 ++ (wsX4_record_r4 ++ wsX4_record_r5)))) ++ wsX00 ++ wsX40 ++ wsJx4a65c0 ++ wsX20)
def wsX4_recordAt_r1 : List Cond := [Cond.classLink RX4 63 "LayoutDesk$Compound", Cond.methodLink RX4 35 yX4_typeAt, Cond.instanceMethod yX4_typeAt, Cond.selects RX4 yX4_typeAt yX4_typeAt, Cond.initialized RX4, Cond.code yX4_typeAt cX4_typeAt 2 (some (.object "LayoutDesk$Type")), Cond.fieldLink RX4 10 "LayoutDesk" "known" "Ljava/util/ArrayList;", Cond.classLink RX4 53 "LayoutDesk$Type", Cond.methodLink RX4 128 yJx4a65c_size_8abf5, Cond.instanceMethod yJx4a65c_size_8abf5, Cond.selects RJx4a65c yJx4a65c_size_8abf5 yJx4a65c_size_8abf5, Cond.initialized RJx4a65c, Cond.code yJx4a65c_size_8abf5 cJx4a65c_size_8abf5 1 (some .int), Cond.fieldLink RJx4a65c 48 "java/util/ArrayList" "size" "I", Cond.methodLink RX4 135 yJx4a65c_get_915e3, Cond.instanceMethod yJx4a65c_get_915e3, Cond.selects RJx4a65c yJx4a65c_get_915e3 yJx4a65c_get_915e3, Cond.code yJx4a65c_get_915e3 cJx4a65c_get_915e3 2 (some (.object "java/lang/Object")), Cond.methodLink RJx4a65c 118 yJ15_checkIndex_7cf53, Cond.static yJ15_checkIndex_7cf53, Cond.initialized RJ15, Cond.code yJ15_checkIndex_7cf53 cJ15_checkIndex_7cf53 2 (some .int), Cond.methodLink RJ15 105 yJ3_checkIndex_8e157, Cond.static yJ3_checkIndex_8e157]
def wsX4_recordAt_r2 : List Cond := [Cond.initialized RJ3, Cond.code yJ3_checkIndex_8e157 cJ3_checkIndex_8e157 3 (some .int), Cond.methodLink RJx4a65c 123 yJx4a65c_elementData_915e3, Cond.instanceMethod yJx4a65c_elementData_915e3, Cond.selects RJx4a65c yJx4a65c_elementData_915e3 yJx4a65c_elementData_915e3, Cond.code yJx4a65c_elementData_915e3 cJx4a65c_elementData_915e3 2 (some (.object "java/lang/Object")), Cond.fieldLink RJx4a65c 9 "java/util/ArrayList" "elementData" "[Ljava/lang/Object;"]
def wsX4_recordAt : List Cond := .code yX4_recordAt cX4_recordAt 4 (some (.object "LayoutDesk$Compound")) :: ((wsX4_recordAt_r1 ++ wsX4_recordAt_r2) ++ wsX40 ++ wsJx4a65c0)
def wsX4_openRecordAt_r1 : List Cond := [Cond.methodLink RX4 132 yX4_recordAt, Cond.instanceMethod yX4_recordAt, Cond.selects RX4 yX4_recordAt yX4_recordAt, Cond.initialized RX4, Cond.code yX4_recordAt cX4_recordAt 4 (some (.object "LayoutDesk$Compound")), Cond.classLink RX4 63 "LayoutDesk$Compound", Cond.methodLink RX4 35 yX4_typeAt, Cond.instanceMethod yX4_typeAt, Cond.selects RX4 yX4_typeAt yX4_typeAt, Cond.code yX4_typeAt cX4_typeAt 2 (some (.object "LayoutDesk$Type")), Cond.fieldLink RX4 10 "LayoutDesk" "known" "Ljava/util/ArrayList;", Cond.classLink RX4 53 "LayoutDesk$Type", Cond.methodLink RX4 128 yJx4a65c_size_8abf5, Cond.instanceMethod yJx4a65c_size_8abf5, Cond.selects RJx4a65c yJx4a65c_size_8abf5 yJx4a65c_size_8abf5, Cond.initialized RJx4a65c, Cond.code yJx4a65c_size_8abf5 cJx4a65c_size_8abf5 1 (some .int), Cond.fieldLink RJx4a65c 48 "java/util/ArrayList" "size" "I", Cond.methodLink RX4 135 yJx4a65c_get_915e3, Cond.instanceMethod yJx4a65c_get_915e3, Cond.selects RJx4a65c yJx4a65c_get_915e3 yJx4a65c_get_915e3, Cond.code yJx4a65c_get_915e3 cJx4a65c_get_915e3 2 (some (.object "java/lang/Object")), Cond.methodLink RJx4a65c 118 yJ15_checkIndex_7cf53, Cond.static yJ15_checkIndex_7cf53]
def wsX4_openRecordAt_r2 : List Cond := [Cond.initialized RJ15, Cond.code yJ15_checkIndex_7cf53 cJ15_checkIndex_7cf53 2 (some .int), Cond.methodLink RJ15 105 yJ3_checkIndex_8e157, Cond.static yJ3_checkIndex_8e157, Cond.initialized RJ3, Cond.code yJ3_checkIndex_8e157 cJ3_checkIndex_8e157 3 (some .int), Cond.methodLink RJx4a65c 123 yJx4a65c_elementData_915e3, Cond.instanceMethod yJx4a65c_elementData_915e3, Cond.selects RJx4a65c yJx4a65c_elementData_915e3 yJx4a65c_elementData_915e3, Cond.code yJx4a65c_elementData_915e3 cJx4a65c_elementData_915e3 2 (some (.object "java/lang/Object")), Cond.fieldLink RJx4a65c 9 "java/util/ArrayList" "elementData" "[Ljava/lang/Object;"]
def wsX4_openRecordAt : List Cond := .code yX4_openRecordAt cX4_openRecordAt 3 (some (.object "LayoutDesk$Compound")) :: ((wsX4_openRecordAt_r1 ++ wsX4_openRecordAt_r2) ++ wsX00 ++ wsX40 ++ wsJx4a65c0)
def wsX4_field_r1 : List Cond := [Cond.fieldLink RX4 52 "LayoutDesk$Type" "bytes" "I", Cond.fieldLink RX4 60 "LayoutDesk$Type" "alignment" "I", Cond.constant RX4 51 (524288), Cond.classLink RX4 86 RX1, Cond.instantiable RX1 4, Cond.initialized RX1, Cond.methodLink RX4 68 yX4_openRecordAt, Cond.instanceMethod yX4_openRecordAt, Cond.selects RX4 yX4_openRecordAt yX4_openRecordAt, Cond.initialized RX4, Cond.code yX4_openRecordAt cX4_openRecordAt 3 (some (.object "LayoutDesk$Compound")), Cond.methodLink RX4 132 yX4_recordAt, Cond.instanceMethod yX4_recordAt, Cond.selects RX4 yX4_recordAt yX4_recordAt, Cond.code yX4_recordAt cX4_recordAt 4 (some (.object "LayoutDesk$Compound")), Cond.classLink RX4 63 "LayoutDesk$Compound", Cond.methodLink RX4 35 yX4_typeAt, Cond.instanceMethod yX4_typeAt, Cond.selects RX4 yX4_typeAt yX4_typeAt, Cond.code yX4_typeAt cX4_typeAt 2 (some (.object "LayoutDesk$Type")), Cond.fieldLink RX4 10 "LayoutDesk" "known" "Ljava/util/ArrayList;", Cond.classLink RX4 53 "LayoutDesk$Type", Cond.methodLink RX4 128 yJx4a65c_size_8abf5, Cond.instanceMethod yJx4a65c_size_8abf5]
def wsX4_field_r2 : List Cond := [Cond.selects RJx4a65c yJx4a65c_size_8abf5 yJx4a65c_size_8abf5, Cond.initialized RJx4a65c, Cond.code yJx4a65c_size_8abf5 cJx4a65c_size_8abf5 1 (some .int), Cond.fieldLink RJx4a65c 48 "java/util/ArrayList" "size" "I", Cond.methodLink RX4 135 yJx4a65c_get_915e3, Cond.instanceMethod yJx4a65c_get_915e3, Cond.selects RJx4a65c yJx4a65c_get_915e3 yJx4a65c_get_915e3, Cond.code yJx4a65c_get_915e3 cJx4a65c_get_915e3 2 (some (.object "java/lang/Object")), Cond.methodLink RJx4a65c 118 yJ15_checkIndex_7cf53, Cond.static yJ15_checkIndex_7cf53, Cond.initialized RJ15, Cond.code yJ15_checkIndex_7cf53 cJ15_checkIndex_7cf53 2 (some .int), Cond.methodLink RJ15 105 yJ3_checkIndex_8e157, Cond.static yJ3_checkIndex_8e157, Cond.initialized RJ3, Cond.code yJ3_checkIndex_8e157 cJ3_checkIndex_8e157 3 (some .int), Cond.methodLink RJx4a65c 123 yJx4a65c_elementData_915e3, Cond.instanceMethod yJx4a65c_elementData_915e3, Cond.selects RJx4a65c yJx4a65c_elementData_915e3 yJx4a65c_elementData_915e3, Cond.code yJx4a65c_elementData_915e3 cJx4a65c_elementData_915e3 2 (some (.object "java/lang/Object")), Cond.fieldLink RJx4a65c 9 "java/util/ArrayList" "elementData" "[Ljava/lang/Object;", Cond.methodLink RX4 72 yX0_hasAllMembers, Cond.instanceMethod yX0_hasAllMembers, Cond.selects RX0 yX0_hasAllMembers yX0_hasAllMembers]
def wsX4_field_r3 : List Cond := [Cond.initialized RX0, Cond.code yX0_hasAllMembers cX0_hasAllMembers 1 (some .boolean), Cond.fieldLink RX0 20 "LayoutDesk$Compound" "members" "Ljava/util/ArrayList;", Cond.methodLink RX0 27 yJx4a65c_size_8abf5, Cond.methodLink RX4 75 yX0_placeFor, Cond.instanceMethod yX0_placeFor, Cond.selects RX0 yX0_placeFor yX0_placeFor, Cond.code yX0_placeFor cX0_placeFor 2 (some .int), Cond.fieldLink RX0 9 "LayoutDesk$Compound" "overlaid" "Z", Cond.fieldLink RX0 35 "LayoutDesk$Compound" "reach" "I", Cond.static yX4_roundUp, Cond.code yX4_roundUp cX4_roundUp 3 (some .int), Cond.methodLink RX4 79 yX0_endUnit, Cond.instanceMethod yX0_endUnit, Cond.selects RX0 yX0_endUnit yX0_endUnit, Cond.code yX0_endUnit cX0_endUnit 1 none, Cond.fieldLink RX0 51 "LayoutDesk$Compound" "freeBits" "I", Cond.methodLink RX4 82 yX0_occupy, Cond.instanceMethod yX0_occupy, Cond.selects RX0 yX0_occupy yX0_occupy, Cond.code yX0_occupy cX0_occupy 4 none, Cond.methodLink RX0 43 Lib.Math.max.name, Cond.static Lib.Math.max.name, Cond.initialized "java/lang/Math"]
def wsX4_field_r4 : List Cond := [Cond.code Lib.Math.max.name Lib.Math.max.code 2 (some .int), Cond.fieldLink RX0 48 "LayoutDesk$Compound" "alignment" "I", Cond.sameField "LayoutDesk$Compound" "LayoutDesk$Type" "alignment" "I", Cond.methodLink RX4 88 yX1_init, Cond.instanceMethod yX1_init, Cond.code yX1_init cX1_init 5 none, Cond.methodLink RX1 1 objectInit, Cond.instanceMethod objectInit, Cond.code objectInit ⟨#[0xb1]⟩ 1 none, Cond.fieldLink RX1 7 "LayoutDesk$Member" "place" "I", Cond.fieldLink RX1 13 "LayoutDesk$Member" "type" "I", Cond.fieldLink RX1 16 "LayoutDesk$Member" "lowestBit" "I", Cond.fieldLink RX1 19 "LayoutDesk$Member" "width" "I", Cond.methodLink RX4 91 yX0_enter, Cond.instanceMethod yX0_enter, Cond.selects RX0 yX0_enter yX0_enter, Cond.code yX0_enter cX0_enter 2 (some .int), Cond.methodLink RX0 31 yJx4a65c_add_9ea2d, Cond.instanceMethod yJx4a65c_add_9ea2d, Cond.selects RJx4a65c yJx4a65c_add_9ea2d yJx4a65c_add_9ea2d, Cond.code yJx4a65c_add_9ea2d cJx4a65c_add_9ea2d 2 (some .boolean), Cond.fieldLink RJx4a65c 63 "java/util/ArrayList" "modCount" "I", Cond.sameField "java/util/ArrayList" "java/util/AbstractList" "modCount" "I", Cond.methodLink RJx4a65c 131 yJx4a65c_add_72be8]
def wsX4_field_r5 : List Cond := [Cond.instanceMethod yJx4a65c_add_72be8, Cond.selects RJx4a65c yJx4a65c_add_72be8 yJx4a65c_add_72be8, Cond.code yJx4a65c_add_72be8 cJx4a65c_add_72be8 4 none, Cond.methodLink RJx4a65c 129 yJx4a65c_grow_d5877, Cond.instanceMethod yJx4a65c_grow_d5877, Cond.selects RJx4a65c yJx4a65c_grow_d5877 yJx4a65c_grow_d5877, Cond.code yJx4a65c_grow_d5877 cJx4a65c_grow_d5877 1 (some (.array (.object "java/lang/Object"))), Cond.methodLink RJx4a65c 69 yJx4a65c_grow_92f84, Cond.instanceMethod yJx4a65c_grow_92f84, Cond.selects RJx4a65c yJx4a65c_grow_92f84 yJx4a65c_grow_92f84, Cond.code yJx4a65c_grow_92f84 cJx4a65c_grow_92f84 4 (some (.array (.object "java/lang/Object"))), Cond.fieldLink RJx4a65c 39 "java/util/ArrayList" "DEFAULTCAPACITY_EMPTY_ELEMENTDATA" "[Ljava/lang/Object;", Cond.methodLink RJx4a65c 79 Lib.Math.max.name, Cond.classLink RJx4a65c 7 "java/lang/Object", Cond.methodLink RJx4a65c 73 yJ8_newLength_cabcc, Cond.static yJ8_newLength_cabcc, Cond.initialized RJ8, Cond.code yJ8_newLength_cabcc cJ8_newLength_cabcc 4 (some .int), Cond.methodLink RJ8 194 Lib.Math.max.name, Cond.constant RJ8 200 (2147483639), Cond.methodLink RJ8 201 yJ8_hugeLength_7cf53, Cond.static yJ8_hugeLength_7cf53, Cond.code yJ8_hugeLength_7cf53 cJ8_hugeLength_7cf53 3 (some .int), Cond.methodLink RJx4a65c 66 yJ7_copyOf_1904c]
def wsX4_field_r6 : List Cond := [Cond.static yJ7_copyOf_1904c, Cond.initialized RJ7, Cond.code yJ7_copyOf_1904c cJ7_copyOf_1904c 2 (some (.array (.object "java/lang/Object"))), Cond.methodLink RJ7 86 ⟨"java/lang/Object", "getClass", "()Ljava/lang/Class;"⟩, Cond.selects "[Ljava/lang/Object;" ⟨"java/lang/Object", "getClass", "()Ljava/lang/Class;"⟩ ⟨"java/lang/Object", "getClass", "()Ljava/lang/Class;"⟩, Cond.instanceMethod ⟨"java/lang/Object", "getClass", "()Ljava/lang/Class;"⟩, Cond.native ⟨"java/lang/Object", "getClass", "()Ljava/lang/Class;"⟩, Cond.methodLink RJ7 300 yJ7_copyOf_6403c, Cond.static yJ7_copyOf_6403c, Cond.code yJ7_copyOf_6403c cJ7_copyOf_6403c 4 (some (.array (.object "java/lang/Object"))), Cond.classLink RJ7 110 "[Ljava/lang/Object;", Cond.classLink RJ7 2 "java/lang/Object", Cond.methodLink RJ7 304 Lib.Math.min.name, Cond.static Lib.Math.min.name, Cond.code Lib.Math.min.name Lib.Math.min.code 2 (some .int), Cond.methodLink RJ7 150 arraycopyName, Cond.native arraycopyName, Cond.static arraycopyName, Cond.initialized "java/lang/System"]
def wsX4_field : List Cond := .code yX4_field cX4_field 6 (some .int) :: ((wsX4_field_r1 ++ (wsX4_field_r2 ++ (wsX4_field_r3 ++ (wsX4_field_r4 ++ (wsX4_field_r5 ++ wsX4_field_r6))))) ++ wsX00 ++ wsX20 ++ wsX10 ++ wsX40 ++ wsJx4a65c0)
def wsX4_isBitFieldType : List Cond := .code yX4_isBitFieldType cX4_isBitFieldType 1 (some .boolean) :: ([])
def wsX4_bits_r1 : List Cond := [Cond.classLink RX4 86 RX1, Cond.instantiable RX1 4, Cond.initialized RX1, Cond.methodLink RX4 68 yX4_openRecordAt, Cond.instanceMethod yX4_openRecordAt, Cond.selects RX4 yX4_openRecordAt yX4_openRecordAt, Cond.initialized RX4, Cond.code yX4_openRecordAt cX4_openRecordAt 3 (some (.object "LayoutDesk$Compound")), Cond.methodLink RX4 132 yX4_recordAt, Cond.instanceMethod yX4_recordAt, Cond.selects RX4 yX4_recordAt yX4_recordAt, Cond.code yX4_recordAt cX4_recordAt 4 (some (.object "LayoutDesk$Compound")), Cond.classLink RX4 63 "LayoutDesk$Compound", Cond.methodLink RX4 35 yX4_typeAt, Cond.instanceMethod yX4_typeAt, Cond.selects RX4 yX4_typeAt yX4_typeAt, Cond.code yX4_typeAt cX4_typeAt 2 (some (.object "LayoutDesk$Type")), Cond.fieldLink RX4 10 "LayoutDesk" "known" "Ljava/util/ArrayList;", Cond.classLink RX4 53 "LayoutDesk$Type", Cond.methodLink RX4 128 yJx4a65c_size_8abf5, Cond.instanceMethod yJx4a65c_size_8abf5, Cond.selects RJx4a65c yJx4a65c_size_8abf5 yJx4a65c_size_8abf5, Cond.initialized RJx4a65c, Cond.code yJx4a65c_size_8abf5 cJx4a65c_size_8abf5 1 (some .int)]
def wsX4_bits_r2 : List Cond := [Cond.fieldLink RJx4a65c 48 "java/util/ArrayList" "size" "I", Cond.methodLink RX4 135 yJx4a65c_get_915e3, Cond.instanceMethod yJx4a65c_get_915e3, Cond.selects RJx4a65c yJx4a65c_get_915e3 yJx4a65c_get_915e3, Cond.code yJx4a65c_get_915e3 cJx4a65c_get_915e3 2 (some (.object "java/lang/Object")), Cond.methodLink RJx4a65c 118 yJ15_checkIndex_7cf53, Cond.static yJ15_checkIndex_7cf53, Cond.initialized RJ15, Cond.code yJ15_checkIndex_7cf53 cJ15_checkIndex_7cf53 2 (some .int), Cond.methodLink RJ15 105 yJ3_checkIndex_8e157, Cond.static yJ3_checkIndex_8e157, Cond.initialized RJ3, Cond.code yJ3_checkIndex_8e157 cJ3_checkIndex_8e157 3 (some .int), Cond.methodLink RJx4a65c 123 yJx4a65c_elementData_915e3, Cond.instanceMethod yJx4a65c_elementData_915e3, Cond.selects RJx4a65c yJx4a65c_elementData_915e3 yJx4a65c_elementData_915e3, Cond.code yJx4a65c_elementData_915e3 cJx4a65c_elementData_915e3 2 (some (.object "java/lang/Object")), Cond.fieldLink RJx4a65c 9 "java/util/ArrayList" "elementData" "[Ljava/lang/Object;", Cond.methodLink RX4 94 yX4_isBitFieldType, Cond.static yX4_isBitFieldType, Cond.code yX4_isBitFieldType cX4_isBitFieldType 1 (some .boolean), Cond.methodLink RX4 72 yX0_hasAllMembers, Cond.instanceMethod yX0_hasAllMembers, Cond.selects RX0 yX0_hasAllMembers yX0_hasAllMembers]
def wsX4_bits_r3 : List Cond := [Cond.initialized RX0, Cond.code yX0_hasAllMembers cX0_hasAllMembers 1 (some .boolean), Cond.fieldLink RX0 20 "LayoutDesk$Compound" "members" "Ljava/util/ArrayList;", Cond.methodLink RX0 27 yJx4a65c_size_8abf5, Cond.methodLink RX4 101 yX0_beginUnit, Cond.instanceMethod yX0_beginUnit, Cond.selects RX0 yX0_beginUnit yX0_beginUnit, Cond.code yX0_beginUnit cX0_beginUnit 2 (some .boolean), Cond.constant RX0 58 (524288), Cond.fieldLink RX0 63 "LayoutDesk$Compound" "unitPlace" "I", Cond.fieldLink RX0 51 "LayoutDesk$Compound" "freeBits" "I", Cond.methodLink RX0 54 yX0_placeFor, Cond.instanceMethod yX0_placeFor, Cond.selects RX0 yX0_placeFor yX0_placeFor, Cond.code yX0_placeFor cX0_placeFor 2 (some .int), Cond.fieldLink RX0 9 "LayoutDesk$Compound" "overlaid" "Z", Cond.fieldLink RX0 35 "LayoutDesk$Compound" "reach" "I", Cond.static yX4_roundUp, Cond.code yX4_roundUp cX4_roundUp 3 (some .int), Cond.methodLink RX0 59 yX0_occupy, Cond.instanceMethod yX0_occupy, Cond.selects RX0 yX0_occupy yX0_occupy, Cond.code yX0_occupy cX0_occupy 4 none, Cond.methodLink RX0 43 Lib.Math.max.name]
def wsX4_bits_r4 : List Cond := [Cond.static Lib.Math.max.name, Cond.initialized "java/lang/Math", Cond.code Lib.Math.max.name Lib.Math.max.code 2 (some .int), Cond.fieldLink RX0 48 "LayoutDesk$Compound" "alignment" "I", Cond.sameField "LayoutDesk$Compound" "LayoutDesk$Type" "alignment" "I", Cond.methodLink RX4 104 yX0_takeBits, Cond.instanceMethod yX0_takeBits, Cond.selects RX0 yX0_takeBits yX0_takeBits, Cond.code yX0_takeBits cX0_takeBits 3 (some .int), Cond.methodLink RX4 88 yX1_init, Cond.instanceMethod yX1_init, Cond.code yX1_init cX1_init 5 none, Cond.methodLink RX1 1 objectInit, Cond.instanceMethod objectInit, Cond.code objectInit ⟨#[0xb1]⟩ 1 none, Cond.fieldLink RX1 7 "LayoutDesk$Member" "place" "I", Cond.fieldLink RX1 13 "LayoutDesk$Member" "type" "I", Cond.fieldLink RX1 16 "LayoutDesk$Member" "lowestBit" "I", Cond.fieldLink RX1 19 "LayoutDesk$Member" "width" "I", Cond.methodLink RX4 91 yX0_enter, Cond.instanceMethod yX0_enter, Cond.selects RX0 yX0_enter yX0_enter, Cond.code yX0_enter cX0_enter 2 (some .int), Cond.methodLink RX0 31 yJx4a65c_add_9ea2d]
def wsX4_bits_r5 : List Cond := [Cond.instanceMethod yJx4a65c_add_9ea2d, Cond.selects RJx4a65c yJx4a65c_add_9ea2d yJx4a65c_add_9ea2d, Cond.code yJx4a65c_add_9ea2d cJx4a65c_add_9ea2d 2 (some .boolean), Cond.fieldLink RJx4a65c 63 "java/util/ArrayList" "modCount" "I", Cond.sameField "java/util/ArrayList" "java/util/AbstractList" "modCount" "I", Cond.methodLink RJx4a65c 131 yJx4a65c_add_72be8, Cond.instanceMethod yJx4a65c_add_72be8, Cond.selects RJx4a65c yJx4a65c_add_72be8 yJx4a65c_add_72be8, Cond.code yJx4a65c_add_72be8 cJx4a65c_add_72be8 4 none, Cond.methodLink RJx4a65c 129 yJx4a65c_grow_d5877, Cond.instanceMethod yJx4a65c_grow_d5877, Cond.selects RJx4a65c yJx4a65c_grow_d5877 yJx4a65c_grow_d5877, Cond.code yJx4a65c_grow_d5877 cJx4a65c_grow_d5877 1 (some (.array (.object "java/lang/Object"))), Cond.methodLink RJx4a65c 69 yJx4a65c_grow_92f84, Cond.instanceMethod yJx4a65c_grow_92f84, Cond.selects RJx4a65c yJx4a65c_grow_92f84 yJx4a65c_grow_92f84, Cond.code yJx4a65c_grow_92f84 cJx4a65c_grow_92f84 4 (some (.array (.object "java/lang/Object"))), Cond.fieldLink RJx4a65c 39 "java/util/ArrayList" "DEFAULTCAPACITY_EMPTY_ELEMENTDATA" "[Ljava/lang/Object;", Cond.methodLink RJx4a65c 79 Lib.Math.max.name, Cond.classLink RJx4a65c 7 "java/lang/Object", Cond.methodLink RJx4a65c 73 yJ8_newLength_cabcc, Cond.static yJ8_newLength_cabcc, Cond.initialized RJ8, Cond.code yJ8_newLength_cabcc cJ8_newLength_cabcc 4 (some .int)]
def wsX4_bits_r6 : List Cond := [Cond.methodLink RJ8 194 Lib.Math.max.name, Cond.constant RJ8 200 (2147483639), Cond.methodLink RJ8 201 yJ8_hugeLength_7cf53, Cond.static yJ8_hugeLength_7cf53, Cond.code yJ8_hugeLength_7cf53 cJ8_hugeLength_7cf53 3 (some .int), Cond.methodLink RJx4a65c 66 yJ7_copyOf_1904c, Cond.static yJ7_copyOf_1904c, Cond.initialized RJ7, Cond.code yJ7_copyOf_1904c cJ7_copyOf_1904c 2 (some (.array (.object "java/lang/Object"))), Cond.methodLink RJ7 86 ⟨"java/lang/Object", "getClass", "()Ljava/lang/Class;"⟩, Cond.selects "[Ljava/lang/Object;" ⟨"java/lang/Object", "getClass", "()Ljava/lang/Class;"⟩ ⟨"java/lang/Object", "getClass", "()Ljava/lang/Class;"⟩, Cond.instanceMethod ⟨"java/lang/Object", "getClass", "()Ljava/lang/Class;"⟩, Cond.native ⟨"java/lang/Object", "getClass", "()Ljava/lang/Class;"⟩, Cond.methodLink RJ7 300 yJ7_copyOf_6403c, Cond.static yJ7_copyOf_6403c, Cond.code yJ7_copyOf_6403c cJ7_copyOf_6403c 4 (some (.array (.object "java/lang/Object"))), Cond.classLink RJ7 110 "[Ljava/lang/Object;", Cond.classLink RJ7 2 "java/lang/Object", Cond.methodLink RJ7 304 Lib.Math.min.name, Cond.static Lib.Math.min.name, Cond.code Lib.Math.min.name Lib.Math.min.code 2 (some .int), Cond.methodLink RJ7 150 arraycopyName, Cond.native arraycopyName, Cond.static arraycopyName]
def wsX4_bits_r7 : List Cond := [Cond.initialized "java/lang/System"]
def wsX4_bits : List Cond := .code yX4_bits cX4_bits 7 (some .int) :: ((wsX4_bits_r1 ++ (wsX4_bits_r2 ++ (wsX4_bits_r3 ++ (wsX4_bits_r4 ++ (wsX4_bits_r5 ++ (wsX4_bits_r6 ++ wsX4_bits_r7)))))) ++ wsX00 ++ wsX10 ++ wsX40 ++ wsJx4a65c0 ++ wsX20)
def wsX4_separate_r1 : List Cond := [Cond.methodLink RX4 68 yX4_openRecordAt, Cond.instanceMethod yX4_openRecordAt, Cond.selects RX4 yX4_openRecordAt yX4_openRecordAt, Cond.initialized RX4, Cond.code yX4_openRecordAt cX4_openRecordAt 3 (some (.object "LayoutDesk$Compound")), Cond.methodLink RX4 132 yX4_recordAt, Cond.instanceMethod yX4_recordAt, Cond.selects RX4 yX4_recordAt yX4_recordAt, Cond.code yX4_recordAt cX4_recordAt 4 (some (.object "LayoutDesk$Compound")), Cond.classLink RX4 63 "LayoutDesk$Compound", Cond.methodLink RX4 35 yX4_typeAt, Cond.instanceMethod yX4_typeAt, Cond.selects RX4 yX4_typeAt yX4_typeAt, Cond.code yX4_typeAt cX4_typeAt 2 (some (.object "LayoutDesk$Type")), Cond.fieldLink RX4 10 "LayoutDesk" "known" "Ljava/util/ArrayList;", Cond.classLink RX4 53 "LayoutDesk$Type", Cond.methodLink RX4 128 yJx4a65c_size_8abf5, Cond.instanceMethod yJx4a65c_size_8abf5, Cond.selects RJx4a65c yJx4a65c_size_8abf5 yJx4a65c_size_8abf5, Cond.initialized RJx4a65c, Cond.code yJx4a65c_size_8abf5 cJx4a65c_size_8abf5 1 (some .int), Cond.fieldLink RJx4a65c 48 "java/util/ArrayList" "size" "I", Cond.methodLink RX4 135 yJx4a65c_get_915e3, Cond.instanceMethod yJx4a65c_get_915e3]
def wsX4_separate_r2 : List Cond := [Cond.selects RJx4a65c yJx4a65c_get_915e3 yJx4a65c_get_915e3, Cond.code yJx4a65c_get_915e3 cJx4a65c_get_915e3 2 (some (.object "java/lang/Object")), Cond.methodLink RJx4a65c 118 yJ15_checkIndex_7cf53, Cond.static yJ15_checkIndex_7cf53, Cond.initialized RJ15, Cond.code yJ15_checkIndex_7cf53 cJ15_checkIndex_7cf53 2 (some .int), Cond.methodLink RJ15 105 yJ3_checkIndex_8e157, Cond.static yJ3_checkIndex_8e157, Cond.initialized RJ3, Cond.code yJ3_checkIndex_8e157 cJ3_checkIndex_8e157 3 (some .int), Cond.methodLink RJx4a65c 123 yJx4a65c_elementData_915e3, Cond.instanceMethod yJx4a65c_elementData_915e3, Cond.selects RJx4a65c yJx4a65c_elementData_915e3 yJx4a65c_elementData_915e3, Cond.code yJx4a65c_elementData_915e3 cJx4a65c_elementData_915e3 2 (some (.object "java/lang/Object")), Cond.fieldLink RJx4a65c 9 "java/util/ArrayList" "elementData" "[Ljava/lang/Object;", Cond.methodLink RX4 79 yX0_endUnit, Cond.instanceMethod yX0_endUnit, Cond.selects RX0 yX0_endUnit yX0_endUnit, Cond.initialized RX0, Cond.code yX0_endUnit cX0_endUnit 1 none, Cond.fieldLink RX0 51 "LayoutDesk$Compound" "freeBits" "I"]
def wsX4_separate : List Cond := .code yX4_separate cX4_separate 3 (some .boolean) :: ((wsX4_separate_r1 ++ wsX4_separate_r2) ++ wsX00 ++ wsX40 ++ wsJx4a65c0)
def wsJx4a65c_isEmpty_aae02 : List Cond := .code yJx4a65c_isEmpty_aae02 cJx4a65c_isEmpty_aae02 1 (some .boolean) :: ([.fieldLink RJx4a65c 48 "java/util/ArrayList" "size" "I"] ++ wsJx4a65c0)
def wsX4_finish_r1 : List Cond := [Cond.fieldLink RX4 119 "LayoutDesk$Compound" "alignment" "I", Cond.sameField "LayoutDesk$Compound" "LayoutDesk$Type" "alignment" "I", Cond.constant RX4 51 (524288), Cond.fieldLink RX4 123 "LayoutDesk$Compound" "bytes" "I", Cond.sameField "LayoutDesk$Compound" "LayoutDesk$Type" "bytes" "I", Cond.methodLink RX4 68 yX4_openRecordAt, Cond.instanceMethod yX4_openRecordAt, Cond.selects RX4 yX4_openRecordAt yX4_openRecordAt, Cond.initialized RX4, Cond.code yX4_openRecordAt cX4_openRecordAt 3 (some (.object "LayoutDesk$Compound")), Cond.methodLink RX4 132 yX4_recordAt, Cond.instanceMethod yX4_recordAt, Cond.selects RX4 yX4_recordAt yX4_recordAt, Cond.code yX4_recordAt cX4_recordAt 4 (some (.object "LayoutDesk$Compound")), Cond.classLink RX4 63 "LayoutDesk$Compound", Cond.methodLink RX4 35 yX4_typeAt, Cond.instanceMethod yX4_typeAt, Cond.selects RX4 yX4_typeAt yX4_typeAt, Cond.code yX4_typeAt cX4_typeAt 2 (some (.object "LayoutDesk$Type")), Cond.fieldLink RX4 10 "LayoutDesk" "known" "Ljava/util/ArrayList;", Cond.classLink RX4 53 "LayoutDesk$Type", Cond.methodLink RX4 128 yJx4a65c_size_8abf5, Cond.instanceMethod yJx4a65c_size_8abf5, Cond.selects RJx4a65c yJx4a65c_size_8abf5 yJx4a65c_size_8abf5]
def wsX4_finish_r2 : List Cond := [Cond.initialized RJx4a65c, Cond.code yJx4a65c_size_8abf5 cJx4a65c_size_8abf5 1 (some .int), Cond.fieldLink RJx4a65c 48 "java/util/ArrayList" "size" "I", Cond.methodLink RX4 135 yJx4a65c_get_915e3, Cond.instanceMethod yJx4a65c_get_915e3, Cond.selects RJx4a65c yJx4a65c_get_915e3 yJx4a65c_get_915e3, Cond.code yJx4a65c_get_915e3 cJx4a65c_get_915e3 2 (some (.object "java/lang/Object")), Cond.methodLink RJx4a65c 118 yJ15_checkIndex_7cf53, Cond.static yJ15_checkIndex_7cf53, Cond.initialized RJ15, Cond.code yJ15_checkIndex_7cf53 cJ15_checkIndex_7cf53 2 (some .int), Cond.methodLink RJ15 105 yJ3_checkIndex_8e157, Cond.static yJ3_checkIndex_8e157, Cond.initialized RJ3, Cond.code yJ3_checkIndex_8e157 cJ3_checkIndex_8e157 3 (some .int), Cond.methodLink RJx4a65c 123 yJx4a65c_elementData_915e3, Cond.instanceMethod yJx4a65c_elementData_915e3, Cond.selects RJx4a65c yJx4a65c_elementData_915e3 yJx4a65c_elementData_915e3, Cond.code yJx4a65c_elementData_915e3 cJx4a65c_elementData_915e3 2 (some (.object "java/lang/Object")), Cond.fieldLink RJx4a65c 9 "java/util/ArrayList" "elementData" "[Ljava/lang/Object;", Cond.methodLink RX4 113 yJx4a65c_isEmpty_aae02, Cond.instanceMethod yJx4a65c_isEmpty_aae02, Cond.selects RJx4a65c yJx4a65c_isEmpty_aae02 yJx4a65c_isEmpty_aae02, Cond.code yJx4a65c_isEmpty_aae02 cJx4a65c_isEmpty_aae02 1 (some .boolean)]
def wsX4_finish_r3 : List Cond := [Cond.methodLink RX4 120 yX4_roundUp, Cond.static yX4_roundUp, Cond.code yX4_roundUp cX4_roundUp 3 (some .int)]
def wsX4_finish : List Cond := .code yX4_finish cX4_finish 4 (some .int) :: ((wsX4_finish_r1 ++ (wsX4_finish_r2 ++ wsX4_finish_r3)) ++ wsX00 ++ wsX20 ++ wsX40 ++ wsJx4a65c0)
def wsX4_types : List Cond := .code yX4_types cX4_types 1 (some .int) :: ([.fieldLink RX4 10 "LayoutDesk" "known" "Ljava/util/ArrayList;", .methodLink RX4 128 yJx4a65c_size_8abf5, .instanceMethod yJx4a65c_size_8abf5, .selects RJx4a65c yJx4a65c_size_8abf5 yJx4a65c_size_8abf5, .initialized RJx4a65c, .code yJx4a65c_size_8abf5 cJx4a65c_size_8abf5 1 (some .int), .fieldLink RJx4a65c 48 "java/util/ArrayList" "size" "I"] ++ wsX40 ++ wsJx4a65c0)
def wsX4_size_r1 : List Cond := [Cond.fieldLink RX4 52 "LayoutDesk$Type" "bytes" "I", Cond.methodLink RX4 35 yX4_typeAt, Cond.instanceMethod yX4_typeAt, Cond.selects RX4 yX4_typeAt yX4_typeAt, Cond.initialized RX4, Cond.code yX4_typeAt cX4_typeAt 2 (some (.object "LayoutDesk$Type")), Cond.fieldLink RX4 10 "LayoutDesk" "known" "Ljava/util/ArrayList;", Cond.classLink RX4 53 "LayoutDesk$Type", Cond.methodLink RX4 128 yJx4a65c_size_8abf5, Cond.instanceMethod yJx4a65c_size_8abf5, Cond.selects RJx4a65c yJx4a65c_size_8abf5 yJx4a65c_size_8abf5, Cond.initialized RJx4a65c, Cond.code yJx4a65c_size_8abf5 cJx4a65c_size_8abf5 1 (some .int), Cond.fieldLink RJx4a65c 48 "java/util/ArrayList" "size" "I", Cond.methodLink RX4 135 yJx4a65c_get_915e3, Cond.instanceMethod yJx4a65c_get_915e3, Cond.selects RJx4a65c yJx4a65c_get_915e3 yJx4a65c_get_915e3, Cond.code yJx4a65c_get_915e3 cJx4a65c_get_915e3 2 (some (.object "java/lang/Object")), Cond.methodLink RJx4a65c 118 yJ15_checkIndex_7cf53, Cond.static yJ15_checkIndex_7cf53, Cond.initialized RJ15, Cond.code yJ15_checkIndex_7cf53 cJ15_checkIndex_7cf53 2 (some .int), Cond.methodLink RJ15 105 yJ3_checkIndex_8e157, Cond.static yJ3_checkIndex_8e157]
def wsX4_size_r2 : List Cond := [Cond.initialized RJ3, Cond.code yJ3_checkIndex_8e157 cJ3_checkIndex_8e157 3 (some .int), Cond.methodLink RJx4a65c 123 yJx4a65c_elementData_915e3, Cond.instanceMethod yJx4a65c_elementData_915e3, Cond.selects RJx4a65c yJx4a65c_elementData_915e3 yJx4a65c_elementData_915e3, Cond.code yJx4a65c_elementData_915e3 cJx4a65c_elementData_915e3 2 (some (.object "java/lang/Object")), Cond.fieldLink RJx4a65c 9 "java/util/ArrayList" "elementData" "[Ljava/lang/Object;"]
def wsX4_size : List Cond := .code yX4_size cX4_size 3 (some .int) :: ((wsX4_size_r1 ++ wsX4_size_r2) ++ wsX00 ++ wsX20 ++ wsX40 ++ wsJx4a65c0)
def wsX4_align_r1 : List Cond := [Cond.fieldLink RX4 60 "LayoutDesk$Type" "alignment" "I", Cond.methodLink RX4 35 yX4_typeAt, Cond.instanceMethod yX4_typeAt, Cond.selects RX4 yX4_typeAt yX4_typeAt, Cond.initialized RX4, Cond.code yX4_typeAt cX4_typeAt 2 (some (.object "LayoutDesk$Type")), Cond.fieldLink RX4 10 "LayoutDesk" "known" "Ljava/util/ArrayList;", Cond.classLink RX4 53 "LayoutDesk$Type", Cond.methodLink RX4 128 yJx4a65c_size_8abf5, Cond.instanceMethod yJx4a65c_size_8abf5, Cond.selects RJx4a65c yJx4a65c_size_8abf5 yJx4a65c_size_8abf5, Cond.initialized RJx4a65c, Cond.code yJx4a65c_size_8abf5 cJx4a65c_size_8abf5 1 (some .int), Cond.fieldLink RJx4a65c 48 "java/util/ArrayList" "size" "I", Cond.methodLink RX4 135 yJx4a65c_get_915e3, Cond.instanceMethod yJx4a65c_get_915e3, Cond.selects RJx4a65c yJx4a65c_get_915e3 yJx4a65c_get_915e3, Cond.code yJx4a65c_get_915e3 cJx4a65c_get_915e3 2 (some (.object "java/lang/Object")), Cond.methodLink RJx4a65c 118 yJ15_checkIndex_7cf53, Cond.static yJ15_checkIndex_7cf53, Cond.initialized RJ15, Cond.code yJ15_checkIndex_7cf53 cJ15_checkIndex_7cf53 2 (some .int), Cond.methodLink RJ15 105 yJ3_checkIndex_8e157, Cond.static yJ3_checkIndex_8e157]
def wsX4_align_r2 : List Cond := [Cond.initialized RJ3, Cond.code yJ3_checkIndex_8e157 cJ3_checkIndex_8e157 3 (some .int), Cond.methodLink RJx4a65c 123 yJx4a65c_elementData_915e3, Cond.instanceMethod yJx4a65c_elementData_915e3, Cond.selects RJx4a65c yJx4a65c_elementData_915e3 yJx4a65c_elementData_915e3, Cond.code yJx4a65c_elementData_915e3 cJx4a65c_elementData_915e3 2 (some (.object "java/lang/Object")), Cond.fieldLink RJx4a65c 9 "java/util/ArrayList" "elementData" "[Ljava/lang/Object;"]
def wsX4_align : List Cond := .code yX4_align cX4_align 3 (some .int) :: ((wsX4_align_r1 ++ wsX4_align_r2) ++ wsX00 ++ wsX20 ++ wsX40 ++ wsJx4a65c0)
def wsX4_members_r1 : List Cond := [Cond.methodLink RX4 132 yX4_recordAt, Cond.instanceMethod yX4_recordAt, Cond.selects RX4 yX4_recordAt yX4_recordAt, Cond.initialized RX4, Cond.code yX4_recordAt cX4_recordAt 4 (some (.object "LayoutDesk$Compound")), Cond.classLink RX4 63 "LayoutDesk$Compound", Cond.methodLink RX4 35 yX4_typeAt, Cond.instanceMethod yX4_typeAt, Cond.selects RX4 yX4_typeAt yX4_typeAt, Cond.code yX4_typeAt cX4_typeAt 2 (some (.object "LayoutDesk$Type")), Cond.fieldLink RX4 10 "LayoutDesk" "known" "Ljava/util/ArrayList;", Cond.classLink RX4 53 "LayoutDesk$Type", Cond.methodLink RX4 128 yJx4a65c_size_8abf5, Cond.instanceMethod yJx4a65c_size_8abf5, Cond.selects RJx4a65c yJx4a65c_size_8abf5 yJx4a65c_size_8abf5, Cond.initialized RJx4a65c, Cond.code yJx4a65c_size_8abf5 cJx4a65c_size_8abf5 1 (some .int), Cond.fieldLink RJx4a65c 48 "java/util/ArrayList" "size" "I", Cond.methodLink RX4 135 yJx4a65c_get_915e3, Cond.instanceMethod yJx4a65c_get_915e3, Cond.selects RJx4a65c yJx4a65c_get_915e3 yJx4a65c_get_915e3, Cond.code yJx4a65c_get_915e3 cJx4a65c_get_915e3 2 (some (.object "java/lang/Object")), Cond.methodLink RJx4a65c 118 yJ15_checkIndex_7cf53, Cond.static yJ15_checkIndex_7cf53]
def wsX4_members_r2 : List Cond := [Cond.initialized RJ15, Cond.code yJ15_checkIndex_7cf53 cJ15_checkIndex_7cf53 2 (some .int), Cond.methodLink RJ15 105 yJ3_checkIndex_8e157, Cond.static yJ3_checkIndex_8e157, Cond.initialized RJ3, Cond.code yJ3_checkIndex_8e157 cJ3_checkIndex_8e157 3 (some .int), Cond.methodLink RJx4a65c 123 yJx4a65c_elementData_915e3, Cond.instanceMethod yJx4a65c_elementData_915e3, Cond.selects RJx4a65c yJx4a65c_elementData_915e3 yJx4a65c_elementData_915e3, Cond.code yJx4a65c_elementData_915e3 cJx4a65c_elementData_915e3 2 (some (.object "java/lang/Object")), Cond.fieldLink RJx4a65c 9 "java/util/ArrayList" "elementData" "[Ljava/lang/Object;"]
def wsX4_members : List Cond := .code yX4_members cX4_members 3 (some .int) :: ((wsX4_members_r1 ++ wsX4_members_r2) ++ wsX00 ++ wsX40 ++ wsJx4a65c0)
def wsX4_member_r1 : List Cond := [Cond.classLink RX4 86 "LayoutDesk$Member", Cond.methodLink RX4 132 yX4_recordAt, Cond.instanceMethod yX4_recordAt, Cond.selects RX4 yX4_recordAt yX4_recordAt, Cond.initialized RX4, Cond.code yX4_recordAt cX4_recordAt 4 (some (.object "LayoutDesk$Compound")), Cond.classLink RX4 63 "LayoutDesk$Compound", Cond.methodLink RX4 35 yX4_typeAt, Cond.instanceMethod yX4_typeAt, Cond.selects RX4 yX4_typeAt yX4_typeAt, Cond.code yX4_typeAt cX4_typeAt 2 (some (.object "LayoutDesk$Type")), Cond.fieldLink RX4 10 "LayoutDesk" "known" "Ljava/util/ArrayList;", Cond.classLink RX4 53 "LayoutDesk$Type", Cond.methodLink RX4 128 yJx4a65c_size_8abf5, Cond.instanceMethod yJx4a65c_size_8abf5, Cond.selects RJx4a65c yJx4a65c_size_8abf5 yJx4a65c_size_8abf5, Cond.initialized RJx4a65c, Cond.code yJx4a65c_size_8abf5 cJx4a65c_size_8abf5 1 (some .int), Cond.fieldLink RJx4a65c 48 "java/util/ArrayList" "size" "I", Cond.methodLink RX4 135 yJx4a65c_get_915e3, Cond.instanceMethod yJx4a65c_get_915e3, Cond.selects RJx4a65c yJx4a65c_get_915e3 yJx4a65c_get_915e3, Cond.code yJx4a65c_get_915e3 cJx4a65c_get_915e3 2 (some (.object "java/lang/Object")), Cond.methodLink RJx4a65c 118 yJ15_checkIndex_7cf53]
def wsX4_member_r2 : List Cond := [Cond.static yJ15_checkIndex_7cf53, Cond.initialized RJ15, Cond.code yJ15_checkIndex_7cf53 cJ15_checkIndex_7cf53 2 (some .int), Cond.methodLink RJ15 105 yJ3_checkIndex_8e157, Cond.static yJ3_checkIndex_8e157, Cond.initialized RJ3, Cond.code yJ3_checkIndex_8e157 cJ3_checkIndex_8e157 3 (some .int), Cond.methodLink RJx4a65c 123 yJx4a65c_elementData_915e3, Cond.instanceMethod yJx4a65c_elementData_915e3, Cond.selects RJx4a65c yJx4a65c_elementData_915e3 yJx4a65c_elementData_915e3, Cond.code yJx4a65c_elementData_915e3 cJx4a65c_elementData_915e3 2 (some (.object "java/lang/Object")), Cond.fieldLink RJx4a65c 9 "java/util/ArrayList" "elementData" "[Ljava/lang/Object;"]
def wsX4_member : List Cond := .code yX4_member cX4_member 6 (some .int) :: ((wsX4_member_r1 ++ wsX4_member_r2) ++ wsX00 ++ wsX10 ++ wsX40 ++ wsJx4a65c0)
def wsX5_init : List Cond := .code yX5_init cX5_init 4 none :: ([.methodLink RX5 1 objectInit, .instanceMethod objectInit, .code objectInit ⟨#[0xb1]⟩ 1 none, .fieldLink RX5 7 "LayoutDeskModel$Added" "type" "I", .fieldLink RX5 13 "LayoutDeskModel$Added" "width" "I", .fieldLink RX5 16 "LayoutDeskModel$Added" "member" "Z"] ++ wsX50)
def wsX6_init_r1 : List Cond := [Cond.methodLink RX6 1 objectInit, Cond.instanceMethod objectInit, Cond.code objectInit ⟨#[0xb1]⟩ 1 none, Cond.classLink RX6 7 RJx4a65c, Cond.instantiable RJx4a65c 3, Cond.initialized RJx4a65c, Cond.fieldLink RX6 10 "LayoutDeskModel$Type" "added" "Ljava/util/ArrayList;", Cond.fieldLink RX6 16 "LayoutDeskModel$Type" "kind" "I", Cond.fieldLink RX6 20 "LayoutDeskModel$Type" "to" "I", Cond.fieldLink RX6 23 "LayoutDeskModel$Type" "length" "I", Cond.fieldLink RX6 26 "LayoutDeskModel$Type" "size" "I", Cond.methodLink RX6 29 Lib.Math.min.name, Cond.static Lib.Math.min.name, Cond.initialized "java/lang/Math", Cond.code Lib.Math.min.name Lib.Math.min.code 2 (some .int), Cond.fieldLink RX6 35 "LayoutDeskModel$Type" "align" "I", Cond.methodLink RX6 9 yJx4a65c_init_da8c8, Cond.instanceMethod yJx4a65c_init_da8c8, Cond.code yJx4a65c_init_da8c8 cJx4a65c_init_da8c8 1 none, Cond.fieldLink RJx4a65c 39 "java/util/ArrayList" "DEFAULTCAPACITY_EMPTY_ELEMENTDATA" "[Ljava/lang/Object;", Cond.fieldLink RJx4a65c 9 "java/util/ArrayList" "elementData" "[Ljava/lang/Object;", Cond.methodLink RJx4a65c 1 yJxc12de_init_da8c8, Cond.instanceMethod yJxc12de_init_da8c8, Cond.initialized RJxc12de]
def wsX6_init_r2 : List Cond := [Cond.code yJxc12de_init_da8c8 cJxc12de_init_da8c8 1 none, Cond.fieldLink RJxc12de 7 "java/util/AbstractList" "modCount" "I", Cond.methodLink RJxc12de 1 yJxa1e45_init_da8c8, Cond.instanceMethod yJxa1e45_init_da8c8, Cond.initialized RJxa1e45, Cond.code yJxa1e45_init_da8c8 cJxa1e45_init_da8c8 1 none, Cond.methodLink RJxa1e45 1 objectInit]
def wsX6_init : List Cond := .code yX6_init cX6_init 5 none :: ((wsX6_init_r1 ++ wsX6_init_r2) ++ wsJx4a65c0 ++ wsX60)
def wsX6_record : List Cond := .code yX6_record cX6_record 1 (some .boolean) :: ([.fieldLink RX6 16 "LayoutDeskModel$Type" "kind" "I"] ++ wsX60)
def wsX7_init_r1 : List Cond := [Cond.methodLink RX7 1 objectInit, Cond.instanceMethod objectInit, Cond.code objectInit ⟨#[0xb1]⟩ 1 none, Cond.classLink RX7 7 RJx4a65c, Cond.instantiable RJx4a65c 3, Cond.initialized RJx4a65c, Cond.fieldLink RX7 10 "LayoutDeskModel" "types" "Ljava/util/ArrayList;", Cond.arrayClass .int, Cond.fieldLink RX7 16 "LayoutDeskModel" "places" "[I", Cond.fieldLink RX7 20 "LayoutDeskModel" "kinds" "[I", Cond.fieldLink RX7 23 "LayoutDeskModel" "lows" "[I", Cond.fieldLink RX7 26 "LayoutDeskModel" "widths" "[I", Cond.classLink RX7 29 RX6, Cond.instantiable RX6 7, Cond.initialized RX6, Cond.methodLink RX7 9 yJx4a65c_init_da8c8, Cond.instanceMethod yJx4a65c_init_da8c8, Cond.code yJx4a65c_init_da8c8 cJx4a65c_init_da8c8 1 none, Cond.fieldLink RJx4a65c 39 "java/util/ArrayList" "DEFAULTCAPACITY_EMPTY_ELEMENTDATA" "[Ljava/lang/Object;", Cond.fieldLink RJx4a65c 9 "java/util/ArrayList" "elementData" "[Ljava/lang/Object;", Cond.methodLink RJx4a65c 1 yJxc12de_init_da8c8, Cond.instanceMethod yJxc12de_init_da8c8, Cond.initialized RJxc12de, Cond.code yJxc12de_init_da8c8 cJxc12de_init_da8c8 1 none]
def wsX7_init_r2 : List Cond := [Cond.fieldLink RJxc12de 7 "java/util/AbstractList" "modCount" "I", Cond.methodLink RJxc12de 1 yJxa1e45_init_da8c8, Cond.instanceMethod yJxa1e45_init_da8c8, Cond.initialized RJxa1e45, Cond.code yJxa1e45_init_da8c8 cJxa1e45_init_da8c8 1 none, Cond.methodLink RJxa1e45 1 objectInit, Cond.methodLink RX7 31 yX6_init, Cond.instanceMethod yX6_init, Cond.code yX6_init cX6_init 5 none, Cond.methodLink RX6 1 objectInit, Cond.classLink RX6 7 RJx4a65c, Cond.fieldLink RX6 10 "LayoutDeskModel$Type" "added" "Ljava/util/ArrayList;", Cond.fieldLink RX6 16 "LayoutDeskModel$Type" "kind" "I", Cond.fieldLink RX6 20 "LayoutDeskModel$Type" "to" "I", Cond.fieldLink RX6 23 "LayoutDeskModel$Type" "length" "I", Cond.fieldLink RX6 26 "LayoutDeskModel$Type" "size" "I", Cond.methodLink RX6 29 Lib.Math.min.name, Cond.static Lib.Math.min.name, Cond.initialized "java/lang/Math", Cond.code Lib.Math.min.name Lib.Math.min.code 2 (some .int), Cond.fieldLink RX6 35 "LayoutDeskModel$Type" "align" "I", Cond.methodLink RX6 9 yJx4a65c_init_da8c8, Cond.methodLink RX7 34 yJx4a65c_add_9ea2d, Cond.instanceMethod yJx4a65c_add_9ea2d]
def wsX7_init_r3 : List Cond := [Cond.selects RJx4a65c yJx4a65c_add_9ea2d yJx4a65c_add_9ea2d, Cond.code yJx4a65c_add_9ea2d cJx4a65c_add_9ea2d 2 (some .boolean), Cond.fieldLink RJx4a65c 63 "java/util/ArrayList" "modCount" "I", Cond.sameField "java/util/ArrayList" "java/util/AbstractList" "modCount" "I", Cond.fieldLink RJx4a65c 48 "java/util/ArrayList" "size" "I", Cond.methodLink RJx4a65c 131 yJx4a65c_add_72be8, Cond.instanceMethod yJx4a65c_add_72be8, Cond.selects RJx4a65c yJx4a65c_add_72be8 yJx4a65c_add_72be8, Cond.code yJx4a65c_add_72be8 cJx4a65c_add_72be8 4 none, Cond.methodLink RJx4a65c 129 yJx4a65c_grow_d5877, Cond.instanceMethod yJx4a65c_grow_d5877, Cond.selects RJx4a65c yJx4a65c_grow_d5877 yJx4a65c_grow_d5877, Cond.code yJx4a65c_grow_d5877 cJx4a65c_grow_d5877 1 (some (.array (.object "java/lang/Object"))), Cond.methodLink RJx4a65c 69 yJx4a65c_grow_92f84, Cond.instanceMethod yJx4a65c_grow_92f84, Cond.selects RJx4a65c yJx4a65c_grow_92f84 yJx4a65c_grow_92f84, Cond.code yJx4a65c_grow_92f84 cJx4a65c_grow_92f84 4 (some (.array (.object "java/lang/Object"))), Cond.methodLink RJx4a65c 79 Lib.Math.max.name, Cond.static Lib.Math.max.name, Cond.code Lib.Math.max.name Lib.Math.max.code 2 (some .int), Cond.classLink RJx4a65c 7 "java/lang/Object", Cond.methodLink RJx4a65c 73 yJ8_newLength_cabcc, Cond.static yJ8_newLength_cabcc, Cond.initialized RJ8]
def wsX7_init_r4 : List Cond := [Cond.code yJ8_newLength_cabcc cJ8_newLength_cabcc 4 (some .int), Cond.methodLink RJ8 194 Lib.Math.max.name, Cond.constant RJ8 200 (2147483639), Cond.methodLink RJ8 201 yJ8_hugeLength_7cf53, Cond.static yJ8_hugeLength_7cf53, Cond.code yJ8_hugeLength_7cf53 cJ8_hugeLength_7cf53 3 (some .int), Cond.methodLink RJx4a65c 66 yJ7_copyOf_1904c, Cond.static yJ7_copyOf_1904c, Cond.initialized RJ7, Cond.code yJ7_copyOf_1904c cJ7_copyOf_1904c 2 (some (.array (.object "java/lang/Object"))), Cond.methodLink RJ7 86 ⟨"java/lang/Object", "getClass", "()Ljava/lang/Class;"⟩, Cond.selects "[Ljava/lang/Object;" ⟨"java/lang/Object", "getClass", "()Ljava/lang/Class;"⟩ ⟨"java/lang/Object", "getClass", "()Ljava/lang/Class;"⟩, Cond.instanceMethod ⟨"java/lang/Object", "getClass", "()Ljava/lang/Class;"⟩, Cond.native ⟨"java/lang/Object", "getClass", "()Ljava/lang/Class;"⟩, Cond.methodLink RJ7 300 yJ7_copyOf_6403c, Cond.static yJ7_copyOf_6403c, Cond.code yJ7_copyOf_6403c cJ7_copyOf_6403c 4 (some (.array (.object "java/lang/Object"))), Cond.classLink RJ7 110 "[Ljava/lang/Object;", Cond.classLink RJ7 2 "java/lang/Object", Cond.methodLink RJ7 304 Lib.Math.min.name, Cond.methodLink RJ7 150 arraycopyName, Cond.native arraycopyName, Cond.static arraycopyName, Cond.initialized "java/lang/System"]
def wsX7_init : List Cond := .code yX7_init cX7_init 3 none :: ((wsX7_init_r1 ++ (wsX7_init_r2 ++ (wsX7_init_r3 ++ wsX7_init_r4))) ++ wsJx4a65c0 ++ wsX70 ++ wsX60)
def wsX7_there : List Cond := .code yX7_there cX7_there 2 (some .boolean) :: ([.fieldLink RX7 10 "LayoutDeskModel" "types" "Ljava/util/ArrayList;", .methodLink RX7 38 yJx4a65c_size_8abf5, .instanceMethod yJx4a65c_size_8abf5, .selects RJx4a65c yJx4a65c_size_8abf5 yJx4a65c_size_8abf5, .initialized RJx4a65c, .code yJx4a65c_size_8abf5 cJx4a65c_size_8abf5 1 (some .int), .fieldLink RJx4a65c 48 "java/util/ArrayList" "size" "I"] ++ wsX70 ++ wsJx4a65c0)
def wsX7_open_r1 : List Cond := [Cond.fieldLink RX7 10 "LayoutDeskModel" "types" "Ljava/util/ArrayList;", Cond.classLink RX7 29 "LayoutDeskModel$Type", Cond.fieldLink RX7 54 "LayoutDeskModel$Type" "finished" "Z", Cond.methodLink RX7 42 yX7_there, Cond.instanceMethod yX7_there, Cond.selects RX7 yX7_there yX7_there, Cond.initialized RX7, Cond.code yX7_there cX7_there 2 (some .boolean), Cond.methodLink RX7 38 yJx4a65c_size_8abf5, Cond.instanceMethod yJx4a65c_size_8abf5, Cond.selects RJx4a65c yJx4a65c_size_8abf5 yJx4a65c_size_8abf5, Cond.initialized RJx4a65c, Cond.code yJx4a65c_size_8abf5 cJx4a65c_size_8abf5 1 (some .int), Cond.fieldLink RJx4a65c 48 "java/util/ArrayList" "size" "I", Cond.methodLink RX7 46 yJx4a65c_get_915e3, Cond.instanceMethod yJx4a65c_get_915e3, Cond.selects RJx4a65c yJx4a65c_get_915e3 yJx4a65c_get_915e3, Cond.code yJx4a65c_get_915e3 cJx4a65c_get_915e3 2 (some (.object "java/lang/Object")), Cond.methodLink RJx4a65c 118 yJ15_checkIndex_7cf53, Cond.static yJ15_checkIndex_7cf53, Cond.initialized RJ15, Cond.code yJ15_checkIndex_7cf53 cJ15_checkIndex_7cf53 2 (some .int), Cond.methodLink RJ15 105 yJ3_checkIndex_8e157, Cond.static yJ3_checkIndex_8e157]
def wsX7_open_r2 : List Cond := [Cond.initialized RJ3, Cond.code yJ3_checkIndex_8e157 cJ3_checkIndex_8e157 3 (some .int), Cond.methodLink RJx4a65c 123 yJx4a65c_elementData_915e3, Cond.instanceMethod yJx4a65c_elementData_915e3, Cond.selects RJx4a65c yJx4a65c_elementData_915e3 yJx4a65c_elementData_915e3, Cond.code yJx4a65c_elementData_915e3 cJx4a65c_elementData_915e3 2 (some (.object "java/lang/Object")), Cond.fieldLink RJx4a65c 9 "java/util/ArrayList" "elementData" "[Ljava/lang/Object;", Cond.methodLink RX7 50 yX6_record, Cond.instanceMethod yX6_record, Cond.selects RX6 yX6_record yX6_record, Cond.initialized RX6, Cond.code yX6_record cX6_record 1 (some .boolean), Cond.fieldLink RX6 16 "LayoutDeskModel$Type" "kind" "I"]
def wsX7_open : List Cond := .code yX7_open cX7_open 3 (some (.object "LayoutDeskModel$Type")) :: ((wsX7_open_r1 ++ wsX7_open_r2) ++ wsX70 ++ wsX60 ++ wsJx4a65c0)
def wsX7_made_r1 : List Cond := [Cond.fieldLink RX7 10 "LayoutDeskModel" "types" "Ljava/util/ArrayList;", Cond.methodLink RX7 34 yJx4a65c_add_9ea2d, Cond.instanceMethod yJx4a65c_add_9ea2d, Cond.selects RJx4a65c yJx4a65c_add_9ea2d yJx4a65c_add_9ea2d, Cond.initialized RJx4a65c, Cond.code yJx4a65c_add_9ea2d cJx4a65c_add_9ea2d 2 (some .boolean), Cond.fieldLink RJx4a65c 63 "java/util/ArrayList" "modCount" "I", Cond.sameField "java/util/ArrayList" "java/util/AbstractList" "modCount" "I", Cond.fieldLink RJx4a65c 9 "java/util/ArrayList" "elementData" "[Ljava/lang/Object;", Cond.fieldLink RJx4a65c 48 "java/util/ArrayList" "size" "I", Cond.methodLink RJx4a65c 131 yJx4a65c_add_72be8, Cond.instanceMethod yJx4a65c_add_72be8, Cond.selects RJx4a65c yJx4a65c_add_72be8 yJx4a65c_add_72be8, Cond.code yJx4a65c_add_72be8 cJx4a65c_add_72be8 4 none, Cond.methodLink RJx4a65c 129 yJx4a65c_grow_d5877, Cond.instanceMethod yJx4a65c_grow_d5877, Cond.selects RJx4a65c yJx4a65c_grow_d5877 yJx4a65c_grow_d5877, Cond.code yJx4a65c_grow_d5877 cJx4a65c_grow_d5877 1 (some (.array (.object "java/lang/Object"))), Cond.methodLink RJx4a65c 69 yJx4a65c_grow_92f84, Cond.instanceMethod yJx4a65c_grow_92f84, Cond.selects RJx4a65c yJx4a65c_grow_92f84 yJx4a65c_grow_92f84, Cond.code yJx4a65c_grow_92f84 cJx4a65c_grow_92f84 4 (some (.array (.object "java/lang/Object"))), Cond.fieldLink RJx4a65c 39 "java/util/ArrayList" "DEFAULTCAPACITY_EMPTY_ELEMENTDATA" "[Ljava/lang/Object;", Cond.methodLink RJx4a65c 79 Lib.Math.max.name]
def wsX7_made_r2 : List Cond := [Cond.static Lib.Math.max.name, Cond.initialized "java/lang/Math", Cond.code Lib.Math.max.name Lib.Math.max.code 2 (some .int), Cond.classLink RJx4a65c 7 "java/lang/Object", Cond.methodLink RJx4a65c 73 yJ8_newLength_cabcc, Cond.static yJ8_newLength_cabcc, Cond.initialized RJ8, Cond.code yJ8_newLength_cabcc cJ8_newLength_cabcc 4 (some .int), Cond.methodLink RJ8 194 Lib.Math.max.name, Cond.constant RJ8 200 (2147483639), Cond.methodLink RJ8 201 yJ8_hugeLength_7cf53, Cond.static yJ8_hugeLength_7cf53, Cond.code yJ8_hugeLength_7cf53 cJ8_hugeLength_7cf53 3 (some .int), Cond.methodLink RJx4a65c 66 yJ7_copyOf_1904c, Cond.static yJ7_copyOf_1904c, Cond.initialized RJ7, Cond.code yJ7_copyOf_1904c cJ7_copyOf_1904c 2 (some (.array (.object "java/lang/Object"))), Cond.methodLink RJ7 86 ⟨"java/lang/Object", "getClass", "()Ljava/lang/Class;"⟩, Cond.selects "[Ljava/lang/Object;" ⟨"java/lang/Object", "getClass", "()Ljava/lang/Class;"⟩ ⟨"java/lang/Object", "getClass", "()Ljava/lang/Class;"⟩, Cond.instanceMethod ⟨"java/lang/Object", "getClass", "()Ljava/lang/Class;"⟩, Cond.native ⟨"java/lang/Object", "getClass", "()Ljava/lang/Class;"⟩, Cond.methodLink RJ7 300 yJ7_copyOf_6403c, Cond.static yJ7_copyOf_6403c, Cond.code yJ7_copyOf_6403c cJ7_copyOf_6403c 4 (some (.array (.object "java/lang/Object")))]
def wsX7_made_r3 : List Cond := [Cond.classLink RJ7 110 "[Ljava/lang/Object;", Cond.classLink RJ7 2 "java/lang/Object", Cond.methodLink RJ7 304 Lib.Math.min.name, Cond.static Lib.Math.min.name, Cond.code Lib.Math.min.name Lib.Math.min.code 2 (some .int), Cond.methodLink RJ7 150 arraycopyName, Cond.native arraycopyName, Cond.static arraycopyName, Cond.initialized "java/lang/System", Cond.methodLink RX7 38 yJx4a65c_size_8abf5, Cond.instanceMethod yJx4a65c_size_8abf5, Cond.selects RJx4a65c yJx4a65c_size_8abf5 yJx4a65c_size_8abf5, Cond.code yJx4a65c_size_8abf5 cJx4a65c_size_8abf5 1 (some .int)]
def wsX7_made : List Cond := .code yX7_made cX7_made 2 (some .int) :: ((wsX7_made_r1 ++ (wsX7_made_r2 ++ wsX7_made_r3)) ++ wsX70 ++ wsJx4a65c0)
def wsX7_known_r1 : List Cond := [Cond.fieldLink RX7 10 "LayoutDeskModel" "types" "Ljava/util/ArrayList;", Cond.classLink RX7 29 "LayoutDeskModel$Type", Cond.fieldLink RX7 58 "LayoutDeskModel$Type" "kind" "I", Cond.fieldLink RX7 62 "LayoutDeskModel$Type" "to" "I", Cond.fieldLink RX7 65 "LayoutDeskModel$Type" "length" "I", Cond.methodLink RX7 38 yJx4a65c_size_8abf5, Cond.instanceMethod yJx4a65c_size_8abf5, Cond.selects RJx4a65c yJx4a65c_size_8abf5 yJx4a65c_size_8abf5, Cond.initialized RJx4a65c, Cond.code yJx4a65c_size_8abf5 cJx4a65c_size_8abf5 1 (some .int), Cond.fieldLink RJx4a65c 48 "java/util/ArrayList" "size" "I", Cond.methodLink RX7 46 yJx4a65c_get_915e3, Cond.instanceMethod yJx4a65c_get_915e3, Cond.selects RJx4a65c yJx4a65c_get_915e3 yJx4a65c_get_915e3, Cond.code yJx4a65c_get_915e3 cJx4a65c_get_915e3 2 (some (.object "java/lang/Object")), Cond.methodLink RJx4a65c 118 yJ15_checkIndex_7cf53, Cond.static yJ15_checkIndex_7cf53, Cond.initialized RJ15, Cond.code yJ15_checkIndex_7cf53 cJ15_checkIndex_7cf53 2 (some .int), Cond.methodLink RJ15 105 yJ3_checkIndex_8e157, Cond.static yJ3_checkIndex_8e157, Cond.initialized RJ3, Cond.code yJ3_checkIndex_8e157 cJ3_checkIndex_8e157 3 (some .int), Cond.methodLink RJx4a65c 123 yJx4a65c_elementData_915e3]
def wsX7_known_r2 : List Cond := [Cond.instanceMethod yJx4a65c_elementData_915e3, Cond.selects RJx4a65c yJx4a65c_elementData_915e3 yJx4a65c_elementData_915e3, Cond.code yJx4a65c_elementData_915e3 cJx4a65c_elementData_915e3 2 (some (.object "java/lang/Object")), Cond.fieldLink RJx4a65c 9 "java/util/ArrayList" "elementData" "[Ljava/lang/Object;"]
def wsX7_known : List Cond := .code yX7_known cX7_known 6 (some .int) :: ((wsX7_known_r1 ++ wsX7_known_r2) ++ wsX70 ++ wsX60 ++ wsJx4a65c0)
def wsX7_pointer_r1 : List Cond := [Cond.fieldLink RX7 10 "LayoutDeskModel" "types" "Ljava/util/ArrayList;", Cond.classLink RX7 29 RX6, Cond.instantiable RX6 7, Cond.initialized RX6, Cond.methodLink RX7 42 yX7_there, Cond.instanceMethod yX7_there, Cond.selects RX7 yX7_there yX7_there, Cond.initialized RX7, Cond.code yX7_there cX7_there 2 (some .boolean), Cond.methodLink RX7 38 yJx4a65c_size_8abf5, Cond.instanceMethod yJx4a65c_size_8abf5, Cond.selects RJx4a65c yJx4a65c_size_8abf5 yJx4a65c_size_8abf5, Cond.initialized RJx4a65c, Cond.code yJx4a65c_size_8abf5 cJx4a65c_size_8abf5 1 (some .int), Cond.fieldLink RJx4a65c 48 "java/util/ArrayList" "size" "I", Cond.methodLink RX7 68 yX7_known, Cond.instanceMethod yX7_known, Cond.selects RX7 yX7_known yX7_known, Cond.code yX7_known cX7_known 6 (some .int), Cond.classLink RX7 29 "LayoutDeskModel$Type", Cond.fieldLink RX7 58 "LayoutDeskModel$Type" "kind" "I", Cond.fieldLink RX7 62 "LayoutDeskModel$Type" "to" "I", Cond.fieldLink RX7 65 "LayoutDeskModel$Type" "length" "I", Cond.methodLink RX7 46 yJx4a65c_get_915e3]
def wsX7_pointer_r2 : List Cond := [Cond.instanceMethod yJx4a65c_get_915e3, Cond.selects RJx4a65c yJx4a65c_get_915e3 yJx4a65c_get_915e3, Cond.code yJx4a65c_get_915e3 cJx4a65c_get_915e3 2 (some (.object "java/lang/Object")), Cond.methodLink RJx4a65c 118 yJ15_checkIndex_7cf53, Cond.static yJ15_checkIndex_7cf53, Cond.initialized RJ15, Cond.code yJ15_checkIndex_7cf53 cJ15_checkIndex_7cf53 2 (some .int), Cond.methodLink RJ15 105 yJ3_checkIndex_8e157, Cond.static yJ3_checkIndex_8e157, Cond.initialized RJ3, Cond.code yJ3_checkIndex_8e157 cJ3_checkIndex_8e157 3 (some .int), Cond.methodLink RJx4a65c 123 yJx4a65c_elementData_915e3, Cond.instanceMethod yJx4a65c_elementData_915e3, Cond.selects RJx4a65c yJx4a65c_elementData_915e3 yJx4a65c_elementData_915e3, Cond.code yJx4a65c_elementData_915e3 cJx4a65c_elementData_915e3 2 (some (.object "java/lang/Object")), Cond.fieldLink RJx4a65c 9 "java/util/ArrayList" "elementData" "[Ljava/lang/Object;", Cond.methodLink RX7 31 yX6_init, Cond.instanceMethod yX6_init, Cond.code yX6_init cX6_init 5 none, Cond.methodLink RX6 1 objectInit, Cond.instanceMethod objectInit, Cond.code objectInit ⟨#[0xb1]⟩ 1 none, Cond.classLink RX6 7 RJx4a65c, Cond.instantiable RJx4a65c 3]
def wsX7_pointer_r3 : List Cond := [Cond.fieldLink RX6 10 "LayoutDeskModel$Type" "added" "Ljava/util/ArrayList;", Cond.fieldLink RX6 16 "LayoutDeskModel$Type" "kind" "I", Cond.fieldLink RX6 20 "LayoutDeskModel$Type" "to" "I", Cond.fieldLink RX6 23 "LayoutDeskModel$Type" "length" "I", Cond.fieldLink RX6 26 "LayoutDeskModel$Type" "size" "I", Cond.methodLink RX6 29 Lib.Math.min.name, Cond.static Lib.Math.min.name, Cond.initialized "java/lang/Math", Cond.code Lib.Math.min.name Lib.Math.min.code 2 (some .int), Cond.fieldLink RX6 35 "LayoutDeskModel$Type" "align" "I", Cond.methodLink RX6 9 yJx4a65c_init_da8c8, Cond.instanceMethod yJx4a65c_init_da8c8, Cond.code yJx4a65c_init_da8c8 cJx4a65c_init_da8c8 1 none, Cond.fieldLink RJx4a65c 39 "java/util/ArrayList" "DEFAULTCAPACITY_EMPTY_ELEMENTDATA" "[Ljava/lang/Object;", Cond.methodLink RJx4a65c 1 yJxc12de_init_da8c8, Cond.instanceMethod yJxc12de_init_da8c8, Cond.initialized RJxc12de, Cond.code yJxc12de_init_da8c8 cJxc12de_init_da8c8 1 none, Cond.fieldLink RJxc12de 7 "java/util/AbstractList" "modCount" "I", Cond.methodLink RJxc12de 1 yJxa1e45_init_da8c8, Cond.instanceMethod yJxa1e45_init_da8c8, Cond.initialized RJxa1e45, Cond.code yJxa1e45_init_da8c8 cJxa1e45_init_da8c8 1 none, Cond.methodLink RJxa1e45 1 objectInit]
def wsX7_pointer_r4 : List Cond := [Cond.methodLink RX7 72 yX7_made, Cond.instanceMethod yX7_made, Cond.selects RX7 yX7_made yX7_made, Cond.code yX7_made cX7_made 2 (some .int), Cond.methodLink RX7 34 yJx4a65c_add_9ea2d, Cond.instanceMethod yJx4a65c_add_9ea2d, Cond.selects RJx4a65c yJx4a65c_add_9ea2d yJx4a65c_add_9ea2d, Cond.code yJx4a65c_add_9ea2d cJx4a65c_add_9ea2d 2 (some .boolean), Cond.fieldLink RJx4a65c 63 "java/util/ArrayList" "modCount" "I", Cond.sameField "java/util/ArrayList" "java/util/AbstractList" "modCount" "I", Cond.methodLink RJx4a65c 131 yJx4a65c_add_72be8, Cond.instanceMethod yJx4a65c_add_72be8, Cond.selects RJx4a65c yJx4a65c_add_72be8 yJx4a65c_add_72be8, Cond.code yJx4a65c_add_72be8 cJx4a65c_add_72be8 4 none, Cond.methodLink RJx4a65c 129 yJx4a65c_grow_d5877, Cond.instanceMethod yJx4a65c_grow_d5877, Cond.selects RJx4a65c yJx4a65c_grow_d5877 yJx4a65c_grow_d5877, Cond.code yJx4a65c_grow_d5877 cJx4a65c_grow_d5877 1 (some (.array (.object "java/lang/Object"))), Cond.methodLink RJx4a65c 69 yJx4a65c_grow_92f84, Cond.instanceMethod yJx4a65c_grow_92f84, Cond.selects RJx4a65c yJx4a65c_grow_92f84 yJx4a65c_grow_92f84, Cond.code yJx4a65c_grow_92f84 cJx4a65c_grow_92f84 4 (some (.array (.object "java/lang/Object"))), Cond.methodLink RJx4a65c 79 Lib.Math.max.name, Cond.static Lib.Math.max.name]
def wsX7_pointer_r5 : List Cond := [Cond.code Lib.Math.max.name Lib.Math.max.code 2 (some .int), Cond.classLink RJx4a65c 7 "java/lang/Object", Cond.methodLink RJx4a65c 73 yJ8_newLength_cabcc, Cond.static yJ8_newLength_cabcc, Cond.initialized RJ8, Cond.code yJ8_newLength_cabcc cJ8_newLength_cabcc 4 (some .int), Cond.methodLink RJ8 194 Lib.Math.max.name, Cond.constant RJ8 200 (2147483639), Cond.methodLink RJ8 201 yJ8_hugeLength_7cf53, Cond.static yJ8_hugeLength_7cf53, Cond.code yJ8_hugeLength_7cf53 cJ8_hugeLength_7cf53 3 (some .int), Cond.methodLink RJx4a65c 66 yJ7_copyOf_1904c, Cond.static yJ7_copyOf_1904c, Cond.initialized RJ7, Cond.code yJ7_copyOf_1904c cJ7_copyOf_1904c 2 (some (.array (.object "java/lang/Object"))), Cond.methodLink RJ7 86 ⟨"java/lang/Object", "getClass", "()Ljava/lang/Class;"⟩, Cond.selects "[Ljava/lang/Object;" ⟨"java/lang/Object", "getClass", "()Ljava/lang/Class;"⟩ ⟨"java/lang/Object", "getClass", "()Ljava/lang/Class;"⟩, Cond.instanceMethod ⟨"java/lang/Object", "getClass", "()Ljava/lang/Class;"⟩, Cond.native ⟨"java/lang/Object", "getClass", "()Ljava/lang/Class;"⟩, Cond.methodLink RJ7 300 yJ7_copyOf_6403c, Cond.static yJ7_copyOf_6403c, Cond.code yJ7_copyOf_6403c cJ7_copyOf_6403c 4 (some (.array (.object "java/lang/Object"))), Cond.classLink RJ7 110 "[Ljava/lang/Object;", Cond.classLink RJ7 2 "java/lang/Object"]
def wsX7_pointer_r6 : List Cond := [Cond.methodLink RJ7 304 Lib.Math.min.name, Cond.methodLink RJ7 150 arraycopyName, Cond.native arraycopyName, Cond.static arraycopyName, Cond.initialized "java/lang/System"]
def wsX7_pointer : List Cond := .code yX7_pointer cX7_pointer 3 (some .int) :: ((wsX7_pointer_r1 ++ (wsX7_pointer_r2 ++ (wsX7_pointer_r3 ++ (wsX7_pointer_r4 ++ (wsX7_pointer_r5 ++ wsX7_pointer_r6))))) ++ wsX70 ++ wsX60 ++ wsJx4a65c0)
def wsX7_sized_r1 : List Cond := [Cond.fieldLink RX7 10 "LayoutDeskModel" "types" "Ljava/util/ArrayList;", Cond.classLink RX7 29 "LayoutDeskModel$Type", Cond.fieldLink RX7 54 "LayoutDeskModel$Type" "finished" "Z", Cond.methodLink RX7 46 yJx4a65c_get_915e3, Cond.instanceMethod yJx4a65c_get_915e3, Cond.selects RJx4a65c yJx4a65c_get_915e3 yJx4a65c_get_915e3, Cond.initialized RJx4a65c, Cond.code yJx4a65c_get_915e3 cJx4a65c_get_915e3 2 (some (.object "java/lang/Object")), Cond.fieldLink RJx4a65c 48 "java/util/ArrayList" "size" "I", Cond.methodLink RJx4a65c 118 yJ15_checkIndex_7cf53, Cond.static yJ15_checkIndex_7cf53, Cond.initialized RJ15, Cond.code yJ15_checkIndex_7cf53 cJ15_checkIndex_7cf53 2 (some .int), Cond.methodLink RJ15 105 yJ3_checkIndex_8e157, Cond.static yJ3_checkIndex_8e157, Cond.initialized RJ3, Cond.code yJ3_checkIndex_8e157 cJ3_checkIndex_8e157 3 (some .int), Cond.methodLink RJx4a65c 123 yJx4a65c_elementData_915e3, Cond.instanceMethod yJx4a65c_elementData_915e3, Cond.selects RJx4a65c yJx4a65c_elementData_915e3 yJx4a65c_elementData_915e3, Cond.code yJx4a65c_elementData_915e3 cJx4a65c_elementData_915e3 2 (some (.object "java/lang/Object")), Cond.fieldLink RJx4a65c 9 "java/util/ArrayList" "elementData" "[Ljava/lang/Object;", Cond.methodLink RX7 50 yX6_record, Cond.instanceMethod yX6_record]
def wsX7_sized_r2 : List Cond := [Cond.selects RX6 yX6_record yX6_record, Cond.initialized RX6, Cond.code yX6_record cX6_record 1 (some .boolean), Cond.fieldLink RX6 16 "LayoutDeskModel$Type" "kind" "I"]
def wsX7_sized : List Cond := .code yX7_sized cX7_sized 2 (some .boolean) :: ((wsX7_sized_r1 ++ wsX7_sized_r2) ++ wsX70 ++ wsX60 ++ wsJx4a65c0)
def wsX7_size_r1 : List Cond := [Cond.fieldLink RX7 10 "LayoutDeskModel" "types" "Ljava/util/ArrayList;", Cond.classLink RX7 29 "LayoutDeskModel$Type", Cond.fieldLink RX7 113 "LayoutDeskModel$Type" "size" "I", Cond.methodLink RX7 42 yX7_there, Cond.instanceMethod yX7_there, Cond.selects RX7 yX7_there yX7_there, Cond.initialized RX7, Cond.code yX7_there cX7_there 2 (some .boolean), Cond.methodLink RX7 38 yJx4a65c_size_8abf5, Cond.instanceMethod yJx4a65c_size_8abf5, Cond.selects RJx4a65c yJx4a65c_size_8abf5 yJx4a65c_size_8abf5, Cond.initialized RJx4a65c, Cond.code yJx4a65c_size_8abf5 cJx4a65c_size_8abf5 1 (some .int), Cond.fieldLink RJx4a65c 48 "java/util/ArrayList" "size" "I", Cond.methodLink RX7 46 yJx4a65c_get_915e3, Cond.instanceMethod yJx4a65c_get_915e3, Cond.selects RJx4a65c yJx4a65c_get_915e3 yJx4a65c_get_915e3, Cond.code yJx4a65c_get_915e3 cJx4a65c_get_915e3 2 (some (.object "java/lang/Object")), Cond.methodLink RJx4a65c 118 yJ15_checkIndex_7cf53, Cond.static yJ15_checkIndex_7cf53, Cond.initialized RJ15, Cond.code yJ15_checkIndex_7cf53 cJ15_checkIndex_7cf53 2 (some .int), Cond.methodLink RJ15 105 yJ3_checkIndex_8e157, Cond.static yJ3_checkIndex_8e157]
def wsX7_size_r2 : List Cond := [Cond.initialized RJ3, Cond.code yJ3_checkIndex_8e157 cJ3_checkIndex_8e157 3 (some .int), Cond.methodLink RJx4a65c 123 yJx4a65c_elementData_915e3, Cond.instanceMethod yJx4a65c_elementData_915e3, Cond.selects RJx4a65c yJx4a65c_elementData_915e3 yJx4a65c_elementData_915e3, Cond.code yJx4a65c_elementData_915e3 cJx4a65c_elementData_915e3 2 (some (.object "java/lang/Object")), Cond.fieldLink RJx4a65c 9 "java/util/ArrayList" "elementData" "[Ljava/lang/Object;"]
def wsX7_size : List Cond := .code yX7_size cX7_size 2 (some .int) :: ((wsX7_size_r1 ++ wsX7_size_r2) ++ wsX70 ++ wsX60 ++ wsJx4a65c0)
def wsX7_array_r1 : List Cond := [Cond.constant RX7 76 (524288), Cond.constantLong RX7 83 (524288), Cond.fieldLink RX7 10 "LayoutDeskModel" "types" "Ljava/util/ArrayList;", Cond.classLink RX7 29 RX6, Cond.instantiable RX6 7, Cond.initialized RX6, Cond.classLink RX7 29 "LayoutDeskModel$Type", Cond.fieldLink RX7 85 "LayoutDeskModel$Type" "align" "I", Cond.methodLink RX7 42 yX7_there, Cond.instanceMethod yX7_there, Cond.selects RX7 yX7_there yX7_there, Cond.initialized RX7, Cond.code yX7_there cX7_there 2 (some .boolean), Cond.methodLink RX7 38 yJx4a65c_size_8abf5, Cond.instanceMethod yJx4a65c_size_8abf5, Cond.selects RJx4a65c yJx4a65c_size_8abf5 yJx4a65c_size_8abf5, Cond.initialized RJx4a65c, Cond.code yJx4a65c_size_8abf5 cJx4a65c_size_8abf5 1 (some .int), Cond.fieldLink RJx4a65c 48 "java/util/ArrayList" "size" "I", Cond.methodLink RX7 77 yX7_sized, Cond.instanceMethod yX7_sized, Cond.selects RX7 yX7_sized yX7_sized, Cond.code yX7_sized cX7_sized 2 (some .boolean), Cond.fieldLink RX7 54 "LayoutDeskModel$Type" "finished" "Z"]
def wsX7_array_r2 : List Cond := [Cond.methodLink RX7 46 yJx4a65c_get_915e3, Cond.instanceMethod yJx4a65c_get_915e3, Cond.selects RJx4a65c yJx4a65c_get_915e3 yJx4a65c_get_915e3, Cond.code yJx4a65c_get_915e3 cJx4a65c_get_915e3 2 (some (.object "java/lang/Object")), Cond.methodLink RJx4a65c 118 yJ15_checkIndex_7cf53, Cond.static yJ15_checkIndex_7cf53, Cond.initialized RJ15, Cond.code yJ15_checkIndex_7cf53 cJ15_checkIndex_7cf53 2 (some .int), Cond.methodLink RJ15 105 yJ3_checkIndex_8e157, Cond.static yJ3_checkIndex_8e157, Cond.initialized RJ3, Cond.code yJ3_checkIndex_8e157 cJ3_checkIndex_8e157 3 (some .int), Cond.methodLink RJx4a65c 123 yJx4a65c_elementData_915e3, Cond.instanceMethod yJx4a65c_elementData_915e3, Cond.selects RJx4a65c yJx4a65c_elementData_915e3 yJx4a65c_elementData_915e3, Cond.code yJx4a65c_elementData_915e3 cJx4a65c_elementData_915e3 2 (some (.object "java/lang/Object")), Cond.fieldLink RJx4a65c 9 "java/util/ArrayList" "elementData" "[Ljava/lang/Object;", Cond.methodLink RX7 50 yX6_record, Cond.instanceMethod yX6_record, Cond.selects RX6 yX6_record yX6_record, Cond.code yX6_record cX6_record 1 (some .boolean), Cond.fieldLink RX6 16 "LayoutDeskModel$Type" "kind" "I", Cond.methodLink RX7 80 yX7_size, Cond.instanceMethod yX7_size]
def wsX7_array_r3 : List Cond := [Cond.selects RX7 yX7_size yX7_size, Cond.code yX7_size cX7_size 2 (some .int), Cond.fieldLink RX7 113 "LayoutDeskModel$Type" "size" "I", Cond.methodLink RX7 68 yX7_known, Cond.instanceMethod yX7_known, Cond.selects RX7 yX7_known yX7_known, Cond.code yX7_known cX7_known 6 (some .int), Cond.fieldLink RX7 58 "LayoutDeskModel$Type" "kind" "I", Cond.fieldLink RX7 62 "LayoutDeskModel$Type" "to" "I", Cond.fieldLink RX7 65 "LayoutDeskModel$Type" "length" "I", Cond.methodLink RX7 31 yX6_init, Cond.instanceMethod yX6_init, Cond.code yX6_init cX6_init 5 none, Cond.methodLink RX6 1 objectInit, Cond.instanceMethod objectInit, Cond.code objectInit ⟨#[0xb1]⟩ 1 none, Cond.classLink RX6 7 RJx4a65c, Cond.instantiable RJx4a65c 3, Cond.fieldLink RX6 10 "LayoutDeskModel$Type" "added" "Ljava/util/ArrayList;", Cond.fieldLink RX6 20 "LayoutDeskModel$Type" "to" "I", Cond.fieldLink RX6 23 "LayoutDeskModel$Type" "length" "I", Cond.fieldLink RX6 26 "LayoutDeskModel$Type" "size" "I", Cond.methodLink RX6 29 Lib.Math.min.name, Cond.static Lib.Math.min.name]
def wsX7_array_r4 : List Cond := [Cond.initialized "java/lang/Math", Cond.code Lib.Math.min.name Lib.Math.min.code 2 (some .int), Cond.fieldLink RX6 35 "LayoutDeskModel$Type" "align" "I", Cond.methodLink RX6 9 yJx4a65c_init_da8c8, Cond.instanceMethod yJx4a65c_init_da8c8, Cond.code yJx4a65c_init_da8c8 cJx4a65c_init_da8c8 1 none, Cond.fieldLink RJx4a65c 39 "java/util/ArrayList" "DEFAULTCAPACITY_EMPTY_ELEMENTDATA" "[Ljava/lang/Object;", Cond.methodLink RJx4a65c 1 yJxc12de_init_da8c8, Cond.instanceMethod yJxc12de_init_da8c8, Cond.initialized RJxc12de, Cond.code yJxc12de_init_da8c8 cJxc12de_init_da8c8 1 none, Cond.fieldLink RJxc12de 7 "java/util/AbstractList" "modCount" "I", Cond.methodLink RJxc12de 1 yJxa1e45_init_da8c8, Cond.instanceMethod yJxa1e45_init_da8c8, Cond.initialized RJxa1e45, Cond.code yJxa1e45_init_da8c8 cJxa1e45_init_da8c8 1 none, Cond.methodLink RJxa1e45 1 objectInit, Cond.methodLink RX7 72 yX7_made, Cond.instanceMethod yX7_made, Cond.selects RX7 yX7_made yX7_made, Cond.code yX7_made cX7_made 2 (some .int), Cond.methodLink RX7 34 yJx4a65c_add_9ea2d, Cond.instanceMethod yJx4a65c_add_9ea2d, Cond.selects RJx4a65c yJx4a65c_add_9ea2d yJx4a65c_add_9ea2d]
def wsX7_array_r5 : List Cond := [Cond.code yJx4a65c_add_9ea2d cJx4a65c_add_9ea2d 2 (some .boolean), Cond.fieldLink RJx4a65c 63 "java/util/ArrayList" "modCount" "I", Cond.sameField "java/util/ArrayList" "java/util/AbstractList" "modCount" "I", Cond.methodLink RJx4a65c 131 yJx4a65c_add_72be8, Cond.instanceMethod yJx4a65c_add_72be8, Cond.selects RJx4a65c yJx4a65c_add_72be8 yJx4a65c_add_72be8, Cond.code yJx4a65c_add_72be8 cJx4a65c_add_72be8 4 none, Cond.methodLink RJx4a65c 129 yJx4a65c_grow_d5877, Cond.instanceMethod yJx4a65c_grow_d5877, Cond.selects RJx4a65c yJx4a65c_grow_d5877 yJx4a65c_grow_d5877, Cond.code yJx4a65c_grow_d5877 cJx4a65c_grow_d5877 1 (some (.array (.object "java/lang/Object"))), Cond.methodLink RJx4a65c 69 yJx4a65c_grow_92f84, Cond.instanceMethod yJx4a65c_grow_92f84, Cond.selects RJx4a65c yJx4a65c_grow_92f84 yJx4a65c_grow_92f84, Cond.code yJx4a65c_grow_92f84 cJx4a65c_grow_92f84 4 (some (.array (.object "java/lang/Object"))), Cond.methodLink RJx4a65c 79 Lib.Math.max.name, Cond.static Lib.Math.max.name, Cond.code Lib.Math.max.name Lib.Math.max.code 2 (some .int), Cond.classLink RJx4a65c 7 "java/lang/Object", Cond.methodLink RJx4a65c 73 yJ8_newLength_cabcc, Cond.static yJ8_newLength_cabcc, Cond.initialized RJ8, Cond.code yJ8_newLength_cabcc cJ8_newLength_cabcc 4 (some .int), Cond.methodLink RJ8 194 Lib.Math.max.name]
def wsX7_array_r6 : List Cond := [Cond.constant RJ8 200 (2147483639), Cond.methodLink RJ8 201 yJ8_hugeLength_7cf53, Cond.static yJ8_hugeLength_7cf53, Cond.code yJ8_hugeLength_7cf53 cJ8_hugeLength_7cf53 3 (some .int), Cond.methodLink RJx4a65c 66 yJ7_copyOf_1904c, Cond.static yJ7_copyOf_1904c, Cond.initialized RJ7, Cond.code yJ7_copyOf_1904c cJ7_copyOf_1904c 2 (some (.array (.object "java/lang/Object"))), Cond.methodLink RJ7 86 ⟨"java/lang/Object", "getClass", "()Ljava/lang/Class;"⟩, Cond.selects "[Ljava/lang/Object;" ⟨"java/lang/Object", "getClass", "()Ljava/lang/Class;"⟩ ⟨"java/lang/Object", "getClass", "()Ljava/lang/Class;"⟩, Cond.instanceMethod ⟨"java/lang/Object", "getClass", "()Ljava/lang/Class;"⟩, Cond.native ⟨"java/lang/Object", "getClass", "()Ljava/lang/Class;"⟩, Cond.methodLink RJ7 300 yJ7_copyOf_6403c, Cond.static yJ7_copyOf_6403c, Cond.code yJ7_copyOf_6403c cJ7_copyOf_6403c 4 (some (.array (.object "java/lang/Object"))), Cond.classLink RJ7 110 "[Ljava/lang/Object;", Cond.classLink RJ7 2 "java/lang/Object", Cond.methodLink RJ7 304 Lib.Math.min.name, Cond.methodLink RJ7 150 arraycopyName, Cond.native arraycopyName, Cond.static arraycopyName, Cond.initialized "java/lang/System"]
def wsX7_array : List Cond := .code yX7_array cX7_array 5 (some .int) :: ((wsX7_array_r1 ++ (wsX7_array_r2 ++ (wsX7_array_r3 ++ (wsX7_array_r4 ++ (wsX7_array_r5 ++ wsX7_array_r6))))) ++ wsX70 ++ wsX60 ++ wsJx4a65c0)
def wsX7_record_r1 : List Cond := [Cond.fieldLink RX7 10 "LayoutDeskModel" "types" "Ljava/util/ArrayList;", Cond.classLink RX7 29 RX6, Cond.instantiable RX6 7, Cond.initialized RX6, Cond.methodLink RX7 38 yJx4a65c_size_8abf5, Cond.instanceMethod yJx4a65c_size_8abf5, Cond.selects RJx4a65c yJx4a65c_size_8abf5 yJx4a65c_size_8abf5, Cond.initialized RJx4a65c, Cond.code yJx4a65c_size_8abf5 cJx4a65c_size_8abf5 1 (some .int), Cond.fieldLink RJx4a65c 48 "java/util/ArrayList" "size" "I", Cond.methodLink RX7 31 yX6_init, Cond.instanceMethod yX6_init, Cond.code yX6_init cX6_init 5 none, Cond.methodLink RX6 1 objectInit, Cond.instanceMethod objectInit, Cond.code objectInit ⟨#[0xb1]⟩ 1 none, Cond.classLink RX6 7 RJx4a65c, Cond.instantiable RJx4a65c 3, Cond.fieldLink RX6 10 "LayoutDeskModel$Type" "added" "Ljava/util/ArrayList;", Cond.fieldLink RX6 16 "LayoutDeskModel$Type" "kind" "I", Cond.fieldLink RX6 20 "LayoutDeskModel$Type" "to" "I", Cond.fieldLink RX6 23 "LayoutDeskModel$Type" "length" "I", Cond.fieldLink RX6 26 "LayoutDeskModel$Type" "size" "I", Cond.methodLink RX6 29 Lib.Math.min.name]
def wsX7_record_r2 : List Cond := [Cond.static Lib.Math.min.name, Cond.initialized "java/lang/Math", Cond.code Lib.Math.min.name Lib.Math.min.code 2 (some .int), Cond.fieldLink RX6 35 "LayoutDeskModel$Type" "align" "I", Cond.methodLink RX6 9 yJx4a65c_init_da8c8, Cond.instanceMethod yJx4a65c_init_da8c8, Cond.code yJx4a65c_init_da8c8 cJx4a65c_init_da8c8 1 none, Cond.fieldLink RJx4a65c 39 "java/util/ArrayList" "DEFAULTCAPACITY_EMPTY_ELEMENTDATA" "[Ljava/lang/Object;", Cond.fieldLink RJx4a65c 9 "java/util/ArrayList" "elementData" "[Ljava/lang/Object;", Cond.methodLink RJx4a65c 1 yJxc12de_init_da8c8, Cond.instanceMethod yJxc12de_init_da8c8, Cond.initialized RJxc12de, Cond.code yJxc12de_init_da8c8 cJxc12de_init_da8c8 1 none, Cond.fieldLink RJxc12de 7 "java/util/AbstractList" "modCount" "I", Cond.methodLink RJxc12de 1 yJxa1e45_init_da8c8, Cond.instanceMethod yJxa1e45_init_da8c8, Cond.initialized RJxa1e45, Cond.code yJxa1e45_init_da8c8 cJxa1e45_init_da8c8 1 none, Cond.methodLink RJxa1e45 1 objectInit, Cond.methodLink RX7 72 yX7_made, Cond.instanceMethod yX7_made, Cond.selects RX7 yX7_made yX7_made, Cond.initialized RX7, Cond.code yX7_made cX7_made 2 (some .int)]
def wsX7_record_r3 : List Cond := [Cond.methodLink RX7 34 yJx4a65c_add_9ea2d, Cond.instanceMethod yJx4a65c_add_9ea2d, Cond.selects RJx4a65c yJx4a65c_add_9ea2d yJx4a65c_add_9ea2d, Cond.code yJx4a65c_add_9ea2d cJx4a65c_add_9ea2d 2 (some .boolean), Cond.fieldLink RJx4a65c 63 "java/util/ArrayList" "modCount" "I", Cond.sameField "java/util/ArrayList" "java/util/AbstractList" "modCount" "I", Cond.methodLink RJx4a65c 131 yJx4a65c_add_72be8, Cond.instanceMethod yJx4a65c_add_72be8, Cond.selects RJx4a65c yJx4a65c_add_72be8 yJx4a65c_add_72be8, Cond.code yJx4a65c_add_72be8 cJx4a65c_add_72be8 4 none, Cond.methodLink RJx4a65c 129 yJx4a65c_grow_d5877, Cond.instanceMethod yJx4a65c_grow_d5877, Cond.selects RJx4a65c yJx4a65c_grow_d5877 yJx4a65c_grow_d5877, Cond.code yJx4a65c_grow_d5877 cJx4a65c_grow_d5877 1 (some (.array (.object "java/lang/Object"))), Cond.methodLink RJx4a65c 69 yJx4a65c_grow_92f84, Cond.instanceMethod yJx4a65c_grow_92f84, Cond.selects RJx4a65c yJx4a65c_grow_92f84 yJx4a65c_grow_92f84, Cond.code yJx4a65c_grow_92f84 cJx4a65c_grow_92f84 4 (some (.array (.object "java/lang/Object"))), Cond.methodLink RJx4a65c 79 Lib.Math.max.name, Cond.static Lib.Math.max.name, Cond.code Lib.Math.max.name Lib.Math.max.code 2 (some .int), Cond.classLink RJx4a65c 7 "java/lang/Object", Cond.methodLink RJx4a65c 73 yJ8_newLength_cabcc, Cond.static yJ8_newLength_cabcc]
def wsX7_record_r4 : List Cond := [Cond.initialized RJ8, Cond.code yJ8_newLength_cabcc cJ8_newLength_cabcc 4 (some .int), Cond.methodLink RJ8 194 Lib.Math.max.name, Cond.constant RJ8 200 (2147483639), Cond.methodLink RJ8 201 yJ8_hugeLength_7cf53, Cond.static yJ8_hugeLength_7cf53, Cond.code yJ8_hugeLength_7cf53 cJ8_hugeLength_7cf53 3 (some .int), Cond.methodLink RJx4a65c 66 yJ7_copyOf_1904c, Cond.static yJ7_copyOf_1904c, Cond.initialized RJ7, Cond.code yJ7_copyOf_1904c cJ7_copyOf_1904c 2 (some (.array (.object "java/lang/Object"))), Cond.methodLink RJ7 86 ⟨"java/lang/Object", "getClass", "()Ljava/lang/Class;"⟩, Cond.selects "[Ljava/lang/Object;" ⟨"java/lang/Object", "getClass", "()Ljava/lang/Class;"⟩ ⟨"java/lang/Object", "getClass", "()Ljava/lang/Class;"⟩, Cond.instanceMethod ⟨"java/lang/Object", "getClass", "()Ljava/lang/Class;"⟩, Cond.native ⟨"java/lang/Object", "getClass", "()Ljava/lang/Class;"⟩, Cond.methodLink RJ7 300 yJ7_copyOf_6403c, Cond.static yJ7_copyOf_6403c, Cond.code yJ7_copyOf_6403c cJ7_copyOf_6403c 4 (some (.array (.object "java/lang/Object"))), Cond.classLink RJ7 110 "[Ljava/lang/Object;", Cond.classLink RJ7 2 "java/lang/Object", Cond.methodLink RJ7 304 Lib.Math.min.name, Cond.methodLink RJ7 150 arraycopyName, Cond.native arraycopyName, Cond.static arraycopyName]
def wsX7_record_r5 : List Cond := [Cond.initialized "java/lang/System"]
def wsX7_record : List Cond := .code yX7_record cX7_record 2 (some .int) :: ((wsX7_record_r1 ++ (wsX7_record_r2 ++ (wsX7_record_r3 ++ (wsX7_record_r4 ++ wsX7_record_r5)))) ++ wsX70 ++ wsX60 ++ wsJx4a65c0)
def wsX7_up : List Cond := .code yX7_up cX7_up 2 (some .int) :: ([])
def wsX7_put : List Cond := .code yX7_put cX7_put 5 none :: ([.fieldLink RX7 16 "LayoutDeskModel" "places" "[I", .fieldLink RX7 88 "LayoutDeskModel" "members" "I", .fieldLink RX7 20 "LayoutDeskModel" "kinds" "[I", .fieldLink RX7 23 "LayoutDeskModel" "lows" "[I", .fieldLink RX7 26 "LayoutDeskModel" "widths" "[I"] ++ wsX70)
def wsX7_lay_r1 : List Cond := [Cond.fieldLink RX7 88 "LayoutDeskModel" "members" "I", Cond.fieldLink RX7 91 "LayoutDeskModel" "reach" "I", Cond.fieldLink RX7 94 "LayoutDeskModel" "align" "I", Cond.fieldLink RX7 95 "LayoutDeskModel$Type" "added" "Ljava/util/ArrayList;", Cond.classLink RX7 98 "LayoutDeskModel$Added", Cond.fieldLink RX7 100 "LayoutDeskModel$Added" "type" "I", Cond.fieldLink RX7 103 "LayoutDeskModel$Added" "width" "I", Cond.fieldLink RX7 10 "LayoutDeskModel" "types" "Ljava/util/ArrayList;", Cond.classLink RX7 29 "LayoutDeskModel$Type", Cond.fieldLink RX7 58 "LayoutDeskModel$Type" "kind" "I", Cond.fieldLink RX7 85 "LayoutDeskModel$Type" "align" "I", Cond.fieldLink RX7 113 "LayoutDeskModel$Type" "size" "I", Cond.methodLink RX7 115 Lib.Math.max.name, Cond.static Lib.Math.max.name, Cond.initialized "java/lang/Math", Cond.code Lib.Math.max.name Lib.Math.max.code 2 (some .int), Cond.fieldLink RX7 120 "LayoutDeskModel$Added" "member" "Z", Cond.methodLink RX7 38 yJx4a65c_size_8abf5, Cond.instanceMethod yJx4a65c_size_8abf5, Cond.selects RJx4a65c yJx4a65c_size_8abf5 yJx4a65c_size_8abf5, Cond.initialized RJx4a65c, Cond.code yJx4a65c_size_8abf5 cJx4a65c_size_8abf5 1 (some .int), Cond.fieldLink RJx4a65c 48 "java/util/ArrayList" "size" "I", Cond.methodLink RX7 46 yJx4a65c_get_915e3]
def wsX7_lay_r2 : List Cond := [Cond.instanceMethod yJx4a65c_get_915e3, Cond.selects RJx4a65c yJx4a65c_get_915e3 yJx4a65c_get_915e3, Cond.code yJx4a65c_get_915e3 cJx4a65c_get_915e3 2 (some (.object "java/lang/Object")), Cond.methodLink RJx4a65c 118 yJ15_checkIndex_7cf53, Cond.static yJ15_checkIndex_7cf53, Cond.initialized RJ15, Cond.code yJ15_checkIndex_7cf53 cJ15_checkIndex_7cf53 2 (some .int), Cond.methodLink RJ15 105 yJ3_checkIndex_8e157, Cond.static yJ3_checkIndex_8e157, Cond.initialized RJ3, Cond.code yJ3_checkIndex_8e157 cJ3_checkIndex_8e157 3 (some .int), Cond.methodLink RJx4a65c 123 yJx4a65c_elementData_915e3, Cond.instanceMethod yJx4a65c_elementData_915e3, Cond.selects RJx4a65c yJx4a65c_elementData_915e3 yJx4a65c_elementData_915e3, Cond.code yJx4a65c_elementData_915e3 cJx4a65c_elementData_915e3 2 (some (.object "java/lang/Object")), Cond.fieldLink RJx4a65c 9 "java/util/ArrayList" "elementData" "[Ljava/lang/Object;", Cond.methodLink RX7 106 yX7_up, Cond.static yX7_up, Cond.initialized RX7, Cond.code yX7_up cX7_up 2 (some .int), Cond.methodLink RX7 110 yX7_put, Cond.instanceMethod yX7_put, Cond.selects RX7 yX7_put yX7_put, Cond.code yX7_put cX7_put 5 none]
def wsX7_lay_r3 : List Cond := [Cond.fieldLink RX7 16 "LayoutDeskModel" "places" "[I", Cond.fieldLink RX7 20 "LayoutDeskModel" "kinds" "[I", Cond.fieldLink RX7 23 "LayoutDeskModel" "lows" "[I", Cond.fieldLink RX7 26 "LayoutDeskModel" "widths" "[I"]
def wsX7_lay : List Cond := .code yX7_lay cX7_lay 9 none :: ((wsX7_lay_r1 ++ (wsX7_lay_r2 ++ wsX7_lay_r3)) ++ wsX70 ++ wsX60 ++ wsX50 ++ wsJx4a65c0)
def wsJx4a65c_fastRemove_b59b0 : List Cond := .code yJx4a65c_fastRemove_b59b0 cJx4a65c_fastRemove_b59b0 4 none :: ([.fieldLink RJx4a65c 63 "java/util/ArrayList" "modCount" "I", .sameField "java/util/ArrayList" "java/util/AbstractList" "modCount" "I", .fieldLink RJx4a65c 48 "java/util/ArrayList" "size" "I", .methodLink RJx4a65c 112 arraycopyName, .native arraycopyName, .static arraycopyName, .initialized "java/lang/System"] ++ wsJx4a65c0)
def wsJx4a65c_remove_915e3 : List Cond := .code yJx4a65c_remove_915e3 cJx4a65c_remove_915e3 4 (some (.object "java/lang/Object")) :: ([.fieldLink RJx4a65c 48 "java/util/ArrayList" "size" "I", .fieldLink RJx4a65c 9 "java/util/ArrayList" "elementData" "[Ljava/lang/Object;", .methodLink RJx4a65c 118 yJ15_checkIndex_7cf53, .static yJ15_checkIndex_7cf53, .initialized RJ15, .code yJ15_checkIndex_7cf53 cJ15_checkIndex_7cf53 2 (some .int), .methodLink RJ15 105 yJ3_checkIndex_8e157, .static yJ3_checkIndex_8e157, .initialized RJ3, .code yJ3_checkIndex_8e157 cJ3_checkIndex_8e157 3 (some .int), .methodLink RJx4a65c 144 yJx4a65c_fastRemove_b59b0, .instanceMethod yJx4a65c_fastRemove_b59b0, .selects RJx4a65c yJx4a65c_fastRemove_b59b0 yJx4a65c_fastRemove_b59b0, .initialized RJx4a65c, .code yJx4a65c_fastRemove_b59b0 cJx4a65c_fastRemove_b59b0 4 none, .fieldLink RJx4a65c 63 "java/util/ArrayList" "modCount" "I", .sameField "java/util/ArrayList" "java/util/AbstractList" "modCount" "I", .methodLink RJx4a65c 112 arraycopyName, .native arraycopyName, .static arraycopyName, .initialized "java/lang/System"] ++ wsJx4a65c0)
def wsX7_tried_r1 : List Cond := [Cond.fieldLink RX7 95 "LayoutDeskModel$Type" "added" "Ljava/util/ArrayList;", Cond.classLink RX7 98 RX5, Cond.instantiable RX5 3, Cond.initialized RX5, Cond.fieldLink RX7 91 "LayoutDeskModel" "reach" "I", Cond.constant RX7 76 (524288), Cond.classLink RX7 98 "LayoutDeskModel$Added", Cond.fieldLink RX7 88 "LayoutDeskModel" "members" "I", Cond.methodLink RX7 123 yX5_init, Cond.instanceMethod yX5_init, Cond.code yX5_init cX5_init 4 none, Cond.methodLink RX5 1 objectInit, Cond.instanceMethod objectInit, Cond.code objectInit ⟨#[0xb1]⟩ 1 none, Cond.fieldLink RX5 7 "LayoutDeskModel$Added" "type" "I", Cond.fieldLink RX5 13 "LayoutDeskModel$Added" "width" "I", Cond.fieldLink RX5 16 "LayoutDeskModel$Added" "member" "Z", Cond.methodLink RX7 34 yJx4a65c_add_9ea2d, Cond.instanceMethod yJx4a65c_add_9ea2d, Cond.selects RJx4a65c yJx4a65c_add_9ea2d yJx4a65c_add_9ea2d, Cond.initialized RJx4a65c, Cond.code yJx4a65c_add_9ea2d cJx4a65c_add_9ea2d 2 (some .boolean), Cond.fieldLink RJx4a65c 63 "java/util/ArrayList" "modCount" "I", Cond.sameField "java/util/ArrayList" "java/util/AbstractList" "modCount" "I"]
def wsX7_tried_r2 : List Cond := [Cond.fieldLink RJx4a65c 9 "java/util/ArrayList" "elementData" "[Ljava/lang/Object;", Cond.fieldLink RJx4a65c 48 "java/util/ArrayList" "size" "I", Cond.methodLink RJx4a65c 131 yJx4a65c_add_72be8, Cond.instanceMethod yJx4a65c_add_72be8, Cond.selects RJx4a65c yJx4a65c_add_72be8 yJx4a65c_add_72be8, Cond.code yJx4a65c_add_72be8 cJx4a65c_add_72be8 4 none, Cond.methodLink RJx4a65c 129 yJx4a65c_grow_d5877, Cond.instanceMethod yJx4a65c_grow_d5877, Cond.selects RJx4a65c yJx4a65c_grow_d5877 yJx4a65c_grow_d5877, Cond.code yJx4a65c_grow_d5877 cJx4a65c_grow_d5877 1 (some (.array (.object "java/lang/Object"))), Cond.methodLink RJx4a65c 69 yJx4a65c_grow_92f84, Cond.instanceMethod yJx4a65c_grow_92f84, Cond.selects RJx4a65c yJx4a65c_grow_92f84 yJx4a65c_grow_92f84, Cond.code yJx4a65c_grow_92f84 cJx4a65c_grow_92f84 4 (some (.array (.object "java/lang/Object"))), Cond.fieldLink RJx4a65c 39 "java/util/ArrayList" "DEFAULTCAPACITY_EMPTY_ELEMENTDATA" "[Ljava/lang/Object;", Cond.methodLink RJx4a65c 79 Lib.Math.max.name, Cond.static Lib.Math.max.name, Cond.initialized "java/lang/Math", Cond.code Lib.Math.max.name Lib.Math.max.code 2 (some .int), Cond.classLink RJx4a65c 7 "java/lang/Object", Cond.methodLink RJx4a65c 73 yJ8_newLength_cabcc, Cond.static yJ8_newLength_cabcc, Cond.initialized RJ8, Cond.code yJ8_newLength_cabcc cJ8_newLength_cabcc 4 (some .int)]
def wsX7_tried_r3 : List Cond := [Cond.methodLink RJ8 194 Lib.Math.max.name, Cond.constant RJ8 200 (2147483639), Cond.methodLink RJ8 201 yJ8_hugeLength_7cf53, Cond.static yJ8_hugeLength_7cf53, Cond.code yJ8_hugeLength_7cf53 cJ8_hugeLength_7cf53 3 (some .int), Cond.methodLink RJx4a65c 66 yJ7_copyOf_1904c, Cond.static yJ7_copyOf_1904c, Cond.initialized RJ7, Cond.code yJ7_copyOf_1904c cJ7_copyOf_1904c 2 (some (.array (.object "java/lang/Object"))), Cond.methodLink RJ7 86 ⟨"java/lang/Object", "getClass", "()Ljava/lang/Class;"⟩, Cond.selects "[Ljava/lang/Object;" ⟨"java/lang/Object", "getClass", "()Ljava/lang/Class;"⟩ ⟨"java/lang/Object", "getClass", "()Ljava/lang/Class;"⟩, Cond.instanceMethod ⟨"java/lang/Object", "getClass", "()Ljava/lang/Class;"⟩, Cond.native ⟨"java/lang/Object", "getClass", "()Ljava/lang/Class;"⟩, Cond.methodLink RJ7 300 yJ7_copyOf_6403c, Cond.static yJ7_copyOf_6403c, Cond.code yJ7_copyOf_6403c cJ7_copyOf_6403c 4 (some (.array (.object "java/lang/Object"))), Cond.classLink RJ7 110 "[Ljava/lang/Object;", Cond.classLink RJ7 2 "java/lang/Object", Cond.methodLink RJ7 304 Lib.Math.min.name, Cond.static Lib.Math.min.name, Cond.code Lib.Math.min.name Lib.Math.min.code 2 (some .int), Cond.methodLink RJ7 150 arraycopyName, Cond.native arraycopyName, Cond.static arraycopyName]
def wsX7_tried_r4 : List Cond := [Cond.initialized "java/lang/System", Cond.methodLink RX7 126 yX7_lay, Cond.instanceMethod yX7_lay, Cond.selects RX7 yX7_lay yX7_lay, Cond.initialized RX7, Cond.code yX7_lay cX7_lay 9 none, Cond.fieldLink RX7 94 "LayoutDeskModel" "align" "I", Cond.fieldLink RX7 100 "LayoutDeskModel$Added" "type" "I", Cond.fieldLink RX7 103 "LayoutDeskModel$Added" "width" "I", Cond.fieldLink RX7 10 "LayoutDeskModel" "types" "Ljava/util/ArrayList;", Cond.classLink RX7 29 "LayoutDeskModel$Type", Cond.fieldLink RX7 58 "LayoutDeskModel$Type" "kind" "I", Cond.fieldLink RX7 85 "LayoutDeskModel$Type" "align" "I", Cond.fieldLink RX7 113 "LayoutDeskModel$Type" "size" "I", Cond.methodLink RX7 115 Lib.Math.max.name, Cond.fieldLink RX7 120 "LayoutDeskModel$Added" "member" "Z", Cond.methodLink RX7 38 yJx4a65c_size_8abf5, Cond.instanceMethod yJx4a65c_size_8abf5, Cond.selects RJx4a65c yJx4a65c_size_8abf5 yJx4a65c_size_8abf5, Cond.code yJx4a65c_size_8abf5 cJx4a65c_size_8abf5 1 (some .int), Cond.methodLink RX7 46 yJx4a65c_get_915e3, Cond.instanceMethod yJx4a65c_get_915e3, Cond.selects RJx4a65c yJx4a65c_get_915e3 yJx4a65c_get_915e3, Cond.code yJx4a65c_get_915e3 cJx4a65c_get_915e3 2 (some (.object "java/lang/Object"))]
def wsX7_tried_r5 : List Cond := [Cond.methodLink RJx4a65c 118 yJ15_checkIndex_7cf53, Cond.static yJ15_checkIndex_7cf53, Cond.initialized RJ15, Cond.code yJ15_checkIndex_7cf53 cJ15_checkIndex_7cf53 2 (some .int), Cond.methodLink RJ15 105 yJ3_checkIndex_8e157, Cond.static yJ3_checkIndex_8e157, Cond.initialized RJ3, Cond.code yJ3_checkIndex_8e157 cJ3_checkIndex_8e157 3 (some .int), Cond.methodLink RJx4a65c 123 yJx4a65c_elementData_915e3, Cond.instanceMethod yJx4a65c_elementData_915e3, Cond.selects RJx4a65c yJx4a65c_elementData_915e3 yJx4a65c_elementData_915e3, Cond.code yJx4a65c_elementData_915e3 cJx4a65c_elementData_915e3 2 (some (.object "java/lang/Object")), Cond.methodLink RX7 106 yX7_up, Cond.static yX7_up, Cond.code yX7_up cX7_up 2 (some .int), Cond.methodLink RX7 110 yX7_put, Cond.instanceMethod yX7_put, Cond.selects RX7 yX7_put yX7_put, Cond.code yX7_put cX7_put 5 none, Cond.fieldLink RX7 16 "LayoutDeskModel" "places" "[I", Cond.fieldLink RX7 20 "LayoutDeskModel" "kinds" "[I", Cond.fieldLink RX7 23 "LayoutDeskModel" "lows" "[I", Cond.fieldLink RX7 26 "LayoutDeskModel" "widths" "[I", Cond.methodLink RX7 130 yJx4a65c_remove_915e3]
def wsX7_tried_r6 : List Cond := [Cond.instanceMethod yJx4a65c_remove_915e3, Cond.selects RJx4a65c yJx4a65c_remove_915e3 yJx4a65c_remove_915e3, Cond.code yJx4a65c_remove_915e3 cJx4a65c_remove_915e3 4 (some (.object "java/lang/Object")), Cond.methodLink RJx4a65c 144 yJx4a65c_fastRemove_b59b0, Cond.instanceMethod yJx4a65c_fastRemove_b59b0, Cond.selects RJx4a65c yJx4a65c_fastRemove_b59b0 yJx4a65c_fastRemove_b59b0, Cond.code yJx4a65c_fastRemove_b59b0 cJx4a65c_fastRemove_b59b0 4 none, Cond.methodLink RJx4a65c 112 arraycopyName]
def wsX7_tried : List Cond := .code yX7_tried cX7_tried 6 (some .int) :: ((wsX7_tried_r1 ++ (wsX7_tried_r2 ++ (wsX7_tried_r3 ++ (wsX7_tried_r4 ++ (wsX7_tried_r5 ++ wsX7_tried_r6))))) ++ wsX60 ++ wsX50 ++ wsX70 ++ wsJx4a65c0)
def wsX7_field_r1 : List Cond := [Cond.fieldLink RX7 88 "LayoutDeskModel" "members" "I", Cond.methodLink RX7 133 yX7_open, Cond.instanceMethod yX7_open, Cond.selects RX7 yX7_open yX7_open, Cond.initialized RX7, Cond.code yX7_open cX7_open 3 (some (.object "LayoutDeskModel$Type")), Cond.fieldLink RX7 10 "LayoutDeskModel" "types" "Ljava/util/ArrayList;", Cond.classLink RX7 29 "LayoutDeskModel$Type", Cond.fieldLink RX7 54 "LayoutDeskModel$Type" "finished" "Z", Cond.methodLink RX7 42 yX7_there, Cond.instanceMethod yX7_there, Cond.selects RX7 yX7_there yX7_there, Cond.code yX7_there cX7_there 2 (some .boolean), Cond.methodLink RX7 38 yJx4a65c_size_8abf5, Cond.instanceMethod yJx4a65c_size_8abf5, Cond.selects RJx4a65c yJx4a65c_size_8abf5 yJx4a65c_size_8abf5, Cond.initialized RJx4a65c, Cond.code yJx4a65c_size_8abf5 cJx4a65c_size_8abf5 1 (some .int), Cond.fieldLink RJx4a65c 48 "java/util/ArrayList" "size" "I", Cond.methodLink RX7 46 yJx4a65c_get_915e3, Cond.instanceMethod yJx4a65c_get_915e3, Cond.selects RJx4a65c yJx4a65c_get_915e3 yJx4a65c_get_915e3, Cond.code yJx4a65c_get_915e3 cJx4a65c_get_915e3 2 (some (.object "java/lang/Object")), Cond.methodLink RJx4a65c 118 yJ15_checkIndex_7cf53]
def wsX7_field_r2 : List Cond := [Cond.static yJ15_checkIndex_7cf53, Cond.initialized RJ15, Cond.code yJ15_checkIndex_7cf53 cJ15_checkIndex_7cf53 2 (some .int), Cond.methodLink RJ15 105 yJ3_checkIndex_8e157, Cond.static yJ3_checkIndex_8e157, Cond.initialized RJ3, Cond.code yJ3_checkIndex_8e157 cJ3_checkIndex_8e157 3 (some .int), Cond.methodLink RJx4a65c 123 yJx4a65c_elementData_915e3, Cond.instanceMethod yJx4a65c_elementData_915e3, Cond.selects RJx4a65c yJx4a65c_elementData_915e3 yJx4a65c_elementData_915e3, Cond.code yJx4a65c_elementData_915e3 cJx4a65c_elementData_915e3 2 (some (.object "java/lang/Object")), Cond.fieldLink RJx4a65c 9 "java/util/ArrayList" "elementData" "[Ljava/lang/Object;", Cond.methodLink RX7 50 yX6_record, Cond.instanceMethod yX6_record, Cond.selects RX6 yX6_record yX6_record, Cond.initialized RX6, Cond.code yX6_record cX6_record 1 (some .boolean), Cond.fieldLink RX6 16 "LayoutDeskModel$Type" "kind" "I", Cond.methodLink RX7 77 yX7_sized, Cond.instanceMethod yX7_sized, Cond.selects RX7 yX7_sized yX7_sized, Cond.code yX7_sized cX7_sized 2 (some .boolean), Cond.methodLink RX7 126 yX7_lay, Cond.instanceMethod yX7_lay]
def wsX7_field_r3 : List Cond := [Cond.selects RX7 yX7_lay yX7_lay, Cond.code yX7_lay cX7_lay 9 none, Cond.fieldLink RX7 91 "LayoutDeskModel" "reach" "I", Cond.fieldLink RX7 94 "LayoutDeskModel" "align" "I", Cond.fieldLink RX7 95 "LayoutDeskModel$Type" "added" "Ljava/util/ArrayList;", Cond.classLink RX7 98 "LayoutDeskModel$Added", Cond.fieldLink RX7 100 "LayoutDeskModel$Added" "type" "I", Cond.fieldLink RX7 103 "LayoutDeskModel$Added" "width" "I", Cond.fieldLink RX7 58 "LayoutDeskModel$Type" "kind" "I", Cond.fieldLink RX7 85 "LayoutDeskModel$Type" "align" "I", Cond.fieldLink RX7 113 "LayoutDeskModel$Type" "size" "I", Cond.methodLink RX7 115 Lib.Math.max.name, Cond.static Lib.Math.max.name, Cond.initialized "java/lang/Math", Cond.code Lib.Math.max.name Lib.Math.max.code 2 (some .int), Cond.fieldLink RX7 120 "LayoutDeskModel$Added" "member" "Z", Cond.methodLink RX7 106 yX7_up, Cond.static yX7_up, Cond.code yX7_up cX7_up 2 (some .int), Cond.methodLink RX7 110 yX7_put, Cond.instanceMethod yX7_put, Cond.selects RX7 yX7_put yX7_put, Cond.code yX7_put cX7_put 5 none, Cond.fieldLink RX7 16 "LayoutDeskModel" "places" "[I"]
def wsX7_field_r4 : List Cond := [Cond.fieldLink RX7 20 "LayoutDeskModel" "kinds" "[I", Cond.fieldLink RX7 23 "LayoutDeskModel" "lows" "[I", Cond.fieldLink RX7 26 "LayoutDeskModel" "widths" "[I", Cond.methodLink RX7 137 yX7_tried, Cond.instanceMethod yX7_tried, Cond.selects RX7 yX7_tried yX7_tried, Cond.code yX7_tried cX7_tried 6 (some .int), Cond.classLink RX7 98 RX5, Cond.instantiable RX5 3, Cond.initialized RX5, Cond.constant RX7 76 (524288), Cond.methodLink RX7 123 yX5_init, Cond.instanceMethod yX5_init, Cond.code yX5_init cX5_init 4 none, Cond.methodLink RX5 1 objectInit, Cond.instanceMethod objectInit, Cond.code objectInit ⟨#[0xb1]⟩ 1 none, Cond.fieldLink RX5 7 "LayoutDeskModel$Added" "type" "I", Cond.fieldLink RX5 13 "LayoutDeskModel$Added" "width" "I", Cond.fieldLink RX5 16 "LayoutDeskModel$Added" "member" "Z", Cond.methodLink RX7 34 yJx4a65c_add_9ea2d, Cond.instanceMethod yJx4a65c_add_9ea2d, Cond.selects RJx4a65c yJx4a65c_add_9ea2d yJx4a65c_add_9ea2d, Cond.code yJx4a65c_add_9ea2d cJx4a65c_add_9ea2d 2 (some .boolean)]
def wsX7_field_r5 : List Cond := [Cond.fieldLink RJx4a65c 63 "java/util/ArrayList" "modCount" "I", Cond.sameField "java/util/ArrayList" "java/util/AbstractList" "modCount" "I", Cond.methodLink RJx4a65c 131 yJx4a65c_add_72be8, Cond.instanceMethod yJx4a65c_add_72be8, Cond.selects RJx4a65c yJx4a65c_add_72be8 yJx4a65c_add_72be8, Cond.code yJx4a65c_add_72be8 cJx4a65c_add_72be8 4 none, Cond.methodLink RJx4a65c 129 yJx4a65c_grow_d5877, Cond.instanceMethod yJx4a65c_grow_d5877, Cond.selects RJx4a65c yJx4a65c_grow_d5877 yJx4a65c_grow_d5877, Cond.code yJx4a65c_grow_d5877 cJx4a65c_grow_d5877 1 (some (.array (.object "java/lang/Object"))), Cond.methodLink RJx4a65c 69 yJx4a65c_grow_92f84, Cond.instanceMethod yJx4a65c_grow_92f84, Cond.selects RJx4a65c yJx4a65c_grow_92f84 yJx4a65c_grow_92f84, Cond.code yJx4a65c_grow_92f84 cJx4a65c_grow_92f84 4 (some (.array (.object "java/lang/Object"))), Cond.fieldLink RJx4a65c 39 "java/util/ArrayList" "DEFAULTCAPACITY_EMPTY_ELEMENTDATA" "[Ljava/lang/Object;", Cond.methodLink RJx4a65c 79 Lib.Math.max.name, Cond.classLink RJx4a65c 7 "java/lang/Object", Cond.methodLink RJx4a65c 73 yJ8_newLength_cabcc, Cond.static yJ8_newLength_cabcc, Cond.initialized RJ8, Cond.code yJ8_newLength_cabcc cJ8_newLength_cabcc 4 (some .int), Cond.methodLink RJ8 194 Lib.Math.max.name, Cond.constant RJ8 200 (2147483639), Cond.methodLink RJ8 201 yJ8_hugeLength_7cf53]
def wsX7_field_r6 : List Cond := [Cond.static yJ8_hugeLength_7cf53, Cond.code yJ8_hugeLength_7cf53 cJ8_hugeLength_7cf53 3 (some .int), Cond.methodLink RJx4a65c 66 yJ7_copyOf_1904c, Cond.static yJ7_copyOf_1904c, Cond.initialized RJ7, Cond.code yJ7_copyOf_1904c cJ7_copyOf_1904c 2 (some (.array (.object "java/lang/Object"))), Cond.methodLink RJ7 86 ⟨"java/lang/Object", "getClass", "()Ljava/lang/Class;"⟩, Cond.selects "[Ljava/lang/Object;" ⟨"java/lang/Object", "getClass", "()Ljava/lang/Class;"⟩ ⟨"java/lang/Object", "getClass", "()Ljava/lang/Class;"⟩, Cond.instanceMethod ⟨"java/lang/Object", "getClass", "()Ljava/lang/Class;"⟩, Cond.native ⟨"java/lang/Object", "getClass", "()Ljava/lang/Class;"⟩, Cond.methodLink RJ7 300 yJ7_copyOf_6403c, Cond.static yJ7_copyOf_6403c, Cond.code yJ7_copyOf_6403c cJ7_copyOf_6403c 4 (some (.array (.object "java/lang/Object"))), Cond.classLink RJ7 110 "[Ljava/lang/Object;", Cond.classLink RJ7 2 "java/lang/Object", Cond.methodLink RJ7 304 Lib.Math.min.name, Cond.static Lib.Math.min.name, Cond.code Lib.Math.min.name Lib.Math.min.code 2 (some .int), Cond.methodLink RJ7 150 arraycopyName, Cond.native arraycopyName, Cond.static arraycopyName, Cond.initialized "java/lang/System", Cond.methodLink RX7 130 yJx4a65c_remove_915e3, Cond.instanceMethod yJx4a65c_remove_915e3]
def wsX7_field_r7 : List Cond := [Cond.selects RJx4a65c yJx4a65c_remove_915e3 yJx4a65c_remove_915e3, Cond.code yJx4a65c_remove_915e3 cJx4a65c_remove_915e3 4 (some (.object "java/lang/Object")), Cond.methodLink RJx4a65c 144 yJx4a65c_fastRemove_b59b0, Cond.instanceMethod yJx4a65c_fastRemove_b59b0, Cond.selects RJx4a65c yJx4a65c_fastRemove_b59b0 yJx4a65c_fastRemove_b59b0, Cond.code yJx4a65c_fastRemove_b59b0 cJx4a65c_fastRemove_b59b0 4 none, Cond.methodLink RJx4a65c 112 arraycopyName]
def wsX7_field : List Cond := .code yX7_field cX7_field 4 (some .int) :: ((wsX7_field_r1 ++ (wsX7_field_r2 ++ (wsX7_field_r3 ++ (wsX7_field_r4 ++ (wsX7_field_r5 ++ (wsX7_field_r6 ++ wsX7_field_r7)))))) ++ wsX70 ++ wsX60 ++ wsJx4a65c0 ++ wsX50)
def wsX7_bits_r1 : List Cond := [Cond.fieldLink RX7 88 "LayoutDeskModel" "members" "I", Cond.methodLink RX7 133 yX7_open, Cond.instanceMethod yX7_open, Cond.selects RX7 yX7_open yX7_open, Cond.initialized RX7, Cond.code yX7_open cX7_open 3 (some (.object "LayoutDeskModel$Type")), Cond.fieldLink RX7 10 "LayoutDeskModel" "types" "Ljava/util/ArrayList;", Cond.classLink RX7 29 "LayoutDeskModel$Type", Cond.fieldLink RX7 54 "LayoutDeskModel$Type" "finished" "Z", Cond.methodLink RX7 42 yX7_there, Cond.instanceMethod yX7_there, Cond.selects RX7 yX7_there yX7_there, Cond.code yX7_there cX7_there 2 (some .boolean), Cond.methodLink RX7 38 yJx4a65c_size_8abf5, Cond.instanceMethod yJx4a65c_size_8abf5, Cond.selects RJx4a65c yJx4a65c_size_8abf5 yJx4a65c_size_8abf5, Cond.initialized RJx4a65c, Cond.code yJx4a65c_size_8abf5 cJx4a65c_size_8abf5 1 (some .int), Cond.fieldLink RJx4a65c 48 "java/util/ArrayList" "size" "I", Cond.methodLink RX7 46 yJx4a65c_get_915e3, Cond.instanceMethod yJx4a65c_get_915e3, Cond.selects RJx4a65c yJx4a65c_get_915e3 yJx4a65c_get_915e3, Cond.code yJx4a65c_get_915e3 cJx4a65c_get_915e3 2 (some (.object "java/lang/Object")), Cond.methodLink RJx4a65c 118 yJ15_checkIndex_7cf53]
def wsX7_bits_r2 : List Cond := [Cond.static yJ15_checkIndex_7cf53, Cond.initialized RJ15, Cond.code yJ15_checkIndex_7cf53 cJ15_checkIndex_7cf53 2 (some .int), Cond.methodLink RJ15 105 yJ3_checkIndex_8e157, Cond.static yJ3_checkIndex_8e157, Cond.initialized RJ3, Cond.code yJ3_checkIndex_8e157 cJ3_checkIndex_8e157 3 (some .int), Cond.methodLink RJx4a65c 123 yJx4a65c_elementData_915e3, Cond.instanceMethod yJx4a65c_elementData_915e3, Cond.selects RJx4a65c yJx4a65c_elementData_915e3 yJx4a65c_elementData_915e3, Cond.code yJx4a65c_elementData_915e3 cJx4a65c_elementData_915e3 2 (some (.object "java/lang/Object")), Cond.fieldLink RJx4a65c 9 "java/util/ArrayList" "elementData" "[Ljava/lang/Object;", Cond.methodLink RX7 50 yX6_record, Cond.instanceMethod yX6_record, Cond.selects RX6 yX6_record yX6_record, Cond.initialized RX6, Cond.code yX6_record cX6_record 1 (some .boolean), Cond.fieldLink RX6 16 "LayoutDeskModel$Type" "kind" "I", Cond.methodLink RX7 126 yX7_lay, Cond.instanceMethod yX7_lay, Cond.selects RX7 yX7_lay yX7_lay, Cond.code yX7_lay cX7_lay 9 none, Cond.fieldLink RX7 91 "LayoutDeskModel" "reach" "I", Cond.fieldLink RX7 94 "LayoutDeskModel" "align" "I"]
def wsX7_bits_r3 : List Cond := [Cond.fieldLink RX7 95 "LayoutDeskModel$Type" "added" "Ljava/util/ArrayList;", Cond.classLink RX7 98 "LayoutDeskModel$Added", Cond.fieldLink RX7 100 "LayoutDeskModel$Added" "type" "I", Cond.fieldLink RX7 103 "LayoutDeskModel$Added" "width" "I", Cond.fieldLink RX7 58 "LayoutDeskModel$Type" "kind" "I", Cond.fieldLink RX7 85 "LayoutDeskModel$Type" "align" "I", Cond.fieldLink RX7 113 "LayoutDeskModel$Type" "size" "I", Cond.methodLink RX7 115 Lib.Math.max.name, Cond.static Lib.Math.max.name, Cond.initialized "java/lang/Math", Cond.code Lib.Math.max.name Lib.Math.max.code 2 (some .int), Cond.fieldLink RX7 120 "LayoutDeskModel$Added" "member" "Z", Cond.methodLink RX7 106 yX7_up, Cond.static yX7_up, Cond.code yX7_up cX7_up 2 (some .int), Cond.methodLink RX7 110 yX7_put, Cond.instanceMethod yX7_put, Cond.selects RX7 yX7_put yX7_put, Cond.code yX7_put cX7_put 5 none, Cond.fieldLink RX7 16 "LayoutDeskModel" "places" "[I", Cond.fieldLink RX7 20 "LayoutDeskModel" "kinds" "[I", Cond.fieldLink RX7 23 "LayoutDeskModel" "lows" "[I", Cond.fieldLink RX7 26 "LayoutDeskModel" "widths" "[I", Cond.methodLink RX7 137 yX7_tried]
def wsX7_bits_r4 : List Cond := [Cond.instanceMethod yX7_tried, Cond.selects RX7 yX7_tried yX7_tried, Cond.code yX7_tried cX7_tried 6 (some .int), Cond.classLink RX7 98 RX5, Cond.instantiable RX5 3, Cond.initialized RX5, Cond.constant RX7 76 (524288), Cond.methodLink RX7 123 yX5_init, Cond.instanceMethod yX5_init, Cond.code yX5_init cX5_init 4 none, Cond.methodLink RX5 1 objectInit, Cond.instanceMethod objectInit, Cond.code objectInit ⟨#[0xb1]⟩ 1 none, Cond.fieldLink RX5 7 "LayoutDeskModel$Added" "type" "I", Cond.fieldLink RX5 13 "LayoutDeskModel$Added" "width" "I", Cond.fieldLink RX5 16 "LayoutDeskModel$Added" "member" "Z", Cond.methodLink RX7 34 yJx4a65c_add_9ea2d, Cond.instanceMethod yJx4a65c_add_9ea2d, Cond.selects RJx4a65c yJx4a65c_add_9ea2d yJx4a65c_add_9ea2d, Cond.code yJx4a65c_add_9ea2d cJx4a65c_add_9ea2d 2 (some .boolean), Cond.fieldLink RJx4a65c 63 "java/util/ArrayList" "modCount" "I", Cond.sameField "java/util/ArrayList" "java/util/AbstractList" "modCount" "I", Cond.methodLink RJx4a65c 131 yJx4a65c_add_72be8, Cond.instanceMethod yJx4a65c_add_72be8]
def wsX7_bits_r5 : List Cond := [Cond.selects RJx4a65c yJx4a65c_add_72be8 yJx4a65c_add_72be8, Cond.code yJx4a65c_add_72be8 cJx4a65c_add_72be8 4 none, Cond.methodLink RJx4a65c 129 yJx4a65c_grow_d5877, Cond.instanceMethod yJx4a65c_grow_d5877, Cond.selects RJx4a65c yJx4a65c_grow_d5877 yJx4a65c_grow_d5877, Cond.code yJx4a65c_grow_d5877 cJx4a65c_grow_d5877 1 (some (.array (.object "java/lang/Object"))), Cond.methodLink RJx4a65c 69 yJx4a65c_grow_92f84, Cond.instanceMethod yJx4a65c_grow_92f84, Cond.selects RJx4a65c yJx4a65c_grow_92f84 yJx4a65c_grow_92f84, Cond.code yJx4a65c_grow_92f84 cJx4a65c_grow_92f84 4 (some (.array (.object "java/lang/Object"))), Cond.fieldLink RJx4a65c 39 "java/util/ArrayList" "DEFAULTCAPACITY_EMPTY_ELEMENTDATA" "[Ljava/lang/Object;", Cond.methodLink RJx4a65c 79 Lib.Math.max.name, Cond.classLink RJx4a65c 7 "java/lang/Object", Cond.methodLink RJx4a65c 73 yJ8_newLength_cabcc, Cond.static yJ8_newLength_cabcc, Cond.initialized RJ8, Cond.code yJ8_newLength_cabcc cJ8_newLength_cabcc 4 (some .int), Cond.methodLink RJ8 194 Lib.Math.max.name, Cond.constant RJ8 200 (2147483639), Cond.methodLink RJ8 201 yJ8_hugeLength_7cf53, Cond.static yJ8_hugeLength_7cf53, Cond.code yJ8_hugeLength_7cf53 cJ8_hugeLength_7cf53 3 (some .int), Cond.methodLink RJx4a65c 66 yJ7_copyOf_1904c, Cond.static yJ7_copyOf_1904c]
def wsX7_bits_r6 : List Cond := [Cond.initialized RJ7, Cond.code yJ7_copyOf_1904c cJ7_copyOf_1904c 2 (some (.array (.object "java/lang/Object"))), Cond.methodLink RJ7 86 ⟨"java/lang/Object", "getClass", "()Ljava/lang/Class;"⟩, Cond.selects "[Ljava/lang/Object;" ⟨"java/lang/Object", "getClass", "()Ljava/lang/Class;"⟩ ⟨"java/lang/Object", "getClass", "()Ljava/lang/Class;"⟩, Cond.instanceMethod ⟨"java/lang/Object", "getClass", "()Ljava/lang/Class;"⟩, Cond.native ⟨"java/lang/Object", "getClass", "()Ljava/lang/Class;"⟩, Cond.methodLink RJ7 300 yJ7_copyOf_6403c, Cond.static yJ7_copyOf_6403c, Cond.code yJ7_copyOf_6403c cJ7_copyOf_6403c 4 (some (.array (.object "java/lang/Object"))), Cond.classLink RJ7 110 "[Ljava/lang/Object;", Cond.classLink RJ7 2 "java/lang/Object", Cond.methodLink RJ7 304 Lib.Math.min.name, Cond.static Lib.Math.min.name, Cond.code Lib.Math.min.name Lib.Math.min.code 2 (some .int), Cond.methodLink RJ7 150 arraycopyName, Cond.native arraycopyName, Cond.static arraycopyName, Cond.initialized "java/lang/System", Cond.methodLink RX7 130 yJx4a65c_remove_915e3, Cond.instanceMethod yJx4a65c_remove_915e3, Cond.selects RJx4a65c yJx4a65c_remove_915e3 yJx4a65c_remove_915e3, Cond.code yJx4a65c_remove_915e3 cJx4a65c_remove_915e3 4 (some (.object "java/lang/Object")), Cond.methodLink RJx4a65c 144 yJx4a65c_fastRemove_b59b0, Cond.instanceMethod yJx4a65c_fastRemove_b59b0]
def wsX7_bits_r7 : List Cond := [Cond.selects RJx4a65c yJx4a65c_fastRemove_b59b0 yJx4a65c_fastRemove_b59b0, Cond.code yJx4a65c_fastRemove_b59b0 cJx4a65c_fastRemove_b59b0 4 none, Cond.methodLink RJx4a65c 112 arraycopyName]
def wsX7_bits : List Cond := .code yX7_bits cX7_bits 6 (some .int) :: ((wsX7_bits_r1 ++ (wsX7_bits_r2 ++ (wsX7_bits_r3 ++ (wsX7_bits_r4 ++ (wsX7_bits_r5 ++ (wsX7_bits_r6 ++ wsX7_bits_r7)))))) ++ wsX70 ++ wsX60 ++ wsJx4a65c0 ++ wsX50)
def wsX7_separate_r1 : List Cond := [Cond.fieldLink RX7 95 "LayoutDeskModel$Type" "added" "Ljava/util/ArrayList;", Cond.classLink RX7 98 RX5, Cond.instantiable RX5 3, Cond.initialized RX5, Cond.methodLink RX7 133 yX7_open, Cond.instanceMethod yX7_open, Cond.selects RX7 yX7_open yX7_open, Cond.initialized RX7, Cond.code yX7_open cX7_open 3 (some (.object "LayoutDeskModel$Type")), Cond.fieldLink RX7 10 "LayoutDeskModel" "types" "Ljava/util/ArrayList;", Cond.classLink RX7 29 "LayoutDeskModel$Type", Cond.fieldLink RX7 54 "LayoutDeskModel$Type" "finished" "Z", Cond.methodLink RX7 42 yX7_there, Cond.instanceMethod yX7_there, Cond.selects RX7 yX7_there yX7_there, Cond.code yX7_there cX7_there 2 (some .boolean), Cond.methodLink RX7 38 yJx4a65c_size_8abf5, Cond.instanceMethod yJx4a65c_size_8abf5, Cond.selects RJx4a65c yJx4a65c_size_8abf5 yJx4a65c_size_8abf5, Cond.initialized RJx4a65c, Cond.code yJx4a65c_size_8abf5 cJx4a65c_size_8abf5 1 (some .int), Cond.fieldLink RJx4a65c 48 "java/util/ArrayList" "size" "I", Cond.methodLink RX7 46 yJx4a65c_get_915e3, Cond.instanceMethod yJx4a65c_get_915e3]
def wsX7_separate_r2 : List Cond := [Cond.selects RJx4a65c yJx4a65c_get_915e3 yJx4a65c_get_915e3, Cond.code yJx4a65c_get_915e3 cJx4a65c_get_915e3 2 (some (.object "java/lang/Object")), Cond.methodLink RJx4a65c 118 yJ15_checkIndex_7cf53, Cond.static yJ15_checkIndex_7cf53, Cond.initialized RJ15, Cond.code yJ15_checkIndex_7cf53 cJ15_checkIndex_7cf53 2 (some .int), Cond.methodLink RJ15 105 yJ3_checkIndex_8e157, Cond.static yJ3_checkIndex_8e157, Cond.initialized RJ3, Cond.code yJ3_checkIndex_8e157 cJ3_checkIndex_8e157 3 (some .int), Cond.methodLink RJx4a65c 123 yJx4a65c_elementData_915e3, Cond.instanceMethod yJx4a65c_elementData_915e3, Cond.selects RJx4a65c yJx4a65c_elementData_915e3 yJx4a65c_elementData_915e3, Cond.code yJx4a65c_elementData_915e3 cJx4a65c_elementData_915e3 2 (some (.object "java/lang/Object")), Cond.fieldLink RJx4a65c 9 "java/util/ArrayList" "elementData" "[Ljava/lang/Object;", Cond.methodLink RX7 50 yX6_record, Cond.instanceMethod yX6_record, Cond.selects RX6 yX6_record yX6_record, Cond.initialized RX6, Cond.code yX6_record cX6_record 1 (some .boolean), Cond.fieldLink RX6 16 "LayoutDeskModel$Type" "kind" "I", Cond.methodLink RX7 123 yX5_init, Cond.instanceMethod yX5_init, Cond.code yX5_init cX5_init 4 none]
def wsX7_separate_r3 : List Cond := [Cond.methodLink RX5 1 objectInit, Cond.instanceMethod objectInit, Cond.code objectInit ⟨#[0xb1]⟩ 1 none, Cond.fieldLink RX5 7 "LayoutDeskModel$Added" "type" "I", Cond.fieldLink RX5 13 "LayoutDeskModel$Added" "width" "I", Cond.fieldLink RX5 16 "LayoutDeskModel$Added" "member" "Z", Cond.methodLink RX7 34 yJx4a65c_add_9ea2d, Cond.instanceMethod yJx4a65c_add_9ea2d, Cond.selects RJx4a65c yJx4a65c_add_9ea2d yJx4a65c_add_9ea2d, Cond.code yJx4a65c_add_9ea2d cJx4a65c_add_9ea2d 2 (some .boolean), Cond.fieldLink RJx4a65c 63 "java/util/ArrayList" "modCount" "I", Cond.sameField "java/util/ArrayList" "java/util/AbstractList" "modCount" "I", Cond.methodLink RJx4a65c 131 yJx4a65c_add_72be8, Cond.instanceMethod yJx4a65c_add_72be8, Cond.selects RJx4a65c yJx4a65c_add_72be8 yJx4a65c_add_72be8, Cond.code yJx4a65c_add_72be8 cJx4a65c_add_72be8 4 none, Cond.methodLink RJx4a65c 129 yJx4a65c_grow_d5877, Cond.instanceMethod yJx4a65c_grow_d5877, Cond.selects RJx4a65c yJx4a65c_grow_d5877 yJx4a65c_grow_d5877, Cond.code yJx4a65c_grow_d5877 cJx4a65c_grow_d5877 1 (some (.array (.object "java/lang/Object"))), Cond.methodLink RJx4a65c 69 yJx4a65c_grow_92f84, Cond.instanceMethod yJx4a65c_grow_92f84, Cond.selects RJx4a65c yJx4a65c_grow_92f84 yJx4a65c_grow_92f84, Cond.code yJx4a65c_grow_92f84 cJx4a65c_grow_92f84 4 (some (.array (.object "java/lang/Object")))]
def wsX7_separate_r4 : List Cond := [Cond.fieldLink RJx4a65c 39 "java/util/ArrayList" "DEFAULTCAPACITY_EMPTY_ELEMENTDATA" "[Ljava/lang/Object;", Cond.methodLink RJx4a65c 79 Lib.Math.max.name, Cond.static Lib.Math.max.name, Cond.initialized "java/lang/Math", Cond.code Lib.Math.max.name Lib.Math.max.code 2 (some .int), Cond.classLink RJx4a65c 7 "java/lang/Object", Cond.methodLink RJx4a65c 73 yJ8_newLength_cabcc, Cond.static yJ8_newLength_cabcc, Cond.initialized RJ8, Cond.code yJ8_newLength_cabcc cJ8_newLength_cabcc 4 (some .int), Cond.methodLink RJ8 194 Lib.Math.max.name, Cond.constant RJ8 200 (2147483639), Cond.methodLink RJ8 201 yJ8_hugeLength_7cf53, Cond.static yJ8_hugeLength_7cf53, Cond.code yJ8_hugeLength_7cf53 cJ8_hugeLength_7cf53 3 (some .int), Cond.methodLink RJx4a65c 66 yJ7_copyOf_1904c, Cond.static yJ7_copyOf_1904c, Cond.initialized RJ7, Cond.code yJ7_copyOf_1904c cJ7_copyOf_1904c 2 (some (.array (.object "java/lang/Object"))), Cond.methodLink RJ7 86 ⟨"java/lang/Object", "getClass", "()Ljava/lang/Class;"⟩, Cond.selects "[Ljava/lang/Object;" ⟨"java/lang/Object", "getClass", "()Ljava/lang/Class;"⟩ ⟨"java/lang/Object", "getClass", "()Ljava/lang/Class;"⟩, Cond.instanceMethod ⟨"java/lang/Object", "getClass", "()Ljava/lang/Class;"⟩, Cond.native ⟨"java/lang/Object", "getClass", "()Ljava/lang/Class;"⟩, Cond.methodLink RJ7 300 yJ7_copyOf_6403c]
def wsX7_separate_r5 : List Cond := [Cond.static yJ7_copyOf_6403c, Cond.code yJ7_copyOf_6403c cJ7_copyOf_6403c 4 (some (.array (.object "java/lang/Object"))), Cond.classLink RJ7 110 "[Ljava/lang/Object;", Cond.classLink RJ7 2 "java/lang/Object", Cond.methodLink RJ7 304 Lib.Math.min.name, Cond.static Lib.Math.min.name, Cond.code Lib.Math.min.name Lib.Math.min.code 2 (some .int), Cond.methodLink RJ7 150 arraycopyName, Cond.native arraycopyName, Cond.static arraycopyName, Cond.initialized "java/lang/System"]
def wsX7_separate : List Cond := .code yX7_separate cX7_separate 3 (some .boolean) :: ((wsX7_separate_r1 ++ (wsX7_separate_r2 ++ (wsX7_separate_r3 ++ (wsX7_separate_r4 ++ wsX7_separate_r5)))) ++ wsX60 ++ wsX50 ++ wsX70 ++ wsJx4a65c0)
def wsX7_finish_r1 : List Cond := [Cond.fieldLink RX7 88 "LayoutDeskModel" "members" "I", Cond.fieldLink RX7 91 "LayoutDeskModel" "reach" "I", Cond.fieldLink RX7 94 "LayoutDeskModel" "align" "I", Cond.constant RX7 76 (524288), Cond.fieldLink RX7 54 "LayoutDeskModel$Type" "finished" "Z", Cond.fieldLink RX7 113 "LayoutDeskModel$Type" "size" "I", Cond.fieldLink RX7 85 "LayoutDeskModel$Type" "align" "I", Cond.methodLink RX7 133 yX7_open, Cond.instanceMethod yX7_open, Cond.selects RX7 yX7_open yX7_open, Cond.initialized RX7, Cond.code yX7_open cX7_open 3 (some (.object "LayoutDeskModel$Type")), Cond.fieldLink RX7 10 "LayoutDeskModel" "types" "Ljava/util/ArrayList;", Cond.classLink RX7 29 "LayoutDeskModel$Type", Cond.methodLink RX7 42 yX7_there, Cond.instanceMethod yX7_there, Cond.selects RX7 yX7_there yX7_there, Cond.code yX7_there cX7_there 2 (some .boolean), Cond.methodLink RX7 38 yJx4a65c_size_8abf5, Cond.instanceMethod yJx4a65c_size_8abf5, Cond.selects RJx4a65c yJx4a65c_size_8abf5 yJx4a65c_size_8abf5, Cond.initialized RJx4a65c, Cond.code yJx4a65c_size_8abf5 cJx4a65c_size_8abf5 1 (some .int), Cond.fieldLink RJx4a65c 48 "java/util/ArrayList" "size" "I"]
def wsX7_finish_r2 : List Cond := [Cond.methodLink RX7 46 yJx4a65c_get_915e3, Cond.instanceMethod yJx4a65c_get_915e3, Cond.selects RJx4a65c yJx4a65c_get_915e3 yJx4a65c_get_915e3, Cond.code yJx4a65c_get_915e3 cJx4a65c_get_915e3 2 (some (.object "java/lang/Object")), Cond.methodLink RJx4a65c 118 yJ15_checkIndex_7cf53, Cond.static yJ15_checkIndex_7cf53, Cond.initialized RJ15, Cond.code yJ15_checkIndex_7cf53 cJ15_checkIndex_7cf53 2 (some .int), Cond.methodLink RJ15 105 yJ3_checkIndex_8e157, Cond.static yJ3_checkIndex_8e157, Cond.initialized RJ3, Cond.code yJ3_checkIndex_8e157 cJ3_checkIndex_8e157 3 (some .int), Cond.methodLink RJx4a65c 123 yJx4a65c_elementData_915e3, Cond.instanceMethod yJx4a65c_elementData_915e3, Cond.selects RJx4a65c yJx4a65c_elementData_915e3 yJx4a65c_elementData_915e3, Cond.code yJx4a65c_elementData_915e3 cJx4a65c_elementData_915e3 2 (some (.object "java/lang/Object")), Cond.fieldLink RJx4a65c 9 "java/util/ArrayList" "elementData" "[Ljava/lang/Object;", Cond.methodLink RX7 50 yX6_record, Cond.instanceMethod yX6_record, Cond.selects RX6 yX6_record yX6_record, Cond.initialized RX6, Cond.code yX6_record cX6_record 1 (some .boolean), Cond.fieldLink RX6 16 "LayoutDeskModel$Type" "kind" "I", Cond.methodLink RX7 126 yX7_lay]
def wsX7_finish_r3 : List Cond := [Cond.instanceMethod yX7_lay, Cond.selects RX7 yX7_lay yX7_lay, Cond.code yX7_lay cX7_lay 9 none, Cond.fieldLink RX7 95 "LayoutDeskModel$Type" "added" "Ljava/util/ArrayList;", Cond.classLink RX7 98 "LayoutDeskModel$Added", Cond.fieldLink RX7 100 "LayoutDeskModel$Added" "type" "I", Cond.fieldLink RX7 103 "LayoutDeskModel$Added" "width" "I", Cond.fieldLink RX7 58 "LayoutDeskModel$Type" "kind" "I", Cond.methodLink RX7 115 Lib.Math.max.name, Cond.static Lib.Math.max.name, Cond.initialized "java/lang/Math", Cond.code Lib.Math.max.name Lib.Math.max.code 2 (some .int), Cond.fieldLink RX7 120 "LayoutDeskModel$Added" "member" "Z", Cond.methodLink RX7 106 yX7_up, Cond.static yX7_up, Cond.code yX7_up cX7_up 2 (some .int), Cond.methodLink RX7 110 yX7_put, Cond.instanceMethod yX7_put, Cond.selects RX7 yX7_put yX7_put, Cond.code yX7_put cX7_put 5 none, Cond.fieldLink RX7 16 "LayoutDeskModel" "places" "[I", Cond.fieldLink RX7 20 "LayoutDeskModel" "kinds" "[I", Cond.fieldLink RX7 23 "LayoutDeskModel" "lows" "[I", Cond.fieldLink RX7 26 "LayoutDeskModel" "widths" "[I"]
def wsX7_finish : List Cond := .code yX7_finish cX7_finish 3 (some .int) :: ((wsX7_finish_r1 ++ (wsX7_finish_r2 ++ wsX7_finish_r3)) ++ wsX70 ++ wsX60 ++ wsJx4a65c0 ++ wsX50)
def wsX7_types : List Cond := .code yX7_types cX7_types 1 (some .int) :: ([.fieldLink RX7 10 "LayoutDeskModel" "types" "Ljava/util/ArrayList;", .methodLink RX7 38 yJx4a65c_size_8abf5, .instanceMethod yJx4a65c_size_8abf5, .selects RJx4a65c yJx4a65c_size_8abf5 yJx4a65c_size_8abf5, .initialized RJx4a65c, .code yJx4a65c_size_8abf5 cJx4a65c_size_8abf5 1 (some .int), .fieldLink RJx4a65c 48 "java/util/ArrayList" "size" "I"] ++ wsX70 ++ wsJx4a65c0)
def wsX7_align_r1 : List Cond := [Cond.fieldLink RX7 10 "LayoutDeskModel" "types" "Ljava/util/ArrayList;", Cond.classLink RX7 29 "LayoutDeskModel$Type", Cond.fieldLink RX7 54 "LayoutDeskModel$Type" "finished" "Z", Cond.fieldLink RX7 85 "LayoutDeskModel$Type" "align" "I", Cond.fieldLink RX7 94 "LayoutDeskModel" "align" "I", Cond.methodLink RX7 42 yX7_there, Cond.instanceMethod yX7_there, Cond.selects RX7 yX7_there yX7_there, Cond.initialized RX7, Cond.code yX7_there cX7_there 2 (some .boolean), Cond.methodLink RX7 38 yJx4a65c_size_8abf5, Cond.instanceMethod yJx4a65c_size_8abf5, Cond.selects RJx4a65c yJx4a65c_size_8abf5 yJx4a65c_size_8abf5, Cond.initialized RJx4a65c, Cond.code yJx4a65c_size_8abf5 cJx4a65c_size_8abf5 1 (some .int), Cond.fieldLink RJx4a65c 48 "java/util/ArrayList" "size" "I", Cond.methodLink RX7 46 yJx4a65c_get_915e3, Cond.instanceMethod yJx4a65c_get_915e3, Cond.selects RJx4a65c yJx4a65c_get_915e3 yJx4a65c_get_915e3, Cond.code yJx4a65c_get_915e3 cJx4a65c_get_915e3 2 (some (.object "java/lang/Object")), Cond.methodLink RJx4a65c 118 yJ15_checkIndex_7cf53, Cond.static yJ15_checkIndex_7cf53, Cond.initialized RJ15, Cond.code yJ15_checkIndex_7cf53 cJ15_checkIndex_7cf53 2 (some .int)]
def wsX7_align_r2 : List Cond := [Cond.methodLink RJ15 105 yJ3_checkIndex_8e157, Cond.static yJ3_checkIndex_8e157, Cond.initialized RJ3, Cond.code yJ3_checkIndex_8e157 cJ3_checkIndex_8e157 3 (some .int), Cond.methodLink RJx4a65c 123 yJx4a65c_elementData_915e3, Cond.instanceMethod yJx4a65c_elementData_915e3, Cond.selects RJx4a65c yJx4a65c_elementData_915e3 yJx4a65c_elementData_915e3, Cond.code yJx4a65c_elementData_915e3 cJx4a65c_elementData_915e3 2 (some (.object "java/lang/Object")), Cond.fieldLink RJx4a65c 9 "java/util/ArrayList" "elementData" "[Ljava/lang/Object;", Cond.methodLink RX7 50 yX6_record, Cond.instanceMethod yX6_record, Cond.selects RX6 yX6_record yX6_record, Cond.initialized RX6, Cond.code yX6_record cX6_record 1 (some .boolean), Cond.fieldLink RX6 16 "LayoutDeskModel$Type" "kind" "I", Cond.methodLink RX7 126 yX7_lay, Cond.instanceMethod yX7_lay, Cond.selects RX7 yX7_lay yX7_lay, Cond.code yX7_lay cX7_lay 9 none, Cond.fieldLink RX7 88 "LayoutDeskModel" "members" "I", Cond.fieldLink RX7 91 "LayoutDeskModel" "reach" "I", Cond.fieldLink RX7 95 "LayoutDeskModel$Type" "added" "Ljava/util/ArrayList;", Cond.classLink RX7 98 "LayoutDeskModel$Added", Cond.fieldLink RX7 100 "LayoutDeskModel$Added" "type" "I"]
def wsX7_align_r3 : List Cond := [Cond.fieldLink RX7 103 "LayoutDeskModel$Added" "width" "I", Cond.fieldLink RX7 58 "LayoutDeskModel$Type" "kind" "I", Cond.fieldLink RX7 113 "LayoutDeskModel$Type" "size" "I", Cond.methodLink RX7 115 Lib.Math.max.name, Cond.static Lib.Math.max.name, Cond.initialized "java/lang/Math", Cond.code Lib.Math.max.name Lib.Math.max.code 2 (some .int), Cond.fieldLink RX7 120 "LayoutDeskModel$Added" "member" "Z", Cond.methodLink RX7 106 yX7_up, Cond.static yX7_up, Cond.code yX7_up cX7_up 2 (some .int), Cond.methodLink RX7 110 yX7_put, Cond.instanceMethod yX7_put, Cond.selects RX7 yX7_put yX7_put, Cond.code yX7_put cX7_put 5 none, Cond.fieldLink RX7 16 "LayoutDeskModel" "places" "[I", Cond.fieldLink RX7 20 "LayoutDeskModel" "kinds" "[I", Cond.fieldLink RX7 23 "LayoutDeskModel" "lows" "[I", Cond.fieldLink RX7 26 "LayoutDeskModel" "widths" "[I"]
def wsX7_align : List Cond := .code yX7_align cX7_align 3 (some .int) :: ((wsX7_align_r1 ++ (wsX7_align_r2 ++ wsX7_align_r3)) ++ wsX70 ++ wsX60 ++ wsJx4a65c0 ++ wsX50)
def wsX7_members_r1 : List Cond := [Cond.fieldLink RX7 10 "LayoutDeskModel" "types" "Ljava/util/ArrayList;", Cond.classLink RX7 29 "LayoutDeskModel$Type", Cond.fieldLink RX7 88 "LayoutDeskModel" "members" "I", Cond.methodLink RX7 42 yX7_there, Cond.instanceMethod yX7_there, Cond.selects RX7 yX7_there yX7_there, Cond.initialized RX7, Cond.code yX7_there cX7_there 2 (some .boolean), Cond.methodLink RX7 38 yJx4a65c_size_8abf5, Cond.instanceMethod yJx4a65c_size_8abf5, Cond.selects RJx4a65c yJx4a65c_size_8abf5 yJx4a65c_size_8abf5, Cond.initialized RJx4a65c, Cond.code yJx4a65c_size_8abf5 cJx4a65c_size_8abf5 1 (some .int), Cond.fieldLink RJx4a65c 48 "java/util/ArrayList" "size" "I", Cond.methodLink RX7 46 yJx4a65c_get_915e3, Cond.instanceMethod yJx4a65c_get_915e3, Cond.selects RJx4a65c yJx4a65c_get_915e3 yJx4a65c_get_915e3, Cond.code yJx4a65c_get_915e3 cJx4a65c_get_915e3 2 (some (.object "java/lang/Object")), Cond.methodLink RJx4a65c 118 yJ15_checkIndex_7cf53, Cond.static yJ15_checkIndex_7cf53, Cond.initialized RJ15, Cond.code yJ15_checkIndex_7cf53 cJ15_checkIndex_7cf53 2 (some .int), Cond.methodLink RJ15 105 yJ3_checkIndex_8e157, Cond.static yJ3_checkIndex_8e157]
def wsX7_members_r2 : List Cond := [Cond.initialized RJ3, Cond.code yJ3_checkIndex_8e157 cJ3_checkIndex_8e157 3 (some .int), Cond.methodLink RJx4a65c 123 yJx4a65c_elementData_915e3, Cond.instanceMethod yJx4a65c_elementData_915e3, Cond.selects RJx4a65c yJx4a65c_elementData_915e3 yJx4a65c_elementData_915e3, Cond.code yJx4a65c_elementData_915e3 cJx4a65c_elementData_915e3 2 (some (.object "java/lang/Object")), Cond.fieldLink RJx4a65c 9 "java/util/ArrayList" "elementData" "[Ljava/lang/Object;", Cond.methodLink RX7 50 yX6_record, Cond.instanceMethod yX6_record, Cond.selects RX6 yX6_record yX6_record, Cond.initialized RX6, Cond.code yX6_record cX6_record 1 (some .boolean), Cond.fieldLink RX6 16 "LayoutDeskModel$Type" "kind" "I", Cond.methodLink RX7 126 yX7_lay, Cond.instanceMethod yX7_lay, Cond.selects RX7 yX7_lay yX7_lay, Cond.code yX7_lay cX7_lay 9 none, Cond.fieldLink RX7 91 "LayoutDeskModel" "reach" "I", Cond.fieldLink RX7 94 "LayoutDeskModel" "align" "I", Cond.fieldLink RX7 95 "LayoutDeskModel$Type" "added" "Ljava/util/ArrayList;", Cond.classLink RX7 98 "LayoutDeskModel$Added", Cond.fieldLink RX7 100 "LayoutDeskModel$Added" "type" "I", Cond.fieldLink RX7 103 "LayoutDeskModel$Added" "width" "I", Cond.fieldLink RX7 58 "LayoutDeskModel$Type" "kind" "I"]
def wsX7_members_r3 : List Cond := [Cond.fieldLink RX7 85 "LayoutDeskModel$Type" "align" "I", Cond.fieldLink RX7 113 "LayoutDeskModel$Type" "size" "I", Cond.methodLink RX7 115 Lib.Math.max.name, Cond.static Lib.Math.max.name, Cond.initialized "java/lang/Math", Cond.code Lib.Math.max.name Lib.Math.max.code 2 (some .int), Cond.fieldLink RX7 120 "LayoutDeskModel$Added" "member" "Z", Cond.methodLink RX7 106 yX7_up, Cond.static yX7_up, Cond.code yX7_up cX7_up 2 (some .int), Cond.methodLink RX7 110 yX7_put, Cond.instanceMethod yX7_put, Cond.selects RX7 yX7_put yX7_put, Cond.code yX7_put cX7_put 5 none, Cond.fieldLink RX7 16 "LayoutDeskModel" "places" "[I", Cond.fieldLink RX7 20 "LayoutDeskModel" "kinds" "[I", Cond.fieldLink RX7 23 "LayoutDeskModel" "lows" "[I", Cond.fieldLink RX7 26 "LayoutDeskModel" "widths" "[I"]
def wsX7_members : List Cond := .code yX7_members cX7_members 2 (some .int) :: ((wsX7_members_r1 ++ (wsX7_members_r2 ++ wsX7_members_r3)) ++ wsX70 ++ wsJx4a65c0 ++ wsX60 ++ wsX50)
def wsX7_member_r1 : List Cond := [Cond.fieldLink RX7 16 "LayoutDeskModel" "places" "[I", Cond.fieldLink RX7 20 "LayoutDeskModel" "kinds" "[I", Cond.fieldLink RX7 23 "LayoutDeskModel" "lows" "[I", Cond.fieldLink RX7 26 "LayoutDeskModel" "widths" "[I", Cond.methodLink RX7 141 yX7_members, Cond.instanceMethod yX7_members, Cond.selects RX7 yX7_members yX7_members, Cond.initialized RX7, Cond.code yX7_members cX7_members 2 (some .int), Cond.fieldLink RX7 10 "LayoutDeskModel" "types" "Ljava/util/ArrayList;", Cond.classLink RX7 29 "LayoutDeskModel$Type", Cond.fieldLink RX7 88 "LayoutDeskModel" "members" "I", Cond.methodLink RX7 42 yX7_there, Cond.instanceMethod yX7_there, Cond.selects RX7 yX7_there yX7_there, Cond.code yX7_there cX7_there 2 (some .boolean), Cond.methodLink RX7 38 yJx4a65c_size_8abf5, Cond.instanceMethod yJx4a65c_size_8abf5, Cond.selects RJx4a65c yJx4a65c_size_8abf5 yJx4a65c_size_8abf5, Cond.initialized RJx4a65c, Cond.code yJx4a65c_size_8abf5 cJx4a65c_size_8abf5 1 (some .int), Cond.fieldLink RJx4a65c 48 "java/util/ArrayList" "size" "I", Cond.methodLink RX7 46 yJx4a65c_get_915e3, Cond.instanceMethod yJx4a65c_get_915e3]
def wsX7_member_r2 : List Cond := [Cond.selects RJx4a65c yJx4a65c_get_915e3 yJx4a65c_get_915e3, Cond.code yJx4a65c_get_915e3 cJx4a65c_get_915e3 2 (some (.object "java/lang/Object")), Cond.methodLink RJx4a65c 118 yJ15_checkIndex_7cf53, Cond.static yJ15_checkIndex_7cf53, Cond.initialized RJ15, Cond.code yJ15_checkIndex_7cf53 cJ15_checkIndex_7cf53 2 (some .int), Cond.methodLink RJ15 105 yJ3_checkIndex_8e157, Cond.static yJ3_checkIndex_8e157, Cond.initialized RJ3, Cond.code yJ3_checkIndex_8e157 cJ3_checkIndex_8e157 3 (some .int), Cond.methodLink RJx4a65c 123 yJx4a65c_elementData_915e3, Cond.instanceMethod yJx4a65c_elementData_915e3, Cond.selects RJx4a65c yJx4a65c_elementData_915e3 yJx4a65c_elementData_915e3, Cond.code yJx4a65c_elementData_915e3 cJx4a65c_elementData_915e3 2 (some (.object "java/lang/Object")), Cond.fieldLink RJx4a65c 9 "java/util/ArrayList" "elementData" "[Ljava/lang/Object;", Cond.methodLink RX7 50 yX6_record, Cond.instanceMethod yX6_record, Cond.selects RX6 yX6_record yX6_record, Cond.initialized RX6, Cond.code yX6_record cX6_record 1 (some .boolean), Cond.fieldLink RX6 16 "LayoutDeskModel$Type" "kind" "I", Cond.methodLink RX7 126 yX7_lay, Cond.instanceMethod yX7_lay, Cond.selects RX7 yX7_lay yX7_lay]
def wsX7_member_r3 : List Cond := [Cond.code yX7_lay cX7_lay 9 none, Cond.fieldLink RX7 91 "LayoutDeskModel" "reach" "I", Cond.fieldLink RX7 94 "LayoutDeskModel" "align" "I", Cond.fieldLink RX7 95 "LayoutDeskModel$Type" "added" "Ljava/util/ArrayList;", Cond.classLink RX7 98 "LayoutDeskModel$Added", Cond.fieldLink RX7 100 "LayoutDeskModel$Added" "type" "I", Cond.fieldLink RX7 103 "LayoutDeskModel$Added" "width" "I", Cond.fieldLink RX7 58 "LayoutDeskModel$Type" "kind" "I", Cond.fieldLink RX7 85 "LayoutDeskModel$Type" "align" "I", Cond.fieldLink RX7 113 "LayoutDeskModel$Type" "size" "I", Cond.methodLink RX7 115 Lib.Math.max.name, Cond.static Lib.Math.max.name, Cond.initialized "java/lang/Math", Cond.code Lib.Math.max.name Lib.Math.max.code 2 (some .int), Cond.fieldLink RX7 120 "LayoutDeskModel$Added" "member" "Z", Cond.methodLink RX7 106 yX7_up, Cond.static yX7_up, Cond.code yX7_up cX7_up 2 (some .int), Cond.methodLink RX7 110 yX7_put, Cond.instanceMethod yX7_put, Cond.selects RX7 yX7_put yX7_put, Cond.code yX7_put cX7_put 5 none]
def wsX7_member : List Cond := .code yX7_member cX7_member 4 (some .int) :: ((wsX7_member_r1 ++ (wsX7_member_r2 ++ wsX7_member_r3)) ++ wsX70 ++ wsJx4a65c0 ++ wsX60 ++ wsX50)
def wsJ9_max_7cf53 : List Cond := .code yJ9_max_7cf53 cJ9_max_7cf53 2 (some .int) :: ([])
def wsJ9_min_7cf53 : List Cond := .code yJ9_min_7cf53 cJ9_min_7cf53 2 (some .int) :: ([])
def wsL_law_r1 : List Cond := [Cond.classLink RL 7 RX4, Cond.instantiable RX4 1, Cond.initialized RX4, Cond.classLink RL 10 RX7, Cond.instantiable RX7 8, Cond.initialized RX7, Cond.methodLink RL 9 yX4_init, Cond.instanceMethod yX4_init, Cond.code yX4_init cX4_init 3 none, Cond.methodLink RX4 1 objectInit, Cond.instanceMethod objectInit, Cond.code objectInit ⟨#[0xb1]⟩ 1 none, Cond.classLink RX4 7 RJx4a65c, Cond.instantiable RJx4a65c 3, Cond.initialized RJx4a65c, Cond.fieldLink RX4 10 "LayoutDesk" "known" "Ljava/util/ArrayList;", Cond.fieldLink RX4 16 "LayoutDesk" "BASIC_BYTES" "[I", Cond.classLink RX4 20 RX2, Cond.instantiable RX2 5, Cond.initialized RX2, Cond.methodLink RX4 22 Lib.Math.min.name, Cond.static Lib.Math.min.name, Cond.initialized "java/lang/Math", Cond.code Lib.Math.min.name Lib.Math.min.code 2 (some .int)]
def wsL_law_r2 : List Cond := [Cond.methodLink RX4 9 yJx4a65c_init_da8c8, Cond.instanceMethod yJx4a65c_init_da8c8, Cond.code yJx4a65c_init_da8c8 cJx4a65c_init_da8c8 1 none, Cond.fieldLink RJx4a65c 39 "java/util/ArrayList" "DEFAULTCAPACITY_EMPTY_ELEMENTDATA" "[Ljava/lang/Object;", Cond.fieldLink RJx4a65c 9 "java/util/ArrayList" "elementData" "[Ljava/lang/Object;", Cond.methodLink RJx4a65c 1 yJxc12de_init_da8c8, Cond.instanceMethod yJxc12de_init_da8c8, Cond.initialized RJxc12de, Cond.code yJxc12de_init_da8c8 cJxc12de_init_da8c8 1 none, Cond.fieldLink RJxc12de 7 "java/util/AbstractList" "modCount" "I", Cond.methodLink RJxc12de 1 yJxa1e45_init_da8c8, Cond.instanceMethod yJxa1e45_init_da8c8, Cond.initialized RJxa1e45, Cond.code yJxa1e45_init_da8c8 cJxa1e45_init_da8c8 1 none, Cond.methodLink RJxa1e45 1 objectInit, Cond.methodLink RX4 28 yX2_init, Cond.instanceMethod yX2_init, Cond.code yX2_init cX2_init 6 none, Cond.fieldLink RX2 7 "LayoutDesk$Simple" "kind" "I", Cond.fieldLink RX2 13 "LayoutDesk$Simple" "base" "I", Cond.fieldLink RX2 16 "LayoutDesk$Simple" "length" "I", Cond.methodLink RX2 1 yX3_init, Cond.instanceMethod yX3_init, Cond.initialized RX3]
def wsL_law_r3 : List Cond := [Cond.code yX3_init cX3_init 3 none, Cond.methodLink RX3 1 objectInit, Cond.fieldLink RX3 7 "LayoutDesk$Type" "bytes" "I", Cond.fieldLink RX3 13 "LayoutDesk$Type" "alignment" "I", Cond.methodLink RX4 31 yJx4a65c_add_9ea2d, Cond.instanceMethod yJx4a65c_add_9ea2d, Cond.selects RJx4a65c yJx4a65c_add_9ea2d yJx4a65c_add_9ea2d, Cond.code yJx4a65c_add_9ea2d cJx4a65c_add_9ea2d 2 (some .boolean), Cond.fieldLink RJx4a65c 63 "java/util/ArrayList" "modCount" "I", Cond.sameField "java/util/ArrayList" "java/util/AbstractList" "modCount" "I", Cond.fieldLink RJx4a65c 48 "java/util/ArrayList" "size" "I", Cond.methodLink RJx4a65c 131 yJx4a65c_add_72be8, Cond.instanceMethod yJx4a65c_add_72be8, Cond.selects RJx4a65c yJx4a65c_add_72be8 yJx4a65c_add_72be8, Cond.code yJx4a65c_add_72be8 cJx4a65c_add_72be8 4 none, Cond.methodLink RJx4a65c 129 yJx4a65c_grow_d5877, Cond.instanceMethod yJx4a65c_grow_d5877, Cond.selects RJx4a65c yJx4a65c_grow_d5877 yJx4a65c_grow_d5877, Cond.code yJx4a65c_grow_d5877 cJx4a65c_grow_d5877 1 (some (.array (.object "java/lang/Object"))), Cond.methodLink RJx4a65c 69 yJx4a65c_grow_92f84, Cond.instanceMethod yJx4a65c_grow_92f84, Cond.selects RJx4a65c yJx4a65c_grow_92f84 yJx4a65c_grow_92f84, Cond.code yJx4a65c_grow_92f84 cJx4a65c_grow_92f84 4 (some (.array (.object "java/lang/Object"))), Cond.methodLink RJx4a65c 79 Lib.Math.max.name]
def wsL_law_r4 : List Cond := [Cond.static Lib.Math.max.name, Cond.code Lib.Math.max.name Lib.Math.max.code 2 (some .int), Cond.classLink RJx4a65c 7 "java/lang/Object", Cond.methodLink RJx4a65c 73 yJ8_newLength_cabcc, Cond.static yJ8_newLength_cabcc, Cond.initialized RJ8, Cond.code yJ8_newLength_cabcc cJ8_newLength_cabcc 4 (some .int), Cond.methodLink RJ8 194 Lib.Math.max.name, Cond.constant RJ8 200 (2147483639), Cond.methodLink RJ8 201 yJ8_hugeLength_7cf53, Cond.static yJ8_hugeLength_7cf53, Cond.code yJ8_hugeLength_7cf53 cJ8_hugeLength_7cf53 3 (some .int), Cond.methodLink RJx4a65c 66 yJ7_copyOf_1904c, Cond.static yJ7_copyOf_1904c, Cond.initialized RJ7, Cond.code yJ7_copyOf_1904c cJ7_copyOf_1904c 2 (some (.array (.object "java/lang/Object"))), Cond.methodLink RJ7 86 ⟨"java/lang/Object", "getClass", "()Ljava/lang/Class;"⟩, Cond.selects "[Ljava/lang/Object;" ⟨"java/lang/Object", "getClass", "()Ljava/lang/Class;"⟩ ⟨"java/lang/Object", "getClass", "()Ljava/lang/Class;"⟩, Cond.instanceMethod ⟨"java/lang/Object", "getClass", "()Ljava/lang/Class;"⟩, Cond.native ⟨"java/lang/Object", "getClass", "()Ljava/lang/Class;"⟩, Cond.methodLink RJ7 300 yJ7_copyOf_6403c, Cond.static yJ7_copyOf_6403c, Cond.code yJ7_copyOf_6403c cJ7_copyOf_6403c 4 (some (.array (.object "java/lang/Object"))), Cond.classLink RJ7 110 "[Ljava/lang/Object;"]
def wsL_law_r5 : List Cond := [Cond.classLink RJ7 2 "java/lang/Object", Cond.methodLink RJ7 304 Lib.Math.min.name, Cond.methodLink RJ7 150 arraycopyName, Cond.native arraycopyName, Cond.static arraycopyName, Cond.initialized "java/lang/System", Cond.methodLink RL 12 yX7_init, Cond.instanceMethod yX7_init, Cond.code yX7_init cX7_init 3 none, Cond.methodLink RX7 1 objectInit, Cond.classLink RX7 7 RJx4a65c, Cond.fieldLink RX7 10 "LayoutDeskModel" "types" "Ljava/util/ArrayList;", Cond.arrayClass .int, Cond.fieldLink RX7 16 "LayoutDeskModel" "places" "[I", Cond.fieldLink RX7 20 "LayoutDeskModel" "kinds" "[I", Cond.fieldLink RX7 23 "LayoutDeskModel" "lows" "[I", Cond.fieldLink RX7 26 "LayoutDeskModel" "widths" "[I", Cond.classLink RX7 29 RX6, Cond.instantiable RX6 7, Cond.initialized RX6, Cond.methodLink RX7 9 yJx4a65c_init_da8c8, Cond.methodLink RX7 31 yX6_init, Cond.instanceMethod yX6_init, Cond.code yX6_init cX6_init 5 none]
def wsL_law_r6 : List Cond := [Cond.methodLink RX6 1 objectInit, Cond.classLink RX6 7 RJx4a65c, Cond.fieldLink RX6 10 "LayoutDeskModel$Type" "added" "Ljava/util/ArrayList;", Cond.fieldLink RX6 16 "LayoutDeskModel$Type" "kind" "I", Cond.fieldLink RX6 20 "LayoutDeskModel$Type" "to" "I", Cond.fieldLink RX6 23 "LayoutDeskModel$Type" "length" "I", Cond.fieldLink RX6 26 "LayoutDeskModel$Type" "size" "I", Cond.methodLink RX6 29 Lib.Math.min.name, Cond.fieldLink RX6 35 "LayoutDeskModel$Type" "align" "I", Cond.methodLink RX6 9 yJx4a65c_init_da8c8, Cond.methodLink RX7 34 yJx4a65c_add_9ea2d, Cond.methodLink RL 13 yX4_pointer, Cond.instanceMethod yX4_pointer, Cond.selects RX4 yX4_pointer yX4_pointer, Cond.code yX4_pointer cX4_pointer 3 (some .int), Cond.methodLink RX4 35 yX4_typeAt, Cond.instanceMethod yX4_typeAt, Cond.selects RX4 yX4_typeAt yX4_typeAt, Cond.code yX4_typeAt cX4_typeAt 2 (some (.object "LayoutDesk$Type")), Cond.classLink RX4 53 "LayoutDesk$Type", Cond.methodLink RX4 128 yJx4a65c_size_8abf5, Cond.instanceMethod yJx4a65c_size_8abf5, Cond.selects RJx4a65c yJx4a65c_size_8abf5 yJx4a65c_size_8abf5, Cond.code yJx4a65c_size_8abf5 cJx4a65c_size_8abf5 1 (some .int)]
def wsL_law_r7 : List Cond := [Cond.methodLink RX4 135 yJx4a65c_get_915e3, Cond.instanceMethod yJx4a65c_get_915e3, Cond.selects RJx4a65c yJx4a65c_get_915e3 yJx4a65c_get_915e3, Cond.code yJx4a65c_get_915e3 cJx4a65c_get_915e3 2 (some (.object "java/lang/Object")), Cond.methodLink RJx4a65c 118 yJ15_checkIndex_7cf53, Cond.static yJ15_checkIndex_7cf53, Cond.initialized RJ15, Cond.code yJ15_checkIndex_7cf53 cJ15_checkIndex_7cf53 2 (some .int), Cond.methodLink RJ15 105 yJ3_checkIndex_8e157, Cond.static yJ3_checkIndex_8e157, Cond.initialized RJ3, Cond.code yJ3_checkIndex_8e157 cJ3_checkIndex_8e157 3 (some .int), Cond.methodLink RJx4a65c 123 yJx4a65c_elementData_915e3, Cond.instanceMethod yJx4a65c_elementData_915e3, Cond.selects RJx4a65c yJx4a65c_elementData_915e3 yJx4a65c_elementData_915e3, Cond.code yJx4a65c_elementData_915e3 cJx4a65c_elementData_915e3 2 (some (.object "java/lang/Object")), Cond.methodLink RX4 39 yX4_find, Cond.instanceMethod yX4_find, Cond.selects RX4 yX4_find yX4_find, Cond.code yX4_find cX4_find 7 (some .int), Cond.classLink RX4 20 "LayoutDesk$Simple", Cond.methodLink RX4 151 yX2_isMadeFrom, Cond.instanceMethod yX2_isMadeFrom, Cond.selects RX2 yX2_isMadeFrom yX2_isMadeFrom]
def wsL_law_r8 : List Cond := [Cond.code yX2_isMadeFrom cX2_isMadeFrom 4 (some .boolean), Cond.methodLink RX4 43 yX4_isFull, Cond.instanceMethod yX4_isFull, Cond.selects RX4 yX4_isFull yX4_isFull, Cond.code yX4_isFull cX4_isFull 1 (some .boolean), Cond.methodLink RX4 47 yX4_enter, Cond.instanceMethod yX4_enter, Cond.selects RX4 yX4_enter yX4_enter, Cond.code yX4_enter cX4_enter 2 (some .int), Cond.methodLink RL 17 yX7_pointer, Cond.instanceMethod yX7_pointer, Cond.selects RX7 yX7_pointer yX7_pointer, Cond.code yX7_pointer cX7_pointer 3 (some .int), Cond.methodLink RX7 42 yX7_there, Cond.instanceMethod yX7_there, Cond.selects RX7 yX7_there yX7_there, Cond.code yX7_there cX7_there 2 (some .boolean), Cond.methodLink RX7 38 yJx4a65c_size_8abf5, Cond.methodLink RX7 68 yX7_known, Cond.instanceMethod yX7_known, Cond.selects RX7 yX7_known yX7_known, Cond.code yX7_known cX7_known 6 (some .int), Cond.classLink RX7 29 "LayoutDeskModel$Type", Cond.fieldLink RX7 58 "LayoutDeskModel$Type" "kind" "I"]
def wsL_law_r9 : List Cond := [Cond.fieldLink RX7 62 "LayoutDeskModel$Type" "to" "I", Cond.fieldLink RX7 65 "LayoutDeskModel$Type" "length" "I", Cond.methodLink RX7 46 yJx4a65c_get_915e3, Cond.methodLink RX7 72 yX7_made, Cond.instanceMethod yX7_made, Cond.selects RX7 yX7_made yX7_made, Cond.code yX7_made cX7_made 2 (some .int), Cond.methodLink RL 18 yX4_array, Cond.instanceMethod yX4_array, Cond.selects RX4 yX4_array yX4_array, Cond.code yX4_array cX4_array 7 (some .int), Cond.constant RX4 51 (524288), Cond.fieldLink RX4 52 "LayoutDesk$Type" "bytes" "I", Cond.constantLong RX4 58 (524288), Cond.fieldLink RX4 60 "LayoutDesk$Type" "alignment" "I", Cond.methodLink RL 22 yX7_array, Cond.instanceMethod yX7_array, Cond.selects RX7 yX7_array yX7_array, Cond.code yX7_array cX7_array 5 (some .int), Cond.constant RX7 76 (524288), Cond.constantLong RX7 83 (524288), Cond.fieldLink RX7 85 "LayoutDeskModel$Type" "align" "I", Cond.methodLink RX7 77 yX7_sized, Cond.instanceMethod yX7_sized]
def wsL_law_r10 : List Cond := [Cond.selects RX7 yX7_sized yX7_sized, Cond.code yX7_sized cX7_sized 2 (some .boolean), Cond.fieldLink RX7 54 "LayoutDeskModel$Type" "finished" "Z", Cond.methodLink RX7 50 yX6_record, Cond.instanceMethod yX6_record, Cond.selects RX6 yX6_record yX6_record, Cond.code yX6_record cX6_record 1 (some .boolean), Cond.methodLink RX7 80 yX7_size, Cond.instanceMethod yX7_size, Cond.selects RX7 yX7_size yX7_size, Cond.code yX7_size cX7_size 2 (some .int), Cond.fieldLink RX7 113 "LayoutDeskModel$Type" "size" "I", Cond.methodLink RL 23 yX4_record, Cond.instanceMethod yX4_record, Cond.selects RX4 yX4_record yX4_record, Cond.code yX4_record cX4_record 2 (some .int), Cond.classLink RX4 63 RX0, Cond.instantiable RX0 8, Cond.initialized RX0, Cond.methodLink RX4 65 yX0_init, Cond.instanceMethod yX0_init, Cond.code yX0_init cX0_init 2 none, Cond.fieldLink RX0 9 "LayoutDesk$Compound" "overlaid" "Z", Cond.classLink RX0 15 RJx4a65c]
def wsL_law_r11 : List Cond := [Cond.fieldLink RX0 20 "LayoutDesk$Compound" "members" "Ljava/util/ArrayList;", Cond.fieldLink RX0 24 "LayoutDesk$Compound" "open" "Z", Cond.methodLink RX0 3 yX3_init, Cond.methodLink RX0 17 yJx4a65c_init_da8c8, Cond.methodLink RL 26 yX7_record, Cond.instanceMethod yX7_record, Cond.selects RX7 yX7_record yX7_record, Cond.code yX7_record cX7_record 2 (some .int), Cond.methodLink RL 27 yX4_field, Cond.instanceMethod yX4_field, Cond.selects RX4 yX4_field yX4_field, Cond.code yX4_field cX4_field 6 (some .int), Cond.classLink RX4 86 RX1, Cond.instantiable RX1 4, Cond.initialized RX1, Cond.methodLink RX4 68 yX4_openRecordAt, Cond.instanceMethod yX4_openRecordAt, Cond.selects RX4 yX4_openRecordAt yX4_openRecordAt, Cond.code yX4_openRecordAt cX4_openRecordAt 3 (some (.object "LayoutDesk$Compound")), Cond.methodLink RX4 132 yX4_recordAt, Cond.instanceMethod yX4_recordAt, Cond.selects RX4 yX4_recordAt yX4_recordAt, Cond.code yX4_recordAt cX4_recordAt 4 (some (.object "LayoutDesk$Compound")), Cond.classLink RX4 63 "LayoutDesk$Compound"]
def wsL_law_r12 : List Cond := [Cond.methodLink RX4 72 yX0_hasAllMembers, Cond.instanceMethod yX0_hasAllMembers, Cond.selects RX0 yX0_hasAllMembers yX0_hasAllMembers, Cond.code yX0_hasAllMembers cX0_hasAllMembers 1 (some .boolean), Cond.methodLink RX0 27 yJx4a65c_size_8abf5, Cond.methodLink RX4 75 yX0_placeFor, Cond.instanceMethod yX0_placeFor, Cond.selects RX0 yX0_placeFor yX0_placeFor, Cond.code yX0_placeFor cX0_placeFor 2 (some .int), Cond.fieldLink RX0 35 "LayoutDesk$Compound" "reach" "I", Cond.static yX4_roundUp, Cond.code yX4_roundUp cX4_roundUp 3 (some .int), Cond.methodLink RX4 79 yX0_endUnit, Cond.instanceMethod yX0_endUnit, Cond.selects RX0 yX0_endUnit yX0_endUnit, Cond.code yX0_endUnit cX0_endUnit 1 none, Cond.fieldLink RX0 51 "LayoutDesk$Compound" "freeBits" "I", Cond.methodLink RX4 82 yX0_occupy, Cond.instanceMethod yX0_occupy, Cond.selects RX0 yX0_occupy yX0_occupy, Cond.code yX0_occupy cX0_occupy 4 none, Cond.methodLink RX0 43 Lib.Math.max.name, Cond.fieldLink RX0 48 "LayoutDesk$Compound" "alignment" "I", Cond.sameField "LayoutDesk$Compound" "LayoutDesk$Type" "alignment" "I"]
def wsL_law_r13 : List Cond := [Cond.methodLink RX4 88 yX1_init, Cond.instanceMethod yX1_init, Cond.code yX1_init cX1_init 5 none, Cond.methodLink RX1 1 objectInit, Cond.fieldLink RX1 7 "LayoutDesk$Member" "place" "I", Cond.fieldLink RX1 13 "LayoutDesk$Member" "type" "I", Cond.fieldLink RX1 16 "LayoutDesk$Member" "lowestBit" "I", Cond.fieldLink RX1 19 "LayoutDesk$Member" "width" "I", Cond.methodLink RX4 91 yX0_enter, Cond.instanceMethod yX0_enter, Cond.selects RX0 yX0_enter yX0_enter, Cond.code yX0_enter cX0_enter 2 (some .int), Cond.methodLink RX0 31 yJx4a65c_add_9ea2d, Cond.methodLink RL 30 yX7_field, Cond.instanceMethod yX7_field, Cond.selects RX7 yX7_field yX7_field, Cond.code yX7_field cX7_field 4 (some .int), Cond.fieldLink RX7 88 "LayoutDeskModel" "members" "I", Cond.methodLink RX7 133 yX7_open, Cond.instanceMethod yX7_open, Cond.selects RX7 yX7_open yX7_open, Cond.code yX7_open cX7_open 3 (some (.object "LayoutDeskModel$Type")), Cond.methodLink RX7 126 yX7_lay, Cond.instanceMethod yX7_lay]
def wsL_law_r14 : List Cond := [Cond.selects RX7 yX7_lay yX7_lay, Cond.code yX7_lay cX7_lay 9 none, Cond.fieldLink RX7 91 "LayoutDeskModel" "reach" "I", Cond.fieldLink RX7 94 "LayoutDeskModel" "align" "I", Cond.fieldLink RX7 95 "LayoutDeskModel$Type" "added" "Ljava/util/ArrayList;", Cond.classLink RX7 98 "LayoutDeskModel$Added", Cond.fieldLink RX7 100 "LayoutDeskModel$Added" "type" "I", Cond.fieldLink RX7 103 "LayoutDeskModel$Added" "width" "I", Cond.methodLink RX7 115 Lib.Math.max.name, Cond.fieldLink RX7 120 "LayoutDeskModel$Added" "member" "Z", Cond.methodLink RX7 106 yX7_up, Cond.static yX7_up, Cond.code yX7_up cX7_up 2 (some .int), Cond.methodLink RX7 110 yX7_put, Cond.instanceMethod yX7_put, Cond.selects RX7 yX7_put yX7_put, Cond.code yX7_put cX7_put 5 none, Cond.methodLink RX7 137 yX7_tried, Cond.instanceMethod yX7_tried, Cond.selects RX7 yX7_tried yX7_tried, Cond.code yX7_tried cX7_tried 6 (some .int), Cond.classLink RX7 98 RX5, Cond.instantiable RX5 3, Cond.initialized RX5]
def wsL_law_r15 : List Cond := [Cond.methodLink RX7 123 yX5_init, Cond.instanceMethod yX5_init, Cond.code yX5_init cX5_init 4 none, Cond.methodLink RX5 1 objectInit, Cond.fieldLink RX5 7 "LayoutDeskModel$Added" "type" "I", Cond.fieldLink RX5 13 "LayoutDeskModel$Added" "width" "I", Cond.fieldLink RX5 16 "LayoutDeskModel$Added" "member" "Z", Cond.methodLink RX7 130 yJx4a65c_remove_915e3, Cond.instanceMethod yJx4a65c_remove_915e3, Cond.selects RJx4a65c yJx4a65c_remove_915e3 yJx4a65c_remove_915e3, Cond.code yJx4a65c_remove_915e3 cJx4a65c_remove_915e3 4 (some (.object "java/lang/Object")), Cond.methodLink RJx4a65c 144 yJx4a65c_fastRemove_b59b0, Cond.instanceMethod yJx4a65c_fastRemove_b59b0, Cond.selects RJx4a65c yJx4a65c_fastRemove_b59b0 yJx4a65c_fastRemove_b59b0, Cond.code yJx4a65c_fastRemove_b59b0 cJx4a65c_fastRemove_b59b0 4 none, Cond.methodLink RJx4a65c 112 arraycopyName, Cond.methodLink RL 31 yX4_bits, Cond.instanceMethod yX4_bits, Cond.selects RX4 yX4_bits yX4_bits, Cond.code yX4_bits cX4_bits 7 (some .int), Cond.methodLink RX4 94 yX4_isBitFieldType, Cond.static yX4_isBitFieldType, Cond.code yX4_isBitFieldType cX4_isBitFieldType 1 (some .boolean), Cond.methodLink RX4 101 yX0_beginUnit]
def wsL_law_r16 : List Cond := [Cond.instanceMethod yX0_beginUnit, Cond.selects RX0 yX0_beginUnit yX0_beginUnit, Cond.code yX0_beginUnit cX0_beginUnit 2 (some .boolean), Cond.constant RX0 58 (524288), Cond.fieldLink RX0 63 "LayoutDesk$Compound" "unitPlace" "I", Cond.methodLink RX0 54 yX0_placeFor, Cond.methodLink RX0 59 yX0_occupy, Cond.methodLink RX4 104 yX0_takeBits, Cond.instanceMethod yX0_takeBits, Cond.selects RX0 yX0_takeBits yX0_takeBits, Cond.code yX0_takeBits cX0_takeBits 3 (some .int), Cond.methodLink RL 35 yX7_bits, Cond.instanceMethod yX7_bits, Cond.selects RX7 yX7_bits yX7_bits, Cond.code yX7_bits cX7_bits 6 (some .int), Cond.methodLink RL 36 yX4_separate, Cond.instanceMethod yX4_separate, Cond.selects RX4 yX4_separate yX4_separate, Cond.code yX4_separate cX4_separate 3 (some .boolean), Cond.methodLink RL 40 yX7_separate, Cond.instanceMethod yX7_separate, Cond.selects RX7 yX7_separate yX7_separate, Cond.code yX7_separate cX7_separate 3 (some .boolean), Cond.methodLink RL 41 yX4_finish]
def wsL_law_r17 : List Cond := [Cond.instanceMethod yX4_finish, Cond.selects RX4 yX4_finish yX4_finish, Cond.code yX4_finish cX4_finish 4 (some .int), Cond.fieldLink RX4 119 "LayoutDesk$Compound" "alignment" "I", Cond.fieldLink RX4 123 "LayoutDesk$Compound" "bytes" "I", Cond.sameField "LayoutDesk$Compound" "LayoutDesk$Type" "bytes" "I", Cond.methodLink RX4 113 yJx4a65c_isEmpty_aae02, Cond.instanceMethod yJx4a65c_isEmpty_aae02, Cond.selects RJx4a65c yJx4a65c_isEmpty_aae02 yJx4a65c_isEmpty_aae02, Cond.code yJx4a65c_isEmpty_aae02 cJx4a65c_isEmpty_aae02 1 (some .boolean), Cond.methodLink RX4 120 yX4_roundUp, Cond.methodLink RL 44 yX7_finish, Cond.instanceMethod yX7_finish, Cond.selects RX7 yX7_finish yX7_finish, Cond.code yX7_finish cX7_finish 3 (some .int), Cond.methodLink RL 45 yX4_types, Cond.instanceMethod yX4_types, Cond.selects RX4 yX4_types yX4_types, Cond.code yX4_types cX4_types 1 (some .int), Cond.methodLink RL 49 yX7_types, Cond.instanceMethod yX7_types, Cond.selects RX7 yX7_types yX7_types, Cond.code yX7_types cX7_types 1 (some .int), Cond.methodLink RL 50 yX4_size]
def wsL_law_r18 : List Cond := [Cond.instanceMethod yX4_size, Cond.selects RX4 yX4_size yX4_size, Cond.code yX4_size cX4_size 3 (some .int), Cond.methodLink RL 53 yX7_size, Cond.methodLink RL 54 yX4_align, Cond.instanceMethod yX4_align, Cond.selects RX4 yX4_align yX4_align, Cond.code yX4_align cX4_align 3 (some .int), Cond.methodLink RL 57 yX7_align, Cond.instanceMethod yX7_align, Cond.selects RX7 yX7_align yX7_align, Cond.code yX7_align cX7_align 3 (some .int), Cond.methodLink RL 58 yX4_members, Cond.instanceMethod yX4_members, Cond.selects RX4 yX4_members yX4_members, Cond.code yX4_members cX4_members 3 (some .int), Cond.methodLink RL 61 yX7_members, Cond.instanceMethod yX7_members, Cond.selects RX7 yX7_members yX7_members, Cond.code yX7_members cX7_members 2 (some .int), Cond.methodLink RL 62 yX4_member, Cond.instanceMethod yX4_member, Cond.selects RX4 yX4_member yX4_member, Cond.code yX4_member cX4_member 6 (some .int)]
def wsL_law_r19 : List Cond := [Cond.classLink RX4 86 "LayoutDesk$Member", Cond.methodLink RL 66 yX7_member, Cond.instanceMethod yX7_member, Cond.selects RX7 yX7_member yX7_member, Cond.code yX7_member cX7_member 4 (some .int), Cond.methodLink RX7 141 yX7_members]
def wsL_law : List Cond := (wsL_law_r1 ++ (wsL_law_r2 ++ (wsL_law_r3 ++ (wsL_law_r4 ++ (wsL_law_r5 ++ (wsL_law_r6 ++ (wsL_law_r7 ++ (wsL_law_r8 ++ (wsL_law_r9 ++ (wsL_law_r10 ++ (wsL_law_r11 ++ (wsL_law_r12 ++ (wsL_law_r13 ++ (wsL_law_r14 ++ (wsL_law_r15 ++ (wsL_law_r16 ++ (wsL_law_r17 ++ (wsL_law_r18 ++ wsL_law_r19)))))))))))))))))) ++ wsX40 ++ wsX70 ++ wsJx4a65c0 ++ wsX20 ++ wsX00 ++ wsX60 ++ wsX10 ++ wsX50 ++ ([] : List Cond)
abbrev vwCl : List vw_C := [(RJx4a65c, TJx4a65c, 3), (RX0, TX0, 8), (RX1, TX1, 4), (RX2, TX2, 5), (RX4, TX4, 1), (RX5, TX5, 3), (RX6, TX6, 7), (RX7, TX7, 8)]
end
section
set_option maxRecDepth 20000 in
theorem wsL_law_r1_in : ∀ w ∈ wsL_law_r1, w ∈ lw_tbl := fun w h => (goodIn_p wsL_law_r1 [40, 43, 76] (by decide +kernel) (by decide +kernel) w h).1
set_option maxRecDepth 20000 in
theorem wsL_law_r2_in : ∀ w ∈ wsL_law_r2, w ∈ lw_tbl := fun w h => (goodIn_p wsL_law_r2 [48, 51, 54, 79] (by decide +kernel) (by decide +kernel) w h).1
set_option maxRecDepth 20000 in
theorem wsL_law_r3_in : ∀ w ∈ wsL_law_r3, w ∈ lw_tbl := fun w h => (goodIn_p wsL_law_r3 [82, 110, 114, 118, 122] (by decide +kernel) (by decide +kernel) w h).1
set_option maxRecDepth 20000 in
theorem wsL_law_r4_in : ∀ w ∈ wsL_law_r4, w ∈ lw_tbl := fun w h => (goodIn_p wsL_law_r4 [128, 125, 132, 135, 150] (by decide +kernel) (by decide +kernel) w h).1
set_option maxRecDepth 20000 in
theorem wsL_law_r5_in : ∀ w ∈ wsL_law_r5, w ∈ lw_tbl := fun w h => (goodIn_p wsL_law_r5 [367, 375] (by decide +kernel) (by decide +kernel) w h).1
set_option maxRecDepth 20000 in
theorem wsL_law_r6_in : ∀ w ∈ wsL_law_r6, w ∈ lw_tbl := fun w h => (goodIn_p wsL_law_r6 [167, 171, 175] (by decide +kernel) (by decide +kernel) w h).1
set_option maxRecDepth 20000 in
theorem wsL_law_r7_in : ∀ w ∈ wsL_law_r7, w ∈ lw_tbl := fun w h => (goodIn_p wsL_law_r7 [179, 182, 185, 189, 194] (by decide +kernel) (by decide +kernel) w h).1
set_option maxRecDepth 20000 in
theorem wsL_law_r8_in : ∀ w ∈ wsL_law_r8, w ∈ lw_tbl := fun w h => (goodIn_p wsL_law_r8 [198, 202, 206, 438, 442, 447] (by decide +kernel) (by decide +kernel) w h).1
set_option maxRecDepth 20000 in
theorem wsL_law_r9_in : ∀ w ∈ wsL_law_r9, w ∈ lw_tbl := fun w h => (goodIn_p wsL_law_r9 [452, 210, 456] (by decide +kernel) (by decide +kernel) w h).1
set_option maxRecDepth 20000 in
theorem wsL_law_r10_in : ∀ w ∈ wsL_law_r10, w ∈ lw_tbl := fun w h => (goodIn_p wsL_law_r10 [461, 465, 469, 216, 221] (by decide +kernel) (by decide +kernel) w h).1
set_option maxRecDepth 20000 in
theorem wsL_law_r11_in : ∀ w ∈ wsL_law_r11, w ∈ lw_tbl := fun w h => (goodIn_p wsL_law_r11 [474, 254, 258, 262] (by decide +kernel) (by decide +kernel) w h).1
set_option maxRecDepth 20000 in
theorem wsL_law_r12_in : ∀ w ∈ wsL_law_r12, w ∈ lw_tbl := fun w h => (goodIn_p wsL_law_r12 [266, 271, 274, 278, 282] (by decide +kernel) (by decide +kernel) w h).1
set_option maxRecDepth 20000 in
theorem wsL_law_r13_in : ∀ w ∈ wsL_law_r13, w ∈ lw_tbl := fun w h => (goodIn_p wsL_law_r13 [288, 310, 478, 482] (by decide +kernel) (by decide +kernel) w h).1
set_option maxRecDepth 20000 in
theorem wsL_law_r14_in : ∀ w ∈ wsL_law_r14, w ∈ lw_tbl := fun w h => (goodIn_p wsL_law_r14 [486, 490, 494, 499] (by decide +kernel) (by decide +kernel) w h).1
set_option maxRecDepth 20000 in
theorem wsL_law_r15_in : ∀ w ∈ wsL_law_r15, w ∈ lw_tbl := fun w h => (goodIn_p wsL_law_r15 [503, 521, 525, 315, 318] (by decide +kernel) (by decide +kernel) w h).1
set_option maxRecDepth 20000 in
theorem wsL_law_r16_in : ∀ w ∈ wsL_law_r16, w ∈ lw_tbl := fun w h => (goodIn_p wsL_law_r16 [322, 329, 530, 333, 534] (by decide +kernel) (by decide +kernel) w h).1
set_option maxRecDepth 20000 in
theorem wsL_law_r17_in : ∀ w ∈ wsL_law_r17, w ∈ lw_tbl := fun w h => (goodIn_p wsL_law_r17 [337, 341, 538, 346, 542] (by decide +kernel) (by decide +kernel) w h).1
set_option maxRecDepth 20000 in
theorem wsL_law_r18_in : ∀ w ∈ wsL_law_r18, w ∈ lw_tbl := fun w h => (goodIn_p wsL_law_r18 [350, 354, 547, 358, 551, 362] (by decide +kernel) (by decide +kernel) w h).1
set_option maxRecDepth 20000 in
theorem wsL_law_r19_in : ∀ w ∈ wsL_law_r19, w ∈ lw_tbl := fun w h => (goodIn_p wsL_law_r19 [555] (by decide +kernel) (by decide +kernel) w h).1
theorem wsX40_inL : ∀ w ∈ wsX40, w ∈ lw_tbl := by decide +kernel
theorem wsX70_inL : ∀ w ∈ wsX70, w ∈ lw_tbl := by decide +kernel
theorem wsJx4a65c0_inL : ∀ w ∈ wsJx4a65c0, w ∈ lw_tbl := by decide +kernel
theorem wsX20_inL : ∀ w ∈ wsX20, w ∈ lw_tbl := by decide +kernel
theorem wsX00_inL : ∀ w ∈ wsX00, w ∈ lw_tbl := by decide +kernel
theorem wsX60_inL : ∀ w ∈ wsX60, w ∈ lw_tbl := by decide +kernel
theorem wsX10_inL : ∀ w ∈ wsX10, w ∈ lw_tbl := by decide +kernel
theorem wsX50_inL : ∀ w ∈ wsX50, w ∈ lw_tbl := by decide +kernel
theorem wsL_law_in : ∀ w ∈ wsL_law, w ∈ lw_tbl := (List.forall_mem_append.mpr ⟨(List.forall_mem_append.mpr ⟨(List.forall_mem_append.mpr ⟨(List.forall_mem_append.mpr ⟨(List.forall_mem_append.mpr ⟨(List.forall_mem_append.mpr ⟨(List.forall_mem_append.mpr ⟨(List.forall_mem_append.mpr ⟨(List.forall_mem_append.mpr ⟨(List.forall_mem_append.mpr ⟨wsL_law_r1_in, List.forall_mem_append.mpr ⟨wsL_law_r2_in, List.forall_mem_append.mpr ⟨wsL_law_r3_in, List.forall_mem_append.mpr ⟨wsL_law_r4_in, List.forall_mem_append.mpr ⟨wsL_law_r5_in, List.forall_mem_append.mpr ⟨wsL_law_r6_in, List.forall_mem_append.mpr ⟨wsL_law_r7_in, List.forall_mem_append.mpr ⟨wsL_law_r8_in, List.forall_mem_append.mpr ⟨wsL_law_r9_in, List.forall_mem_append.mpr ⟨wsL_law_r10_in, List.forall_mem_append.mpr ⟨wsL_law_r11_in, List.forall_mem_append.mpr ⟨wsL_law_r12_in, List.forall_mem_append.mpr ⟨wsL_law_r13_in, List.forall_mem_append.mpr ⟨wsL_law_r14_in, List.forall_mem_append.mpr ⟨wsL_law_r15_in, List.forall_mem_append.mpr ⟨wsL_law_r16_in, List.forall_mem_append.mpr ⟨wsL_law_r17_in, List.forall_mem_append.mpr ⟨wsL_law_r18_in, wsL_law_r19_in⟩⟩⟩⟩⟩⟩⟩⟩⟩⟩⟩⟩⟩⟩⟩⟩⟩⟩), wsX40_inL⟩), wsX70_inL⟩), wsJx4a65c0_inL⟩), wsX20_inL⟩), wsX00_inL⟩), wsX60_inL⟩), wsX10_inL⟩), wsX50_inL⟩), fun _ h => absurd h List.not_mem_nil⟩)
theorem inlX0 : ∀ w ∈ wsX00, w ∈ wsL_law := fun _ h => List.mem_append_left _ (List.mem_append_left _ (List.mem_append_left _ (List.mem_append_left _ (List.mem_append_right _ h))))
theorem inX0 : ∀ w ∈ wsX00, w ∈ lw_tbl := fun w h => wsL_law_in w (inlX0 w h)
theorem inlX1 : ∀ w ∈ wsX10, w ∈ wsL_law := fun _ h => List.mem_append_left _ (List.mem_append_left _ (List.mem_append_right _ h))
theorem inX1 : ∀ w ∈ wsX10, w ∈ lw_tbl := fun w h => wsL_law_in w (inlX1 w h)
theorem inlX2 : ∀ w ∈ wsX20, w ∈ wsL_law := fun _ h => List.mem_append_left _ (List.mem_append_left _ (List.mem_append_left _ (List.mem_append_left _ (List.mem_append_left _ (List.mem_append_right _ h)))))
theorem inX2 : ∀ w ∈ wsX20, w ∈ lw_tbl := fun w h => wsL_law_in w (inlX2 w h)
theorem inX3 : ∀ w ∈ wsX30, w ∈ lw_tbl := by decide +kernel
theorem inlX4 : ∀ w ∈ wsX40, w ∈ wsL_law := fun _ h => List.mem_append_left _ (List.mem_append_left _ (List.mem_append_left _ (List.mem_append_left _ (List.mem_append_left _ (List.mem_append_left _ (List.mem_append_left _ (List.mem_append_left _ (List.mem_append_right _ h))))))))
theorem inX4 : ∀ w ∈ wsX40, w ∈ lw_tbl := fun w h => wsL_law_in w (inlX4 w h)
theorem inlX5 : ∀ w ∈ wsX50, w ∈ wsL_law := fun _ h => List.mem_append_left _ (List.mem_append_right _ h)
theorem inX5 : ∀ w ∈ wsX50, w ∈ lw_tbl := fun w h => wsL_law_in w (inlX5 w h)
theorem inlX6 : ∀ w ∈ wsX60, w ∈ wsL_law := fun _ h => List.mem_append_left _ (List.mem_append_left _ (List.mem_append_left _ (List.mem_append_right _ h)))
theorem inX6 : ∀ w ∈ wsX60, w ∈ lw_tbl := fun w h => wsL_law_in w (inlX6 w h)
theorem inlX7 : ∀ w ∈ wsX70, w ∈ wsL_law := fun _ h => List.mem_append_left _ (List.mem_append_left _ (List.mem_append_left _ (List.mem_append_left _ (List.mem_append_left _ (List.mem_append_left _ (List.mem_append_left _ (List.mem_append_right _ h)))))))
theorem inX7 : ∀ w ∈ wsX70, w ∈ lw_tbl := fun w h => wsL_law_in w (inlX7 w h)
theorem inJx145de : ∀ w ∈ wsJx145de0, w ∈ lw_tbl := by decide +kernel
theorem inJx8e188 : ∀ w ∈ wsJx8e1880, w ∈ lw_tbl := by decide +kernel
theorem inJxab1ab : ∀ w ∈ wsJxab1ab0, w ∈ lw_tbl := by decide +kernel
theorem inJ9 : ∀ w ∈ wsJ90, w ∈ lw_tbl := by decide +kernel
theorem inJ10 : ∀ w ∈ wsJ100, w ∈ lw_tbl := by decide +kernel
theorem inJxa1e45 : ∀ w ∈ wsJxa1e450, w ∈ lw_tbl := by decide +kernel
theorem inJxc12de : ∀ w ∈ wsJxc12de0, w ∈ lw_tbl := by decide +kernel
theorem inlJx4a65c : ∀ w ∈ wsJx4a65c0, w ∈ wsL_law := fun _ h => List.mem_append_left _ (List.mem_append_left _ (List.mem_append_left _ (List.mem_append_left _ (List.mem_append_left _ (List.mem_append_left _ (List.mem_append_right _ h))))))
theorem inJx4a65c : ∀ w ∈ wsJx4a65c0, w ∈ lw_tbl := fun w h => wsL_law_in w (inlJx4a65c w h)
theorem inJ7 : ∀ w ∈ wsJ70, w ∈ lw_tbl := by decide +kernel
theorem inJx5ef63 : ∀ w ∈ wsJx5ef630, w ∈ lw_tbl := by decide +kernel
theorem inJxbd725 : ∀ w ∈ wsJxbd7250, w ∈ lw_tbl := by decide +kernel
theorem inJ15 : ∀ w ∈ wsJ150, w ∈ lw_tbl := by decide +kernel
theorem inJxf0a74 : ∀ w ∈ wsJxf0a740, w ∈ lw_tbl := by decide +kernel
theorem inJxa66e6 : ∀ w ∈ wsJxa66e60, w ∈ lw_tbl := by decide +kernel
theorem inJ8 : ∀ w ∈ wsJ80, w ∈ lw_tbl := by decide +kernel
theorem inJ3 : ∀ w ∈ wsJ30, w ∈ lw_tbl := by decide +kernel
end
section
set_option maxRecDepth 20000 in
theorem ggX0_init_X3_init : GoodIn wsX0_init wsX3_init := goodIn_r _ [10, 11, 12, 13, 14, 15, 31, 32, 33, 34, 35, 36, 37, 38, 42, 43, 44, 45, 46] (by decide +kernel) (by decide +kernel)
set_option maxRecDepth 20000 in
theorem gX0_init_X3_init : GoodIn wsX0_init (wsX3_init) := ggX0_init_X3_init
set_option maxRecDepth 20000 in
theorem ggX0_init_Jx4a65c_init_da8c8 : GoodIn wsX0_init wsJx4a65c_init_da8c8 := goodIn_r _ [18, 19, 20, 21, 22, 23, 24, 25, 26, 27, 28, 29, 30, 12, 13, 39, 40, 41] (by decide +kernel) (by decide +kernel)
set_option maxRecDepth 20000 in
theorem gX0_init_Jx4a65c_init_da8c8 : GoodIn wsX0_init (wsJx4a65c_init_da8c8) := ggX0_init_Jx4a65c_init_da8c8
theorem dX0_init_0 : decode cX0_init 0 = .ok (.aload_n 0, 1) := by decide +kernel
theorem dX0_init_1 : decode cX0_init 1 = .ok (.iconst 0, 1) := by decide +kernel
theorem dX0_init_2 : decode cX0_init 2 = .ok (.iconst 0, 1) := by decide +kernel
theorem dX0_init_3 : decode cX0_init 3 = .ok (.invokespecial 3, 3) := by decide +kernel
theorem dX0_init_6 : decode cX0_init 6 = .ok (.aload_n 0, 1) := by decide +kernel
theorem dX0_init_7 : decode cX0_init 7 = .ok (.iload_n 1, 1) := by decide +kernel
theorem dX0_init_8 : decode cX0_init 8 = .ok (.putfield 9, 3) := by decide +kernel
theorem dX0_init_11 : decode cX0_init 11 = .ok (.aload_n 0, 1) := by decide +kernel
theorem dX0_init_12 : decode cX0_init 12 = .ok (.new 15, 3) := by decide +kernel
theorem dX0_init_15 : decode cX0_init 15 = .ok (.dup, 1) := by decide +kernel
theorem dX0_init_16 : decode cX0_init 16 = .ok (.invokespecial 17, 3) := by decide +kernel
theorem dX0_init_19 : decode cX0_init 19 = .ok (.putfield 20, 3) := by decide +kernel
theorem dX0_init_22 : decode cX0_init 22 = .ok (.aload_n 0, 1) := by decide +kernel
theorem dX0_init_23 : decode cX0_init 23 = .ok (.iconst 1, 1) := by decide +kernel
theorem dX0_init_24 : decode cX0_init 24 = .ok (.putfield 24, 3) := by decide +kernel
theorem dX0_init_27 : decode cX0_init 27 = .ok (.return_, 1) := by decide +kernel
set_option maxRecDepth 20000 in
theorem ggX0_hasAllMembers_Jx4a65c_size_8abf5 : GoodIn wsX0_hasAllMembers wsJx4a65c_size_8abf5 := goodIn_r _ [6, 7, 16, 17, 18] (by decide +kernel) (by decide +kernel)
set_option maxRecDepth 20000 in
theorem gX0_hasAllMembers_Jx4a65c_size_8abf5 : GoodIn wsX0_hasAllMembers (wsV RX0 27 RJx4a65c yJx4a65c_size_8abf5 wsJx4a65c_size_8abf5) := goodIn_app (goodIn_of _ (by decide +kernel)) ggX0_hasAllMembers_Jx4a65c_size_8abf5
theorem dX0_hasAllMembers_0 : decode cX0_hasAllMembers 0 = .ok (.aload_n 0, 1) := by decide +kernel
theorem dX0_hasAllMembers_1 : decode cX0_hasAllMembers 1 = .ok (.getfield 20, 3) := by decide +kernel
theorem dX0_hasAllMembers_4 : decode cX0_hasAllMembers 4 = .ok (.invokevirtual 27, 3) := by decide +kernel
theorem dX0_hasAllMembers_7 : decode cX0_hasAllMembers 7 = .ok (.bipush 100, 2) := by decide +kernel
theorem dX0_hasAllMembers_9 : decode cX0_hasAllMembers 9 = .ok (.if_icmp .lt 7, 3) := by decide +kernel
theorem dX0_hasAllMembers_12 : decode cX0_hasAllMembers 12 = .ok (.iconst 1, 1) := by decide +kernel
theorem dX0_hasAllMembers_13 : decode cX0_hasAllMembers 13 = .ok (.goto 4, 3) := by decide +kernel
theorem dX0_hasAllMembers_16 : decode cX0_hasAllMembers 16 = .ok (.iconst 0, 1) := by decide +kernel
theorem dX0_hasAllMembers_17 : decode cX0_hasAllMembers 17 = .ok (.ireturn, 1) := by decide +kernel
set_option maxRecDepth 20000 in
theorem ggX0_enter_Jx4a65c_add_9ea2d : GoodIn wsX0_enter wsJx4a65c_add_9ea2d := goodIn_r _ [6, 7, 8, 9, 10, 11, 12, 13, 5, 14, 15, 16, 17, 18, 19, 20, 21, 22, 23, 24, 25, 26, 27, 28, 29, 30, 31, 32, 33, 34, 35, 36, 37, 38, 39, 40, 41, 42, 43, 44, 45, 46, 47, 48, 49, 50, 51, 52, 53, 54, 55, 56, 57, 70, 71, 72] (by decide +kernel) (by decide +kernel)
set_option maxRecDepth 20000 in
theorem gX0_enter_Jx4a65c_add_9ea2d : GoodIn wsX0_enter (wsV RX0 31 RJx4a65c yJx4a65c_add_9ea2d wsJx4a65c_add_9ea2d) := goodIn_app (goodIn_of _ (by decide +kernel)) ggX0_enter_Jx4a65c_add_9ea2d
set_option maxRecDepth 20000 in
theorem ggX0_enter_Jx4a65c_size_8abf5 : GoodIn wsX0_enter wsJx4a65c_size_8abf5 := goodIn_r _ [61, 10, 70, 71, 72] (by decide +kernel) (by decide +kernel)
set_option maxRecDepth 20000 in
theorem gX0_enter_Jx4a65c_size_8abf5 : GoodIn wsX0_enter (wsV RX0 27 RJx4a65c yJx4a65c_size_8abf5 wsJx4a65c_size_8abf5) := goodIn_app (goodIn_of _ (by decide +kernel)) ggX0_enter_Jx4a65c_size_8abf5
theorem dX0_enter_0 : decode cX0_enter 0 = .ok (.aload_n 0, 1) := by decide +kernel
theorem dX0_enter_1 : decode cX0_enter 1 = .ok (.getfield 20, 3) := by decide +kernel
theorem dX0_enter_4 : decode cX0_enter 4 = .ok (.aload_n 1, 1) := by decide +kernel
theorem dX0_enter_5 : decode cX0_enter 5 = .ok (.invokevirtual 31, 3) := by decide +kernel
theorem dX0_enter_8 : decode cX0_enter 8 = .ok (.pop, 1) := by decide +kernel
theorem dX0_enter_9 : decode cX0_enter 9 = .ok (.aload_n 0, 1) := by decide +kernel
theorem dX0_enter_10 : decode cX0_enter 10 = .ok (.getfield 20, 3) := by decide +kernel
theorem dX0_enter_13 : decode cX0_enter 13 = .ok (.invokevirtual 27, 3) := by decide +kernel
theorem dX0_enter_16 : decode cX0_enter 16 = .ok (.iconst 1, 1) := by decide +kernel
theorem dX0_enter_17 : decode cX0_enter 17 = .ok (.isub, 1) := by decide +kernel
theorem dX0_enter_18 : decode cX0_enter 18 = .ok (.ireturn, 1) := by decide +kernel
set_option maxRecDepth 20000 in
theorem ggX0_placeFor_X4_roundUp : GoodIn wsX0_placeFor wsX4_roundUp := goodIn_r _ [5] (by decide +kernel) (by decide +kernel)
set_option maxRecDepth 20000 in
theorem gX0_placeFor_X4_roundUp_n39 : GoodIn wsX0_placeFor (wsX4_roundUp) := ggX0_placeFor_X4_roundUp
theorem dX0_placeFor_0 : decode cX0_placeFor 0 = .ok (.aload_n 0, 1) := by decide +kernel
theorem dX0_placeFor_1 : decode cX0_placeFor 1 = .ok (.getfield 9, 3) := by decide +kernel
theorem dX0_placeFor_4 : decode cX0_placeFor 4 = .ok (.ifCond .eq 7, 3) := by decide +kernel
theorem dX0_placeFor_7 : decode cX0_placeFor 7 = .ok (.iconst 0, 1) := by decide +kernel
theorem dX0_placeFor_8 : decode cX0_placeFor 8 = .ok (.goto 11, 3) := by decide +kernel
theorem dX0_placeFor_11 : decode cX0_placeFor 11 = .ok (.aload_n 0, 1) := by decide +kernel
theorem dX0_placeFor_12 : decode cX0_placeFor 12 = .ok (.getfield 35, 3) := by decide +kernel
theorem dX0_placeFor_15 : decode cX0_placeFor 15 = .ok (.iload_n 1, 1) := by decide +kernel
theorem dX0_placeFor_16 : decode cX0_placeFor 16 = .ok (.invokestatic 39, 3) := by decide +kernel
theorem dX0_placeFor_19 : decode cX0_placeFor 19 = .ok (.ireturn, 1) := by decide +kernel
theorem dX0_occupy_0 : decode cX0_occupy 0 = .ok (.aload_n 0, 1) := by decide +kernel
theorem dX0_occupy_1 : decode cX0_occupy 1 = .ok (.aload_n 0, 1) := by decide +kernel
theorem dX0_occupy_2 : decode cX0_occupy 2 = .ok (.getfield 35, 3) := by decide +kernel
theorem dX0_occupy_5 : decode cX0_occupy 5 = .ok (.iload_n 1, 1) := by decide +kernel
theorem dX0_occupy_6 : decode cX0_occupy 6 = .ok (.iload_n 2, 1) := by decide +kernel
theorem dX0_occupy_7 : decode cX0_occupy 7 = .ok (.iadd, 1) := by decide +kernel
theorem dX0_occupy_8 : decode cX0_occupy 8 = .ok (.invokestatic 43, 3) := by decide +kernel
theorem dX0_occupy_11 : decode cX0_occupy 11 = .ok (.putfield 35, 3) := by decide +kernel
theorem dX0_occupy_14 : decode cX0_occupy 14 = .ok (.aload_n 0, 1) := by decide +kernel
theorem dX0_occupy_15 : decode cX0_occupy 15 = .ok (.aload_n 0, 1) := by decide +kernel
theorem dX0_occupy_16 : decode cX0_occupy 16 = .ok (.getfield 48, 3) := by decide +kernel
theorem dX0_occupy_19 : decode cX0_occupy 19 = .ok (.iload_n 3, 1) := by decide +kernel
theorem dX0_occupy_20 : decode cX0_occupy 20 = .ok (.invokestatic 43, 3) := by decide +kernel
theorem dX0_occupy_23 : decode cX0_occupy 23 = .ok (.putfield 48, 3) := by decide +kernel
theorem dX0_occupy_26 : decode cX0_occupy 26 = .ok (.return_, 1) := by decide +kernel
theorem dX0_endUnit_0 : decode cX0_endUnit 0 = .ok (.aload_n 0, 1) := by decide +kernel
theorem dX0_endUnit_1 : decode cX0_endUnit 1 = .ok (.iconst 0, 1) := by decide +kernel
theorem dX0_endUnit_2 : decode cX0_endUnit 2 = .ok (.putfield 51, 3) := by decide +kernel
theorem dX0_endUnit_5 : decode cX0_endUnit 5 = .ok (.return_, 1) := by decide +kernel
set_option maxRecDepth 20000 in
theorem ggX0_beginUnit_X0_placeFor : GoodIn wsX0_beginUnit wsX0_placeFor := goodIn_r _ [8, 9, 10, 11, 12, 13, 24, 25, 26, 27, 28, 29, 30, 31] (by decide +kernel) (by decide +kernel)
set_option maxRecDepth 20000 in
theorem gX0_beginUnit_X0_placeFor : GoodIn wsX0_beginUnit (wsV RX0 54 RX0 yX0_placeFor wsX0_placeFor) := goodIn_app (goodIn_of _ (by decide +kernel)) ggX0_beginUnit_X0_placeFor
set_option maxRecDepth 20000 in
theorem ggX0_beginUnit_X0_occupy : GoodIn wsX0_beginUnit wsX0_occupy := goodIn_r _ [17, 10, 18, 19, 20, 21, 22, 23, 24, 25, 26, 27, 28, 29, 30, 31, 32, 33, 34, 35, 36] (by decide +kernel) (by decide +kernel)
set_option maxRecDepth 20000 in
theorem gX0_beginUnit_X0_occupy : GoodIn wsX0_beginUnit (wsV RX0 59 RX0 yX0_occupy wsX0_occupy) := goodIn_app (goodIn_of _ (by decide +kernel)) ggX0_beginUnit_X0_occupy
theorem dX0_beginUnit_0 : decode cX0_beginUnit 0 = .ok (.aload_n 0, 1) := by decide +kernel
theorem dX0_beginUnit_1 : decode cX0_beginUnit 1 = .ok (.iconst 4, 1) := by decide +kernel
theorem dX0_beginUnit_2 : decode cX0_beginUnit 2 = .ok (.invokevirtual 54, 3) := by decide +kernel
theorem dX0_beginUnit_5 : decode cX0_beginUnit 5 = .ok (.istore_n 1, 1) := by decide +kernel
theorem dX0_beginUnit_6 : decode cX0_beginUnit 6 = .ok (.iload_n 1, 1) := by decide +kernel
theorem dX0_beginUnit_7 : decode cX0_beginUnit 7 = .ok (.iconst 4, 1) := by decide +kernel
theorem dX0_beginUnit_8 : decode cX0_beginUnit 8 = .ok (.iadd, 1) := by decide +kernel
theorem dX0_beginUnit_9 : decode cX0_beginUnit 9 = .ok (.ldc 58, 2) := by decide +kernel
theorem dX0_beginUnit_11 : decode cX0_beginUnit 11 = .ok (.if_icmp .le 5, 3) := by decide +kernel
theorem dX0_beginUnit_14 : decode cX0_beginUnit 14 = .ok (.iconst 0, 1) := by decide +kernel
theorem dX0_beginUnit_15 : decode cX0_beginUnit 15 = .ok (.ireturn, 1) := by decide +kernel
theorem dX0_beginUnit_16 : decode cX0_beginUnit 16 = .ok (.aload_n 0, 1) := by decide +kernel
theorem dX0_beginUnit_17 : decode cX0_beginUnit 17 = .ok (.iload_n 1, 1) := by decide +kernel
theorem dX0_beginUnit_18 : decode cX0_beginUnit 18 = .ok (.iconst 4, 1) := by decide +kernel
theorem dX0_beginUnit_19 : decode cX0_beginUnit 19 = .ok (.iconst 4, 1) := by decide +kernel
theorem dX0_beginUnit_20 : decode cX0_beginUnit 20 = .ok (.invokevirtual 59, 3) := by decide +kernel
theorem dX0_beginUnit_23 : decode cX0_beginUnit 23 = .ok (.aload_n 0, 1) := by decide +kernel
theorem dX0_beginUnit_24 : decode cX0_beginUnit 24 = .ok (.iload_n 1, 1) := by decide +kernel
theorem dX0_beginUnit_25 : decode cX0_beginUnit 25 = .ok (.putfield 63, 3) := by decide +kernel
theorem dX0_beginUnit_28 : decode cX0_beginUnit 28 = .ok (.aload_n 0, 1) := by decide +kernel
theorem dX0_beginUnit_29 : decode cX0_beginUnit 29 = .ok (.bipush 32, 2) := by decide +kernel
theorem dX0_beginUnit_31 : decode cX0_beginUnit 31 = .ok (.putfield 51, 3) := by decide +kernel
theorem dX0_beginUnit_34 : decode cX0_beginUnit 34 = .ok (.iconst 1, 1) := by decide +kernel
theorem dX0_beginUnit_35 : decode cX0_beginUnit 35 = .ok (.ireturn, 1) := by decide +kernel
theorem dX0_takeBits_0 : decode cX0_takeBits 0 = .ok (.bipush 32, 2) := by decide +kernel
theorem dX0_takeBits_2 : decode cX0_takeBits 2 = .ok (.aload_n 0, 1) := by decide +kernel
theorem dX0_takeBits_3 : decode cX0_takeBits 3 = .ok (.getfield 51, 3) := by decide +kernel
theorem dX0_takeBits_6 : decode cX0_takeBits 6 = .ok (.isub, 1) := by decide +kernel
theorem dX0_takeBits_7 : decode cX0_takeBits 7 = .ok (.istore_n 2, 1) := by decide +kernel
theorem dX0_takeBits_8 : decode cX0_takeBits 8 = .ok (.aload_n 0, 1) := by decide +kernel
theorem dX0_takeBits_9 : decode cX0_takeBits 9 = .ok (.aload_n 0, 1) := by decide +kernel
theorem dX0_takeBits_10 : decode cX0_takeBits 10 = .ok (.getfield 9, 3) := by decide +kernel
theorem dX0_takeBits_13 : decode cX0_takeBits 13 = .ok (.ifCond .eq 7, 3) := by decide +kernel
theorem dX0_takeBits_16 : decode cX0_takeBits 16 = .ok (.iconst 0, 1) := by decide +kernel
theorem dX0_takeBits_17 : decode cX0_takeBits 17 = .ok (.goto 9, 3) := by decide +kernel
theorem dX0_takeBits_20 : decode cX0_takeBits 20 = .ok (.aload_n 0, 1) := by decide +kernel
theorem dX0_takeBits_21 : decode cX0_takeBits 21 = .ok (.getfield 51, 3) := by decide +kernel
theorem dX0_takeBits_24 : decode cX0_takeBits 24 = .ok (.iload_n 1, 1) := by decide +kernel
theorem dX0_takeBits_25 : decode cX0_takeBits 25 = .ok (.isub, 1) := by decide +kernel
theorem dX0_takeBits_26 : decode cX0_takeBits 26 = .ok (.putfield 51, 3) := by decide +kernel
theorem dX0_takeBits_29 : decode cX0_takeBits 29 = .ok (.iload_n 2, 1) := by decide +kernel
theorem dX0_takeBits_30 : decode cX0_takeBits 30 = .ok (.ireturn, 1) := by decide +kernel
theorem dX1_init_0 : decode cX1_init 0 = .ok (.aload_n 0, 1) := by decide +kernel
theorem dX1_init_1 : decode cX1_init 1 = .ok (.invokespecial 1, 3) := by decide +kernel
theorem dX1_init_4 : decode cX1_init 4 = .ok (.aload_n 0, 1) := by decide +kernel
theorem dX1_init_5 : decode cX1_init 5 = .ok (.iload_n 1, 1) := by decide +kernel
theorem dX1_init_6 : decode cX1_init 6 = .ok (.putfield 7, 3) := by decide +kernel
theorem dX1_init_9 : decode cX1_init 9 = .ok (.aload_n 0, 1) := by decide +kernel
theorem dX1_init_10 : decode cX1_init 10 = .ok (.iload_n 2, 1) := by decide +kernel
theorem dX1_init_11 : decode cX1_init 11 = .ok (.putfield 13, 3) := by decide +kernel
theorem dX1_init_14 : decode cX1_init 14 = .ok (.aload_n 0, 1) := by decide +kernel
theorem dX1_init_15 : decode cX1_init 15 = .ok (.iload_n 3, 1) := by decide +kernel
theorem dX1_init_16 : decode cX1_init 16 = .ok (.putfield 16, 3) := by decide +kernel
theorem dX1_init_19 : decode cX1_init 19 = .ok (.aload_n 0, 1) := by decide +kernel
theorem dX1_init_20 : decode cX1_init 20 = .ok (.iload 4, 2) := by decide +kernel
theorem dX1_init_22 : decode cX1_init 22 = .ok (.putfield 19, 3) := by decide +kernel
theorem dX1_init_25 : decode cX1_init 25 = .ok (.return_, 1) := by decide +kernel
set_option maxRecDepth 20000 in
theorem ggX2_init_X3_init : GoodIn wsX2_init wsX3_init := goodIn_r _ [7, 8, 9, 10, 11, 12, 18, 19, 20, 21, 22, 23, 24, 25, 13, 14, 15, 16, 17] (by decide +kernel) (by decide +kernel)
set_option maxRecDepth 20000 in
theorem gX2_init_X3_init : GoodIn wsX2_init (wsX3_init) := ggX2_init_X3_init
theorem dX2_init_0 : decode cX2_init 0 = .ok (.aload_n 0, 1) := by decide +kernel
theorem dX2_init_1 : decode cX2_init 1 = .ok (.iload 4, 2) := by decide +kernel
theorem dX2_init_3 : decode cX2_init 3 = .ok (.iload 5, 2) := by decide +kernel
theorem dX2_init_5 : decode cX2_init 5 = .ok (.invokespecial 1, 3) := by decide +kernel
theorem dX2_init_8 : decode cX2_init 8 = .ok (.aload_n 0, 1) := by decide +kernel
theorem dX2_init_9 : decode cX2_init 9 = .ok (.iload_n 1, 1) := by decide +kernel
theorem dX2_init_10 : decode cX2_init 10 = .ok (.putfield 7, 3) := by decide +kernel
theorem dX2_init_13 : decode cX2_init 13 = .ok (.aload_n 0, 1) := by decide +kernel
theorem dX2_init_14 : decode cX2_init 14 = .ok (.iload_n 2, 1) := by decide +kernel
theorem dX2_init_15 : decode cX2_init 15 = .ok (.putfield 13, 3) := by decide +kernel
theorem dX2_init_18 : decode cX2_init 18 = .ok (.aload_n 0, 1) := by decide +kernel
theorem dX2_init_19 : decode cX2_init 19 = .ok (.iload_n 3, 1) := by decide +kernel
theorem dX2_init_20 : decode cX2_init 20 = .ok (.putfield 16, 3) := by decide +kernel
theorem dX2_init_23 : decode cX2_init 23 = .ok (.return_, 1) := by decide +kernel
theorem dX2_isMadeFrom_0 : decode cX2_isMadeFrom 0 = .ok (.aload_n 0, 1) := by decide +kernel
theorem dX2_isMadeFrom_1 : decode cX2_isMadeFrom 1 = .ok (.getfield 7, 3) := by decide +kernel
theorem dX2_isMadeFrom_4 : decode cX2_isMadeFrom 4 = .ok (.iload_n 1, 1) := by decide +kernel
theorem dX2_isMadeFrom_5 : decode cX2_isMadeFrom 5 = .ok (.if_icmp .ne 23, 3) := by decide +kernel
theorem dX2_isMadeFrom_8 : decode cX2_isMadeFrom 8 = .ok (.aload_n 0, 1) := by decide +kernel
theorem dX2_isMadeFrom_9 : decode cX2_isMadeFrom 9 = .ok (.getfield 13, 3) := by decide +kernel
theorem dX2_isMadeFrom_12 : decode cX2_isMadeFrom 12 = .ok (.iload_n 2, 1) := by decide +kernel
theorem dX2_isMadeFrom_13 : decode cX2_isMadeFrom 13 = .ok (.if_icmp .ne 15, 3) := by decide +kernel
theorem dX2_isMadeFrom_16 : decode cX2_isMadeFrom 16 = .ok (.aload_n 0, 1) := by decide +kernel
theorem dX2_isMadeFrom_17 : decode cX2_isMadeFrom 17 = .ok (.getfield 16, 3) := by decide +kernel
theorem dX2_isMadeFrom_20 : decode cX2_isMadeFrom 20 = .ok (.iload_n 3, 1) := by decide +kernel
theorem dX2_isMadeFrom_21 : decode cX2_isMadeFrom 21 = .ok (.if_icmp .ne 7, 3) := by decide +kernel
theorem dX2_isMadeFrom_24 : decode cX2_isMadeFrom 24 = .ok (.iconst 1, 1) := by decide +kernel
theorem dX2_isMadeFrom_25 : decode cX2_isMadeFrom 25 = .ok (.goto 4, 3) := by decide +kernel
theorem dX2_isMadeFrom_28 : decode cX2_isMadeFrom 28 = .ok (.iconst 0, 1) := by decide +kernel
theorem dX2_isMadeFrom_29 : decode cX2_isMadeFrom 29 = .ok (.ireturn, 1) := by decide +kernel
theorem dX3_init_0 : decode cX3_init 0 = .ok (.aload_n 0, 1) := by decide +kernel
theorem dX3_init_1 : decode cX3_init 1 = .ok (.invokespecial 1, 3) := by decide +kernel
theorem dX3_init_4 : decode cX3_init 4 = .ok (.aload_n 0, 1) := by decide +kernel
theorem dX3_init_5 : decode cX3_init 5 = .ok (.iload_n 1, 1) := by decide +kernel
theorem dX3_init_6 : decode cX3_init 6 = .ok (.putfield 7, 3) := by decide +kernel
theorem dX3_init_9 : decode cX3_init 9 = .ok (.aload_n 0, 1) := by decide +kernel
theorem dX3_init_10 : decode cX3_init 10 = .ok (.iload_n 2, 1) := by decide +kernel
theorem dX3_init_11 : decode cX3_init 11 = .ok (.putfield 13, 3) := by decide +kernel
theorem dX3_init_14 : decode cX3_init 14 = .ok (.return_, 1) := by decide +kernel
set_option maxRecDepth 20000 in
theorem ggX4_init_Jx4a65c_init_da8c8 : GoodIn wsX4_init wsJx4a65c_init_da8c8 := goodIn_r _ [18, 19, 20, 21, 22, 23, 24, 25, 26, 27, 28, 29, 30, 2, 3, 94, 95, 96] (by decide +kernel) (by decide +kernel)
set_option maxRecDepth 20000 in
theorem gX4_init_Jx4a65c_init_da8c8 : GoodIn wsX4_init (wsJx4a65c_init_da8c8) := ggX4_init_Jx4a65c_init_da8c8
set_option maxRecDepth 20000 in
theorem ggX4_init_X2_init : GoodIn wsX4_init wsX2_init := goodIn_r _ [33, 34, 35, 36, 37, 38, 39, 40, 41, 2, 3, 42, 43, 98, 99, 100, 101, 102, 103, 104, 105, 106, 107, 108, 109, 110] (by decide +kernel) (by decide +kernel)
set_option maxRecDepth 20000 in
theorem gX4_init_X2_init : GoodIn wsX4_init (wsX2_init) := ggX4_init_X2_init
set_option maxRecDepth 20000 in
theorem ggX4_init_Jx4a65c_add_9ea2d : GoodIn wsX4_init wsJx4a65c_add_9ea2d := goodIn_r _ [47, 48, 49, 20, 50, 51, 52, 53, 6, 54, 55, 56, 57, 58, 59, 60, 61, 62, 19, 63, 64, 14, 65, 66, 67, 68, 69, 70, 71, 72, 73, 74, 75, 76, 77, 78, 79, 80, 81, 82, 83, 84, 85, 86, 87, 88, 89, 13, 15, 90, 91, 92, 93, 94, 95, 96] (by decide +kernel) (by decide +kernel)
set_option maxRecDepth 20000 in
theorem gX4_init_Jx4a65c_add_9ea2d : GoodIn wsX4_init (wsV RX4 31 RJx4a65c yJx4a65c_add_9ea2d wsJx4a65c_add_9ea2d) := goodIn_app (goodIn_of _ (by decide +kernel)) ggX4_init_Jx4a65c_add_9ea2d
theorem dX4_init_0 : decode cX4_init 0 = .ok (.aload_n 0, 1) := by decide +kernel
theorem dX4_init_1 : decode cX4_init 1 = .ok (.invokespecial 1, 3) := by decide +kernel
theorem dX4_init_4 : decode cX4_init 4 = .ok (.aload_n 0, 1) := by decide +kernel
theorem dX4_init_5 : decode cX4_init 5 = .ok (.new 7, 3) := by decide +kernel
theorem dX4_init_8 : decode cX4_init 8 = .ok (.dup, 1) := by decide +kernel
theorem dX4_init_9 : decode cX4_init 9 = .ok (.invokespecial 9, 3) := by decide +kernel
theorem dX4_init_12 : decode cX4_init 12 = .ok (.putfield 10, 3) := by decide +kernel
theorem dX4_init_15 : decode cX4_init 15 = .ok (.iconst 0, 1) := by decide +kernel
theorem dX4_init_16 : decode cX4_init 16 = .ok (.istore_n 1, 1) := by decide +kernel
theorem dX4_init_17 : decode cX4_init 17 = .ok (.iload_n 1, 1) := by decide +kernel
theorem dX4_init_18 : decode cX4_init 18 = .ok (.getstatic 16, 3) := by decide +kernel
theorem dX4_init_21 : decode cX4_init 21 = .ok (.arraylength, 1) := by decide +kernel
theorem dX4_init_22 : decode cX4_init 22 = .ok (.if_icmp .ge 39, 3) := by decide +kernel
theorem dX4_init_25 : decode cX4_init 25 = .ok (.getstatic 16, 3) := by decide +kernel
theorem dX4_init_28 : decode cX4_init 28 = .ok (.iload_n 1, 1) := by decide +kernel
theorem dX4_init_29 : decode cX4_init 29 = .ok (.iaload, 1) := by decide +kernel
theorem dX4_init_30 : decode cX4_init 30 = .ok (.istore_n 2, 1) := by decide +kernel
theorem dX4_init_31 : decode cX4_init 31 = .ok (.aload_n 0, 1) := by decide +kernel
theorem dX4_init_32 : decode cX4_init 32 = .ok (.getfield 10, 3) := by decide +kernel
theorem dX4_init_35 : decode cX4_init 35 = .ok (.new 20, 3) := by decide +kernel
theorem dX4_init_38 : decode cX4_init 38 = .ok (.dup, 1) := by decide +kernel
theorem dX4_init_39 : decode cX4_init 39 = .ok (.iconst 0, 1) := by decide +kernel
theorem dX4_init_40 : decode cX4_init 40 = .ok (.iconst (-1), 1) := by decide +kernel
theorem dX4_init_41 : decode cX4_init 41 = .ok (.iconst 0, 1) := by decide +kernel
theorem dX4_init_42 : decode cX4_init 42 = .ok (.iload_n 2, 1) := by decide +kernel
theorem dX4_init_43 : decode cX4_init 43 = .ok (.iload_n 2, 1) := by decide +kernel
theorem dX4_init_44 : decode cX4_init 44 = .ok (.iconst 4, 1) := by decide +kernel
theorem dX4_init_45 : decode cX4_init 45 = .ok (.invokestatic 22, 3) := by decide +kernel
theorem dX4_init_48 : decode cX4_init 48 = .ok (.invokespecial 28, 3) := by decide +kernel
theorem dX4_init_51 : decode cX4_init 51 = .ok (.invokevirtual 31, 3) := by decide +kernel
theorem dX4_init_54 : decode cX4_init 54 = .ok (.pop, 1) := by decide +kernel
theorem dX4_init_55 : decode cX4_init 55 = .ok (.iinc 1 1, 3) := by decide +kernel
theorem dX4_init_58 : decode cX4_init 58 = .ok (.goto (-41), 3) := by decide +kernel
theorem dX4_init_61 : decode cX4_init 61 = .ok (.return_, 1) := by decide +kernel
set_option maxRecDepth 20000 in
theorem ggX4_pointer_X4_typeAt : GoodIn wsX4_pointer wsX4_typeAt := goodIn_r _ [8, 9, 10, 11, 12, 13, 14, 15, 16, 17, 18, 19, 20, 21, 22, 23, 24, 25, 26, 27, 28, 29, 30, 31, 32, 33, 124, 125, 126, 127] (by decide +kernel) (by decide +kernel)
set_option maxRecDepth 20000 in
theorem gX4_pointer_X4_typeAt : GoodIn wsX4_pointer (wsV RX4 35 RX4 yX4_typeAt wsX4_typeAt) := goodIn_app (goodIn_of _ (by decide +kernel)) ggX4_pointer_X4_typeAt
set_option maxRecDepth 20000 in
theorem ggX4_pointer_X4_find : GoodIn wsX4_pointer wsX4_find := goodIn_r _ [37, 9, 38, 11, 12, 13, 14, 15, 16, 17, 18, 19, 20, 21, 22, 23, 24, 25, 26, 27, 28, 29, 30, 31, 32, 33, 39, 40, 41, 3, 42, 43, 44, 45, 124, 125, 126, 127, 119, 120, 121, 122, 123] (by decide +kernel) (by decide +kernel)
set_option maxRecDepth 20000 in
theorem gX4_pointer_X4_find : GoodIn wsX4_pointer (wsV RX4 39 RX4 yX4_find wsX4_find) := goodIn_app (goodIn_of _ (by decide +kernel)) ggX4_pointer_X4_find
set_option maxRecDepth 20000 in
theorem ggX4_pointer_X4_isFull : GoodIn wsX4_pointer wsX4_isFull := goodIn_r _ [49, 9, 11, 12, 13, 14, 15, 16, 124, 125, 126, 127] (by decide +kernel) (by decide +kernel)
set_option maxRecDepth 20000 in
theorem gX4_pointer_X4_isFull : GoodIn wsX4_pointer (wsV RX4 43 RX4 yX4_isFull wsX4_isFull) := goodIn_app (goodIn_of _ (by decide +kernel)) ggX4_pointer_X4_isFull
set_option maxRecDepth 20000 in
theorem ggX4_pointer_X2_init : GoodIn wsX4_pointer wsX2_init := goodIn_r _ [52, 43, 44, 45, 53, 54, 55, 56, 57, 58, 59, 60, 61, 119, 120, 121, 122, 123, 128, 129, 130, 131, 132, 133, 134, 135] (by decide +kernel) (by decide +kernel)
set_option maxRecDepth 20000 in
theorem gX4_pointer_X2_init : GoodIn wsX4_pointer (wsX2_init) := ggX4_pointer_X2_init
set_option maxRecDepth 20000 in
theorem ggX4_pointer_X4_enter : GoodIn wsX4_pointer wsX4_enter := goodIn_r _ [65, 9, 66, 67, 68, 14, 69, 70, 71, 33, 16, 72, 73, 74, 75, 76, 77, 78, 79, 80, 81, 82, 83, 84, 85, 86, 87, 88, 89, 90, 91, 92, 93, 94, 95, 96, 97, 98, 99, 100, 101, 102, 103, 104, 105, 106, 107, 108, 109, 110, 111, 112, 113, 114, 115, 116, 117, 118, 11, 12, 13, 15, 124, 125, 126, 127] (by decide +kernel) (by decide +kernel)
set_option maxRecDepth 20000 in
theorem gX4_pointer_X4_enter : GoodIn wsX4_pointer (wsV RX4 47 RX4 yX4_enter wsX4_enter) := goodIn_app (goodIn_of _ (by decide +kernel)) ggX4_pointer_X4_enter
theorem dX4_pointer_0 : decode cX4_pointer 0 = .ok (.aload_n 0, 1) := by decide +kernel
theorem dX4_pointer_1 : decode cX4_pointer 1 = .ok (.iload_n 1, 1) := by decide +kernel
theorem dX4_pointer_2 : decode cX4_pointer 2 = .ok (.invokevirtual 35, 3) := by decide +kernel
theorem dX4_pointer_5 : decode cX4_pointer 5 = .ok (.ifnonnull 5, 3) := by decide +kernel
theorem dX4_pointer_8 : decode cX4_pointer 8 = .ok (.iconst (-1), 1) := by decide +kernel
theorem dX4_pointer_9 : decode cX4_pointer 9 = .ok (.ireturn, 1) := by decide +kernel
theorem dX4_pointer_10 : decode cX4_pointer 10 = .ok (.aload_n 0, 1) := by decide +kernel
theorem dX4_pointer_11 : decode cX4_pointer 11 = .ok (.iconst 1, 1) := by decide +kernel
theorem dX4_pointer_12 : decode cX4_pointer 12 = .ok (.iload_n 1, 1) := by decide +kernel
theorem dX4_pointer_13 : decode cX4_pointer 13 = .ok (.iconst 0, 1) := by decide +kernel
theorem dX4_pointer_14 : decode cX4_pointer 14 = .ok (.invokevirtual 39, 3) := by decide +kernel
theorem dX4_pointer_17 : decode cX4_pointer 17 = .ok (.istore_n 2, 1) := by decide +kernel
theorem dX4_pointer_18 : decode cX4_pointer 18 = .ok (.iload_n 2, 1) := by decide +kernel
theorem dX4_pointer_19 : decode cX4_pointer 19 = .ok (.iconst (-1), 1) := by decide +kernel
theorem dX4_pointer_20 : decode cX4_pointer 20 = .ok (.if_icmp .eq 5, 3) := by decide +kernel
theorem dX4_pointer_23 : decode cX4_pointer 23 = .ok (.iload_n 2, 1) := by decide +kernel
theorem dX4_pointer_24 : decode cX4_pointer 24 = .ok (.ireturn, 1) := by decide +kernel
theorem dX4_pointer_25 : decode cX4_pointer 25 = .ok (.aload_n 0, 1) := by decide +kernel
theorem dX4_pointer_26 : decode cX4_pointer 26 = .ok (.invokevirtual 43, 3) := by decide +kernel
theorem dX4_pointer_29 : decode cX4_pointer 29 = .ok (.ifCond .eq 6, 3) := by decide +kernel
theorem dX4_pointer_32 : decode cX4_pointer 32 = .ok (.bipush (-2), 2) := by decide +kernel
theorem dX4_pointer_34 : decode cX4_pointer 34 = .ok (.ireturn, 1) := by decide +kernel
theorem dX4_pointer_35 : decode cX4_pointer 35 = .ok (.aload_n 0, 1) := by decide +kernel
theorem dX4_pointer_36 : decode cX4_pointer 36 = .ok (.new 20, 3) := by decide +kernel
theorem dX4_pointer_39 : decode cX4_pointer 39 = .ok (.dup, 1) := by decide +kernel
theorem dX4_pointer_40 : decode cX4_pointer 40 = .ok (.iconst 1, 1) := by decide +kernel
theorem dX4_pointer_41 : decode cX4_pointer 41 = .ok (.iload_n 1, 1) := by decide +kernel
theorem dX4_pointer_42 : decode cX4_pointer 42 = .ok (.iconst 0, 1) := by decide +kernel
theorem dX4_pointer_43 : decode cX4_pointer 43 = .ok (.iconst 4, 1) := by decide +kernel
theorem dX4_pointer_44 : decode cX4_pointer 44 = .ok (.iconst 4, 1) := by decide +kernel
theorem dX4_pointer_45 : decode cX4_pointer 45 = .ok (.invokespecial 28, 3) := by decide +kernel
theorem dX4_pointer_48 : decode cX4_pointer 48 = .ok (.invokevirtual 47, 3) := by decide +kernel
theorem dX4_pointer_51 : decode cX4_pointer 51 = .ok (.ireturn, 1) := by decide +kernel
set_option maxRecDepth 20000 in
theorem ggX4_array_X4_typeAt : GoodIn wsX4_array wsX4_typeAt := goodIn_r _ [12, 13, 14, 15, 16, 17, 18, 19, 20, 21, 22, 23, 24, 25, 26, 27, 28, 29, 30, 31, 32, 33, 34, 35, 36, 37, 136, 137, 138, 139] (by decide +kernel) (by decide +kernel)
set_option maxRecDepth 20000 in
theorem gX4_array_X4_typeAt : GoodIn wsX4_array (wsV RX4 35 RX4 yX4_typeAt wsX4_typeAt) := goodIn_app (goodIn_of _ (by decide +kernel)) ggX4_array_X4_typeAt
set_option maxRecDepth 20000 in
theorem ggX4_array_X4_find : GoodIn wsX4_array wsX4_find := goodIn_r _ [41, 13, 42, 15, 16, 17, 18, 19, 20, 21, 22, 23, 24, 25, 26, 27, 28, 29, 30, 31, 32, 33, 34, 35, 36, 37, 43, 44, 45, 6, 46, 47, 48, 49, 136, 137, 138, 139, 131, 132, 133, 134, 135] (by decide +kernel) (by decide +kernel)
set_option maxRecDepth 20000 in
theorem gX4_array_X4_find : GoodIn wsX4_array (wsV RX4 39 RX4 yX4_find wsX4_find) := goodIn_app (goodIn_of _ (by decide +kernel)) ggX4_array_X4_find
set_option maxRecDepth 20000 in
theorem ggX4_array_X4_isFull : GoodIn wsX4_array wsX4_isFull := goodIn_r _ [53, 13, 15, 16, 17, 18, 19, 20, 136, 137, 138, 139] (by decide +kernel) (by decide +kernel)
set_option maxRecDepth 20000 in
theorem gX4_array_X4_isFull : GoodIn wsX4_array (wsV RX4 43 RX4 yX4_isFull wsX4_isFull) := goodIn_app (goodIn_of _ (by decide +kernel)) ggX4_array_X4_isFull
set_option maxRecDepth 20000 in
theorem ggX4_array_X2_init : GoodIn wsX4_array wsX2_init := goodIn_r _ [56, 47, 48, 49, 57, 58, 59, 60, 61, 62, 63, 64, 65, 131, 132, 133, 134, 135, 123, 124, 125, 126, 127, 128, 129, 130] (by decide +kernel) (by decide +kernel)
set_option maxRecDepth 20000 in
theorem gX4_array_X2_init : GoodIn wsX4_array (wsX2_init) := ggX4_array_X2_init
set_option maxRecDepth 20000 in
theorem ggX4_array_X4_enter : GoodIn wsX4_array wsX4_enter := goodIn_r _ [69, 13, 70, 71, 72, 18, 73, 74, 75, 37, 20, 76, 77, 78, 79, 80, 81, 82, 83, 84, 85, 86, 87, 88, 89, 90, 91, 92, 93, 94, 95, 96, 97, 98, 99, 100, 101, 102, 103, 104, 105, 106, 107, 108, 109, 110, 111, 112, 113, 114, 115, 116, 117, 118, 119, 120, 121, 122, 15, 16, 17, 19, 136, 137, 138, 139] (by decide +kernel) (by decide +kernel)
set_option maxRecDepth 20000 in
theorem gX4_array_X4_enter : GoodIn wsX4_array (wsV RX4 47 RX4 yX4_enter wsX4_enter) := goodIn_app (goodIn_of _ (by decide +kernel)) ggX4_array_X4_enter
theorem dX4_array_0 : decode cX4_array 0 = .ok (.aload_n 0, 1) := by decide +kernel
theorem dX4_array_1 : decode cX4_array 1 = .ok (.iload_n 1, 1) := by decide +kernel
theorem dX4_array_2 : decode cX4_array 2 = .ok (.invokevirtual 35, 3) := by decide +kernel
theorem dX4_array_5 : decode cX4_array 5 = .ok (.astore_n 3, 1) := by decide +kernel
theorem dX4_array_6 : decode cX4_array 6 = .ok (.aload_n 3, 1) := by decide +kernel
theorem dX4_array_7 : decode cX4_array 7 = .ok (.ifnull 14, 3) := by decide +kernel
theorem dX4_array_10 : decode cX4_array 10 = .ok (.iload_n 2, 1) := by decide +kernel
theorem dX4_array_11 : decode cX4_array 11 = .ok (.iconst 1, 1) := by decide +kernel
theorem dX4_array_12 : decode cX4_array 12 = .ok (.if_icmp .lt 9, 3) := by decide +kernel
theorem dX4_array_15 : decode cX4_array 15 = .ok (.iload_n 2, 1) := by decide +kernel
theorem dX4_array_16 : decode cX4_array 16 = .ok (.ldc 51, 2) := by decide +kernel
theorem dX4_array_18 : decode cX4_array 18 = .ok (.if_icmp .le 5, 3) := by decide +kernel
theorem dX4_array_21 : decode cX4_array 21 = .ok (.iconst (-1), 1) := by decide +kernel
theorem dX4_array_22 : decode cX4_array 22 = .ok (.ireturn, 1) := by decide +kernel
theorem dX4_array_23 : decode cX4_array 23 = .ok (.aload_n 3, 1) := by decide +kernel
theorem dX4_array_24 : decode cX4_array 24 = .ok (.getfield 52, 3) := by decide +kernel
theorem dX4_array_27 : decode cX4_array 27 = .ok (.ifCond .ne 6, 3) := by decide +kernel
theorem dX4_array_30 : decode cX4_array 30 = .ok (.bipush (-2), 2) := by decide +kernel
theorem dX4_array_32 : decode cX4_array 32 = .ok (.ireturn, 1) := by decide +kernel
theorem dX4_array_33 : decode cX4_array 33 = .ok (.aload_n 3, 1) := by decide +kernel
theorem dX4_array_34 : decode cX4_array 34 = .ok (.getfield 52, 3) := by decide +kernel
theorem dX4_array_37 : decode cX4_array 37 = .ok (.i2l, 1) := by decide +kernel
theorem dX4_array_38 : decode cX4_array 38 = .ok (.iload_n 2, 1) := by decide +kernel
theorem dX4_array_39 : decode cX4_array 39 = .ok (.i2l, 1) := by decide +kernel
theorem dX4_array_40 : decode cX4_array 40 = .ok (.lmul, 1) := by decide +kernel
theorem dX4_array_41 : decode cX4_array 41 = .ok (.lstore 4, 2) := by decide +kernel
theorem dX4_array_43 : decode cX4_array 43 = .ok (.lload 4, 2) := by decide +kernel
theorem dX4_array_45 : decode cX4_array 45 = .ok (.ldc2_w 58, 3) := by decide +kernel
theorem dX4_array_48 : decode cX4_array 48 = .ok (.lcmp, 1) := by decide +kernel
theorem dX4_array_49 : decode cX4_array 49 = .ok (.ifCond .le 6, 3) := by decide +kernel
theorem dX4_array_52 : decode cX4_array 52 = .ok (.bipush (-3), 2) := by decide +kernel
theorem dX4_array_54 : decode cX4_array 54 = .ok (.ireturn, 1) := by decide +kernel
theorem dX4_array_55 : decode cX4_array 55 = .ok (.aload_n 0, 1) := by decide +kernel
theorem dX4_array_56 : decode cX4_array 56 = .ok (.iconst 2, 1) := by decide +kernel
theorem dX4_array_57 : decode cX4_array 57 = .ok (.iload_n 1, 1) := by decide +kernel
theorem dX4_array_58 : decode cX4_array 58 = .ok (.iload_n 2, 1) := by decide +kernel
theorem dX4_array_59 : decode cX4_array 59 = .ok (.invokevirtual 39, 3) := by decide +kernel
theorem dX4_array_62 : decode cX4_array 62 = .ok (.istore 6, 2) := by decide +kernel
theorem dX4_array_64 : decode cX4_array 64 = .ok (.iload 6, 2) := by decide +kernel
theorem dX4_array_66 : decode cX4_array 66 = .ok (.iconst (-1), 1) := by decide +kernel
theorem dX4_array_67 : decode cX4_array 67 = .ok (.if_icmp .eq 6, 3) := by decide +kernel
theorem dX4_array_70 : decode cX4_array 70 = .ok (.iload 6, 2) := by decide +kernel
theorem dX4_array_72 : decode cX4_array 72 = .ok (.ireturn, 1) := by decide +kernel
theorem dX4_array_73 : decode cX4_array 73 = .ok (.aload_n 0, 1) := by decide +kernel
theorem dX4_array_74 : decode cX4_array 74 = .ok (.invokevirtual 43, 3) := by decide +kernel
theorem dX4_array_77 : decode cX4_array 77 = .ok (.ifCond .eq 6, 3) := by decide +kernel
theorem dX4_array_80 : decode cX4_array 80 = .ok (.bipush (-4), 2) := by decide +kernel
theorem dX4_array_82 : decode cX4_array 82 = .ok (.ireturn, 1) := by decide +kernel
theorem dX4_array_83 : decode cX4_array 83 = .ok (.aload_n 0, 1) := by decide +kernel
theorem dX4_array_84 : decode cX4_array 84 = .ok (.new 20, 3) := by decide +kernel
theorem dX4_array_87 : decode cX4_array 87 = .ok (.dup, 1) := by decide +kernel
theorem dX4_array_88 : decode cX4_array 88 = .ok (.iconst 2, 1) := by decide +kernel
theorem dX4_array_89 : decode cX4_array 89 = .ok (.iload_n 1, 1) := by decide +kernel
theorem dX4_array_90 : decode cX4_array 90 = .ok (.iload_n 2, 1) := by decide +kernel
theorem dX4_array_91 : decode cX4_array 91 = .ok (.lload 4, 2) := by decide +kernel
theorem dX4_array_93 : decode cX4_array 93 = .ok (.l2i, 1) := by decide +kernel
theorem dX4_array_94 : decode cX4_array 94 = .ok (.aload_n 3, 1) := by decide +kernel
theorem dX4_array_95 : decode cX4_array 95 = .ok (.getfield 60, 3) := by decide +kernel
theorem dX4_array_98 : decode cX4_array 98 = .ok (.invokespecial 28, 3) := by decide +kernel
theorem dX4_array_101 : decode cX4_array 101 = .ok (.invokevirtual 47, 3) := by decide +kernel
theorem dX4_array_104 : decode cX4_array 104 = .ok (.ireturn, 1) := by decide +kernel
set_option maxRecDepth 20000 in
theorem ggX4_record_X4_isFull : GoodIn wsX4_record wsX4_isFull := goodIn_r _ [8, 9, 10, 11, 12, 13, 14, 15, 112, 113, 114, 115] (by decide +kernel) (by decide +kernel)
set_option maxRecDepth 20000 in
theorem gX4_record_X4_isFull : GoodIn wsX4_record (wsV RX4 43 RX4 yX4_isFull wsX4_isFull) := goodIn_app (goodIn_of _ (by decide +kernel)) ggX4_record_X4_isFull
set_option maxRecDepth 20000 in
theorem ggX4_record_X0_init : GoodIn wsX4_record wsX0_init := goodIn_r _ [18, 19, 20, 21, 13, 22, 23, 24, 25, 26, 27, 28, 29, 30, 31, 32, 33, 34, 35, 36, 37, 38, 39, 40, 41, 42, 43, 44, 45, 46, 47, 104, 105, 106, 107, 108, 109, 110, 111, 113, 114, 115, 116, 117, 118, 119, 120] (by decide +kernel) (by decide +kernel)
set_option maxRecDepth 20000 in
theorem gX4_record_X0_init : GoodIn wsX4_record (wsX0_init) := ggX4_record_X0_init
set_option maxRecDepth 20000 in
theorem ggX4_record_X4_enter : GoodIn wsX4_record wsX4_enter := goodIn_r _ [51, 9, 52, 53, 54, 13, 55, 56, 57, 37, 15, 58, 59, 60, 61, 62, 63, 64, 65, 66, 67, 68, 69, 36, 70, 71, 72, 73, 74, 75, 76, 77, 78, 79, 80, 81, 82, 83, 84, 85, 86, 87, 88, 89, 90, 91, 92, 93, 94, 95, 96, 97, 98, 99, 100, 101, 102, 103, 10, 11, 12, 14, 112, 113, 114, 115] (by decide +kernel) (by decide +kernel)
set_option maxRecDepth 20000 in
theorem gX4_record_X4_enter : GoodIn wsX4_record (wsV RX4 47 RX4 yX4_enter wsX4_enter) := goodIn_app (goodIn_of _ (by decide +kernel)) ggX4_record_X4_enter
theorem dX4_record_0 : decode cX4_record 0 = .ok (.iload_n 1, 1) := by decide +kernel
theorem dX4_record_1 : decode cX4_record 1 = .ok (.ifCond .eq 10, 3) := by decide +kernel
theorem dX4_record_4 : decode cX4_record 4 = .ok (.iload_n 1, 1) := by decide +kernel
theorem dX4_record_5 : decode cX4_record 5 = .ok (.iconst 1, 1) := by decide +kernel
theorem dX4_record_6 : decode cX4_record 6 = .ok (.if_icmp .eq 5, 3) := by decide +kernel
theorem dX4_record_9 : decode cX4_record 9 = .ok (.iconst (-1), 1) := by decide +kernel
theorem dX4_record_10 : decode cX4_record 10 = .ok (.ireturn, 1) := by decide +kernel
theorem dX4_record_11 : decode cX4_record 11 = .ok (.aload_n 0, 1) := by decide +kernel
theorem dX4_record_12 : decode cX4_record 12 = .ok (.invokevirtual 43, 3) := by decide +kernel
theorem dX4_record_15 : decode cX4_record 15 = .ok (.ifCond .eq 6, 3) := by decide +kernel
theorem dX4_record_18 : decode cX4_record 18 = .ok (.bipush (-2), 2) := by decide +kernel
theorem dX4_record_20 : decode cX4_record 20 = .ok (.ireturn, 1) := by decide +kernel
theorem dX4_record_21 : decode cX4_record 21 = .ok (.aload_n 0, 1) := by decide +kernel
theorem dX4_record_22 : decode cX4_record 22 = .ok (.new 63, 3) := by decide +kernel
theorem dX4_record_25 : decode cX4_record 25 = .ok (.dup, 1) := by decide +kernel
theorem dX4_record_26 : decode cX4_record 26 = .ok (.iload_n 1, 1) := by decide +kernel
theorem dX4_record_27 : decode cX4_record 27 = .ok (.iconst 1, 1) := by decide +kernel
theorem dX4_record_28 : decode cX4_record 28 = .ok (.if_icmp .ne 7, 3) := by decide +kernel
theorem dX4_record_31 : decode cX4_record 31 = .ok (.iconst 1, 1) := by decide +kernel
theorem dX4_record_32 : decode cX4_record 32 = .ok (.goto 4, 3) := by decide +kernel
theorem dX4_record_35 : decode cX4_record 35 = .ok (.iconst 0, 1) := by decide +kernel
theorem dX4_record_36 : decode cX4_record 36 = .ok (.invokespecial 65, 3) := by decide +kernel
theorem dX4_record_39 : decode cX4_record 39 = .ok (.invokevirtual 47, 3) := by decide +kernel
theorem dX4_record_42 : decode cX4_record 42 = .ok (.ireturn, 1) := by decide +kernel
set_option maxRecDepth 20000 in
theorem ggX4_field_X4_openRecordAt : GoodIn wsX4_field wsX4_openRecordAt := goodIn_r _ [11, 12, 13, 14, 10, 15, 16, 17, 18, 19, 20, 21, 22, 23, 24, 25, 26, 27, 28, 29, 30, 31, 32, 33, 34, 35, 36, 37, 38, 39, 40, 41, 42, 43, 44, 45, 140, 141, 142, 143, 144, 145, 146, 147, 157, 158, 159, 160] (by decide +kernel) (by decide +kernel)
set_option maxRecDepth 20000 in
theorem gX4_field_X4_openRecordAt : GoodIn wsX4_field (wsV RX4 68 RX4 yX4_openRecordAt wsX4_openRecordAt) := goodIn_app (goodIn_of _ (by decide +kernel)) ggX4_field_X4_openRecordAt
set_option maxRecDepth 20000 in
theorem ggX4_field_X4_typeAt : GoodIn wsX4_field wsX4_typeAt := goodIn_r _ [20, 21, 22, 23, 24, 25, 26, 27, 28, 29, 30, 31, 32, 33, 34, 35, 36, 37, 38, 39, 40, 41, 42, 43, 44, 45, 157, 158, 159, 160] (by decide +kernel) (by decide +kernel)
set_option maxRecDepth 20000 in
theorem gX4_field_X4_typeAt : GoodIn wsX4_field (wsV RX4 35 RX4 yX4_typeAt wsX4_typeAt) := goodIn_app (goodIn_of _ (by decide +kernel)) ggX4_field_X4_typeAt
set_option maxRecDepth 20000 in
theorem ggX4_field_X0_hasAllMembers : GoodIn wsX4_field wsX0_hasAllMembers := goodIn_r _ [50, 51, 52, 24, 25, 26, 27, 28, 140, 141, 142, 143, 144, 145, 146, 147, 158, 159, 160] (by decide +kernel) (by decide +kernel)
set_option maxRecDepth 20000 in
theorem gX4_field_X0_hasAllMembers : GoodIn wsX4_field (wsV RX4 72 RX0 yX0_hasAllMembers wsX0_hasAllMembers) := goodIn_app (goodIn_of _ (by decide +kernel)) ggX4_field_X0_hasAllMembers
set_option maxRecDepth 20000 in
theorem ggX4_field_X0_placeFor : GoodIn wsX4_field wsX0_placeFor := goodIn_r _ [56, 57, 58, 59, 10, 60, 140, 141, 142, 143, 144, 145, 146, 147] (by decide +kernel) (by decide +kernel)
set_option maxRecDepth 20000 in
theorem gX4_field_X0_placeFor : GoodIn wsX4_field (wsV RX4 75 RX0 yX0_placeFor wsX0_placeFor) := goodIn_app (goodIn_of _ (by decide +kernel)) ggX4_field_X0_placeFor
set_option maxRecDepth 20000 in
theorem ggX4_field_X0_endUnit : GoodIn wsX4_field wsX0_endUnit := goodIn_r _ [64, 65, 140, 141, 142, 143, 144, 145, 146, 147] (by decide +kernel) (by decide +kernel)
set_option maxRecDepth 20000 in
theorem gX4_field_X0_endUnit : GoodIn wsX4_field (wsV RX4 79 RX0 yX0_endUnit wsX0_endUnit) := goodIn_app (goodIn_of _ (by decide +kernel)) ggX4_field_X0_endUnit
set_option maxRecDepth 20000 in
theorem ggX4_field_X0_occupy : GoodIn wsX4_field wsX0_occupy := goodIn_r _ [69, 58, 70, 71, 72, 73, 74, 75, 140, 141, 142, 143, 144, 145, 146, 147, 148, 149, 150, 151, 152] (by decide +kernel) (by decide +kernel)
set_option maxRecDepth 20000 in
theorem gX4_field_X0_occupy : GoodIn wsX4_field (wsV RX4 82 RX0 yX0_occupy wsX0_occupy) := goodIn_app (goodIn_of _ (by decide +kernel)) ggX4_field_X0_occupy
set_option maxRecDepth 20000 in
theorem ggX4_field_X1_init : GoodIn wsX4_field wsX1_init := goodIn_r _ [78, 79, 80, 81, 82, 83, 84, 85, 153, 154, 155, 156] (by decide +kernel) (by decide +kernel)
set_option maxRecDepth 20000 in
theorem gX4_field_X1_init : GoodIn wsX4_field (wsX1_init) := ggX4_field_X1_init
set_option maxRecDepth 20000 in
theorem ggX4_field_X0_enter : GoodIn wsX4_field wsX0_enter := goodIn_r _ [89, 51, 90, 91, 92, 26, 93, 94, 95, 45, 28, 96, 97, 98, 99, 100, 101, 102, 103, 104, 105, 106, 107, 108, 109, 71, 72, 73, 110, 111, 112, 113, 114, 115, 116, 117, 118, 119, 120, 121, 122, 123, 124, 125, 126, 127, 128, 129, 130, 131, 132, 133, 134, 135, 136, 137, 138, 139, 52, 24, 25, 27, 140, 141, 142, 143, 144, 145, 146, 147, 158, 159, 160] (by decide +kernel) (by decide +kernel)
set_option maxRecDepth 20000 in
theorem gX4_field_X0_enter : GoodIn wsX4_field (wsV RX4 91 RX0 yX0_enter wsX0_enter) := goodIn_app (goodIn_of _ (by decide +kernel)) ggX4_field_X0_enter
theorem dX4_field_0 : decode cX4_field 0 = .ok (.aload_n 0, 1) := by decide +kernel
theorem dX4_field_1 : decode cX4_field 1 = .ok (.iload_n 1, 1) := by decide +kernel
theorem dX4_field_2 : decode cX4_field 2 = .ok (.invokevirtual 68, 3) := by decide +kernel
theorem dX4_field_5 : decode cX4_field 5 = .ok (.astore_n 3, 1) := by decide +kernel
theorem dX4_field_6 : decode cX4_field 6 = .ok (.aload_n 0, 1) := by decide +kernel
theorem dX4_field_7 : decode cX4_field 7 = .ok (.iload_n 2, 1) := by decide +kernel
theorem dX4_field_8 : decode cX4_field 8 = .ok (.invokevirtual 35, 3) := by decide +kernel
theorem dX4_field_11 : decode cX4_field 11 = .ok (.astore 4, 2) := by decide +kernel
theorem dX4_field_13 : decode cX4_field 13 = .ok (.aload_n 3, 1) := by decide +kernel
theorem dX4_field_14 : decode cX4_field 14 = .ok (.ifnull 8, 3) := by decide +kernel
theorem dX4_field_17 : decode cX4_field 17 = .ok (.aload 4, 2) := by decide +kernel
theorem dX4_field_19 : decode cX4_field 19 = .ok (.ifnonnull 5, 3) := by decide +kernel
theorem dX4_field_22 : decode cX4_field 22 = .ok (.iconst (-1), 1) := by decide +kernel
theorem dX4_field_23 : decode cX4_field 23 = .ok (.ireturn, 1) := by decide +kernel
theorem dX4_field_24 : decode cX4_field 24 = .ok (.aload 4, 2) := by decide +kernel
theorem dX4_field_26 : decode cX4_field 26 = .ok (.getfield 52, 3) := by decide +kernel
theorem dX4_field_29 : decode cX4_field 29 = .ok (.ifCond .ne 6, 3) := by decide +kernel
theorem dX4_field_32 : decode cX4_field 32 = .ok (.bipush (-2), 2) := by decide +kernel
theorem dX4_field_34 : decode cX4_field 34 = .ok (.ireturn, 1) := by decide +kernel
theorem dX4_field_35 : decode cX4_field 35 = .ok (.aload_n 3, 1) := by decide +kernel
theorem dX4_field_36 : decode cX4_field 36 = .ok (.invokevirtual 72, 3) := by decide +kernel
theorem dX4_field_39 : decode cX4_field 39 = .ok (.ifCond .eq 6, 3) := by decide +kernel
theorem dX4_field_42 : decode cX4_field 42 = .ok (.bipush (-3), 2) := by decide +kernel
theorem dX4_field_44 : decode cX4_field 44 = .ok (.ireturn, 1) := by decide +kernel
theorem dX4_field_45 : decode cX4_field 45 = .ok (.aload_n 3, 1) := by decide +kernel
theorem dX4_field_46 : decode cX4_field 46 = .ok (.aload 4, 2) := by decide +kernel
theorem dX4_field_48 : decode cX4_field 48 = .ok (.getfield 60, 3) := by decide +kernel
theorem dX4_field_51 : decode cX4_field 51 = .ok (.invokevirtual 75, 3) := by decide +kernel
theorem dX4_field_54 : decode cX4_field 54 = .ok (.istore 5, 2) := by decide +kernel
theorem dX4_field_56 : decode cX4_field 56 = .ok (.iload 5, 2) := by decide +kernel
theorem dX4_field_58 : decode cX4_field 58 = .ok (.aload 4, 2) := by decide +kernel
theorem dX4_field_60 : decode cX4_field 60 = .ok (.getfield 52, 3) := by decide +kernel
theorem dX4_field_63 : decode cX4_field 63 = .ok (.iadd, 1) := by decide +kernel
theorem dX4_field_64 : decode cX4_field 64 = .ok (.ldc 51, 2) := by decide +kernel
theorem dX4_field_66 : decode cX4_field 66 = .ok (.if_icmp .le 6, 3) := by decide +kernel
theorem dX4_field_69 : decode cX4_field 69 = .ok (.bipush (-4), 2) := by decide +kernel
theorem dX4_field_71 : decode cX4_field 71 = .ok (.ireturn, 1) := by decide +kernel
theorem dX4_field_72 : decode cX4_field 72 = .ok (.aload_n 3, 1) := by decide +kernel
theorem dX4_field_73 : decode cX4_field 73 = .ok (.invokevirtual 79, 3) := by decide +kernel
theorem dX4_field_76 : decode cX4_field 76 = .ok (.aload_n 3, 1) := by decide +kernel
theorem dX4_field_77 : decode cX4_field 77 = .ok (.iload 5, 2) := by decide +kernel
end
section
theorem dX4_field_79 : decode cX4_field 79 = .ok (.aload 4, 2) := by decide +kernel
theorem dX4_field_81 : decode cX4_field 81 = .ok (.getfield 52, 3) := by decide +kernel
theorem dX4_field_84 : decode cX4_field 84 = .ok (.aload 4, 2) := by decide +kernel
theorem dX4_field_86 : decode cX4_field 86 = .ok (.getfield 60, 3) := by decide +kernel
theorem dX4_field_89 : decode cX4_field 89 = .ok (.invokevirtual 82, 3) := by decide +kernel
theorem dX4_field_92 : decode cX4_field 92 = .ok (.aload_n 3, 1) := by decide +kernel
theorem dX4_field_93 : decode cX4_field 93 = .ok (.new 86, 3) := by decide +kernel
theorem dX4_field_96 : decode cX4_field 96 = .ok (.dup, 1) := by decide +kernel
theorem dX4_field_97 : decode cX4_field 97 = .ok (.iload 5, 2) := by decide +kernel
theorem dX4_field_99 : decode cX4_field 99 = .ok (.iload_n 2, 1) := by decide +kernel
theorem dX4_field_100 : decode cX4_field 100 = .ok (.iconst 0, 1) := by decide +kernel
theorem dX4_field_101 : decode cX4_field 101 = .ok (.iconst 0, 1) := by decide +kernel
theorem dX4_field_102 : decode cX4_field 102 = .ok (.invokespecial 88, 3) := by decide +kernel
theorem dX4_field_105 : decode cX4_field 105 = .ok (.invokevirtual 91, 3) := by decide +kernel
theorem dX4_field_108 : decode cX4_field 108 = .ok (.ireturn, 1) := by decide +kernel
set_option maxRecDepth 20000 in
theorem ggX4_bits_X4_openRecordAt : GoodIn wsX4_bits wsX4_openRecordAt := goodIn_r _ [8, 9, 10, 11, 7, 12, 13, 14, 15, 16, 17, 18, 19, 20, 21, 22, 23, 24, 25, 26, 27, 28, 29, 30, 31, 32, 33, 34, 35, 36, 37, 38, 39, 40, 41, 42, 146, 147, 148, 149, 150, 151, 152, 153, 158, 159, 160, 161] (by decide +kernel) (by decide +kernel)
set_option maxRecDepth 20000 in
theorem gX4_bits_X4_openRecordAt : GoodIn wsX4_bits (wsV RX4 68 RX4 yX4_openRecordAt wsX4_openRecordAt) := goodIn_app (goodIn_of _ (by decide +kernel)) ggX4_bits_X4_openRecordAt
set_option maxRecDepth 20000 in
theorem ggX4_bits_X4_isBitFieldType : GoodIn wsX4_bits wsX4_isBitFieldType := goodIn_r _ [45] (by decide +kernel) (by decide +kernel)
set_option maxRecDepth 20000 in
theorem gX4_bits_X4_isBitFieldType : GoodIn wsX4_bits (va_wsS RX4 94 yX4_isBitFieldType wsX4_isBitFieldType) := goodIn_app (goodIn_of _ (by decide +kernel)) ggX4_bits_X4_isBitFieldType
set_option maxRecDepth 20000 in
theorem ggX4_bits_X0_hasAllMembers : GoodIn wsX4_bits wsX0_hasAllMembers := goodIn_r _ [50, 51, 52, 21, 22, 23, 24, 25, 146, 147, 148, 149, 150, 151, 152, 153, 159, 160, 161] (by decide +kernel) (by decide +kernel)
set_option maxRecDepth 20000 in
theorem gX4_bits_X0_hasAllMembers : GoodIn wsX4_bits (wsV RX4 72 RX0 yX0_hasAllMembers wsX0_hasAllMembers) := goodIn_app (goodIn_of _ (by decide +kernel)) ggX4_bits_X0_hasAllMembers
set_option maxRecDepth 20000 in
theorem ggX4_bits_X0_beginUnit : GoodIn wsX4_bits wsX0_beginUnit := goodIn_r _ [56, 57, 58, 59, 60, 61, 62, 49, 63, 64, 65, 66, 7, 67, 68, 69, 70, 71, 72, 73, 74, 75, 76, 77, 146, 147, 148, 149, 150, 151, 152, 153, 162, 163, 164, 165, 166] (by decide +kernel) (by decide +kernel)
set_option maxRecDepth 20000 in
theorem gX4_bits_X0_beginUnit : GoodIn wsX4_bits (wsV RX4 101 RX0 yX0_beginUnit wsX0_beginUnit) := goodIn_app (goodIn_of _ (by decide +kernel)) ggX4_bits_X0_beginUnit
set_option maxRecDepth 20000 in
theorem ggX4_bits_X0_takeBits : GoodIn wsX4_bits wsX0_takeBits := goodIn_r _ [81, 59, 64, 146, 147, 148, 149, 150, 151, 152, 153] (by decide +kernel) (by decide +kernel)
set_option maxRecDepth 20000 in
theorem gX4_bits_X0_takeBits : GoodIn wsX4_bits (wsV RX4 104 RX0 yX0_takeBits wsX0_takeBits) := goodIn_app (goodIn_of _ (by decide +kernel)) ggX4_bits_X0_takeBits
set_option maxRecDepth 20000 in
theorem ggX4_bits_X1_init : GoodIn wsX4_bits wsX1_init := goodIn_r _ [84, 85, 86, 87, 88, 89, 90, 91, 154, 155, 156, 157] (by decide +kernel) (by decide +kernel)
set_option maxRecDepth 20000 in
theorem gX4_bits_X1_init : GoodIn wsX4_bits (wsX1_init) := ggX4_bits_X1_init
set_option maxRecDepth 20000 in
theorem ggX4_bits_X0_enter : GoodIn wsX4_bits wsX0_enter := goodIn_r _ [95, 51, 96, 97, 98, 23, 99, 100, 101, 42, 25, 102, 103, 104, 105, 106, 107, 108, 109, 110, 111, 112, 113, 114, 115, 73, 74, 75, 116, 117, 118, 119, 120, 121, 122, 123, 124, 125, 126, 127, 128, 129, 130, 131, 132, 133, 134, 135, 136, 137, 138, 139, 140, 141, 142, 143, 144, 145, 52, 21, 22, 24, 146, 147, 148, 149, 150, 151, 152, 153, 159, 160, 161] (by decide +kernel) (by decide +kernel)
set_option maxRecDepth 20000 in
theorem gX4_bits_X0_enter : GoodIn wsX4_bits (wsV RX4 91 RX0 yX0_enter wsX0_enter) := goodIn_app (goodIn_of _ (by decide +kernel)) ggX4_bits_X0_enter
theorem dX4_bits_0 : decode cX4_bits 0 = .ok (.aload_n 0, 1) := by decide +kernel
theorem dX4_bits_1 : decode cX4_bits 1 = .ok (.iload_n 1, 1) := by decide +kernel
theorem dX4_bits_2 : decode cX4_bits 2 = .ok (.invokevirtual 68, 3) := by decide +kernel
theorem dX4_bits_5 : decode cX4_bits 5 = .ok (.astore 5, 2) := by decide +kernel
theorem dX4_bits_7 : decode cX4_bits 7 = .ok (.aload 5, 2) := by decide +kernel
theorem dX4_bits_9 : decode cX4_bits 9 = .ok (.ifnonnull 5, 3) := by decide +kernel
theorem dX4_bits_12 : decode cX4_bits 12 = .ok (.iconst (-1), 1) := by decide +kernel
theorem dX4_bits_13 : decode cX4_bits 13 = .ok (.ireturn, 1) := by decide +kernel
theorem dX4_bits_14 : decode cX4_bits 14 = .ok (.iload_n 2, 1) := by decide +kernel
theorem dX4_bits_15 : decode cX4_bits 15 = .ok (.invokestatic 94, 3) := by decide +kernel
theorem dX4_bits_18 : decode cX4_bits 18 = .ok (.ifCond .eq 14, 3) := by decide +kernel
theorem dX4_bits_21 : decode cX4_bits 21 = .ok (.iload_n 3, 1) := by decide +kernel
theorem dX4_bits_22 : decode cX4_bits 22 = .ok (.iconst 1, 1) := by decide +kernel
theorem dX4_bits_23 : decode cX4_bits 23 = .ok (.if_icmp .lt 9, 3) := by decide +kernel
theorem dX4_bits_26 : decode cX4_bits 26 = .ok (.iload_n 3, 1) := by decide +kernel
theorem dX4_bits_27 : decode cX4_bits 27 = .ok (.bipush 32, 2) := by decide +kernel
theorem dX4_bits_29 : decode cX4_bits 29 = .ok (.if_icmp .le 6, 3) := by decide +kernel
theorem dX4_bits_32 : decode cX4_bits 32 = .ok (.bipush (-2), 2) := by decide +kernel
theorem dX4_bits_34 : decode cX4_bits 34 = .ok (.ireturn, 1) := by decide +kernel
theorem dX4_bits_35 : decode cX4_bits 35 = .ok (.iload 4, 2) := by decide +kernel
theorem dX4_bits_37 : decode cX4_bits 37 = .ok (.ifCond .eq 14, 3) := by decide +kernel
theorem dX4_bits_40 : decode cX4_bits 40 = .ok (.aload 5, 2) := by decide +kernel
theorem dX4_bits_42 : decode cX4_bits 42 = .ok (.invokevirtual 72, 3) := by decide +kernel
theorem dX4_bits_45 : decode cX4_bits 45 = .ok (.ifCond .eq 6, 3) := by decide +kernel
theorem dX4_bits_48 : decode cX4_bits 48 = .ok (.bipush (-3), 2) := by decide +kernel
theorem dX4_bits_50 : decode cX4_bits 50 = .ok (.ireturn, 1) := by decide +kernel
theorem dX4_bits_51 : decode cX4_bits 51 = .ok (.iload_n 3, 1) := by decide +kernel
theorem dX4_bits_52 : decode cX4_bits 52 = .ok (.aload 5, 2) := by decide +kernel
theorem dX4_bits_54 : decode cX4_bits 54 = .ok (.getfield 98, 3) := by decide +kernel
theorem dX4_bits_57 : decode cX4_bits 57 = .ok (.if_icmp .le 14, 3) := by decide +kernel
theorem dX4_bits_60 : decode cX4_bits 60 = .ok (.aload 5, 2) := by decide +kernel
theorem dX4_bits_62 : decode cX4_bits 62 = .ok (.invokevirtual 101, 3) := by decide +kernel
theorem dX4_bits_65 : decode cX4_bits 65 = .ok (.ifCond .ne 6, 3) := by decide +kernel
theorem dX4_bits_68 : decode cX4_bits 68 = .ok (.bipush (-4), 2) := by decide +kernel
theorem dX4_bits_70 : decode cX4_bits 70 = .ok (.ireturn, 1) := by decide +kernel
theorem dX4_bits_71 : decode cX4_bits 71 = .ok (.aload 5, 2) := by decide +kernel
theorem dX4_bits_73 : decode cX4_bits 73 = .ok (.iload_n 3, 1) := by decide +kernel
theorem dX4_bits_74 : decode cX4_bits 74 = .ok (.invokevirtual 104, 3) := by decide +kernel
theorem dX4_bits_77 : decode cX4_bits 77 = .ok (.istore 6, 2) := by decide +kernel
theorem dX4_bits_79 : decode cX4_bits 79 = .ok (.iload 4, 2) := by decide +kernel
theorem dX4_bits_81 : decode cX4_bits 81 = .ok (.ifCond .ne 6, 3) := by decide +kernel
theorem dX4_bits_84 : decode cX4_bits 84 = .ok (.bipush 100, 2) := by decide +kernel
theorem dX4_bits_86 : decode cX4_bits 86 = .ok (.ireturn, 1) := by decide +kernel
theorem dX4_bits_87 : decode cX4_bits 87 = .ok (.aload 5, 2) := by decide +kernel
theorem dX4_bits_89 : decode cX4_bits 89 = .ok (.new 86, 3) := by decide +kernel
theorem dX4_bits_92 : decode cX4_bits 92 = .ok (.dup, 1) := by decide +kernel
theorem dX4_bits_93 : decode cX4_bits 93 = .ok (.aload 5, 2) := by decide +kernel
theorem dX4_bits_95 : decode cX4_bits 95 = .ok (.getfield 107, 3) := by decide +kernel
theorem dX4_bits_98 : decode cX4_bits 98 = .ok (.iload_n 2, 1) := by decide +kernel
theorem dX4_bits_99 : decode cX4_bits 99 = .ok (.iload 6, 2) := by decide +kernel
theorem dX4_bits_101 : decode cX4_bits 101 = .ok (.iload_n 3, 1) := by decide +kernel
theorem dX4_bits_102 : decode cX4_bits 102 = .ok (.invokespecial 88, 3) := by decide +kernel
theorem dX4_bits_105 : decode cX4_bits 105 = .ok (.invokevirtual 91, 3) := by decide +kernel
theorem dX4_bits_108 : decode cX4_bits 108 = .ok (.ireturn, 1) := by decide +kernel
set_option maxRecDepth 20000 in
theorem ggX4_separate_X4_openRecordAt : GoodIn wsX4_separate wsX4_openRecordAt := goodIn_r _ [5, 6, 7, 8, 4, 9, 10, 11, 12, 13, 14, 15, 16, 17, 18, 19, 20, 21, 22, 23, 24, 25, 26, 27, 28, 29, 30, 31, 32, 33, 34, 35, 36, 37, 38, 39, 46, 47, 48, 49, 50, 51, 52, 53, 54, 55, 56, 57] (by decide +kernel) (by decide +kernel)
set_option maxRecDepth 20000 in
theorem gX4_separate_X4_openRecordAt : GoodIn wsX4_separate (wsV RX4 68 RX4 yX4_openRecordAt wsX4_openRecordAt) := goodIn_app (goodIn_of _ (by decide +kernel)) ggX4_separate_X4_openRecordAt
set_option maxRecDepth 20000 in
theorem ggX4_separate_X0_endUnit : GoodIn wsX4_separate wsX0_endUnit := goodIn_r _ [44, 45, 46, 47, 48, 49, 50, 51, 52, 53] (by decide +kernel) (by decide +kernel)
set_option maxRecDepth 20000 in
theorem gX4_separate_X0_endUnit : GoodIn wsX4_separate (wsV RX4 79 RX0 yX0_endUnit wsX0_endUnit) := goodIn_app (goodIn_of _ (by decide +kernel)) ggX4_separate_X0_endUnit
theorem dX4_separate_0 : decode cX4_separate 0 = .ok (.aload_n 0, 1) := by decide +kernel
theorem dX4_separate_1 : decode cX4_separate 1 = .ok (.iload_n 1, 1) := by decide +kernel
theorem dX4_separate_2 : decode cX4_separate 2 = .ok (.invokevirtual 68, 3) := by decide +kernel
theorem dX4_separate_5 : decode cX4_separate 5 = .ok (.astore_n 2, 1) := by decide +kernel
theorem dX4_separate_6 : decode cX4_separate 6 = .ok (.aload_n 2, 1) := by decide +kernel
theorem dX4_separate_7 : decode cX4_separate 7 = .ok (.ifnonnull 5, 3) := by decide +kernel
theorem dX4_separate_10 : decode cX4_separate 10 = .ok (.iconst 0, 1) := by decide +kernel
theorem dX4_separate_11 : decode cX4_separate 11 = .ok (.ireturn, 1) := by decide +kernel
theorem dX4_separate_12 : decode cX4_separate 12 = .ok (.aload_n 2, 1) := by decide +kernel
theorem dX4_separate_13 : decode cX4_separate 13 = .ok (.invokevirtual 79, 3) := by decide +kernel
theorem dX4_separate_16 : decode cX4_separate 16 = .ok (.iconst 1, 1) := by decide +kernel
theorem dX4_separate_17 : decode cX4_separate 17 = .ok (.ireturn, 1) := by decide +kernel
set_option maxRecDepth 20000 in
theorem ggX4_finish_X4_openRecordAt : GoodIn wsX4_finish wsX4_openRecordAt := goodIn_r _ [10, 11, 12, 13, 9, 14, 15, 16, 17, 18, 19, 20, 21, 22, 23, 24, 25, 26, 27, 28, 29, 30, 31, 32, 33, 34, 35, 36, 37, 38, 39, 40, 41, 42, 43, 44, 52, 53, 54, 55, 56, 57, 58, 59, 65, 66, 67, 68] (by decide +kernel) (by decide +kernel)
set_option maxRecDepth 20000 in
theorem gX4_finish_X4_openRecordAt : GoodIn wsX4_finish (wsV RX4 68 RX4 yX4_openRecordAt wsX4_openRecordAt) := goodIn_app (goodIn_of _ (by decide +kernel)) ggX4_finish_X4_openRecordAt
set_option maxRecDepth 20000 in
theorem ggX4_finish_Jx4a65c_isEmpty_aae02 : GoodIn wsX4_finish wsJx4a65c_isEmpty_aae02 := goodIn_r _ [48, 27, 66, 67, 68] (by decide +kernel) (by decide +kernel)
set_option maxRecDepth 20000 in
theorem gX4_finish_Jx4a65c_isEmpty_aae02 : GoodIn wsX4_finish (wsV RX4 113 RJx4a65c yJx4a65c_isEmpty_aae02 wsJx4a65c_isEmpty_aae02) := goodIn_app (goodIn_of _ (by decide +kernel)) ggX4_finish_Jx4a65c_isEmpty_aae02
set_option maxRecDepth 20000 in
theorem ggX4_finish_X4_roundUp : GoodIn wsX4_finish wsX4_roundUp := goodIn_r _ [51] (by decide +kernel) (by decide +kernel)
set_option maxRecDepth 20000 in
theorem gX4_finish_X4_roundUp : GoodIn wsX4_finish (va_wsS RX4 120 yX4_roundUp wsX4_roundUp) := goodIn_app (goodIn_of _ (by decide +kernel)) ggX4_finish_X4_roundUp
theorem dX4_finish_0 : decode cX4_finish 0 = .ok (.aload_n 0, 1) := by decide +kernel
theorem dX4_finish_1 : decode cX4_finish 1 = .ok (.iload_n 1, 1) := by decide +kernel
theorem dX4_finish_2 : decode cX4_finish 2 = .ok (.invokevirtual 68, 3) := by decide +kernel
theorem dX4_finish_5 : decode cX4_finish 5 = .ok (.astore_n 2, 1) := by decide +kernel
theorem dX4_finish_6 : decode cX4_finish 6 = .ok (.aload_n 2, 1) := by decide +kernel
theorem dX4_finish_7 : decode cX4_finish 7 = .ok (.ifnonnull 5, 3) := by decide +kernel
theorem dX4_finish_10 : decode cX4_finish 10 = .ok (.iconst (-1), 1) := by decide +kernel
theorem dX4_finish_11 : decode cX4_finish 11 = .ok (.ireturn, 1) := by decide +kernel
theorem dX4_finish_12 : decode cX4_finish 12 = .ok (.aload_n 2, 1) := by decide +kernel
theorem dX4_finish_13 : decode cX4_finish 13 = .ok (.getfield 110, 3) := by decide +kernel
theorem dX4_finish_16 : decode cX4_finish 16 = .ok (.invokevirtual 113, 3) := by decide +kernel
theorem dX4_finish_19 : decode cX4_finish 19 = .ok (.ifCond .eq 6, 3) := by decide +kernel
theorem dX4_finish_22 : decode cX4_finish 22 = .ok (.bipush (-2), 2) := by decide +kernel
theorem dX4_finish_24 : decode cX4_finish 24 = .ok (.ireturn, 1) := by decide +kernel
theorem dX4_finish_25 : decode cX4_finish 25 = .ok (.aload_n 2, 1) := by decide +kernel
theorem dX4_finish_26 : decode cX4_finish 26 = .ok (.getfield 116, 3) := by decide +kernel
theorem dX4_finish_29 : decode cX4_finish 29 = .ok (.aload_n 2, 1) := by decide +kernel
theorem dX4_finish_30 : decode cX4_finish 30 = .ok (.getfield 119, 3) := by decide +kernel
theorem dX4_finish_33 : decode cX4_finish 33 = .ok (.invokestatic 120, 3) := by decide +kernel
theorem dX4_finish_36 : decode cX4_finish 36 = .ok (.istore_n 3, 1) := by decide +kernel
theorem dX4_finish_37 : decode cX4_finish 37 = .ok (.iload_n 3, 1) := by decide +kernel
theorem dX4_finish_38 : decode cX4_finish 38 = .ok (.ldc 51, 2) := by decide +kernel
theorem dX4_finish_40 : decode cX4_finish 40 = .ok (.if_icmp .le 6, 3) := by decide +kernel
theorem dX4_finish_43 : decode cX4_finish 43 = .ok (.bipush (-3), 2) := by decide +kernel
theorem dX4_finish_45 : decode cX4_finish 45 = .ok (.ireturn, 1) := by decide +kernel
theorem dX4_finish_46 : decode cX4_finish 46 = .ok (.aload_n 2, 1) := by decide +kernel
theorem dX4_finish_47 : decode cX4_finish 47 = .ok (.iload_n 3, 1) := by decide +kernel
theorem dX4_finish_48 : decode cX4_finish 48 = .ok (.putfield 123, 3) := by decide +kernel
theorem dX4_finish_51 : decode cX4_finish 51 = .ok (.aload_n 2, 1) := by decide +kernel
theorem dX4_finish_52 : decode cX4_finish 52 = .ok (.iconst 0, 1) := by decide +kernel
theorem dX4_finish_53 : decode cX4_finish 53 = .ok (.putfield 124, 3) := by decide +kernel
theorem dX4_finish_56 : decode cX4_finish 56 = .ok (.iload_n 3, 1) := by decide +kernel
theorem dX4_finish_57 : decode cX4_finish 57 = .ok (.ireturn, 1) := by decide +kernel
set_option maxRecDepth 20000 in
theorem ggX4_types_Jx4a65c_size_8abf5 : GoodIn wsX4_types wsJx4a65c_size_8abf5 := goodIn_r _ [6, 7, 9, 10, 11] (by decide +kernel) (by decide +kernel)
set_option maxRecDepth 20000 in
theorem gX4_types_Jx4a65c_size_8abf5 : GoodIn wsX4_types (wsV RX4 128 RJx4a65c yJx4a65c_size_8abf5 wsJx4a65c_size_8abf5) := goodIn_app (goodIn_of _ (by decide +kernel)) ggX4_types_Jx4a65c_size_8abf5
theorem dX4_types_0 : decode cX4_types 0 = .ok (.aload_n 0, 1) := by decide +kernel
theorem dX4_types_1 : decode cX4_types 1 = .ok (.getfield 10, 3) := by decide +kernel
theorem dX4_types_4 : decode cX4_types 4 = .ok (.invokevirtual 128, 3) := by decide +kernel
theorem dX4_types_7 : decode cX4_types 7 = .ok (.ireturn, 1) := by decide +kernel
set_option maxRecDepth 20000 in
theorem ggX4_size_X4_typeAt : GoodIn wsX4_size wsX4_typeAt := goodIn_r _ [6, 7, 8, 9, 10, 11, 12, 13, 14, 15, 16, 17, 18, 19, 20, 21, 22, 23, 24, 25, 26, 27, 28, 29, 30, 31, 45, 46, 47, 48] (by decide +kernel) (by decide +kernel)
set_option maxRecDepth 20000 in
theorem gX4_size_X4_typeAt : GoodIn wsX4_size (wsV RX4 35 RX4 yX4_typeAt wsX4_typeAt) := goodIn_app (goodIn_of _ (by decide +kernel)) ggX4_size_X4_typeAt
theorem dX4_size_0 : decode cX4_size 0 = .ok (.aload_n 0, 1) := by decide +kernel
theorem dX4_size_1 : decode cX4_size 1 = .ok (.iload_n 1, 1) := by decide +kernel
theorem dX4_size_2 : decode cX4_size 2 = .ok (.invokevirtual 35, 3) := by decide +kernel
theorem dX4_size_5 : decode cX4_size 5 = .ok (.astore_n 2, 1) := by decide +kernel
theorem dX4_size_6 : decode cX4_size 6 = .ok (.aload_n 2, 1) := by decide +kernel
theorem dX4_size_7 : decode cX4_size 7 = .ok (.ifnonnull 7, 3) := by decide +kernel
theorem dX4_size_10 : decode cX4_size 10 = .ok (.iconst (-1), 1) := by decide +kernel
theorem dX4_size_11 : decode cX4_size 11 = .ok (.goto 7, 3) := by decide +kernel
theorem dX4_size_14 : decode cX4_size 14 = .ok (.aload_n 2, 1) := by decide +kernel
theorem dX4_size_15 : decode cX4_size 15 = .ok (.getfield 52, 3) := by decide +kernel
theorem dX4_size_18 : decode cX4_size 18 = .ok (.ireturn, 1) := by decide +kernel
set_option maxRecDepth 20000 in
theorem ggX4_align_X4_typeAt : GoodIn wsX4_align wsX4_typeAt := goodIn_r _ [6, 7, 8, 9, 10, 11, 12, 13, 14, 15, 16, 17, 18, 19, 20, 21, 22, 23, 24, 25, 26, 27, 28, 29, 30, 31, 45, 46, 47, 48] (by decide +kernel) (by decide +kernel)
set_option maxRecDepth 20000 in
theorem gX4_align_X4_typeAt : GoodIn wsX4_align (wsV RX4 35 RX4 yX4_typeAt wsX4_typeAt) := goodIn_app (goodIn_of _ (by decide +kernel)) ggX4_align_X4_typeAt
theorem dX4_align_0 : decode cX4_align 0 = .ok (.aload_n 0, 1) := by decide +kernel
theorem dX4_align_1 : decode cX4_align 1 = .ok (.iload_n 1, 1) := by decide +kernel
theorem dX4_align_2 : decode cX4_align 2 = .ok (.invokevirtual 35, 3) := by decide +kernel
theorem dX4_align_5 : decode cX4_align 5 = .ok (.astore_n 2, 1) := by decide +kernel
theorem dX4_align_6 : decode cX4_align 6 = .ok (.aload_n 2, 1) := by decide +kernel
theorem dX4_align_7 : decode cX4_align 7 = .ok (.ifnonnull 7, 3) := by decide +kernel
theorem dX4_align_10 : decode cX4_align 10 = .ok (.iconst (-1), 1) := by decide +kernel
theorem dX4_align_11 : decode cX4_align 11 = .ok (.goto 7, 3) := by decide +kernel
theorem dX4_align_14 : decode cX4_align 14 = .ok (.aload_n 2, 1) := by decide +kernel
theorem dX4_align_15 : decode cX4_align 15 = .ok (.getfield 60, 3) := by decide +kernel
theorem dX4_align_18 : decode cX4_align 18 = .ok (.ireturn, 1) := by decide +kernel
set_option maxRecDepth 20000 in
theorem ggX4_members_X4_recordAt : GoodIn wsX4_members wsX4_recordAt := goodIn_r _ [5, 6, 7, 8, 9, 4, 10, 11, 12, 13, 14, 15, 16, 17, 18, 19, 20, 21, 22, 23, 24, 25, 26, 27, 28, 29, 30, 31, 32, 33, 34, 35, 44, 45, 46, 47] (by decide +kernel) (by decide +kernel)
set_option maxRecDepth 20000 in
theorem gX4_members_X4_recordAt : GoodIn wsX4_members (wsV RX4 132 RX4 yX4_recordAt wsX4_recordAt) := goodIn_app (goodIn_of _ (by decide +kernel)) ggX4_members_X4_recordAt
set_option maxRecDepth 20000 in
theorem ggX4_members_Jx4a65c_size_8abf5 : GoodIn wsX4_members wsJx4a65c_size_8abf5 := goodIn_r _ [17, 18, 45, 46, 47] (by decide +kernel) (by decide +kernel)
set_option maxRecDepth 20000 in
theorem gX4_members_Jx4a65c_size_8abf5 : GoodIn wsX4_members (wsV RX4 128 RJx4a65c yJx4a65c_size_8abf5 wsJx4a65c_size_8abf5) := goodIn_app (goodIn_of _ (by decide +kernel)) ggX4_members_Jx4a65c_size_8abf5
theorem dX4_members_0 : decode cX4_members 0 = .ok (.aload_n 0, 1) := by decide +kernel
theorem dX4_members_1 : decode cX4_members 1 = .ok (.iload_n 1, 1) := by decide +kernel
theorem dX4_members_2 : decode cX4_members 2 = .ok (.invokevirtual 132, 3) := by decide +kernel
theorem dX4_members_5 : decode cX4_members 5 = .ok (.astore_n 2, 1) := by decide +kernel
theorem dX4_members_6 : decode cX4_members 6 = .ok (.aload_n 2, 1) := by decide +kernel
theorem dX4_members_7 : decode cX4_members 7 = .ok (.ifnonnull 7, 3) := by decide +kernel
theorem dX4_members_10 : decode cX4_members 10 = .ok (.iconst (-1), 1) := by decide +kernel
theorem dX4_members_11 : decode cX4_members 11 = .ok (.goto 10, 3) := by decide +kernel
theorem dX4_members_14 : decode cX4_members 14 = .ok (.aload_n 2, 1) := by decide +kernel
theorem dX4_members_15 : decode cX4_members 15 = .ok (.getfield 110, 3) := by decide +kernel
theorem dX4_members_18 : decode cX4_members 18 = .ok (.invokevirtual 128, 3) := by decide +kernel
theorem dX4_members_21 : decode cX4_members 21 = .ok (.ireturn, 1) := by decide +kernel
set_option maxRecDepth 20000 in
theorem ggX4_member_X4_recordAt : GoodIn wsX4_member wsX4_recordAt := goodIn_r _ [6, 7, 8, 9, 10, 5, 11, 12, 13, 14, 15, 16, 17, 18, 19, 20, 21, 22, 23, 24, 25, 26, 27, 28, 29, 30, 31, 32, 33, 34, 35, 36, 49, 50, 51, 52] (by decide +kernel) (by decide +kernel)
set_option maxRecDepth 20000 in
theorem gX4_member_X4_recordAt : GoodIn wsX4_member (wsV RX4 132 RX4 yX4_recordAt wsX4_recordAt) := goodIn_app (goodIn_of _ (by decide +kernel)) ggX4_member_X4_recordAt
set_option maxRecDepth 20000 in
theorem ggX4_member_Jx4a65c_size_8abf5 : GoodIn wsX4_member wsJx4a65c_size_8abf5 := goodIn_r _ [18, 19, 50, 51, 52] (by decide +kernel) (by decide +kernel)
set_option maxRecDepth 20000 in
theorem gX4_member_Jx4a65c_size_8abf5 : GoodIn wsX4_member (wsV RX4 128 RJx4a65c yJx4a65c_size_8abf5 wsJx4a65c_size_8abf5) := goodIn_app (goodIn_of _ (by decide +kernel)) ggX4_member_Jx4a65c_size_8abf5
set_option maxRecDepth 20000 in
theorem ggX4_member_Jx4a65c_get_915e3 : GoodIn wsX4_member wsJx4a65c_get_915e3 := goodIn_r _ [23, 19, 24, 25, 26, 27, 28, 29, 30, 31, 32, 33, 34, 17, 35, 36, 50, 51, 52] (by decide +kernel) (by decide +kernel)
set_option maxRecDepth 20000 in
theorem gX4_member_Jx4a65c_get_915e3 : GoodIn wsX4_member (wsV RX4 135 RJx4a65c yJx4a65c_get_915e3 wsJx4a65c_get_915e3) := goodIn_app (goodIn_of _ (by decide +kernel)) ggX4_member_Jx4a65c_get_915e3
theorem dX4_member_0 : decode cX4_member 0 = .ok (.aload_n 0, 1) := by decide +kernel
theorem dX4_member_1 : decode cX4_member 1 = .ok (.iload_n 1, 1) := by decide +kernel
theorem dX4_member_2 : decode cX4_member 2 = .ok (.invokevirtual 132, 3) := by decide +kernel
theorem dX4_member_5 : decode cX4_member 5 = .ok (.astore 4, 2) := by decide +kernel
theorem dX4_member_7 : decode cX4_member 7 = .ok (.aload 4, 2) := by decide +kernel
theorem dX4_member_9 : decode cX4_member 9 = .ok (.ifnull 19, 3) := by decide +kernel
theorem dX4_member_12 : decode cX4_member 12 = .ok (.iload_n 2, 1) := by decide +kernel
theorem dX4_member_13 : decode cX4_member 13 = .ok (.ifCond .lt 15, 3) := by decide +kernel
theorem dX4_member_16 : decode cX4_member 16 = .ok (.iload_n 2, 1) := by decide +kernel
theorem dX4_member_17 : decode cX4_member 17 = .ok (.aload 4, 2) := by decide +kernel
theorem dX4_member_19 : decode cX4_member 19 = .ok (.getfield 110, 3) := by decide +kernel
theorem dX4_member_22 : decode cX4_member 22 = .ok (.invokevirtual 128, 3) := by decide +kernel
theorem dX4_member_25 : decode cX4_member 25 = .ok (.if_icmp .lt 5, 3) := by decide +kernel
theorem dX4_member_28 : decode cX4_member 28 = .ok (.iconst (-1), 1) := by decide +kernel
theorem dX4_member_29 : decode cX4_member 29 = .ok (.ireturn, 1) := by decide +kernel
theorem dX4_member_30 : decode cX4_member 30 = .ok (.aload 4, 2) := by decide +kernel
theorem dX4_member_32 : decode cX4_member 32 = .ok (.getfield 110, 3) := by decide +kernel
theorem dX4_member_35 : decode cX4_member 35 = .ok (.iload_n 2, 1) := by decide +kernel
theorem dX4_member_36 : decode cX4_member 36 = .ok (.invokevirtual 135, 3) := by decide +kernel
theorem dX4_member_39 : decode cX4_member 39 = .ok (.checkcast 86, 3) := by decide +kernel
theorem dX4_member_42 : decode cX4_member 42 = .ok (.astore 5, 2) := by decide +kernel
theorem dX4_member_44 : decode cX4_member 44 = .ok (.iload_n 3, 1) := by decide +kernel
theorem dX4_member_45 : decode cX4_member 45 = .ok (.tableswitch 55 0 3 #[31, 37, 43, 49], 31) := by decide +kernel
theorem dX4_member_76 : decode cX4_member 76 = .ok (.aload 5, 2) := by decide +kernel
theorem dX4_member_78 : decode cX4_member 78 = .ok (.getfield 139, 3) := by decide +kernel
theorem dX4_member_81 : decode cX4_member 81 = .ok (.ireturn, 1) := by decide +kernel
theorem dX4_member_82 : decode cX4_member 82 = .ok (.aload 5, 2) := by decide +kernel
theorem dX4_member_84 : decode cX4_member 84 = .ok (.getfield 142, 3) := by decide +kernel
theorem dX4_member_87 : decode cX4_member 87 = .ok (.ireturn, 1) := by decide +kernel
theorem dX4_member_88 : decode cX4_member 88 = .ok (.aload 5, 2) := by decide +kernel
theorem dX4_member_90 : decode cX4_member 90 = .ok (.getfield 145, 3) := by decide +kernel
theorem dX4_member_93 : decode cX4_member 93 = .ok (.ireturn, 1) := by decide +kernel
theorem dX4_member_94 : decode cX4_member 94 = .ok (.aload 5, 2) := by decide +kernel
theorem dX4_member_96 : decode cX4_member 96 = .ok (.getfield 148, 3) := by decide +kernel
theorem dX4_member_99 : decode cX4_member 99 = .ok (.ireturn, 1) := by decide +kernel
theorem dX4_member_100 : decode cX4_member 100 = .ok (.iconst (-1), 1) := by decide +kernel
theorem dX4_member_101 : decode cX4_member 101 = .ok (.ireturn, 1) := by decide +kernel
set_option maxRecDepth 20000 in
theorem ggX4_isFull_Jx4a65c_size_8abf5 : GoodIn wsX4_isFull wsJx4a65c_size_8abf5 := goodIn_r _ [6, 7, 9, 10, 11] (by decide +kernel) (by decide +kernel)
set_option maxRecDepth 20000 in
theorem gX4_isFull_Jx4a65c_size_8abf5 : GoodIn wsX4_isFull (wsV RX4 128 RJx4a65c yJx4a65c_size_8abf5 wsJx4a65c_size_8abf5) := goodIn_app (goodIn_of _ (by decide +kernel)) ggX4_isFull_Jx4a65c_size_8abf5
theorem dX4_isFull_0 : decode cX4_isFull 0 = .ok (.aload_n 0, 1) := by decide +kernel
theorem dX4_isFull_1 : decode cX4_isFull 1 = .ok (.getfield 10, 3) := by decide +kernel
theorem dX4_isFull_4 : decode cX4_isFull 4 = .ok (.invokevirtual 128, 3) := by decide +kernel
theorem dX4_isFull_7 : decode cX4_isFull 7 = .ok (.sipush 300, 3) := by decide +kernel
theorem dX4_isFull_10 : decode cX4_isFull 10 = .ok (.if_icmp .lt 7, 3) := by decide +kernel
theorem dX4_isFull_13 : decode cX4_isFull 13 = .ok (.iconst 1, 1) := by decide +kernel
theorem dX4_isFull_14 : decode cX4_isFull 14 = .ok (.goto 4, 3) := by decide +kernel
theorem dX4_isFull_17 : decode cX4_isFull 17 = .ok (.iconst 0, 1) := by decide +kernel
theorem dX4_isFull_18 : decode cX4_isFull 18 = .ok (.ireturn, 1) := by decide +kernel
set_option maxRecDepth 20000 in
theorem ggX4_enter_Jx4a65c_add_9ea2d : GoodIn wsX4_enter wsJx4a65c_add_9ea2d := goodIn_r _ [6, 7, 8, 9, 10, 11, 12, 13, 5, 14, 15, 16, 17, 18, 19, 20, 21, 22, 23, 24, 25, 26, 27, 28, 29, 30, 31, 32, 33, 34, 35, 36, 37, 38, 39, 40, 41, 42, 43, 44, 45, 46, 47, 48, 49, 50, 51, 52, 53, 54, 55, 56, 57, 63, 64, 65] (by decide +kernel) (by decide +kernel)
set_option maxRecDepth 20000 in
theorem gX4_enter_Jx4a65c_add_9ea2d : GoodIn wsX4_enter (wsV RX4 31 RJx4a65c yJx4a65c_add_9ea2d wsJx4a65c_add_9ea2d) := goodIn_app (goodIn_of _ (by decide +kernel)) ggX4_enter_Jx4a65c_add_9ea2d
set_option maxRecDepth 20000 in
theorem ggX4_enter_Jx4a65c_size_8abf5 : GoodIn wsX4_enter wsJx4a65c_size_8abf5 := goodIn_r _ [61, 10, 63, 64, 65] (by decide +kernel) (by decide +kernel)
set_option maxRecDepth 20000 in
theorem gX4_enter_Jx4a65c_size_8abf5 : GoodIn wsX4_enter (wsV RX4 128 RJx4a65c yJx4a65c_size_8abf5 wsJx4a65c_size_8abf5) := goodIn_app (goodIn_of _ (by decide +kernel)) ggX4_enter_Jx4a65c_size_8abf5
theorem dX4_enter_0 : decode cX4_enter 0 = .ok (.aload_n 0, 1) := by decide +kernel
theorem dX4_enter_1 : decode cX4_enter 1 = .ok (.getfield 10, 3) := by decide +kernel
theorem dX4_enter_4 : decode cX4_enter 4 = .ok (.aload_n 1, 1) := by decide +kernel
theorem dX4_enter_5 : decode cX4_enter 5 = .ok (.invokevirtual 31, 3) := by decide +kernel
theorem dX4_enter_8 : decode cX4_enter 8 = .ok (.pop, 1) := by decide +kernel
theorem dX4_enter_9 : decode cX4_enter 9 = .ok (.aload_n 0, 1) := by decide +kernel
theorem dX4_enter_10 : decode cX4_enter 10 = .ok (.getfield 10, 3) := by decide +kernel
theorem dX4_enter_13 : decode cX4_enter 13 = .ok (.invokevirtual 128, 3) := by decide +kernel
theorem dX4_enter_16 : decode cX4_enter 16 = .ok (.iconst 1, 1) := by decide +kernel
theorem dX4_enter_17 : decode cX4_enter 17 = .ok (.isub, 1) := by decide +kernel
theorem dX4_enter_18 : decode cX4_enter 18 = .ok (.ireturn, 1) := by decide +kernel
set_option maxRecDepth 20000 in
theorem ggX4_typeAt_Jx4a65c_size_8abf5 : GoodIn wsX4_typeAt wsJx4a65c_size_8abf5 := goodIn_r _ [7, 8, 27, 28, 29] (by decide +kernel) (by decide +kernel)
set_option maxRecDepth 20000 in
theorem gX4_typeAt_Jx4a65c_size_8abf5 : GoodIn wsX4_typeAt (wsV RX4 128 RJx4a65c yJx4a65c_size_8abf5 wsJx4a65c_size_8abf5) := goodIn_app (goodIn_of _ (by decide +kernel)) ggX4_typeAt_Jx4a65c_size_8abf5
set_option maxRecDepth 20000 in
theorem ggX4_typeAt_Jx4a65c_get_915e3 : GoodIn wsX4_typeAt wsJx4a65c_get_915e3 := goodIn_r _ [12, 8, 13, 14, 15, 16, 17, 18, 19, 20, 21, 22, 23, 6, 24, 25, 27, 28, 29] (by decide +kernel) (by decide +kernel)
set_option maxRecDepth 20000 in
theorem gX4_typeAt_Jx4a65c_get_915e3 : GoodIn wsX4_typeAt (wsV RX4 135 RJx4a65c yJx4a65c_get_915e3 wsJx4a65c_get_915e3) := goodIn_app (goodIn_of _ (by decide +kernel)) ggX4_typeAt_Jx4a65c_get_915e3
theorem dX4_typeAt_0 : decode cX4_typeAt 0 = .ok (.iload_n 1, 1) := by decide +kernel
theorem dX4_typeAt_1 : decode cX4_typeAt 1 = .ok (.ifCond .lt 14, 3) := by decide +kernel
theorem dX4_typeAt_4 : decode cX4_typeAt 4 = .ok (.iload_n 1, 1) := by decide +kernel
theorem dX4_typeAt_5 : decode cX4_typeAt 5 = .ok (.aload_n 0, 1) := by decide +kernel
theorem dX4_typeAt_6 : decode cX4_typeAt 6 = .ok (.getfield 10, 3) := by decide +kernel
theorem dX4_typeAt_9 : decode cX4_typeAt 9 = .ok (.invokevirtual 128, 3) := by decide +kernel
theorem dX4_typeAt_12 : decode cX4_typeAt 12 = .ok (.if_icmp .lt 7, 3) := by decide +kernel
theorem dX4_typeAt_15 : decode cX4_typeAt 15 = .ok (.aconst_null, 1) := by decide +kernel
theorem dX4_typeAt_16 : decode cX4_typeAt 16 = .ok (.goto 14, 3) := by decide +kernel
theorem dX4_typeAt_19 : decode cX4_typeAt 19 = .ok (.aload_n 0, 1) := by decide +kernel
theorem dX4_typeAt_20 : decode cX4_typeAt 20 = .ok (.getfield 10, 3) := by decide +kernel
theorem dX4_typeAt_23 : decode cX4_typeAt 23 = .ok (.iload_n 1, 1) := by decide +kernel
theorem dX4_typeAt_24 : decode cX4_typeAt 24 = .ok (.invokevirtual 135, 3) := by decide +kernel
theorem dX4_typeAt_27 : decode cX4_typeAt 27 = .ok (.checkcast 53, 3) := by decide +kernel
theorem dX4_typeAt_30 : decode cX4_typeAt 30 = .ok (.areturn, 1) := by decide +kernel
set_option maxRecDepth 20000 in
theorem ggX4_recordAt_X4_typeAt : GoodIn wsX4_recordAt wsX4_typeAt := goodIn_r _ [6, 7, 8, 9, 10, 11, 12, 13, 14, 15, 16, 17, 18, 19, 20, 21, 22, 23, 24, 25, 26, 27, 28, 29, 30, 31, 32, 33, 34, 35] (by decide +kernel) (by decide +kernel)
set_option maxRecDepth 20000 in
theorem gX4_recordAt_X4_typeAt : GoodIn wsX4_recordAt (wsV RX4 35 RX4 yX4_typeAt wsX4_typeAt) := goodIn_app (goodIn_of _ (by decide +kernel)) ggX4_recordAt_X4_typeAt
theorem dX4_recordAt_0 : decode cX4_recordAt 0 = .ok (.aload_n 0, 1) := by decide +kernel
theorem dX4_recordAt_1 : decode cX4_recordAt 1 = .ok (.iload_n 1, 1) := by decide +kernel
theorem dX4_recordAt_2 : decode cX4_recordAt 2 = .ok (.invokevirtual 35, 3) := by decide +kernel
theorem dX4_recordAt_5 : decode cX4_recordAt 5 = .ok (.astore_n 3, 1) := by decide +kernel
theorem dX4_recordAt_6 : decode cX4_recordAt 6 = .ok (.aload_n 3, 1) := by decide +kernel
theorem dX4_recordAt_7 : decode cX4_recordAt 7 = .ok (.instanceof 63, 3) := by decide +kernel
theorem dX4_recordAt_10 : decode cX4_recordAt 10 = .ok (.ifCond .eq 12, 3) := by decide +kernel
theorem dX4_recordAt_13 : decode cX4_recordAt 13 = .ok (.aload_n 3, 1) := by decide +kernel
theorem dX4_recordAt_14 : decode cX4_recordAt 14 = .ok (.checkcast 63, 3) := by decide +kernel
theorem dX4_recordAt_17 : decode cX4_recordAt 17 = .ok (.astore_n 2, 1) := by decide +kernel
theorem dX4_recordAt_18 : decode cX4_recordAt 18 = .ok (.aload_n 2, 1) := by decide +kernel
theorem dX4_recordAt_19 : decode cX4_recordAt 19 = .ok (.goto 4, 3) := by decide +kernel
theorem dX4_recordAt_22 : decode cX4_recordAt 22 = .ok (.aconst_null, 1) := by decide +kernel
theorem dX4_recordAt_23 : decode cX4_recordAt 23 = .ok (.areturn, 1) := by decide +kernel
set_option maxRecDepth 20000 in
theorem ggX4_openRecordAt_X4_recordAt : GoodIn wsX4_openRecordAt wsX4_recordAt := goodIn_r _ [5, 6, 7, 8, 9, 4, 10, 11, 12, 13, 14, 15, 16, 17, 18, 19, 20, 21, 22, 23, 24, 25, 26, 27, 28, 29, 30, 31, 32, 33, 34, 35, 44, 45, 46, 47] (by decide +kernel) (by decide +kernel)
set_option maxRecDepth 20000 in
theorem gX4_openRecordAt_X4_recordAt : GoodIn wsX4_openRecordAt (wsV RX4 132 RX4 yX4_recordAt wsX4_recordAt) := goodIn_app (goodIn_of _ (by decide +kernel)) ggX4_openRecordAt_X4_recordAt
theorem dX4_openRecordAt_0 : decode cX4_openRecordAt 0 = .ok (.aload_n 0, 1) := by decide +kernel
theorem dX4_openRecordAt_1 : decode cX4_openRecordAt 1 = .ok (.iload_n 1, 1) := by decide +kernel
theorem dX4_openRecordAt_2 : decode cX4_openRecordAt 2 = .ok (.invokevirtual 132, 3) := by decide +kernel
theorem dX4_openRecordAt_5 : decode cX4_openRecordAt 5 = .ok (.astore_n 2, 1) := by decide +kernel
theorem dX4_openRecordAt_6 : decode cX4_openRecordAt 6 = .ok (.aload_n 2, 1) := by decide +kernel
theorem dX4_openRecordAt_7 : decode cX4_openRecordAt 7 = .ok (.ifnull 14, 3) := by decide +kernel
theorem dX4_openRecordAt_10 : decode cX4_openRecordAt 10 = .ok (.aload_n 2, 1) := by decide +kernel
theorem dX4_openRecordAt_11 : decode cX4_openRecordAt 11 = .ok (.getfield 124, 3) := by decide +kernel
theorem dX4_openRecordAt_14 : decode cX4_openRecordAt 14 = .ok (.ifCond .eq 7, 3) := by decide +kernel
theorem dX4_openRecordAt_17 : decode cX4_openRecordAt 17 = .ok (.aload_n 2, 1) := by decide +kernel
theorem dX4_openRecordAt_18 : decode cX4_openRecordAt 18 = .ok (.goto 4, 3) := by decide +kernel
theorem dX4_openRecordAt_21 : decode cX4_openRecordAt 21 = .ok (.aconst_null, 1) := by decide +kernel
theorem dX4_openRecordAt_22 : decode cX4_openRecordAt 22 = .ok (.areturn, 1) := by decide +kernel
set_option maxRecDepth 20000 in
theorem ggX4_find_Jx4a65c_size_8abf5 : GoodIn wsX4_find wsJx4a65c_size_8abf5 := goodIn_r _ [7, 8, 35, 36, 37] (by decide +kernel) (by decide +kernel)
set_option maxRecDepth 20000 in
theorem gX4_find_Jx4a65c_size_8abf5 : GoodIn wsX4_find (wsV RX4 128 RJx4a65c yJx4a65c_size_8abf5 wsJx4a65c_size_8abf5) := goodIn_app (goodIn_of _ (by decide +kernel)) ggX4_find_Jx4a65c_size_8abf5
set_option maxRecDepth 20000 in
theorem ggX4_find_Jx4a65c_get_915e3 : GoodIn wsX4_find wsJx4a65c_get_915e3 := goodIn_r _ [12, 8, 13, 14, 15, 16, 17, 18, 19, 20, 21, 22, 23, 6, 24, 25, 35, 36, 37] (by decide +kernel) (by decide +kernel)
set_option maxRecDepth 20000 in
theorem gX4_find_Jx4a65c_get_915e3 : GoodIn wsX4_find (wsV RX4 135 RJx4a65c yJx4a65c_get_915e3 wsJx4a65c_get_915e3) := goodIn_app (goodIn_of _ (by decide +kernel)) ggX4_find_Jx4a65c_get_915e3
set_option maxRecDepth 20000 in
theorem ggX4_find_X2_isMadeFrom : GoodIn wsX4_find wsX2_isMadeFrom := goodIn_r _ [30, 31, 32, 33, 38, 39, 40, 41, 42] (by decide +kernel) (by decide +kernel)
set_option maxRecDepth 20000 in
theorem gX4_find_X2_isMadeFrom : GoodIn wsX4_find (wsV RX4 151 RX2 yX2_isMadeFrom wsX2_isMadeFrom) := goodIn_app (goodIn_of _ (by decide +kernel)) ggX4_find_X2_isMadeFrom
theorem dX4_find_0 : decode cX4_find 0 = .ok (.iconst 0, 1) := by decide +kernel
theorem dX4_find_1 : decode cX4_find 1 = .ok (.istore 4, 2) := by decide +kernel
theorem dX4_find_3 : decode cX4_find 3 = .ok (.iload 4, 2) := by decide +kernel
theorem dX4_find_5 : decode cX4_find 5 = .ok (.aload_n 0, 1) := by decide +kernel
theorem dX4_find_6 : decode cX4_find 6 = .ok (.getfield 10, 3) := by decide +kernel
theorem dX4_find_9 : decode cX4_find 9 = .ok (.invokevirtual 128, 3) := by decide +kernel
theorem dX4_find_12 : decode cX4_find 12 = .ok (.if_icmp .ge 49, 3) := by decide +kernel
theorem dX4_find_15 : decode cX4_find 15 = .ok (.aload_n 0, 1) := by decide +kernel
theorem dX4_find_16 : decode cX4_find 16 = .ok (.getfield 10, 3) := by decide +kernel
theorem dX4_find_19 : decode cX4_find 19 = .ok (.iload 4, 2) := by decide +kernel
theorem dX4_find_21 : decode cX4_find 21 = .ok (.invokevirtual 135, 3) := by decide +kernel
theorem dX4_find_24 : decode cX4_find 24 = .ok (.astore 6, 2) := by decide +kernel
theorem dX4_find_26 : decode cX4_find 26 = .ok (.aload 6, 2) := by decide +kernel
theorem dX4_find_28 : decode cX4_find 28 = .ok (.instanceof 20, 3) := by decide +kernel
theorem dX4_find_31 : decode cX4_find 31 = .ok (.ifCond .eq 24, 3) := by decide +kernel
theorem dX4_find_34 : decode cX4_find 34 = .ok (.aload 6, 2) := by decide +kernel
theorem dX4_find_36 : decode cX4_find 36 = .ok (.checkcast 20, 3) := by decide +kernel
theorem dX4_find_39 : decode cX4_find 39 = .ok (.astore 5, 2) := by decide +kernel
theorem dX4_find_41 : decode cX4_find 41 = .ok (.aload 5, 2) := by decide +kernel
theorem dX4_find_43 : decode cX4_find 43 = .ok (.iload_n 1, 1) := by decide +kernel
theorem dX4_find_44 : decode cX4_find 44 = .ok (.iload_n 2, 1) := by decide +kernel
theorem dX4_find_45 : decode cX4_find 45 = .ok (.iload_n 3, 1) := by decide +kernel
theorem dX4_find_46 : decode cX4_find 46 = .ok (.invokevirtual 151, 3) := by decide +kernel
theorem dX4_find_49 : decode cX4_find 49 = .ok (.ifCond .eq 6, 3) := by decide +kernel
theorem dX4_find_52 : decode cX4_find 52 = .ok (.iload 4, 2) := by decide +kernel
theorem dX4_find_54 : decode cX4_find 54 = .ok (.ireturn, 1) := by decide +kernel
theorem dX4_find_55 : decode cX4_find 55 = .ok (.iinc 4 1, 3) := by decide +kernel
theorem dX4_find_58 : decode cX4_find 58 = .ok (.goto (-55), 3) := by decide +kernel
theorem dX4_find_61 : decode cX4_find 61 = .ok (.iconst (-1), 1) := by decide +kernel
theorem dX4_find_62 : decode cX4_find 62 = .ok (.ireturn, 1) := by decide +kernel
theorem dX4_isBitFieldType_0 : decode cX4_isBitFieldType 0 = .ok (.iload_n 0, 1) := by decide +kernel
theorem dX4_isBitFieldType_1 : decode cX4_isBitFieldType 1 = .ok (.iconst 5, 1) := by decide +kernel
theorem dX4_isBitFieldType_2 : decode cX4_isBitFieldType 2 = .ok (.if_icmp .eq 9, 3) := by decide +kernel
theorem dX4_isBitFieldType_5 : decode cX4_isBitFieldType 5 = .ok (.iload_n 0, 1) := by decide +kernel
theorem dX4_isBitFieldType_6 : decode cX4_isBitFieldType 6 = .ok (.bipush 6, 2) := by decide +kernel
theorem dX4_isBitFieldType_8 : decode cX4_isBitFieldType 8 = .ok (.if_icmp .ne 7, 3) := by decide +kernel
theorem dX4_isBitFieldType_11 : decode cX4_isBitFieldType 11 = .ok (.iconst 1, 1) := by decide +kernel
theorem dX4_isBitFieldType_12 : decode cX4_isBitFieldType 12 = .ok (.goto 4, 3) := by decide +kernel
theorem dX4_isBitFieldType_15 : decode cX4_isBitFieldType 15 = .ok (.iconst 0, 1) := by decide +kernel
theorem dX4_isBitFieldType_16 : decode cX4_isBitFieldType 16 = .ok (.ireturn, 1) := by decide +kernel
theorem dX4_roundUp_0 : decode cX4_roundUp 0 = .ok (.iload_n 1, 1) := by decide +kernel
theorem dX4_roundUp_1 : decode cX4_roundUp 1 = .ok (.ifCond .gt 5, 3) := by decide +kernel
theorem dX4_roundUp_4 : decode cX4_roundUp 4 = .ok (.iload_n 0, 1) := by decide +kernel
theorem dX4_roundUp_5 : decode cX4_roundUp 5 = .ok (.ireturn, 1) := by decide +kernel
theorem dX4_roundUp_6 : decode cX4_roundUp 6 = .ok (.iload_n 0, 1) := by decide +kernel
theorem dX4_roundUp_7 : decode cX4_roundUp 7 = .ok (.iload_n 1, 1) := by decide +kernel
theorem dX4_roundUp_8 : decode cX4_roundUp 8 = .ok (.irem, 1) := by decide +kernel
theorem dX4_roundUp_9 : decode cX4_roundUp 9 = .ok (.istore_n 2, 1) := by decide +kernel
theorem dX4_roundUp_10 : decode cX4_roundUp 10 = .ok (.iload_n 2, 1) := by decide +kernel
theorem dX4_roundUp_11 : decode cX4_roundUp 11 = .ok (.ifCond .ne 7, 3) := by decide +kernel
theorem dX4_roundUp_14 : decode cX4_roundUp 14 = .ok (.iload_n 0, 1) := by decide +kernel
theorem dX4_roundUp_15 : decode cX4_roundUp 15 = .ok (.goto 8, 3) := by decide +kernel
theorem dX4_roundUp_18 : decode cX4_roundUp 18 = .ok (.iload_n 0, 1) := by decide +kernel
theorem dX4_roundUp_19 : decode cX4_roundUp 19 = .ok (.iload_n 1, 1) := by decide +kernel
theorem dX4_roundUp_20 : decode cX4_roundUp 20 = .ok (.iadd, 1) := by decide +kernel
theorem dX4_roundUp_21 : decode cX4_roundUp 21 = .ok (.iload_n 2, 1) := by decide +kernel
theorem dX4_roundUp_22 : decode cX4_roundUp 22 = .ok (.isub, 1) := by decide +kernel
theorem dX4_roundUp_23 : decode cX4_roundUp 23 = .ok (.ireturn, 1) := by decide +kernel
theorem dX5_init_0 : decode cX5_init 0 = .ok (.aload_n 0, 1) := by decide +kernel
theorem dX5_init_1 : decode cX5_init 1 = .ok (.invokespecial 1, 3) := by decide +kernel
theorem dX5_init_4 : decode cX5_init 4 = .ok (.aload_n 0, 1) := by decide +kernel
theorem dX5_init_5 : decode cX5_init 5 = .ok (.iload_n 1, 1) := by decide +kernel
theorem dX5_init_6 : decode cX5_init 6 = .ok (.putfield 7, 3) := by decide +kernel
theorem dX5_init_9 : decode cX5_init 9 = .ok (.aload_n 0, 1) := by decide +kernel
theorem dX5_init_10 : decode cX5_init 10 = .ok (.iload_n 2, 1) := by decide +kernel
theorem dX5_init_11 : decode cX5_init 11 = .ok (.putfield 13, 3) := by decide +kernel
theorem dX5_init_14 : decode cX5_init 14 = .ok (.aload_n 0, 1) := by decide +kernel
theorem dX5_init_15 : decode cX5_init 15 = .ok (.iload_n 3, 1) := by decide +kernel
theorem dX5_init_16 : decode cX5_init 16 = .ok (.putfield 16, 3) := by decide +kernel
theorem dX5_init_19 : decode cX5_init 19 = .ok (.return_, 1) := by decide +kernel
set_option maxRecDepth 20000 in
theorem ggX6_init_Jx4a65c_init_da8c8 : GoodIn wsX6_init wsJx4a65c_init_da8c8 := goodIn_r _ [19, 20, 21, 22, 23, 24, 25, 26, 27, 28, 29, 30, 31, 2, 3, 32, 33, 34] (by decide +kernel) (by decide +kernel)
set_option maxRecDepth 20000 in
theorem gX6_init_Jx4a65c_init_da8c8 : GoodIn wsX6_init (wsJx4a65c_init_da8c8) := ggX6_init_Jx4a65c_init_da8c8
theorem dX6_init_0 : decode cX6_init 0 = .ok (.aload_n 0, 1) := by decide +kernel
theorem dX6_init_1 : decode cX6_init 1 = .ok (.invokespecial 1, 3) := by decide +kernel
theorem dX6_init_4 : decode cX6_init 4 = .ok (.aload_n 0, 1) := by decide +kernel
theorem dX6_init_5 : decode cX6_init 5 = .ok (.new 7, 3) := by decide +kernel
theorem dX6_init_8 : decode cX6_init 8 = .ok (.dup, 1) := by decide +kernel
theorem dX6_init_9 : decode cX6_init 9 = .ok (.invokespecial 9, 3) := by decide +kernel
theorem dX6_init_12 : decode cX6_init 12 = .ok (.putfield 10, 3) := by decide +kernel
theorem dX6_init_15 : decode cX6_init 15 = .ok (.aload_n 0, 1) := by decide +kernel
theorem dX6_init_16 : decode cX6_init 16 = .ok (.iload_n 1, 1) := by decide +kernel
theorem dX6_init_17 : decode cX6_init 17 = .ok (.putfield 16, 3) := by decide +kernel
theorem dX6_init_20 : decode cX6_init 20 = .ok (.aload_n 0, 1) := by decide +kernel
theorem dX6_init_21 : decode cX6_init 21 = .ok (.iload_n 2, 1) := by decide +kernel
theorem dX6_init_22 : decode cX6_init 22 = .ok (.putfield 20, 3) := by decide +kernel
theorem dX6_init_25 : decode cX6_init 25 = .ok (.aload_n 0, 1) := by decide +kernel
theorem dX6_init_26 : decode cX6_init 26 = .ok (.iload_n 3, 1) := by decide +kernel
theorem dX6_init_27 : decode cX6_init 27 = .ok (.putfield 23, 3) := by decide +kernel
theorem dX6_init_30 : decode cX6_init 30 = .ok (.aload_n 0, 1) := by decide +kernel
theorem dX6_init_31 : decode cX6_init 31 = .ok (.iload 4, 2) := by decide +kernel
theorem dX6_init_33 : decode cX6_init 33 = .ok (.putfield 26, 3) := by decide +kernel
theorem dX6_init_36 : decode cX6_init 36 = .ok (.aload_n 0, 1) := by decide +kernel
theorem dX6_init_37 : decode cX6_init 37 = .ok (.iload 4, 2) := by decide +kernel
theorem dX6_init_39 : decode cX6_init 39 = .ok (.iconst 4, 1) := by decide +kernel
theorem dX6_init_40 : decode cX6_init 40 = .ok (.invokestatic 29, 3) := by decide +kernel
theorem dX6_init_43 : decode cX6_init 43 = .ok (.putfield 35, 3) := by decide +kernel
theorem dX6_init_46 : decode cX6_init 46 = .ok (.return_, 1) := by decide +kernel
theorem dX6_record_0 : decode cX6_record 0 = .ok (.aload_n 0, 1) := by decide +kernel
theorem dX6_record_1 : decode cX6_record 1 = .ok (.getfield 16, 3) := by decide +kernel
theorem dX6_record_4 : decode cX6_record 4 = .ok (.iconst 2, 1) := by decide +kernel
theorem dX6_record_5 : decode cX6_record 5 = .ok (.if_icmp .le 7, 3) := by decide +kernel
theorem dX6_record_8 : decode cX6_record 8 = .ok (.iconst 1, 1) := by decide +kernel
theorem dX6_record_9 : decode cX6_record 9 = .ok (.goto 4, 3) := by decide +kernel
theorem dX6_record_12 : decode cX6_record 12 = .ok (.iconst 0, 1) := by decide +kernel
theorem dX6_record_13 : decode cX6_record 13 = .ok (.ireturn, 1) := by decide +kernel
set_option maxRecDepth 20000 in
theorem ggX7_init_Jx4a65c_init_da8c8 : GoodIn wsX7_init wsJx4a65c_init_da8c8 := goodIn_r _ [18, 19, 20, 21, 22, 23, 24, 25, 26, 27, 28, 29, 30, 2, 3, 97, 98, 99] (by decide +kernel) (by decide +kernel)
set_option maxRecDepth 20000 in
theorem gX7_init_Jx4a65c_init_da8c8 : GoodIn wsX7_init (wsJx4a65c_init_da8c8) := ggX7_init_Jx4a65c_init_da8c8
set_option maxRecDepth 20000 in
theorem ggX7_init_X6_init : GoodIn wsX7_init wsX6_init := goodIn_r _ [33, 34, 2, 3, 35, 5, 6, 36, 37, 38, 39, 40, 41, 42, 43, 44, 45, 46, 17, 18, 19, 20, 21, 22, 23, 24, 25, 26, 27, 28, 29, 30, 97, 98, 99, 108, 109, 110, 111, 112, 113, 114] (by decide +kernel) (by decide +kernel)
set_option maxRecDepth 20000 in
theorem gX7_init_X6_init : GoodIn wsX7_init (wsX6_init) := ggX7_init_X6_init
end
section
set_option maxRecDepth 20000 in
theorem ggX7_init_Jx4a65c_add_9ea2d : GoodIn wsX7_init wsJx4a65c_add_9ea2d := goodIn_r _ [50, 51, 52, 20, 53, 54, 55, 56, 6, 57, 58, 59, 60, 61, 62, 63, 64, 65, 19, 66, 67, 43, 68, 69, 70, 71, 72, 73, 74, 75, 76, 77, 78, 79, 80, 81, 82, 83, 84, 85, 86, 87, 88, 89, 90, 91, 92, 42, 44, 93, 94, 95, 96, 97, 98, 99] (by decide +kernel) (by decide +kernel)
set_option maxRecDepth 20000 in
theorem gX7_init_Jx4a65c_add_9ea2d : GoodIn wsX7_init (wsV RX7 34 RJx4a65c yJx4a65c_add_9ea2d wsJx4a65c_add_9ea2d) := goodIn_app (goodIn_of _ (by decide +kernel)) ggX7_init_Jx4a65c_add_9ea2d
theorem dX7_init_0 : decode cX7_init 0 = .ok (.aload_n 0, 1) := by decide +kernel
theorem dX7_init_1 : decode cX7_init 1 = .ok (.invokespecial 1, 3) := by decide +kernel
theorem dX7_init_4 : decode cX7_init 4 = .ok (.aload_n 0, 1) := by decide +kernel
theorem dX7_init_5 : decode cX7_init 5 = .ok (.new 7, 3) := by decide +kernel
theorem dX7_init_8 : decode cX7_init 8 = .ok (.dup, 1) := by decide +kernel
theorem dX7_init_9 : decode cX7_init 9 = .ok (.invokespecial 9, 3) := by decide +kernel
theorem dX7_init_12 : decode cX7_init 12 = .ok (.putfield 10, 3) := by decide +kernel
theorem dX7_init_15 : decode cX7_init 15 = .ok (.aload_n 0, 1) := by decide +kernel
theorem dX7_init_16 : decode cX7_init 16 = .ok (.bipush 100, 2) := by decide +kernel
theorem dX7_init_18 : decode cX7_init 18 = .ok (.newarray .int, 2) := by decide +kernel
theorem dX7_init_20 : decode cX7_init 20 = .ok (.putfield 16, 3) := by decide +kernel
theorem dX7_init_23 : decode cX7_init 23 = .ok (.aload_n 0, 1) := by decide +kernel
theorem dX7_init_24 : decode cX7_init 24 = .ok (.bipush 100, 2) := by decide +kernel
theorem dX7_init_26 : decode cX7_init 26 = .ok (.newarray .int, 2) := by decide +kernel
theorem dX7_init_28 : decode cX7_init 28 = .ok (.putfield 20, 3) := by decide +kernel
theorem dX7_init_31 : decode cX7_init 31 = .ok (.aload_n 0, 1) := by decide +kernel
theorem dX7_init_32 : decode cX7_init 32 = .ok (.bipush 100, 2) := by decide +kernel
theorem dX7_init_34 : decode cX7_init 34 = .ok (.newarray .int, 2) := by decide +kernel
theorem dX7_init_36 : decode cX7_init 36 = .ok (.putfield 23, 3) := by decide +kernel
theorem dX7_init_39 : decode cX7_init 39 = .ok (.aload_n 0, 1) := by decide +kernel
theorem dX7_init_40 : decode cX7_init 40 = .ok (.bipush 100, 2) := by decide +kernel
theorem dX7_init_42 : decode cX7_init 42 = .ok (.newarray .int, 2) := by decide +kernel
theorem dX7_init_44 : decode cX7_init 44 = .ok (.putfield 26, 3) := by decide +kernel
theorem dX7_init_47 : decode cX7_init 47 = .ok (.bipush 11, 2) := by decide +kernel
theorem dX7_init_49 : decode cX7_init 49 = .ok (.newarray .int, 2) := by decide +kernel
theorem dX7_init_51 : decode cX7_init 51 = .ok (.dup, 1) := by decide +kernel
theorem dX7_init_52 : decode cX7_init 52 = .ok (.iconst 0, 1) := by decide +kernel
theorem dX7_init_53 : decode cX7_init 53 = .ok (.iconst 0, 1) := by decide +kernel
theorem dX7_init_54 : decode cX7_init 54 = .ok (.iastore, 1) := by decide +kernel
theorem dX7_init_55 : decode cX7_init 55 = .ok (.dup, 1) := by decide +kernel
theorem dX7_init_56 : decode cX7_init 56 = .ok (.iconst 1, 1) := by decide +kernel
theorem dX7_init_57 : decode cX7_init 57 = .ok (.iconst 1, 1) := by decide +kernel
theorem dX7_init_58 : decode cX7_init 58 = .ok (.iastore, 1) := by decide +kernel
theorem dX7_init_59 : decode cX7_init 59 = .ok (.dup, 1) := by decide +kernel
theorem dX7_init_60 : decode cX7_init 60 = .ok (.iconst 2, 1) := by decide +kernel
theorem dX7_init_61 : decode cX7_init 61 = .ok (.iconst 1, 1) := by decide +kernel
theorem dX7_init_62 : decode cX7_init 62 = .ok (.iastore, 1) := by decide +kernel
theorem dX7_init_63 : decode cX7_init 63 = .ok (.dup, 1) := by decide +kernel
theorem dX7_init_64 : decode cX7_init 64 = .ok (.iconst 3, 1) := by decide +kernel
theorem dX7_init_65 : decode cX7_init 65 = .ok (.iconst 2, 1) := by decide +kernel
theorem dX7_init_66 : decode cX7_init 66 = .ok (.iastore, 1) := by decide +kernel
theorem dX7_init_67 : decode cX7_init 67 = .ok (.dup, 1) := by decide +kernel
theorem dX7_init_68 : decode cX7_init 68 = .ok (.iconst 4, 1) := by decide +kernel
theorem dX7_init_69 : decode cX7_init 69 = .ok (.iconst 2, 1) := by decide +kernel
theorem dX7_init_70 : decode cX7_init 70 = .ok (.iastore, 1) := by decide +kernel
theorem dX7_init_71 : decode cX7_init 71 = .ok (.dup, 1) := by decide +kernel
theorem dX7_init_72 : decode cX7_init 72 = .ok (.iconst 5, 1) := by decide +kernel
theorem dX7_init_73 : decode cX7_init 73 = .ok (.iconst 4, 1) := by decide +kernel
theorem dX7_init_74 : decode cX7_init 74 = .ok (.iastore, 1) := by decide +kernel
theorem dX7_init_75 : decode cX7_init 75 = .ok (.dup, 1) := by decide +kernel
theorem dX7_init_76 : decode cX7_init 76 = .ok (.bipush 6, 2) := by decide +kernel
theorem dX7_init_78 : decode cX7_init 78 = .ok (.iconst 4, 1) := by decide +kernel
theorem dX7_init_79 : decode cX7_init 79 = .ok (.iastore, 1) := by decide +kernel
theorem dX7_init_80 : decode cX7_init 80 = .ok (.dup, 1) := by decide +kernel
theorem dX7_init_81 : decode cX7_init 81 = .ok (.bipush 7, 2) := by decide +kernel
theorem dX7_init_83 : decode cX7_init 83 = .ok (.bipush 8, 2) := by decide +kernel
theorem dX7_init_85 : decode cX7_init 85 = .ok (.iastore, 1) := by decide +kernel
theorem dX7_init_86 : decode cX7_init 86 = .ok (.dup, 1) := by decide +kernel
theorem dX7_init_87 : decode cX7_init 87 = .ok (.bipush 8, 2) := by decide +kernel
theorem dX7_init_89 : decode cX7_init 89 = .ok (.bipush 8, 2) := by decide +kernel
theorem dX7_init_91 : decode cX7_init 91 = .ok (.iastore, 1) := by decide +kernel
theorem dX7_init_92 : decode cX7_init 92 = .ok (.dup, 1) := by decide +kernel
theorem dX7_init_93 : decode cX7_init 93 = .ok (.bipush 9, 2) := by decide +kernel
theorem dX7_init_95 : decode cX7_init 95 = .ok (.iconst 4, 1) := by decide +kernel
theorem dX7_init_96 : decode cX7_init 96 = .ok (.iastore, 1) := by decide +kernel
theorem dX7_init_97 : decode cX7_init 97 = .ok (.dup, 1) := by decide +kernel
theorem dX7_init_98 : decode cX7_init 98 = .ok (.bipush 10, 2) := by decide +kernel
theorem dX7_init_100 : decode cX7_init 100 = .ok (.bipush 8, 2) := by decide +kernel
theorem dX7_init_102 : decode cX7_init 102 = .ok (.iastore, 1) := by decide +kernel
theorem dX7_init_103 : decode cX7_init 103 = .ok (.astore_n 1, 1) := by decide +kernel
theorem dX7_init_104 : decode cX7_init 104 = .ok (.iconst 0, 1) := by decide +kernel
theorem dX7_init_105 : decode cX7_init 105 = .ok (.istore_n 2, 1) := by decide +kernel
theorem dX7_init_106 : decode cX7_init 106 = .ok (.iload_n 2, 1) := by decide +kernel
theorem dX7_init_107 : decode cX7_init 107 = .ok (.bipush 11, 2) := by decide +kernel
theorem dX7_init_109 : decode cX7_init 109 = .ok (.if_icmp .ge 30, 3) := by decide +kernel
theorem dX7_init_112 : decode cX7_init 112 = .ok (.aload_n 0, 1) := by decide +kernel
theorem dX7_init_113 : decode cX7_init 113 = .ok (.getfield 10, 3) := by decide +kernel
theorem dX7_init_116 : decode cX7_init 116 = .ok (.new 29, 3) := by decide +kernel
theorem dX7_init_119 : decode cX7_init 119 = .ok (.dup, 1) := by decide +kernel
theorem dX7_init_120 : decode cX7_init 120 = .ok (.iconst 0, 1) := by decide +kernel
theorem dX7_init_121 : decode cX7_init 121 = .ok (.iconst 0, 1) := by decide +kernel
theorem dX7_init_122 : decode cX7_init 122 = .ok (.iconst 0, 1) := by decide +kernel
theorem dX7_init_123 : decode cX7_init 123 = .ok (.aload_n 1, 1) := by decide +kernel
theorem dX7_init_124 : decode cX7_init 124 = .ok (.iload_n 2, 1) := by decide +kernel
theorem dX7_init_125 : decode cX7_init 125 = .ok (.iaload, 1) := by decide +kernel
theorem dX7_init_126 : decode cX7_init 126 = .ok (.invokespecial 31, 3) := by decide +kernel
theorem dX7_init_129 : decode cX7_init 129 = .ok (.invokevirtual 34, 3) := by decide +kernel
theorem dX7_init_132 : decode cX7_init 132 = .ok (.pop, 1) := by decide +kernel
theorem dX7_init_133 : decode cX7_init 133 = .ok (.iinc 2 1, 3) := by decide +kernel
theorem dX7_init_136 : decode cX7_init 136 = .ok (.goto (-30), 3) := by decide +kernel
theorem dX7_init_139 : decode cX7_init 139 = .ok (.return_, 1) := by decide +kernel
set_option maxRecDepth 20000 in
theorem ggX7_there_Jx4a65c_size_8abf5 : GoodIn wsX7_there wsJx4a65c_size_8abf5 := goodIn_r _ [6, 7, 16, 17, 18] (by decide +kernel) (by decide +kernel)
set_option maxRecDepth 20000 in
theorem gX7_there_Jx4a65c_size_8abf5 : GoodIn wsX7_there (wsV RX7 38 RJx4a65c yJx4a65c_size_8abf5 wsJx4a65c_size_8abf5) := goodIn_app (goodIn_of _ (by decide +kernel)) ggX7_there_Jx4a65c_size_8abf5
theorem dX7_there_0 : decode cX7_there 0 = .ok (.iload_n 1, 1) := by decide +kernel
theorem dX7_there_1 : decode cX7_there 1 = .ok (.ifCond .lt 18, 3) := by decide +kernel
theorem dX7_there_4 : decode cX7_there 4 = .ok (.iload_n 1, 1) := by decide +kernel
theorem dX7_there_5 : decode cX7_there 5 = .ok (.aload_n 0, 1) := by decide +kernel
theorem dX7_there_6 : decode cX7_there 6 = .ok (.getfield 10, 3) := by decide +kernel
theorem dX7_there_9 : decode cX7_there 9 = .ok (.invokevirtual 38, 3) := by decide +kernel
theorem dX7_there_12 : decode cX7_there 12 = .ok (.if_icmp .ge 7, 3) := by decide +kernel
theorem dX7_there_15 : decode cX7_there 15 = .ok (.iconst 1, 1) := by decide +kernel
theorem dX7_there_16 : decode cX7_there 16 = .ok (.goto 4, 3) := by decide +kernel
theorem dX7_there_19 : decode cX7_there 19 = .ok (.iconst 0, 1) := by decide +kernel
theorem dX7_there_20 : decode cX7_there 20 = .ok (.ireturn, 1) := by decide +kernel
set_option maxRecDepth 20000 in
theorem ggX7_open_X7_there : GoodIn wsX7_open wsX7_there := goodIn_r _ [8, 1, 9, 10, 11, 12, 13, 14, 38, 39, 40, 41, 42, 43, 44, 45, 53, 54, 55] (by decide +kernel) (by decide +kernel)
set_option maxRecDepth 20000 in
theorem gX7_open_X7_there : GoodIn wsX7_open (wsV RX7 42 RX7 yX7_there wsX7_there) := goodIn_app (goodIn_of _ (by decide +kernel)) ggX7_open_X7_there
set_option maxRecDepth 20000 in
theorem ggX7_open_Jx4a65c_get_915e3 : GoodIn wsX7_open wsJx4a65c_get_915e3 := goodIn_r _ [18, 14, 19, 20, 21, 22, 23, 24, 25, 26, 27, 28, 29, 12, 30, 31, 53, 54, 55] (by decide +kernel) (by decide +kernel)
set_option maxRecDepth 20000 in
theorem gX7_open_Jx4a65c_get_915e3 : GoodIn wsX7_open (wsV RX7 46 RJx4a65c yJx4a65c_get_915e3 wsJx4a65c_get_915e3) := goodIn_app (goodIn_of _ (by decide +kernel)) ggX7_open_Jx4a65c_get_915e3
set_option maxRecDepth 20000 in
theorem ggX7_open_X6_record : GoodIn wsX7_open wsX6_record := goodIn_r _ [36, 37, 46, 47, 48, 49, 50, 51, 52] (by decide +kernel) (by decide +kernel)
set_option maxRecDepth 20000 in
theorem gX7_open_X6_record : GoodIn wsX7_open (wsV RX7 50 RX6 yX6_record wsX6_record) := goodIn_app (goodIn_of _ (by decide +kernel)) ggX7_open_X6_record
theorem dX7_open_0 : decode cX7_open 0 = .ok (.aload_n 0, 1) := by decide +kernel
theorem dX7_open_1 : decode cX7_open 1 = .ok (.iload_n 1, 1) := by decide +kernel
theorem dX7_open_2 : decode cX7_open 2 = .ok (.invokevirtual 42, 3) := by decide +kernel
theorem dX7_open_5 : decode cX7_open 5 = .ok (.ifCond .eq 17, 3) := by decide +kernel
theorem dX7_open_8 : decode cX7_open 8 = .ok (.aload_n 0, 1) := by decide +kernel
theorem dX7_open_9 : decode cX7_open 9 = .ok (.getfield 10, 3) := by decide +kernel
theorem dX7_open_12 : decode cX7_open 12 = .ok (.iload_n 1, 1) := by decide +kernel
theorem dX7_open_13 : decode cX7_open 13 = .ok (.invokevirtual 46, 3) := by decide +kernel
theorem dX7_open_16 : decode cX7_open 16 = .ok (.checkcast 29, 3) := by decide +kernel
theorem dX7_open_19 : decode cX7_open 19 = .ok (.goto 4, 3) := by decide +kernel
theorem dX7_open_22 : decode cX7_open 22 = .ok (.aconst_null, 1) := by decide +kernel
theorem dX7_open_23 : decode cX7_open 23 = .ok (.astore_n 2, 1) := by decide +kernel
theorem dX7_open_24 : decode cX7_open 24 = .ok (.aload_n 2, 1) := by decide +kernel
theorem dX7_open_25 : decode cX7_open 25 = .ok (.ifnull 21, 3) := by decide +kernel
theorem dX7_open_28 : decode cX7_open 28 = .ok (.aload_n 2, 1) := by decide +kernel
theorem dX7_open_29 : decode cX7_open 29 = .ok (.invokevirtual 50, 3) := by decide +kernel
theorem dX7_open_32 : decode cX7_open 32 = .ok (.ifCond .eq 14, 3) := by decide +kernel
theorem dX7_open_35 : decode cX7_open 35 = .ok (.aload_n 2, 1) := by decide +kernel
theorem dX7_open_36 : decode cX7_open 36 = .ok (.getfield 54, 3) := by decide +kernel
theorem dX7_open_39 : decode cX7_open 39 = .ok (.ifCond .ne 7, 3) := by decide +kernel
theorem dX7_open_42 : decode cX7_open 42 = .ok (.aload_n 2, 1) := by decide +kernel
theorem dX7_open_43 : decode cX7_open 43 = .ok (.goto 4, 3) := by decide +kernel
theorem dX7_open_46 : decode cX7_open 46 = .ok (.aconst_null, 1) := by decide +kernel
theorem dX7_open_47 : decode cX7_open 47 = .ok (.areturn, 1) := by decide +kernel
set_option maxRecDepth 20000 in
theorem ggX7_made_Jx4a65c_add_9ea2d : GoodIn wsX7_made wsJx4a65c_add_9ea2d := goodIn_r _ [6, 7, 8, 9, 10, 11, 12, 13, 5, 14, 15, 16, 17, 18, 19, 20, 21, 22, 23, 24, 25, 26, 27, 28, 29, 30, 31, 32, 33, 34, 35, 36, 37, 38, 39, 40, 41, 42, 43, 44, 45, 46, 47, 48, 49, 50, 51, 52, 53, 54, 55, 56, 57, 70, 71, 72] (by decide +kernel) (by decide +kernel)
set_option maxRecDepth 20000 in
theorem gX7_made_Jx4a65c_add_9ea2d : GoodIn wsX7_made (wsV RX7 34 RJx4a65c yJx4a65c_add_9ea2d wsJx4a65c_add_9ea2d) := goodIn_app (goodIn_of _ (by decide +kernel)) ggX7_made_Jx4a65c_add_9ea2d
set_option maxRecDepth 20000 in
theorem ggX7_made_Jx4a65c_size_8abf5 : GoodIn wsX7_made wsJx4a65c_size_8abf5 := goodIn_r _ [61, 10, 70, 71, 72] (by decide +kernel) (by decide +kernel)
set_option maxRecDepth 20000 in
theorem gX7_made_Jx4a65c_size_8abf5 : GoodIn wsX7_made (wsV RX7 38 RJx4a65c yJx4a65c_size_8abf5 wsJx4a65c_size_8abf5) := goodIn_app (goodIn_of _ (by decide +kernel)) ggX7_made_Jx4a65c_size_8abf5
theorem dX7_made_0 : decode cX7_made 0 = .ok (.aload_n 0, 1) := by decide +kernel
theorem dX7_made_1 : decode cX7_made 1 = .ok (.getfield 10, 3) := by decide +kernel
theorem dX7_made_4 : decode cX7_made 4 = .ok (.aload_n 1, 1) := by decide +kernel
theorem dX7_made_5 : decode cX7_made 5 = .ok (.invokevirtual 34, 3) := by decide +kernel
theorem dX7_made_8 : decode cX7_made 8 = .ok (.pop, 1) := by decide +kernel
theorem dX7_made_9 : decode cX7_made 9 = .ok (.aload_n 0, 1) := by decide +kernel
theorem dX7_made_10 : decode cX7_made 10 = .ok (.getfield 10, 3) := by decide +kernel
theorem dX7_made_13 : decode cX7_made 13 = .ok (.invokevirtual 38, 3) := by decide +kernel
theorem dX7_made_16 : decode cX7_made 16 = .ok (.iconst 1, 1) := by decide +kernel
theorem dX7_made_17 : decode cX7_made 17 = .ok (.isub, 1) := by decide +kernel
theorem dX7_made_18 : decode cX7_made 18 = .ok (.ireturn, 1) := by decide +kernel
set_option maxRecDepth 20000 in
theorem ggX7_known_Jx4a65c_size_8abf5 : GoodIn wsX7_known wsJx4a65c_size_8abf5 := goodIn_r _ [10, 11, 44, 45, 46] (by decide +kernel) (by decide +kernel)
set_option maxRecDepth 20000 in
theorem gX7_known_Jx4a65c_size_8abf5 : GoodIn wsX7_known (wsV RX7 38 RJx4a65c yJx4a65c_size_8abf5 wsJx4a65c_size_8abf5) := goodIn_app (goodIn_of _ (by decide +kernel)) ggX7_known_Jx4a65c_size_8abf5
set_option maxRecDepth 20000 in
theorem ggX7_known_Jx4a65c_get_915e3 : GoodIn wsX7_known wsJx4a65c_get_915e3 := goodIn_r _ [15, 11, 16, 17, 18, 19, 20, 21, 22, 23, 24, 25, 26, 9, 27, 28, 44, 45, 46] (by decide +kernel) (by decide +kernel)
set_option maxRecDepth 20000 in
theorem gX7_known_Jx4a65c_get_915e3 : GoodIn wsX7_known (wsV RX7 46 RJx4a65c yJx4a65c_get_915e3 wsJx4a65c_get_915e3) := goodIn_app (goodIn_of _ (by decide +kernel)) ggX7_known_Jx4a65c_get_915e3
theorem dX7_known_0 : decode cX7_known 0 = .ok (.iconst 0, 1) := by decide +kernel
theorem dX7_known_1 : decode cX7_known 1 = .ok (.istore 4, 2) := by decide +kernel
theorem dX7_known_3 : decode cX7_known 3 = .ok (.iload 4, 2) := by decide +kernel
theorem dX7_known_5 : decode cX7_known 5 = .ok (.aload_n 0, 1) := by decide +kernel
theorem dX7_known_6 : decode cX7_known 6 = .ok (.getfield 10, 3) := by decide +kernel
theorem dX7_known_9 : decode cX7_known 9 = .ok (.invokevirtual 38, 3) := by decide +kernel
theorem dX7_known_12 : decode cX7_known 12 = .ok (.if_icmp .ge 53, 3) := by decide +kernel
theorem dX7_known_15 : decode cX7_known 15 = .ok (.aload_n 0, 1) := by decide +kernel
theorem dX7_known_16 : decode cX7_known 16 = .ok (.getfield 10, 3) := by decide +kernel
theorem dX7_known_19 : decode cX7_known 19 = .ok (.iload 4, 2) := by decide +kernel
theorem dX7_known_21 : decode cX7_known 21 = .ok (.invokevirtual 46, 3) := by decide +kernel
theorem dX7_known_24 : decode cX7_known 24 = .ok (.checkcast 29, 3) := by decide +kernel
theorem dX7_known_27 : decode cX7_known 27 = .ok (.astore 5, 2) := by decide +kernel
theorem dX7_known_29 : decode cX7_known 29 = .ok (.aload 5, 2) := by decide +kernel
theorem dX7_known_31 : decode cX7_known 31 = .ok (.getfield 58, 3) := by decide +kernel
theorem dX7_known_34 : decode cX7_known 34 = .ok (.iload_n 1, 1) := by decide +kernel
theorem dX7_known_35 : decode cX7_known 35 = .ok (.if_icmp .ne 24, 3) := by decide +kernel
theorem dX7_known_38 : decode cX7_known 38 = .ok (.aload 5, 2) := by decide +kernel
theorem dX7_known_40 : decode cX7_known 40 = .ok (.getfield 62, 3) := by decide +kernel
theorem dX7_known_43 : decode cX7_known 43 = .ok (.iload_n 2, 1) := by decide +kernel
theorem dX7_known_44 : decode cX7_known 44 = .ok (.if_icmp .ne 15, 3) := by decide +kernel
theorem dX7_known_47 : decode cX7_known 47 = .ok (.aload 5, 2) := by decide +kernel
theorem dX7_known_49 : decode cX7_known 49 = .ok (.getfield 65, 3) := by decide +kernel
theorem dX7_known_52 : decode cX7_known 52 = .ok (.iload_n 3, 1) := by decide +kernel
theorem dX7_known_53 : decode cX7_known 53 = .ok (.if_icmp .ne 6, 3) := by decide +kernel
theorem dX7_known_56 : decode cX7_known 56 = .ok (.iload 4, 2) := by decide +kernel
theorem dX7_known_58 : decode cX7_known 58 = .ok (.ireturn, 1) := by decide +kernel
theorem dX7_known_59 : decode cX7_known 59 = .ok (.iinc 4 1, 3) := by decide +kernel
theorem dX7_known_62 : decode cX7_known 62 = .ok (.goto (-59), 3) := by decide +kernel
theorem dX7_known_65 : decode cX7_known 65 = .ok (.iconst (-1), 1) := by decide +kernel
theorem dX7_known_66 : decode cX7_known 66 = .ok (.ireturn, 1) := by decide +kernel
set_option maxRecDepth 20000 in
theorem ggX7_pointer_X7_there : GoodIn wsX7_pointer wsX7_there := goodIn_r _ [9, 1, 10, 11, 12, 13, 14, 15, 126, 127, 128, 129, 130, 131, 132, 133, 141, 142, 143] (by decide +kernel) (by decide +kernel)
set_option maxRecDepth 20000 in
theorem gX7_pointer_X7_there : GoodIn wsX7_pointer (wsV RX7 42 RX7 yX7_there wsX7_there) := goodIn_app (goodIn_of _ (by decide +kernel)) ggX7_pointer_X7_there
set_option maxRecDepth 20000 in
theorem ggX7_pointer_X7_known : GoodIn wsX7_pointer wsX7_known := goodIn_r _ [19, 1, 20, 21, 22, 23, 10, 11, 12, 13, 14, 15, 24, 25, 26, 27, 28, 29, 30, 31, 32, 33, 34, 35, 36, 37, 38, 39, 40, 126, 127, 128, 129, 130, 131, 132, 133, 134, 135, 136, 137, 138, 139, 140, 141, 142, 143] (by decide +kernel) (by decide +kernel)
set_option maxRecDepth 20000 in
theorem gX7_pointer_X7_known : GoodIn wsX7_pointer (wsV RX7 68 RX7 yX7_known wsX7_known) := goodIn_app (goodIn_of _ (by decide +kernel)) ggX7_pointer_X7_known
set_option maxRecDepth 20000 in
theorem ggX7_pointer_Jx4a65c_size_8abf5 : GoodIn wsX7_pointer wsJx4a65c_size_8abf5 := goodIn_r _ [14, 15, 141, 142, 143] (by decide +kernel) (by decide +kernel)
set_option maxRecDepth 20000 in
theorem gX7_pointer_Jx4a65c_size_8abf5 : GoodIn wsX7_pointer (wsV RX7 38 RJx4a65c yJx4a65c_size_8abf5 wsJx4a65c_size_8abf5) := goodIn_app (goodIn_of _ (by decide +kernel)) ggX7_pointer_Jx4a65c_size_8abf5
set_option maxRecDepth 20000 in
theorem ggX7_pointer_X6_init : GoodIn wsX7_pointer wsX6_init := goodIn_r _ [43, 44, 45, 46, 47, 48, 13, 49, 50, 51, 52, 53, 54, 55, 56, 57, 58, 59, 60, 61, 62, 40, 63, 64, 65, 66, 67, 68, 69, 70, 71, 72, 141, 142, 143, 134, 135, 136, 137, 138, 139, 140] (by decide +kernel) (by decide +kernel)
set_option maxRecDepth 20000 in
theorem gX7_pointer_X6_init : GoodIn wsX7_pointer (wsX6_init) := ggX7_pointer_X6_init
set_option maxRecDepth 20000 in
theorem ggX7_pointer_X7_made : GoodIn wsX7_pointer wsX7_made := goodIn_r _ [76, 1, 77, 78, 79, 13, 80, 81, 82, 40, 15, 83, 84, 85, 86, 87, 88, 89, 90, 91, 92, 93, 94, 62, 95, 96, 56, 97, 98, 99, 100, 101, 102, 103, 104, 105, 106, 107, 108, 109, 110, 111, 112, 113, 114, 115, 116, 117, 118, 119, 120, 121, 55, 57, 122, 123, 124, 125, 10, 11, 12, 14, 126, 127, 128, 129, 130, 131, 132, 133, 141, 142, 143] (by decide +kernel) (by decide +kernel)
set_option maxRecDepth 20000 in
theorem gX7_pointer_X7_made : GoodIn wsX7_pointer (wsV RX7 72 RX7 yX7_made wsX7_made) := goodIn_app (goodIn_of _ (by decide +kernel)) ggX7_pointer_X7_made
theorem dX7_pointer_0 : decode cX7_pointer 0 = .ok (.aload_n 0, 1) := by decide +kernel
theorem dX7_pointer_1 : decode cX7_pointer 1 = .ok (.iload_n 1, 1) := by decide +kernel
theorem dX7_pointer_2 : decode cX7_pointer 2 = .ok (.invokevirtual 42, 3) := by decide +kernel
theorem dX7_pointer_5 : decode cX7_pointer 5 = .ok (.ifCond .ne 5, 3) := by decide +kernel
theorem dX7_pointer_8 : decode cX7_pointer 8 = .ok (.iconst (-1), 1) := by decide +kernel
theorem dX7_pointer_9 : decode cX7_pointer 9 = .ok (.ireturn, 1) := by decide +kernel
theorem dX7_pointer_10 : decode cX7_pointer 10 = .ok (.aload_n 0, 1) := by decide +kernel
theorem dX7_pointer_11 : decode cX7_pointer 11 = .ok (.iconst 1, 1) := by decide +kernel
theorem dX7_pointer_12 : decode cX7_pointer 12 = .ok (.iload_n 1, 1) := by decide +kernel
theorem dX7_pointer_13 : decode cX7_pointer 13 = .ok (.iconst 0, 1) := by decide +kernel
theorem dX7_pointer_14 : decode cX7_pointer 14 = .ok (.invokevirtual 68, 3) := by decide +kernel
theorem dX7_pointer_17 : decode cX7_pointer 17 = .ok (.istore_n 2, 1) := by decide +kernel
theorem dX7_pointer_18 : decode cX7_pointer 18 = .ok (.iload_n 2, 1) := by decide +kernel
theorem dX7_pointer_19 : decode cX7_pointer 19 = .ok (.ifCond .lt 5, 3) := by decide +kernel
theorem dX7_pointer_22 : decode cX7_pointer 22 = .ok (.iload_n 2, 1) := by decide +kernel
theorem dX7_pointer_23 : decode cX7_pointer 23 = .ok (.ireturn, 1) := by decide +kernel
theorem dX7_pointer_24 : decode cX7_pointer 24 = .ok (.aload_n 0, 1) := by decide +kernel
theorem dX7_pointer_25 : decode cX7_pointer 25 = .ok (.getfield 10, 3) := by decide +kernel
theorem dX7_pointer_28 : decode cX7_pointer 28 = .ok (.invokevirtual 38, 3) := by decide +kernel
theorem dX7_pointer_31 : decode cX7_pointer 31 = .ok (.sipush 300, 3) := by decide +kernel
theorem dX7_pointer_34 : decode cX7_pointer 34 = .ok (.if_icmp .ne 8, 3) := by decide +kernel
theorem dX7_pointer_37 : decode cX7_pointer 37 = .ok (.bipush (-2), 2) := by decide +kernel
theorem dX7_pointer_39 : decode cX7_pointer 39 = .ok (.goto 18, 3) := by decide +kernel
theorem dX7_pointer_42 : decode cX7_pointer 42 = .ok (.aload_n 0, 1) := by decide +kernel
theorem dX7_pointer_43 : decode cX7_pointer 43 = .ok (.new 29, 3) := by decide +kernel
theorem dX7_pointer_46 : decode cX7_pointer 46 = .ok (.dup, 1) := by decide +kernel
theorem dX7_pointer_47 : decode cX7_pointer 47 = .ok (.iconst 1, 1) := by decide +kernel
theorem dX7_pointer_48 : decode cX7_pointer 48 = .ok (.iload_n 1, 1) := by decide +kernel
theorem dX7_pointer_49 : decode cX7_pointer 49 = .ok (.iconst 0, 1) := by decide +kernel
theorem dX7_pointer_50 : decode cX7_pointer 50 = .ok (.iconst 4, 1) := by decide +kernel
theorem dX7_pointer_51 : decode cX7_pointer 51 = .ok (.invokespecial 31, 3) := by decide +kernel
theorem dX7_pointer_54 : decode cX7_pointer 54 = .ok (.invokevirtual 72, 3) := by decide +kernel
theorem dX7_pointer_57 : decode cX7_pointer 57 = .ok (.ireturn, 1) := by decide +kernel
set_option maxRecDepth 20000 in
theorem ggX7_array_X7_there : GoodIn wsX7_array wsX7_there := goodIn_r _ [13, 3, 14, 15, 16, 17, 18, 19, 143, 144, 145, 146, 147, 148, 149, 150, 158, 159, 160] (by decide +kernel) (by decide +kernel)
set_option maxRecDepth 20000 in
theorem gX7_array_X7_there : GoodIn wsX7_array (wsV RX7 42 RX7 yX7_there wsX7_there) := goodIn_app (goodIn_of _ (by decide +kernel)) ggX7_array_X7_there
set_option maxRecDepth 20000 in
theorem ggX7_array_X7_sized : GoodIn wsX7_array wsX7_sized := goodIn_r _ [23, 3, 7, 24, 25, 26, 27, 17, 28, 19, 29, 30, 31, 32, 33, 34, 35, 36, 37, 38, 39, 40, 41, 42, 43, 44, 6, 45, 46, 143, 144, 145, 146, 147, 148, 149, 150, 151, 152, 153, 154, 155, 156, 157, 158, 159, 160] (by decide +kernel) (by decide +kernel)
set_option maxRecDepth 20000 in
theorem gX7_array_X7_sized : GoodIn wsX7_array (wsV RX7 77 RX7 yX7_sized wsX7_sized) := goodIn_app (goodIn_of _ (by decide +kernel)) ggX7_array_X7_sized
set_option maxRecDepth 20000 in
theorem ggX7_array_X7_size : GoodIn wsX7_array wsX7_size := goodIn_r _ [50, 3, 7, 51, 9, 10, 11, 12, 13, 14, 15, 16, 17, 18, 19, 25, 26, 27, 28, 29, 30, 31, 32, 33, 34, 35, 36, 37, 38, 39, 40, 41, 143, 144, 145, 146, 147, 148, 149, 150, 151, 152, 153, 154, 155, 156, 157, 158, 159, 160] (by decide +kernel) (by decide +kernel)
set_option maxRecDepth 20000 in
theorem gX7_array_X7_size : GoodIn wsX7_array (wsV RX7 80 RX7 yX7_size wsX7_size) := goodIn_app (goodIn_of _ (by decide +kernel)) ggX7_array_X7_size
set_option maxRecDepth 20000 in
theorem ggX7_array_X7_known : GoodIn wsX7_array wsX7_known := goodIn_r _ [55, 3, 7, 56, 57, 58, 14, 15, 16, 17, 18, 19, 25, 26, 27, 28, 29, 30, 31, 32, 33, 34, 35, 36, 37, 38, 39, 40, 41, 143, 144, 145, 146, 147, 148, 149, 150, 151, 152, 153, 154, 155, 156, 157, 158, 159, 160] (by decide +kernel) (by decide +kernel)
set_option maxRecDepth 20000 in
theorem gX7_array_X7_known : GoodIn wsX7_array (wsV RX7 68 RX7 yX7_known wsX7_known) := goodIn_app (goodIn_of _ (by decide +kernel)) ggX7_array_X7_known
set_option maxRecDepth 20000 in
theorem ggX7_array_Jx4a65c_size_8abf5 : GoodIn wsX7_array wsJx4a65c_size_8abf5 := goodIn_r _ [18, 19, 158, 159, 160] (by decide +kernel) (by decide +kernel)
set_option maxRecDepth 20000 in
theorem gX7_array_Jx4a65c_size_8abf5 : GoodIn wsX7_array (wsV RX7 38 RJx4a65c yJx4a65c_size_8abf5 wsJx4a65c_size_8abf5) := goodIn_app (goodIn_of _ (by decide +kernel)) ggX7_array_Jx4a65c_size_8abf5
set_option maxRecDepth 20000 in
theorem ggX7_array_X6_init : GoodIn wsX7_array wsX6_init := goodIn_r _ [61, 62, 63, 64, 65, 66, 17, 67, 46, 68, 69, 70, 71, 72, 73, 74, 75, 76, 77, 78, 79, 41, 80, 81, 82, 83, 84, 85, 86, 87, 88, 89, 158, 159, 160, 151, 152, 153, 154, 155, 156, 157] (by decide +kernel) (by decide +kernel)
set_option maxRecDepth 20000 in
theorem gX7_array_X6_init : GoodIn wsX7_array (wsX6_init) := ggX7_array_X6_init
set_option maxRecDepth 20000 in
theorem ggX7_array_Jx4a65c_get_915e3 : GoodIn wsX7_array wsJx4a65c_get_915e3 := goodIn_r _ [28, 19, 29, 30, 31, 32, 33, 34, 35, 36, 37, 38, 39, 17, 40, 41, 158, 159, 160] (by decide +kernel) (by decide +kernel)
set_option maxRecDepth 20000 in
theorem gX7_array_Jx4a65c_get_915e3 : GoodIn wsX7_array (wsV RX7 46 RJx4a65c yJx4a65c_get_915e3 wsJx4a65c_get_915e3) := goodIn_app (goodIn_of _ (by decide +kernel)) ggX7_array_Jx4a65c_get_915e3
set_option maxRecDepth 20000 in
theorem ggX7_array_X7_made : GoodIn wsX7_array wsX7_made := goodIn_r _ [93, 3, 94, 95, 96, 17, 97, 98, 99, 41, 19, 100, 101, 102, 103, 104, 105, 106, 107, 108, 109, 110, 111, 79, 112, 113, 73, 114, 115, 116, 117, 118, 119, 120, 121, 122, 123, 124, 125, 126, 127, 128, 129, 130, 131, 132, 133, 134, 135, 136, 137, 138, 72, 74, 139, 140, 141, 142, 14, 15, 16, 18, 143, 144, 145, 146, 147, 148, 149, 150, 158, 159, 160] (by decide +kernel) (by decide +kernel)
set_option maxRecDepth 20000 in
theorem gX7_array_X7_made : GoodIn wsX7_array (wsV RX7 72 RX7 yX7_made wsX7_made) := goodIn_app (goodIn_of _ (by decide +kernel)) ggX7_array_X7_made
theorem dX7_array_0 : decode cX7_array 0 = .ok (.aload_n 0, 1) := by decide +kernel
theorem dX7_array_1 : decode cX7_array 1 = .ok (.iload_n 1, 1) := by decide +kernel
theorem dX7_array_2 : decode cX7_array 2 = .ok (.invokevirtual 42, 3) := by decide +kernel
theorem dX7_array_5 : decode cX7_array 5 = .ok (.ifCond .eq 14, 3) := by decide +kernel
theorem dX7_array_8 : decode cX7_array 8 = .ok (.iload_n 2, 1) := by decide +kernel
theorem dX7_array_9 : decode cX7_array 9 = .ok (.iconst 1, 1) := by decide +kernel
theorem dX7_array_10 : decode cX7_array 10 = .ok (.if_icmp .lt 9, 3) := by decide +kernel
theorem dX7_array_13 : decode cX7_array 13 = .ok (.iload_n 2, 1) := by decide +kernel
theorem dX7_array_14 : decode cX7_array 14 = .ok (.ldc 76, 2) := by decide +kernel
theorem dX7_array_16 : decode cX7_array 16 = .ok (.if_icmp .le 5, 3) := by decide +kernel
theorem dX7_array_19 : decode cX7_array 19 = .ok (.iconst (-1), 1) := by decide +kernel
theorem dX7_array_20 : decode cX7_array 20 = .ok (.ireturn, 1) := by decide +kernel
theorem dX7_array_21 : decode cX7_array 21 = .ok (.aload_n 0, 1) := by decide +kernel
theorem dX7_array_22 : decode cX7_array 22 = .ok (.iload_n 1, 1) := by decide +kernel
theorem dX7_array_23 : decode cX7_array 23 = .ok (.invokevirtual 77, 3) := by decide +kernel
theorem dX7_array_26 : decode cX7_array 26 = .ok (.ifCond .ne 6, 3) := by decide +kernel
theorem dX7_array_29 : decode cX7_array 29 = .ok (.bipush (-2), 2) := by decide +kernel
theorem dX7_array_31 : decode cX7_array 31 = .ok (.ireturn, 1) := by decide +kernel
theorem dX7_array_32 : decode cX7_array 32 = .ok (.iload_n 2, 1) := by decide +kernel
theorem dX7_array_33 : decode cX7_array 33 = .ok (.i2l, 1) := by decide +kernel
theorem dX7_array_34 : decode cX7_array 34 = .ok (.aload_n 0, 1) := by decide +kernel
theorem dX7_array_35 : decode cX7_array 35 = .ok (.iload_n 1, 1) := by decide +kernel
theorem dX7_array_36 : decode cX7_array 36 = .ok (.invokevirtual 80, 3) := by decide +kernel
theorem dX7_array_39 : decode cX7_array 39 = .ok (.i2l, 1) := by decide +kernel
theorem dX7_array_40 : decode cX7_array 40 = .ok (.lmul, 1) := by decide +kernel
theorem dX7_array_41 : decode cX7_array 41 = .ok (.ldc2_w 83, 3) := by decide +kernel
theorem dX7_array_44 : decode cX7_array 44 = .ok (.lcmp, 1) := by decide +kernel
theorem dX7_array_45 : decode cX7_array 45 = .ok (.ifCond .le 6, 3) := by decide +kernel
theorem dX7_array_48 : decode cX7_array 48 = .ok (.bipush (-3), 2) := by decide +kernel
theorem dX7_array_50 : decode cX7_array 50 = .ok (.ireturn, 1) := by decide +kernel
theorem dX7_array_51 : decode cX7_array 51 = .ok (.aload_n 0, 1) := by decide +kernel
theorem dX7_array_52 : decode cX7_array 52 = .ok (.iconst 2, 1) := by decide +kernel
theorem dX7_array_53 : decode cX7_array 53 = .ok (.iload_n 1, 1) := by decide +kernel
theorem dX7_array_54 : decode cX7_array 54 = .ok (.iload_n 2, 1) := by decide +kernel
theorem dX7_array_55 : decode cX7_array 55 = .ok (.invokevirtual 68, 3) := by decide +kernel
theorem dX7_array_58 : decode cX7_array 58 = .ok (.istore_n 3, 1) := by decide +kernel
theorem dX7_array_59 : decode cX7_array 59 = .ok (.iload_n 3, 1) := by decide +kernel
theorem dX7_array_60 : decode cX7_array 60 = .ok (.ifCond .lt 5, 3) := by decide +kernel
theorem dX7_array_63 : decode cX7_array 63 = .ok (.iload_n 3, 1) := by decide +kernel
theorem dX7_array_64 : decode cX7_array 64 = .ok (.ireturn, 1) := by decide +kernel
theorem dX7_array_65 : decode cX7_array 65 = .ok (.aload_n 0, 1) := by decide +kernel
theorem dX7_array_66 : decode cX7_array 66 = .ok (.getfield 10, 3) := by decide +kernel
theorem dX7_array_69 : decode cX7_array 69 = .ok (.invokevirtual 38, 3) := by decide +kernel
theorem dX7_array_72 : decode cX7_array 72 = .ok (.sipush 300, 3) := by decide +kernel
theorem dX7_array_75 : decode cX7_array 75 = .ok (.if_icmp .ne 6, 3) := by decide +kernel
theorem dX7_array_78 : decode cX7_array 78 = .ok (.bipush (-4), 2) := by decide +kernel
theorem dX7_array_80 : decode cX7_array 80 = .ok (.ireturn, 1) := by decide +kernel
theorem dX7_array_81 : decode cX7_array 81 = .ok (.new 29, 3) := by decide +kernel
theorem dX7_array_84 : decode cX7_array 84 = .ok (.dup, 1) := by decide +kernel
theorem dX7_array_85 : decode cX7_array 85 = .ok (.iconst 2, 1) := by decide +kernel
theorem dX7_array_86 : decode cX7_array 86 = .ok (.iload_n 1, 1) := by decide +kernel
theorem dX7_array_87 : decode cX7_array 87 = .ok (.iload_n 2, 1) := by decide +kernel
theorem dX7_array_88 : decode cX7_array 88 = .ok (.iload_n 2, 1) := by decide +kernel
theorem dX7_array_89 : decode cX7_array 89 = .ok (.aload_n 0, 1) := by decide +kernel
theorem dX7_array_90 : decode cX7_array 90 = .ok (.iload_n 1, 1) := by decide +kernel
theorem dX7_array_91 : decode cX7_array 91 = .ok (.invokevirtual 80, 3) := by decide +kernel
theorem dX7_array_94 : decode cX7_array 94 = .ok (.imul, 1) := by decide +kernel
theorem dX7_array_95 : decode cX7_array 95 = .ok (.invokespecial 31, 3) := by decide +kernel
theorem dX7_array_98 : decode cX7_array 98 = .ok (.astore 4, 2) := by decide +kernel
theorem dX7_array_100 : decode cX7_array 100 = .ok (.aload 4, 2) := by decide +kernel
theorem dX7_array_102 : decode cX7_array 102 = .ok (.aload_n 0, 1) := by decide +kernel
theorem dX7_array_103 : decode cX7_array 103 = .ok (.getfield 10, 3) := by decide +kernel
theorem dX7_array_106 : decode cX7_array 106 = .ok (.iload_n 1, 1) := by decide +kernel
theorem dX7_array_107 : decode cX7_array 107 = .ok (.invokevirtual 46, 3) := by decide +kernel
theorem dX7_array_110 : decode cX7_array 110 = .ok (.checkcast 29, 3) := by decide +kernel
theorem dX7_array_113 : decode cX7_array 113 = .ok (.getfield 85, 3) := by decide +kernel
theorem dX7_array_116 : decode cX7_array 116 = .ok (.putfield 85, 3) := by decide +kernel
theorem dX7_array_119 : decode cX7_array 119 = .ok (.aload_n 0, 1) := by decide +kernel
theorem dX7_array_120 : decode cX7_array 120 = .ok (.aload 4, 2) := by decide +kernel
theorem dX7_array_122 : decode cX7_array 122 = .ok (.invokevirtual 72, 3) := by decide +kernel
theorem dX7_array_125 : decode cX7_array 125 = .ok (.ireturn, 1) := by decide +kernel
set_option maxRecDepth 20000 in
theorem ggX7_sized_Jx4a65c_get_915e3 : GoodIn wsX7_sized wsJx4a65c_get_915e3 := goodIn_r _ [8, 9, 10, 11, 12, 13, 14, 15, 16, 17, 18, 19, 20, 7, 21, 22, 44, 45, 46] (by decide +kernel) (by decide +kernel)
set_option maxRecDepth 20000 in
theorem gX7_sized_Jx4a65c_get_915e3 : GoodIn wsX7_sized (wsV RX7 46 RJx4a65c yJx4a65c_get_915e3 wsJx4a65c_get_915e3) := goodIn_app (goodIn_of _ (by decide +kernel)) ggX7_sized_Jx4a65c_get_915e3
set_option maxRecDepth 20000 in
theorem ggX7_sized_X6_record : GoodIn wsX7_sized wsX6_record := goodIn_r _ [27, 28, 37, 38, 39, 40, 41, 42, 43] (by decide +kernel) (by decide +kernel)
set_option maxRecDepth 20000 in
theorem gX7_sized_X6_record : GoodIn wsX7_sized (wsV RX7 50 RX6 yX6_record wsX6_record) := goodIn_app (goodIn_of _ (by decide +kernel)) ggX7_sized_X6_record
theorem dX7_sized_0 : decode cX7_sized 0 = .ok (.iload_n 1, 1) := by decide +kernel
theorem dX7_sized_1 : decode cX7_sized 1 = .ok (.ifCond .le 41, 3) := by decide +kernel
theorem dX7_sized_4 : decode cX7_sized 4 = .ok (.aload_n 0, 1) := by decide +kernel
theorem dX7_sized_5 : decode cX7_sized 5 = .ok (.getfield 10, 3) := by decide +kernel
theorem dX7_sized_8 : decode cX7_sized 8 = .ok (.iload_n 1, 1) := by decide +kernel
theorem dX7_sized_9 : decode cX7_sized 9 = .ok (.invokevirtual 46, 3) := by decide +kernel
theorem dX7_sized_12 : decode cX7_sized 12 = .ok (.checkcast 29, 3) := by decide +kernel
theorem dX7_sized_15 : decode cX7_sized 15 = .ok (.invokevirtual 50, 3) := by decide +kernel
theorem dX7_sized_18 : decode cX7_sized 18 = .ok (.ifCond .eq 20, 3) := by decide +kernel
theorem dX7_sized_21 : decode cX7_sized 21 = .ok (.aload_n 0, 1) := by decide +kernel
theorem dX7_sized_22 : decode cX7_sized 22 = .ok (.getfield 10, 3) := by decide +kernel
theorem dX7_sized_25 : decode cX7_sized 25 = .ok (.iload_n 1, 1) := by decide +kernel
theorem dX7_sized_26 : decode cX7_sized 26 = .ok (.invokevirtual 46, 3) := by decide +kernel
theorem dX7_sized_29 : decode cX7_sized 29 = .ok (.checkcast 29, 3) := by decide +kernel
theorem dX7_sized_32 : decode cX7_sized 32 = .ok (.getfield 54, 3) := by decide +kernel
theorem dX7_sized_35 : decode cX7_sized 35 = .ok (.ifCond .eq 7, 3) := by decide +kernel
theorem dX7_sized_38 : decode cX7_sized 38 = .ok (.iconst 1, 1) := by decide +kernel
theorem dX7_sized_39 : decode cX7_sized 39 = .ok (.goto 4, 3) := by decide +kernel
theorem dX7_sized_42 : decode cX7_sized 42 = .ok (.iconst 0, 1) := by decide +kernel
theorem dX7_sized_43 : decode cX7_sized 43 = .ok (.ireturn, 1) := by decide +kernel
set_option maxRecDepth 20000 in
theorem ggX7_record_Jx4a65c_size_8abf5 : GoodIn wsX7_record wsJx4a65c_size_8abf5 := goodIn_r _ [9, 10, 113, 114, 115] (by decide +kernel) (by decide +kernel)
set_option maxRecDepth 20000 in
theorem gX7_record_Jx4a65c_size_8abf5 : GoodIn wsX7_record (wsV RX7 38 RJx4a65c yJx4a65c_size_8abf5 wsJx4a65c_size_8abf5) := goodIn_app (goodIn_of _ (by decide +kernel)) ggX7_record_Jx4a65c_size_8abf5
set_option maxRecDepth 20000 in
theorem ggX7_record_X6_init : GoodIn wsX7_record wsX6_init := goodIn_r _ [13, 14, 15, 16, 17, 18, 8, 19, 20, 21, 22, 23, 24, 25, 26, 27, 28, 29, 30, 31, 32, 33, 34, 35, 36, 37, 38, 39, 40, 41, 42, 43, 113, 114, 115, 106, 107, 108, 109, 110, 111, 112] (by decide +kernel) (by decide +kernel)
set_option maxRecDepth 20000 in
theorem gX7_record_X6_init : GoodIn wsX7_record (wsX6_init) := ggX7_record_X6_init
set_option maxRecDepth 20000 in
theorem ggX7_record_X7_made : GoodIn wsX7_record wsX7_made := goodIn_r _ [48, 1, 49, 50, 51, 8, 52, 53, 54, 33, 10, 55, 56, 57, 58, 59, 60, 61, 62, 63, 64, 65, 66, 32, 67, 68, 26, 69, 70, 71, 72, 73, 74, 75, 76, 77, 78, 79, 80, 81, 82, 83, 84, 85, 86, 87, 88, 89, 90, 91, 92, 93, 25, 27, 94, 95, 96, 97, 5, 6, 7, 9, 98, 99, 100, 101, 102, 103, 104, 105, 113, 114, 115] (by decide +kernel) (by decide +kernel)
set_option maxRecDepth 20000 in
theorem gX7_record_X7_made : GoodIn wsX7_record (wsV RX7 72 RX7 yX7_made wsX7_made) := goodIn_app (goodIn_of _ (by decide +kernel)) ggX7_record_X7_made
theorem dX7_record_0 : decode cX7_record 0 = .ok (.iload_n 1, 1) := by decide +kernel
theorem dX7_record_1 : decode cX7_record 1 = .ok (.ifCond .eq 10, 3) := by decide +kernel
theorem dX7_record_4 : decode cX7_record 4 = .ok (.iload_n 1, 1) := by decide +kernel
theorem dX7_record_5 : decode cX7_record 5 = .ok (.iconst 1, 1) := by decide +kernel
theorem dX7_record_6 : decode cX7_record 6 = .ok (.if_icmp .eq 5, 3) := by decide +kernel
theorem dX7_record_9 : decode cX7_record 9 = .ok (.iconst (-1), 1) := by decide +kernel
theorem dX7_record_10 : decode cX7_record 10 = .ok (.ireturn, 1) := by decide +kernel
theorem dX7_record_11 : decode cX7_record 11 = .ok (.aload_n 0, 1) := by decide +kernel
theorem dX7_record_12 : decode cX7_record 12 = .ok (.getfield 10, 3) := by decide +kernel
theorem dX7_record_15 : decode cX7_record 15 = .ok (.invokevirtual 38, 3) := by decide +kernel
theorem dX7_record_18 : decode cX7_record 18 = .ok (.sipush 300, 3) := by decide +kernel
theorem dX7_record_21 : decode cX7_record 21 = .ok (.if_icmp .ne 8, 3) := by decide +kernel
theorem dX7_record_24 : decode cX7_record 24 = .ok (.bipush (-2), 2) := by decide +kernel
theorem dX7_record_26 : decode cX7_record 26 = .ok (.goto 20, 3) := by decide +kernel
theorem dX7_record_29 : decode cX7_record 29 = .ok (.aload_n 0, 1) := by decide +kernel
theorem dX7_record_30 : decode cX7_record 30 = .ok (.new 29, 3) := by decide +kernel
theorem dX7_record_33 : decode cX7_record 33 = .ok (.dup, 1) := by decide +kernel
theorem dX7_record_34 : decode cX7_record 34 = .ok (.iconst 3, 1) := by decide +kernel
theorem dX7_record_35 : decode cX7_record 35 = .ok (.iload_n 1, 1) := by decide +kernel
theorem dX7_record_36 : decode cX7_record 36 = .ok (.iadd, 1) := by decide +kernel
theorem dX7_record_37 : decode cX7_record 37 = .ok (.iconst 0, 1) := by decide +kernel
theorem dX7_record_38 : decode cX7_record 38 = .ok (.iconst 0, 1) := by decide +kernel
theorem dX7_record_39 : decode cX7_record 39 = .ok (.iconst 0, 1) := by decide +kernel
theorem dX7_record_40 : decode cX7_record 40 = .ok (.invokespecial 31, 3) := by decide +kernel
theorem dX7_record_43 : decode cX7_record 43 = .ok (.invokevirtual 72, 3) := by decide +kernel
theorem dX7_record_46 : decode cX7_record 46 = .ok (.ireturn, 1) := by decide +kernel
theorem dX7_up_0 : decode cX7_up 0 = .ok (.iload_n 1, 1) := by decide +kernel
theorem dX7_up_1 : decode cX7_up 1 = .ok (.ifCond .ne 7, 3) := by decide +kernel
theorem dX7_up_4 : decode cX7_up 4 = .ok (.iload_n 0, 1) := by decide +kernel
theorem dX7_up_5 : decode cX7_up 5 = .ok (.goto 12, 3) := by decide +kernel
theorem dX7_up_8 : decode cX7_up 8 = .ok (.iload_n 0, 1) := by decide +kernel
theorem dX7_up_9 : decode cX7_up 9 = .ok (.iload_n 1, 1) := by decide +kernel
theorem dX7_up_10 : decode cX7_up 10 = .ok (.iadd, 1) := by decide +kernel
theorem dX7_up_11 : decode cX7_up 11 = .ok (.iconst 1, 1) := by decide +kernel
theorem dX7_up_12 : decode cX7_up 12 = .ok (.isub, 1) := by decide +kernel
theorem dX7_up_13 : decode cX7_up 13 = .ok (.iload_n 1, 1) := by decide +kernel
theorem dX7_up_14 : decode cX7_up 14 = .ok (.idiv, 1) := by decide +kernel
theorem dX7_up_15 : decode cX7_up 15 = .ok (.iload_n 1, 1) := by decide +kernel
theorem dX7_up_16 : decode cX7_up 16 = .ok (.imul, 1) := by decide +kernel
theorem dX7_up_17 : decode cX7_up 17 = .ok (.ireturn, 1) := by decide +kernel
set_option maxRecDepth 20000 in
theorem ggX7_lay_Jx4a65c_size_8abf5 : GoodIn wsX7_lay wsJx4a65c_size_8abf5 := goodIn_r _ [22, 23, 71, 72, 73] (by decide +kernel) (by decide +kernel)
set_option maxRecDepth 20000 in
theorem gX7_lay_Jx4a65c_size_8abf5 : GoodIn wsX7_lay (wsV RX7 38 RJx4a65c yJx4a65c_size_8abf5 wsJx4a65c_size_8abf5) := goodIn_app (goodIn_of _ (by decide +kernel)) ggX7_lay_Jx4a65c_size_8abf5
set_option maxRecDepth 20000 in
theorem ggX7_lay_Jx4a65c_get_915e3 : GoodIn wsX7_lay wsJx4a65c_get_915e3 := goodIn_r _ [27, 23, 28, 29, 30, 31, 32, 33, 34, 35, 36, 37, 38, 21, 39, 40, 71, 72, 73] (by decide +kernel) (by decide +kernel)
set_option maxRecDepth 20000 in
theorem gX7_lay_Jx4a65c_get_915e3 : GoodIn wsX7_lay (wsV RX7 46 RJx4a65c yJx4a65c_get_915e3 wsJx4a65c_get_915e3) := goodIn_app (goodIn_of _ (by decide +kernel)) ggX7_lay_Jx4a65c_get_915e3
set_option maxRecDepth 20000 in
theorem ggX7_lay_X7_up : GoodIn wsX7_lay wsX7_up := goodIn_r _ [44] (by decide +kernel) (by decide +kernel)
set_option maxRecDepth 20000 in
theorem gX7_lay_X7_up : GoodIn wsX7_lay (va_wsS RX7 106 yX7_up wsX7_up) := goodIn_app (goodIn_of _ (by decide +kernel)) ggX7_lay_X7_up
set_option maxRecDepth 20000 in
theorem ggX7_lay_X7_put : GoodIn wsX7_lay wsX7_put := goodIn_r _ [48, 49, 1, 50, 51, 52, 53, 54, 55, 56, 57, 58, 59, 60] (by decide +kernel) (by decide +kernel)
set_option maxRecDepth 20000 in
theorem gX7_lay_X7_put : GoodIn wsX7_lay (wsV RX7 110 RX7 yX7_put wsX7_put) := goodIn_app (goodIn_of _ (by decide +kernel)) ggX7_lay_X7_put
theorem dX7_lay_0 : decode cX7_lay 0 = .ok (.aload_n 0, 1) := by decide +kernel
theorem dX7_lay_1 : decode cX7_lay 1 = .ok (.iconst 0, 1) := by decide +kernel
theorem dX7_lay_2 : decode cX7_lay 2 = .ok (.putfield 88, 3) := by decide +kernel
theorem dX7_lay_5 : decode cX7_lay 5 = .ok (.aload_n 0, 1) := by decide +kernel
theorem dX7_lay_6 : decode cX7_lay 6 = .ok (.iconst 0, 1) := by decide +kernel
theorem dX7_lay_7 : decode cX7_lay 7 = .ok (.putfield 91, 3) := by decide +kernel
theorem dX7_lay_10 : decode cX7_lay 10 = .ok (.aload_n 0, 1) := by decide +kernel
theorem dX7_lay_11 : decode cX7_lay 11 = .ok (.iconst 0, 1) := by decide +kernel
theorem dX7_lay_12 : decode cX7_lay 12 = .ok (.putfield 94, 3) := by decide +kernel
theorem dX7_lay_15 : decode cX7_lay 15 = .ok (.iconst (-1), 1) := by decide +kernel
theorem dX7_lay_16 : decode cX7_lay 16 = .ok (.istore_n 2, 1) := by decide +kernel
theorem dX7_lay_17 : decode cX7_lay 17 = .ok (.iconst 0, 1) := by decide +kernel
theorem dX7_lay_18 : decode cX7_lay 18 = .ok (.istore_n 3, 1) := by decide +kernel
theorem dX7_lay_19 : decode cX7_lay 19 = .ok (.iconst 0, 1) := by decide +kernel
theorem dX7_lay_20 : decode cX7_lay 20 = .ok (.istore 4, 2) := by decide +kernel
theorem dX7_lay_22 : decode cX7_lay 22 = .ok (.iload 4, 2) := by decide +kernel
theorem dX7_lay_24 : decode cX7_lay 24 = .ok (.aload_n 1, 1) := by decide +kernel
theorem dX7_lay_25 : decode cX7_lay 25 = .ok (.getfield 95, 3) := by decide +kernel
theorem dX7_lay_28 : decode cX7_lay 28 = .ok (.invokevirtual 38, 3) := by decide +kernel
theorem dX7_lay_31 : decode cX7_lay 31 = .ok (.if_icmp .ge 240, 3) := by decide +kernel
theorem dX7_lay_34 : decode cX7_lay 34 = .ok (.aload_n 1, 1) := by decide +kernel
theorem dX7_lay_35 : decode cX7_lay 35 = .ok (.getfield 95, 3) := by decide +kernel
theorem dX7_lay_38 : decode cX7_lay 38 = .ok (.iload 4, 2) := by decide +kernel
theorem dX7_lay_40 : decode cX7_lay 40 = .ok (.invokevirtual 46, 3) := by decide +kernel
theorem dX7_lay_43 : decode cX7_lay 43 = .ok (.checkcast 98, 3) := by decide +kernel
theorem dX7_lay_46 : decode cX7_lay 46 = .ok (.astore 5, 2) := by decide +kernel
end
section
theorem dX7_lay_48 : decode cX7_lay 48 = .ok (.aload 5, 2) := by decide +kernel
theorem dX7_lay_50 : decode cX7_lay 50 = .ok (.getfield 100, 3) := by decide +kernel
theorem dX7_lay_53 : decode cX7_lay 53 = .ok (.istore 6, 2) := by decide +kernel
theorem dX7_lay_55 : decode cX7_lay 55 = .ok (.iload 6, 2) := by decide +kernel
theorem dX7_lay_57 : decode cX7_lay 57 = .ok (.ifCond .ge 8, 3) := by decide +kernel
theorem dX7_lay_60 : decode cX7_lay 60 = .ok (.iconst (-1), 1) := by decide +kernel
theorem dX7_lay_61 : decode cX7_lay 61 = .ok (.istore_n 2, 1) := by decide +kernel
theorem dX7_lay_62 : decode cX7_lay 62 = .ok (.goto 203, 3) := by decide +kernel
theorem dX7_lay_65 : decode cX7_lay 65 = .ok (.aload 5, 2) := by decide +kernel
theorem dX7_lay_67 : decode cX7_lay 67 = .ok (.getfield 103, 3) := by decide +kernel
theorem dX7_lay_70 : decode cX7_lay 70 = .ok (.ifCond .ne 93, 3) := by decide +kernel
theorem dX7_lay_73 : decode cX7_lay 73 = .ok (.aload_n 0, 1) := by decide +kernel
theorem dX7_lay_74 : decode cX7_lay 74 = .ok (.getfield 10, 3) := by decide +kernel
theorem dX7_lay_77 : decode cX7_lay 77 = .ok (.iload 6, 2) := by decide +kernel
theorem dX7_lay_79 : decode cX7_lay 79 = .ok (.invokevirtual 46, 3) := by decide +kernel
theorem dX7_lay_82 : decode cX7_lay 82 = .ok (.checkcast 29, 3) := by decide +kernel
theorem dX7_lay_85 : decode cX7_lay 85 = .ok (.astore 7, 2) := by decide +kernel
theorem dX7_lay_87 : decode cX7_lay 87 = .ok (.aload_n 1, 1) := by decide +kernel
theorem dX7_lay_88 : decode cX7_lay 88 = .ok (.getfield 58, 3) := by decide +kernel
theorem dX7_lay_91 : decode cX7_lay 91 = .ok (.iconst 4, 1) := by decide +kernel
theorem dX7_lay_92 : decode cX7_lay 92 = .ok (.if_icmp .ne 7, 3) := by decide +kernel
theorem dX7_lay_95 : decode cX7_lay 95 = .ok (.iconst 0, 1) := by decide +kernel
theorem dX7_lay_96 : decode cX7_lay 96 = .ok (.goto 15, 3) := by decide +kernel
theorem dX7_lay_99 : decode cX7_lay 99 = .ok (.aload_n 0, 1) := by decide +kernel
theorem dX7_lay_100 : decode cX7_lay 100 = .ok (.getfield 91, 3) := by decide +kernel
theorem dX7_lay_103 : decode cX7_lay 103 = .ok (.aload 7, 2) := by decide +kernel
theorem dX7_lay_105 : decode cX7_lay 105 = .ok (.getfield 85, 3) := by decide +kernel
theorem dX7_lay_108 : decode cX7_lay 108 = .ok (.invokestatic 106, 3) := by decide +kernel
theorem dX7_lay_111 : decode cX7_lay 111 = .ok (.istore 8, 2) := by decide +kernel
theorem dX7_lay_113 : decode cX7_lay 113 = .ok (.aload_n 0, 1) := by decide +kernel
theorem dX7_lay_114 : decode cX7_lay 114 = .ok (.iload 8, 2) := by decide +kernel
theorem dX7_lay_116 : decode cX7_lay 116 = .ok (.iload 6, 2) := by decide +kernel
theorem dX7_lay_118 : decode cX7_lay 118 = .ok (.iconst 0, 1) := by decide +kernel
theorem dX7_lay_119 : decode cX7_lay 119 = .ok (.iconst 0, 1) := by decide +kernel
theorem dX7_lay_120 : decode cX7_lay 120 = .ok (.invokevirtual 110, 3) := by decide +kernel
theorem dX7_lay_123 : decode cX7_lay 123 = .ok (.aload_n 0, 1) := by decide +kernel
theorem dX7_lay_124 : decode cX7_lay 124 = .ok (.aload_n 0, 1) := by decide +kernel
theorem dX7_lay_125 : decode cX7_lay 125 = .ok (.getfield 91, 3) := by decide +kernel
theorem dX7_lay_128 : decode cX7_lay 128 = .ok (.iload 8, 2) := by decide +kernel
theorem dX7_lay_130 : decode cX7_lay 130 = .ok (.aload 7, 2) := by decide +kernel
theorem dX7_lay_132 : decode cX7_lay 132 = .ok (.getfield 113, 3) := by decide +kernel
theorem dX7_lay_135 : decode cX7_lay 135 = .ok (.iadd, 1) := by decide +kernel
theorem dX7_lay_136 : decode cX7_lay 136 = .ok (.invokestatic 115, 3) := by decide +kernel
theorem dX7_lay_139 : decode cX7_lay 139 = .ok (.putfield 91, 3) := by decide +kernel
theorem dX7_lay_142 : decode cX7_lay 142 = .ok (.aload_n 0, 1) := by decide +kernel
theorem dX7_lay_143 : decode cX7_lay 143 = .ok (.aload_n 0, 1) := by decide +kernel
theorem dX7_lay_144 : decode cX7_lay 144 = .ok (.getfield 94, 3) := by decide +kernel
theorem dX7_lay_147 : decode cX7_lay 147 = .ok (.aload 7, 2) := by decide +kernel
theorem dX7_lay_149 : decode cX7_lay 149 = .ok (.getfield 85, 3) := by decide +kernel
theorem dX7_lay_152 : decode cX7_lay 152 = .ok (.invokestatic 115, 3) := by decide +kernel
theorem dX7_lay_155 : decode cX7_lay 155 = .ok (.putfield 94, 3) := by decide +kernel
theorem dX7_lay_158 : decode cX7_lay 158 = .ok (.iconst (-1), 1) := by decide +kernel
theorem dX7_lay_159 : decode cX7_lay 159 = .ok (.istore_n 2, 1) := by decide +kernel
theorem dX7_lay_160 : decode cX7_lay 160 = .ok (.goto 105, 3) := by decide +kernel
theorem dX7_lay_163 : decode cX7_lay 163 = .ok (.aload_n 1, 1) := by decide +kernel
theorem dX7_lay_164 : decode cX7_lay 164 = .ok (.getfield 58, 3) := by decide +kernel
theorem dX7_lay_167 : decode cX7_lay 167 = .ok (.iconst 4, 1) := by decide +kernel
theorem dX7_lay_168 : decode cX7_lay 168 = .ok (.if_icmp .eq 19, 3) := by decide +kernel
theorem dX7_lay_171 : decode cX7_lay 171 = .ok (.iload_n 2, 1) := by decide +kernel
theorem dX7_lay_172 : decode cX7_lay 172 = .ok (.ifCond .lt 15, 3) := by decide +kernel
theorem dX7_lay_175 : decode cX7_lay 175 = .ok (.iload_n 3, 1) := by decide +kernel
theorem dX7_lay_176 : decode cX7_lay 176 = .ok (.aload 5, 2) := by decide +kernel
theorem dX7_lay_178 : decode cX7_lay 178 = .ok (.getfield 103, 3) := by decide +kernel
theorem dX7_lay_181 : decode cX7_lay 181 = .ok (.iadd, 1) := by decide +kernel
theorem dX7_lay_182 : decode cX7_lay 182 = .ok (.bipush 32, 2) := by decide +kernel
theorem dX7_lay_184 : decode cX7_lay 184 = .ok (.if_icmp .le 26, 3) := by decide +kernel
theorem dX7_lay_187 : decode cX7_lay 187 = .ok (.aload_n 1, 1) := by decide +kernel
theorem dX7_lay_188 : decode cX7_lay 188 = .ok (.getfield 58, 3) := by decide +kernel
theorem dX7_lay_191 : decode cX7_lay 191 = .ok (.iconst 4, 1) := by decide +kernel
theorem dX7_lay_192 : decode cX7_lay 192 = .ok (.if_icmp .ne 7, 3) := by decide +kernel
theorem dX7_lay_195 : decode cX7_lay 195 = .ok (.iconst 0, 1) := by decide +kernel
theorem dX7_lay_196 : decode cX7_lay 196 = .ok (.goto 11, 3) := by decide +kernel
theorem dX7_lay_199 : decode cX7_lay 199 = .ok (.aload_n 0, 1) := by decide +kernel
theorem dX7_lay_200 : decode cX7_lay 200 = .ok (.getfield 91, 3) := by decide +kernel
theorem dX7_lay_203 : decode cX7_lay 203 = .ok (.iconst 4, 1) := by decide +kernel
theorem dX7_lay_204 : decode cX7_lay 204 = .ok (.invokestatic 106, 3) := by decide +kernel
theorem dX7_lay_207 : decode cX7_lay 207 = .ok (.istore_n 2, 1) := by decide +kernel
theorem dX7_lay_208 : decode cX7_lay 208 = .ok (.iconst 0, 1) := by decide +kernel
theorem dX7_lay_209 : decode cX7_lay 209 = .ok (.istore_n 3, 1) := by decide +kernel
theorem dX7_lay_210 : decode cX7_lay 210 = .ok (.aload 5, 2) := by decide +kernel
theorem dX7_lay_212 : decode cX7_lay 212 = .ok (.getfield 120, 3) := by decide +kernel
theorem dX7_lay_215 : decode cX7_lay 215 = .ok (.ifCond .eq 16, 3) := by decide +kernel
theorem dX7_lay_218 : decode cX7_lay 218 = .ok (.aload_n 0, 1) := by decide +kernel
theorem dX7_lay_219 : decode cX7_lay 219 = .ok (.iload_n 2, 1) := by decide +kernel
theorem dX7_lay_220 : decode cX7_lay 220 = .ok (.iload 6, 2) := by decide +kernel
theorem dX7_lay_222 : decode cX7_lay 222 = .ok (.iload_n 3, 1) := by decide +kernel
theorem dX7_lay_223 : decode cX7_lay 223 = .ok (.aload 5, 2) := by decide +kernel
theorem dX7_lay_225 : decode cX7_lay 225 = .ok (.getfield 103, 3) := by decide +kernel
theorem dX7_lay_228 : decode cX7_lay 228 = .ok (.invokevirtual 110, 3) := by decide +kernel
theorem dX7_lay_231 : decode cX7_lay 231 = .ok (.iload_n 3, 1) := by decide +kernel
theorem dX7_lay_232 : decode cX7_lay 232 = .ok (.aload 5, 2) := by decide +kernel
theorem dX7_lay_234 : decode cX7_lay 234 = .ok (.getfield 103, 3) := by decide +kernel
theorem dX7_lay_237 : decode cX7_lay 237 = .ok (.iadd, 1) := by decide +kernel
theorem dX7_lay_238 : decode cX7_lay 238 = .ok (.istore_n 3, 1) := by decide +kernel
theorem dX7_lay_239 : decode cX7_lay 239 = .ok (.aload_n 0, 1) := by decide +kernel
theorem dX7_lay_240 : decode cX7_lay 240 = .ok (.aload_n 0, 1) := by decide +kernel
theorem dX7_lay_241 : decode cX7_lay 241 = .ok (.getfield 91, 3) := by decide +kernel
theorem dX7_lay_244 : decode cX7_lay 244 = .ok (.iload_n 2, 1) := by decide +kernel
theorem dX7_lay_245 : decode cX7_lay 245 = .ok (.iconst 4, 1) := by decide +kernel
theorem dX7_lay_246 : decode cX7_lay 246 = .ok (.iadd, 1) := by decide +kernel
theorem dX7_lay_247 : decode cX7_lay 247 = .ok (.invokestatic 115, 3) := by decide +kernel
theorem dX7_lay_250 : decode cX7_lay 250 = .ok (.putfield 91, 3) := by decide +kernel
theorem dX7_lay_253 : decode cX7_lay 253 = .ok (.aload_n 0, 1) := by decide +kernel
theorem dX7_lay_254 : decode cX7_lay 254 = .ok (.aload_n 0, 1) := by decide +kernel
theorem dX7_lay_255 : decode cX7_lay 255 = .ok (.getfield 94, 3) := by decide +kernel
theorem dX7_lay_258 : decode cX7_lay 258 = .ok (.iconst 4, 1) := by decide +kernel
theorem dX7_lay_259 : decode cX7_lay 259 = .ok (.invokestatic 115, 3) := by decide +kernel
theorem dX7_lay_262 : decode cX7_lay 262 = .ok (.putfield 94, 3) := by decide +kernel
theorem dX7_lay_265 : decode cX7_lay 265 = .ok (.iinc 4 1, 3) := by decide +kernel
theorem dX7_lay_268 : decode cX7_lay 268 = .ok (.goto (-246), 3) := by decide +kernel
theorem dX7_lay_271 : decode cX7_lay 271 = .ok (.return_, 1) := by decide +kernel
theorem dX7_put_0 : decode cX7_put 0 = .ok (.aload_n 0, 1) := by decide +kernel
theorem dX7_put_1 : decode cX7_put 1 = .ok (.getfield 16, 3) := by decide +kernel
theorem dX7_put_4 : decode cX7_put 4 = .ok (.aload_n 0, 1) := by decide +kernel
theorem dX7_put_5 : decode cX7_put 5 = .ok (.getfield 88, 3) := by decide +kernel
theorem dX7_put_8 : decode cX7_put 8 = .ok (.iload_n 1, 1) := by decide +kernel
theorem dX7_put_9 : decode cX7_put 9 = .ok (.iastore, 1) := by decide +kernel
theorem dX7_put_10 : decode cX7_put 10 = .ok (.aload_n 0, 1) := by decide +kernel
theorem dX7_put_11 : decode cX7_put 11 = .ok (.getfield 20, 3) := by decide +kernel
theorem dX7_put_14 : decode cX7_put 14 = .ok (.aload_n 0, 1) := by decide +kernel
theorem dX7_put_15 : decode cX7_put 15 = .ok (.getfield 88, 3) := by decide +kernel
theorem dX7_put_18 : decode cX7_put 18 = .ok (.iload_n 2, 1) := by decide +kernel
theorem dX7_put_19 : decode cX7_put 19 = .ok (.iastore, 1) := by decide +kernel
theorem dX7_put_20 : decode cX7_put 20 = .ok (.aload_n 0, 1) := by decide +kernel
theorem dX7_put_21 : decode cX7_put 21 = .ok (.getfield 23, 3) := by decide +kernel
theorem dX7_put_24 : decode cX7_put 24 = .ok (.aload_n 0, 1) := by decide +kernel
theorem dX7_put_25 : decode cX7_put 25 = .ok (.getfield 88, 3) := by decide +kernel
theorem dX7_put_28 : decode cX7_put 28 = .ok (.iload_n 3, 1) := by decide +kernel
theorem dX7_put_29 : decode cX7_put 29 = .ok (.iastore, 1) := by decide +kernel
theorem dX7_put_30 : decode cX7_put 30 = .ok (.aload_n 0, 1) := by decide +kernel
theorem dX7_put_31 : decode cX7_put 31 = .ok (.getfield 26, 3) := by decide +kernel
theorem dX7_put_34 : decode cX7_put 34 = .ok (.aload_n 0, 1) := by decide +kernel
theorem dX7_put_35 : decode cX7_put 35 = .ok (.getfield 88, 3) := by decide +kernel
theorem dX7_put_38 : decode cX7_put 38 = .ok (.iload 4, 2) := by decide +kernel
theorem dX7_put_40 : decode cX7_put 40 = .ok (.iastore, 1) := by decide +kernel
theorem dX7_put_41 : decode cX7_put 41 = .ok (.aload_n 0, 1) := by decide +kernel
theorem dX7_put_42 : decode cX7_put 42 = .ok (.aload_n 0, 1) := by decide +kernel
theorem dX7_put_43 : decode cX7_put 43 = .ok (.getfield 88, 3) := by decide +kernel
theorem dX7_put_46 : decode cX7_put 46 = .ok (.iconst 1, 1) := by decide +kernel
theorem dX7_put_47 : decode cX7_put 47 = .ok (.iadd, 1) := by decide +kernel
theorem dX7_put_48 : decode cX7_put 48 = .ok (.putfield 88, 3) := by decide +kernel
theorem dX7_put_51 : decode cX7_put 51 = .ok (.return_, 1) := by decide +kernel
set_option maxRecDepth 20000 in
theorem ggX7_tried_X5_init : GoodIn wsX7_tried wsX5_init := goodIn_r _ [11, 12, 13, 14, 15, 16, 17, 136, 137, 138] (by decide +kernel) (by decide +kernel)
set_option maxRecDepth 20000 in
theorem gX7_tried_X5_init : GoodIn wsX7_tried (wsX5_init) := ggX7_tried_X5_init
set_option maxRecDepth 20000 in
theorem ggX7_tried_Jx4a65c_add_9ea2d : GoodIn wsX7_tried wsJx4a65c_add_9ea2d := goodIn_r _ [22, 23, 24, 25, 26, 27, 28, 29, 21, 30, 31, 32, 33, 34, 35, 36, 37, 38, 39, 40, 41, 42, 43, 44, 45, 46, 47, 48, 49, 50, 51, 52, 53, 54, 55, 56, 57, 58, 59, 60, 61, 62, 63, 64, 65, 66, 67, 68, 69, 70, 71, 72, 73, 147, 148, 149] (by decide +kernel) (by decide +kernel)
set_option maxRecDepth 20000 in
theorem gX7_tried_Jx4a65c_add_9ea2d : GoodIn wsX7_tried (wsV RX7 34 RJx4a65c yJx4a65c_add_9ea2d wsJx4a65c_add_9ea2d) := goodIn_app (goodIn_of _ (by decide +kernel)) ggX7_tried_Jx4a65c_add_9ea2d
set_option maxRecDepth 20000 in
theorem ggX7_tried_X7_lay : GoodIn wsX7_tried wsX7_lay := goodIn_r _ [78, 8, 5, 79, 1, 7, 80, 81, 82, 83, 84, 85, 86, 87, 41, 42, 43, 88, 89, 90, 91, 21, 92, 26, 93, 94, 95, 96, 97, 98, 99, 100, 101, 102, 103, 104, 105, 106, 107, 108, 25, 109, 110, 77, 111, 112, 113, 114, 115, 116, 117, 118, 119, 139, 140, 141, 142, 143, 144, 145, 146, 129, 130, 131, 132, 133, 134, 135, 136, 137, 138, 147, 148, 149] (by decide +kernel) (by decide +kernel)
set_option maxRecDepth 20000 in
theorem gX7_tried_X7_lay : GoodIn wsX7_tried (wsV RX7 126 RX7 yX7_lay wsX7_lay) := goodIn_app (goodIn_of _ (by decide +kernel)) ggX7_tried_X7_lay
set_option maxRecDepth 20000 in
theorem ggX7_tried_Jx4a65c_size_8abf5 : GoodIn wsX7_tried wsJx4a65c_size_8abf5 := goodIn_r _ [92, 26, 147, 148, 149] (by decide +kernel) (by decide +kernel)
set_option maxRecDepth 20000 in
theorem gX7_tried_Jx4a65c_size_8abf5 : GoodIn wsX7_tried (wsV RX7 38 RJx4a65c yJx4a65c_size_8abf5 wsJx4a65c_size_8abf5) := goodIn_app (goodIn_of _ (by decide +kernel)) ggX7_tried_Jx4a65c_size_8abf5
set_option maxRecDepth 20000 in
theorem ggX7_tried_Jx4a65c_remove_915e3 : GoodIn wsX7_tried wsJx4a65c_remove_915e3 := goodIn_r _ [123, 26, 25, 97, 98, 99, 100, 101, 102, 103, 104, 124, 125, 126, 21, 127, 23, 24, 128, 71, 72, 73, 147, 148, 149] (by decide +kernel) (by decide +kernel)
set_option maxRecDepth 20000 in
theorem gX7_tried_Jx4a65c_remove_915e3 : GoodIn wsX7_tried (wsV RX7 130 RJx4a65c yJx4a65c_remove_915e3 wsJx4a65c_remove_915e3) := goodIn_app (goodIn_of _ (by decide +kernel)) ggX7_tried_Jx4a65c_remove_915e3
theorem dX7_tried_0 : decode cX7_tried 0 = .ok (.aload_n 1, 1) := by decide +kernel
theorem dX7_tried_1 : decode cX7_tried 1 = .ok (.getfield 95, 3) := by decide +kernel
theorem dX7_tried_4 : decode cX7_tried 4 = .ok (.new 98, 3) := by decide +kernel
theorem dX7_tried_7 : decode cX7_tried 7 = .ok (.dup, 1) := by decide +kernel
theorem dX7_tried_8 : decode cX7_tried 8 = .ok (.iload_n 2, 1) := by decide +kernel
theorem dX7_tried_9 : decode cX7_tried 9 = .ok (.iload_n 3, 1) := by decide +kernel
theorem dX7_tried_10 : decode cX7_tried 10 = .ok (.iload 4, 2) := by decide +kernel
theorem dX7_tried_12 : decode cX7_tried 12 = .ok (.iconst 1, 1) := by decide +kernel
theorem dX7_tried_13 : decode cX7_tried 13 = .ok (.if_icmp .ne 7, 3) := by decide +kernel
theorem dX7_tried_16 : decode cX7_tried 16 = .ok (.iconst 1, 1) := by decide +kernel
theorem dX7_tried_17 : decode cX7_tried 17 = .ok (.goto 4, 3) := by decide +kernel
theorem dX7_tried_20 : decode cX7_tried 20 = .ok (.iconst 0, 1) := by decide +kernel
theorem dX7_tried_21 : decode cX7_tried 21 = .ok (.invokespecial 123, 3) := by decide +kernel
theorem dX7_tried_24 : decode cX7_tried 24 = .ok (.invokevirtual 34, 3) := by decide +kernel
theorem dX7_tried_27 : decode cX7_tried 27 = .ok (.pop, 1) := by decide +kernel
theorem dX7_tried_28 : decode cX7_tried 28 = .ok (.aload_n 0, 1) := by decide +kernel
theorem dX7_tried_29 : decode cX7_tried 29 = .ok (.aload_n 1, 1) := by decide +kernel
theorem dX7_tried_30 : decode cX7_tried 30 = .ok (.invokevirtual 126, 3) := by decide +kernel
theorem dX7_tried_33 : decode cX7_tried 33 = .ok (.aload_n 0, 1) := by decide +kernel
theorem dX7_tried_34 : decode cX7_tried 34 = .ok (.getfield 91, 3) := by decide +kernel
theorem dX7_tried_37 : decode cX7_tried 37 = .ok (.ldc 76, 2) := by decide +kernel
theorem dX7_tried_39 : decode cX7_tried 39 = .ok (.if_icmp .le 27, 3) := by decide +kernel
theorem dX7_tried_42 : decode cX7_tried 42 = .ok (.aload_n 1, 1) := by decide +kernel
theorem dX7_tried_43 : decode cX7_tried 43 = .ok (.getfield 95, 3) := by decide +kernel
theorem dX7_tried_46 : decode cX7_tried 46 = .ok (.aload_n 1, 1) := by decide +kernel
theorem dX7_tried_47 : decode cX7_tried 47 = .ok (.getfield 95, 3) := by decide +kernel
theorem dX7_tried_50 : decode cX7_tried 50 = .ok (.invokevirtual 38, 3) := by decide +kernel
theorem dX7_tried_53 : decode cX7_tried 53 = .ok (.iconst 1, 1) := by decide +kernel
theorem dX7_tried_54 : decode cX7_tried 54 = .ok (.isub, 1) := by decide +kernel
theorem dX7_tried_55 : decode cX7_tried 55 = .ok (.invokevirtual 130, 3) := by decide +kernel
theorem dX7_tried_58 : decode cX7_tried 58 = .ok (.checkcast 98, 3) := by decide +kernel
theorem dX7_tried_61 : decode cX7_tried 61 = .ok (.astore 5, 2) := by decide +kernel
theorem dX7_tried_63 : decode cX7_tried 63 = .ok (.bipush (-4), 2) := by decide +kernel
theorem dX7_tried_65 : decode cX7_tried 65 = .ok (.ireturn, 1) := by decide +kernel
theorem dX7_tried_66 : decode cX7_tried 66 = .ok (.iload 4, 2) := by decide +kernel
theorem dX7_tried_68 : decode cX7_tried 68 = .ok (.iconst 1, 1) := by decide +kernel
theorem dX7_tried_69 : decode cX7_tried 69 = .ok (.if_icmp .ne 12, 3) := by decide +kernel
theorem dX7_tried_72 : decode cX7_tried 72 = .ok (.aload_n 0, 1) := by decide +kernel
theorem dX7_tried_73 : decode cX7_tried 73 = .ok (.getfield 88, 3) := by decide +kernel
theorem dX7_tried_76 : decode cX7_tried 76 = .ok (.iconst 1, 1) := by decide +kernel
theorem dX7_tried_77 : decode cX7_tried 77 = .ok (.isub, 1) := by decide +kernel
theorem dX7_tried_78 : decode cX7_tried 78 = .ok (.goto 5, 3) := by decide +kernel
theorem dX7_tried_81 : decode cX7_tried 81 = .ok (.bipush 100, 2) := by decide +kernel
theorem dX7_tried_83 : decode cX7_tried 83 = .ok (.ireturn, 1) := by decide +kernel
set_option maxRecDepth 20000 in
theorem ggX7_field_X7_open : GoodIn wsX7_field wsX7_open := goodIn_r _ [6, 7, 8, 9, 10, 11, 12, 5, 13, 14, 15, 16, 17, 18, 19, 20, 21, 22, 23, 24, 25, 26, 27, 28, 29, 30, 31, 32, 33, 34, 35, 36, 37, 38, 39, 40, 41, 42, 152, 153, 154, 155, 156, 157, 158, 159, 160, 161, 162, 163, 164, 165, 166, 167, 168, 169] (by decide +kernel) (by decide +kernel)
set_option maxRecDepth 20000 in
theorem gX7_field_X7_open : GoodIn wsX7_field (wsV RX7 133 RX7 yX7_open wsX7_open) := goodIn_app (goodIn_of _ (by decide +kernel)) ggX7_field_X7_open
set_option maxRecDepth 20000 in
theorem ggX7_field_X7_there : GoodIn wsX7_field wsX7_there := goodIn_r _ [13, 7, 14, 15, 16, 17, 18, 19, 152, 153, 154, 155, 156, 157, 158, 159, 167, 168, 169] (by decide +kernel) (by decide +kernel)
set_option maxRecDepth 20000 in
theorem gX7_field_X7_there : GoodIn wsX7_field (wsV RX7 42 RX7 yX7_there wsX7_there) := goodIn_app (goodIn_of _ (by decide +kernel)) ggX7_field_X7_there
set_option maxRecDepth 20000 in
theorem ggX7_field_X7_sized : GoodIn wsX7_field wsX7_sized := goodIn_r _ [46, 7, 8, 9, 20, 21, 22, 17, 23, 19, 24, 25, 26, 27, 28, 29, 30, 31, 32, 33, 34, 35, 36, 37, 38, 39, 40, 41, 42, 152, 153, 154, 155, 156, 157, 158, 159, 160, 161, 162, 163, 164, 165, 166, 167, 168, 169] (by decide +kernel) (by decide +kernel)
set_option maxRecDepth 20000 in
theorem gX7_field_X7_sized : GoodIn wsX7_field (wsV RX7 77 RX7 yX7_sized wsX7_sized) := goodIn_app (goodIn_of _ (by decide +kernel)) ggX7_field_X7_sized
set_option maxRecDepth 20000 in
theorem ggX7_field_X7_lay : GoodIn wsX7_field wsX7_lay := goodIn_r _ [50, 1, 51, 52, 53, 54, 55, 56, 7, 8, 57, 58, 59, 60, 61, 62, 63, 64, 14, 15, 16, 17, 18, 19, 20, 21, 22, 23, 24, 25, 26, 27, 28, 29, 30, 31, 32, 33, 34, 35, 36, 65, 66, 5, 67, 68, 69, 70, 71, 72, 73, 74, 75, 152, 153, 154, 155, 156, 157, 158, 159, 160, 161, 162, 163, 164, 165, 166, 170, 171, 172, 167, 168, 169] (by decide +kernel) (by decide +kernel)
set_option maxRecDepth 20000 in
theorem gX7_field_X7_lay : GoodIn wsX7_field (wsV RX7 126 RX7 yX7_lay wsX7_lay) := goodIn_app (goodIn_of _ (by decide +kernel)) ggX7_field_X7_lay
set_option maxRecDepth 20000 in
theorem ggX7_field_X7_tried : GoodIn wsX7_field wsX7_tried := goodIn_r _ [79, 53, 80, 81, 82, 51, 83, 54, 1, 84, 85, 86, 87, 88, 89, 90, 91, 92, 93, 94, 95, 17, 96, 97, 98, 36, 19, 99, 100, 101, 102, 103, 104, 105, 106, 107, 108, 109, 110, 111, 112, 61, 62, 63, 113, 114, 115, 116, 117, 118, 119, 120, 121, 122, 123, 124, 125, 126, 127, 128, 129, 130, 131, 132, 133, 134, 135, 136, 137, 138, 139, 140, 141, 142, 47, 48, 49, 5, 50, 52, 55, 56, 7, 8, 57, 58, 59, 60, 64, 14, 15, 16, 18, 20, 21, 22, 23, 24, 25, 26, 27, 28, 29, 30, 31, 32, 33, 34, 35, 65, 66, 67, 68, 69, 70, 71, 72, 73, 74, 75, 143, 144, 145, 146, 147, 148, 149, 150, 151, 160, 161, 162, 163, 164, 165, 166, 170, 171, 172, 152, 153, 154, 155, 156, 157, 158, 159, 167, 168, 169] (by decide +kernel) (by decide +kernel)
set_option maxRecDepth 20000 in
theorem gX7_field_X7_tried : GoodIn wsX7_field (wsV RX7 137 RX7 yX7_tried wsX7_tried) := goodIn_app (goodIn_of _ (by decide +kernel)) ggX7_field_X7_tried
theorem dX7_field_0 : decode cX7_field 0 = .ok (.aload_n 0, 1) := by decide +kernel
theorem dX7_field_1 : decode cX7_field 1 = .ok (.iload_n 1, 1) := by decide +kernel
theorem dX7_field_2 : decode cX7_field 2 = .ok (.invokevirtual 133, 3) := by decide +kernel
theorem dX7_field_5 : decode cX7_field 5 = .ok (.astore_n 3, 1) := by decide +kernel
theorem dX7_field_6 : decode cX7_field 6 = .ok (.aload_n 3, 1) := by decide +kernel
theorem dX7_field_7 : decode cX7_field 7 = .ok (.ifnull 11, 3) := by decide +kernel
theorem dX7_field_10 : decode cX7_field 10 = .ok (.aload_n 0, 1) := by decide +kernel
theorem dX7_field_11 : decode cX7_field 11 = .ok (.iload_n 2, 1) := by decide +kernel
theorem dX7_field_12 : decode cX7_field 12 = .ok (.invokevirtual 42, 3) := by decide +kernel
theorem dX7_field_15 : decode cX7_field 15 = .ok (.ifCond .ne 5, 3) := by decide +kernel
theorem dX7_field_18 : decode cX7_field 18 = .ok (.iconst (-1), 1) := by decide +kernel
theorem dX7_field_19 : decode cX7_field 19 = .ok (.ireturn, 1) := by decide +kernel
theorem dX7_field_20 : decode cX7_field 20 = .ok (.aload_n 0, 1) := by decide +kernel
theorem dX7_field_21 : decode cX7_field 21 = .ok (.iload_n 2, 1) := by decide +kernel
theorem dX7_field_22 : decode cX7_field 22 = .ok (.invokevirtual 77, 3) := by decide +kernel
theorem dX7_field_25 : decode cX7_field 25 = .ok (.ifCond .ne 6, 3) := by decide +kernel
theorem dX7_field_28 : decode cX7_field 28 = .ok (.bipush (-2), 2) := by decide +kernel
theorem dX7_field_30 : decode cX7_field 30 = .ok (.ireturn, 1) := by decide +kernel
theorem dX7_field_31 : decode cX7_field 31 = .ok (.aload_n 0, 1) := by decide +kernel
theorem dX7_field_32 : decode cX7_field 32 = .ok (.aload_n 3, 1) := by decide +kernel
theorem dX7_field_33 : decode cX7_field 33 = .ok (.invokevirtual 126, 3) := by decide +kernel
theorem dX7_field_36 : decode cX7_field 36 = .ok (.aload_n 0, 1) := by decide +kernel
theorem dX7_field_37 : decode cX7_field 37 = .ok (.getfield 88, 3) := by decide +kernel
theorem dX7_field_40 : decode cX7_field 40 = .ok (.bipush 100, 2) := by decide +kernel
theorem dX7_field_42 : decode cX7_field 42 = .ok (.if_icmp .ne 8, 3) := by decide +kernel
theorem dX7_field_45 : decode cX7_field 45 = .ok (.bipush (-3), 2) := by decide +kernel
theorem dX7_field_47 : decode cX7_field 47 = .ok (.goto 11, 3) := by decide +kernel
theorem dX7_field_50 : decode cX7_field 50 = .ok (.aload_n 0, 1) := by decide +kernel
theorem dX7_field_51 : decode cX7_field 51 = .ok (.aload_n 3, 1) := by decide +kernel
theorem dX7_field_52 : decode cX7_field 52 = .ok (.iload_n 2, 1) := by decide +kernel
theorem dX7_field_53 : decode cX7_field 53 = .ok (.iconst 0, 1) := by decide +kernel
theorem dX7_field_54 : decode cX7_field 54 = .ok (.iconst 1, 1) := by decide +kernel
theorem dX7_field_55 : decode cX7_field 55 = .ok (.invokevirtual 137, 3) := by decide +kernel
theorem dX7_field_58 : decode cX7_field 58 = .ok (.ireturn, 1) := by decide +kernel
set_option maxRecDepth 20000 in
theorem ggX7_bits_X7_open : GoodIn wsX7_bits wsX7_open := goodIn_r _ [6, 7, 8, 9, 10, 11, 12, 5, 13, 14, 15, 16, 17, 18, 19, 20, 21, 22, 23, 24, 25, 26, 27, 28, 29, 30, 31, 32, 33, 34, 35, 36, 37, 38, 39, 40, 41, 42, 148, 149, 150, 151, 152, 153, 154, 155, 156, 157, 158, 159, 160, 161, 162, 163, 164, 165] (by decide +kernel) (by decide +kernel)
set_option maxRecDepth 20000 in
theorem gX7_bits_X7_open : GoodIn wsX7_bits (wsV RX7 133 RX7 yX7_open wsX7_open) := goodIn_app (goodIn_of _ (by decide +kernel)) ggX7_bits_X7_open
set_option maxRecDepth 20000 in
theorem ggX7_bits_X7_lay : GoodIn wsX7_bits wsX7_lay := goodIn_r _ [46, 1, 47, 48, 49, 50, 51, 52, 7, 8, 53, 54, 55, 56, 57, 58, 59, 60, 14, 15, 16, 17, 18, 19, 20, 21, 22, 23, 24, 25, 26, 27, 28, 29, 30, 31, 32, 33, 34, 35, 36, 61, 62, 5, 63, 64, 65, 66, 67, 68, 69, 70, 71, 148, 149, 150, 151, 152, 153, 154, 155, 156, 157, 158, 159, 160, 161, 162, 166, 167, 168, 163, 164, 165] (by decide +kernel) (by decide +kernel)
set_option maxRecDepth 20000 in
theorem gX7_bits_X7_lay : GoodIn wsX7_bits (wsV RX7 126 RX7 yX7_lay wsX7_lay) := goodIn_app (goodIn_of _ (by decide +kernel)) ggX7_bits_X7_lay
set_option maxRecDepth 20000 in
theorem ggX7_bits_X7_tried : GoodIn wsX7_bits wsX7_tried := goodIn_r _ [75, 49, 76, 77, 78, 47, 79, 50, 1, 80, 81, 82, 83, 84, 85, 86, 87, 88, 89, 90, 91, 17, 92, 93, 94, 36, 19, 95, 96, 97, 98, 99, 100, 101, 102, 103, 104, 105, 106, 107, 108, 57, 58, 59, 109, 110, 111, 112, 113, 114, 115, 116, 117, 118, 119, 120, 121, 122, 123, 124, 125, 126, 127, 128, 129, 130, 131, 132, 133, 134, 135, 136, 137, 138, 43, 44, 45, 5, 46, 48, 51, 52, 7, 8, 53, 54, 55, 56, 60, 14, 15, 16, 18, 20, 21, 22, 23, 24, 25, 26, 27, 28, 29, 30, 31, 32, 33, 34, 35, 61, 62, 63, 64, 65, 66, 67, 68, 69, 70, 71, 139, 140, 141, 142, 143, 144, 145, 146, 147, 156, 157, 158, 159, 160, 161, 162, 166, 167, 168, 148, 149, 150, 151, 152, 153, 154, 155, 163, 164, 165] (by decide +kernel) (by decide +kernel)
set_option maxRecDepth 20000 in
theorem gX7_bits_X7_tried : GoodIn wsX7_bits (wsV RX7 137 RX7 yX7_tried wsX7_tried) := goodIn_app (goodIn_of _ (by decide +kernel)) ggX7_bits_X7_tried
theorem dX7_bits_0 : decode cX7_bits 0 = .ok (.aload_n 0, 1) := by decide +kernel
theorem dX7_bits_1 : decode cX7_bits 1 = .ok (.iload_n 1, 1) := by decide +kernel
theorem dX7_bits_2 : decode cX7_bits 2 = .ok (.invokevirtual 133, 3) := by decide +kernel
theorem dX7_bits_5 : decode cX7_bits 5 = .ok (.astore 5, 2) := by decide +kernel
theorem dX7_bits_7 : decode cX7_bits 7 = .ok (.aload 5, 2) := by decide +kernel
theorem dX7_bits_9 : decode cX7_bits 9 = .ok (.ifnonnull 5, 3) := by decide +kernel
theorem dX7_bits_12 : decode cX7_bits 12 = .ok (.iconst (-1), 1) := by decide +kernel
theorem dX7_bits_13 : decode cX7_bits 13 = .ok (.ireturn, 1) := by decide +kernel
theorem dX7_bits_14 : decode cX7_bits 14 = .ok (.iload_n 2, 1) := by decide +kernel
theorem dX7_bits_15 : decode cX7_bits 15 = .ok (.iconst 5, 1) := by decide +kernel
theorem dX7_bits_16 : decode cX7_bits 16 = .ok (.if_icmp .eq 9, 3) := by decide +kernel
theorem dX7_bits_19 : decode cX7_bits 19 = .ok (.iload_n 2, 1) := by decide +kernel
theorem dX7_bits_20 : decode cX7_bits 20 = .ok (.bipush 6, 2) := by decide +kernel
theorem dX7_bits_22 : decode cX7_bits 22 = .ok (.if_icmp .ne 14, 3) := by decide +kernel
theorem dX7_bits_25 : decode cX7_bits 25 = .ok (.iload_n 3, 1) := by decide +kernel
theorem dX7_bits_26 : decode cX7_bits 26 = .ok (.iconst 1, 1) := by decide +kernel
theorem dX7_bits_27 : decode cX7_bits 27 = .ok (.if_icmp .lt 9, 3) := by decide +kernel
theorem dX7_bits_30 : decode cX7_bits 30 = .ok (.iload_n 3, 1) := by decide +kernel
theorem dX7_bits_31 : decode cX7_bits 31 = .ok (.bipush 32, 2) := by decide +kernel
theorem dX7_bits_33 : decode cX7_bits 33 = .ok (.if_icmp .le 6, 3) := by decide +kernel
theorem dX7_bits_36 : decode cX7_bits 36 = .ok (.bipush (-2), 2) := by decide +kernel
theorem dX7_bits_38 : decode cX7_bits 38 = .ok (.ireturn, 1) := by decide +kernel
theorem dX7_bits_39 : decode cX7_bits 39 = .ok (.aload_n 0, 1) := by decide +kernel
theorem dX7_bits_40 : decode cX7_bits 40 = .ok (.aload 5, 2) := by decide +kernel
theorem dX7_bits_42 : decode cX7_bits 42 = .ok (.invokevirtual 126, 3) := by decide +kernel
theorem dX7_bits_45 : decode cX7_bits 45 = .ok (.iload 4, 2) := by decide +kernel
theorem dX7_bits_47 : decode cX7_bits 47 = .ok (.ifCond .eq 17, 3) := by decide +kernel
theorem dX7_bits_50 : decode cX7_bits 50 = .ok (.aload_n 0, 1) := by decide +kernel
theorem dX7_bits_51 : decode cX7_bits 51 = .ok (.getfield 88, 3) := by decide +kernel
theorem dX7_bits_54 : decode cX7_bits 54 = .ok (.bipush 100, 2) := by decide +kernel
theorem dX7_bits_56 : decode cX7_bits 56 = .ok (.if_icmp .ne 8, 3) := by decide +kernel
theorem dX7_bits_59 : decode cX7_bits 59 = .ok (.bipush (-3), 2) := by decide +kernel
theorem dX7_bits_61 : decode cX7_bits 61 = .ok (.goto 21, 3) := by decide +kernel
theorem dX7_bits_64 : decode cX7_bits 64 = .ok (.aload_n 0, 1) := by decide +kernel
theorem dX7_bits_65 : decode cX7_bits 65 = .ok (.aload 5, 2) := by decide +kernel
theorem dX7_bits_67 : decode cX7_bits 67 = .ok (.iload_n 2, 1) := by decide +kernel
theorem dX7_bits_68 : decode cX7_bits 68 = .ok (.iload_n 3, 1) := by decide +kernel
theorem dX7_bits_69 : decode cX7_bits 69 = .ok (.iload 4, 2) := by decide +kernel
theorem dX7_bits_71 : decode cX7_bits 71 = .ok (.ifCond .eq 7, 3) := by decide +kernel
theorem dX7_bits_74 : decode cX7_bits 74 = .ok (.iconst 1, 1) := by decide +kernel
theorem dX7_bits_75 : decode cX7_bits 75 = .ok (.goto 4, 3) := by decide +kernel
theorem dX7_bits_78 : decode cX7_bits 78 = .ok (.iconst 0, 1) := by decide +kernel
theorem dX7_bits_79 : decode cX7_bits 79 = .ok (.invokevirtual 137, 3) := by decide +kernel
theorem dX7_bits_82 : decode cX7_bits 82 = .ok (.ireturn, 1) := by decide +kernel
set_option maxRecDepth 20000 in
theorem ggX7_separate_X7_open : GoodIn wsX7_separate wsX7_open := goodIn_r _ [9, 10, 11, 12, 13, 14, 15, 8, 16, 17, 18, 19, 20, 21, 22, 23, 24, 25, 26, 27, 28, 29, 30, 31, 32, 33, 34, 35, 36, 37, 38, 39, 40, 41, 42, 43, 44, 45, 118, 119, 120, 121, 122, 123, 124, 125, 108, 109, 110, 111, 112, 113, 114, 126, 127, 128] (by decide +kernel) (by decide +kernel)
set_option maxRecDepth 20000 in
theorem gX7_separate_X7_open : GoodIn wsX7_separate (wsV RX7 133 RX7 yX7_open wsX7_open) := goodIn_app (goodIn_of _ (by decide +kernel)) ggX7_separate_X7_open
set_option maxRecDepth 20000 in
theorem ggX7_separate_X5_init : GoodIn wsX7_separate wsX5_init := goodIn_r _ [48, 49, 50, 51, 52, 53, 54, 115, 116, 117] (by decide +kernel) (by decide +kernel)
set_option maxRecDepth 20000 in
theorem gX7_separate_X5_init : GoodIn wsX7_separate (wsX5_init) := ggX7_separate_X5_init
set_option maxRecDepth 20000 in
theorem ggX7_separate_Jx4a65c_add_9ea2d : GoodIn wsX7_separate wsJx4a65c_add_9ea2d := goodIn_r _ [58, 59, 60, 39, 22, 61, 62, 63, 20, 64, 65, 66, 67, 68, 69, 70, 71, 72, 73, 74, 75, 76, 77, 78, 79, 80, 81, 82, 83, 84, 85, 86, 87, 88, 89, 90, 91, 92, 93, 94, 95, 96, 97, 98, 99, 100, 101, 102, 103, 104, 105, 106, 107, 126, 127, 128] (by decide +kernel) (by decide +kernel)
set_option maxRecDepth 20000 in
theorem gX7_separate_Jx4a65c_add_9ea2d : GoodIn wsX7_separate (wsV RX7 34 RJx4a65c yJx4a65c_add_9ea2d wsJx4a65c_add_9ea2d) := goodIn_app (goodIn_of _ (by decide +kernel)) ggX7_separate_Jx4a65c_add_9ea2d
theorem dX7_separate_0 : decode cX7_separate 0 = .ok (.aload_n 0, 1) := by decide +kernel
theorem dX7_separate_1 : decode cX7_separate 1 = .ok (.iload_n 1, 1) := by decide +kernel
theorem dX7_separate_2 : decode cX7_separate 2 = .ok (.invokevirtual 133, 3) := by decide +kernel
theorem dX7_separate_5 : decode cX7_separate 5 = .ok (.astore_n 2, 1) := by decide +kernel
theorem dX7_separate_6 : decode cX7_separate 6 = .ok (.aload_n 2, 1) := by decide +kernel
theorem dX7_separate_7 : decode cX7_separate 7 = .ok (.ifnonnull 5, 3) := by decide +kernel
theorem dX7_separate_10 : decode cX7_separate 10 = .ok (.iconst 0, 1) := by decide +kernel
theorem dX7_separate_11 : decode cX7_separate 11 = .ok (.ireturn, 1) := by decide +kernel
theorem dX7_separate_12 : decode cX7_separate 12 = .ok (.aload_n 2, 1) := by decide +kernel
theorem dX7_separate_13 : decode cX7_separate 13 = .ok (.getfield 95, 3) := by decide +kernel
theorem dX7_separate_16 : decode cX7_separate 16 = .ok (.new 98, 3) := by decide +kernel
theorem dX7_separate_19 : decode cX7_separate 19 = .ok (.dup, 1) := by decide +kernel
theorem dX7_separate_20 : decode cX7_separate 20 = .ok (.iconst (-1), 1) := by decide +kernel
theorem dX7_separate_21 : decode cX7_separate 21 = .ok (.iconst 0, 1) := by decide +kernel
theorem dX7_separate_22 : decode cX7_separate 22 = .ok (.iconst 0, 1) := by decide +kernel
theorem dX7_separate_23 : decode cX7_separate 23 = .ok (.invokespecial 123, 3) := by decide +kernel
theorem dX7_separate_26 : decode cX7_separate 26 = .ok (.invokevirtual 34, 3) := by decide +kernel
theorem dX7_separate_29 : decode cX7_separate 29 = .ok (.pop, 1) := by decide +kernel
theorem dX7_separate_30 : decode cX7_separate 30 = .ok (.iconst 1, 1) := by decide +kernel
theorem dX7_separate_31 : decode cX7_separate 31 = .ok (.ireturn, 1) := by decide +kernel
set_option maxRecDepth 20000 in
theorem ggX7_finish_X7_open : GoodIn wsX7_finish wsX7_open := goodIn_r _ [12, 13, 14, 5, 15, 16, 17, 11, 18, 19, 20, 21, 22, 23, 24, 25, 26, 27, 28, 29, 30, 31, 32, 33, 34, 35, 36, 37, 38, 39, 40, 41, 42, 43, 44, 45, 46, 47, 73, 74, 75, 76, 77, 78, 79, 80, 81, 82, 83, 84, 85, 86, 87, 88, 89, 90] (by decide +kernel) (by decide +kernel)
set_option maxRecDepth 20000 in
theorem gX7_finish_X7_open : GoodIn wsX7_finish (wsV RX7 133 RX7 yX7_open wsX7_open) := goodIn_app (goodIn_of _ (by decide +kernel)) ggX7_finish_X7_open
set_option maxRecDepth 20000 in
theorem ggX7_finish_X7_lay : GoodIn wsX7_finish wsX7_lay := goodIn_r _ [51, 1, 2, 3, 52, 53, 54, 55, 13, 14, 56, 7, 6, 57, 58, 59, 60, 61, 19, 20, 21, 22, 23, 24, 25, 26, 27, 28, 29, 30, 31, 32, 33, 34, 35, 36, 37, 38, 39, 40, 41, 62, 63, 11, 64, 65, 66, 67, 68, 69, 70, 71, 72, 73, 74, 75, 76, 77, 78, 79, 80, 81, 82, 83, 84, 85, 86, 87, 91, 92, 93, 88, 89, 90] (by decide +kernel) (by decide +kernel)
set_option maxRecDepth 20000 in
theorem gX7_finish_X7_lay : GoodIn wsX7_finish (wsV RX7 126 RX7 yX7_lay wsX7_lay) := goodIn_app (goodIn_of _ (by decide +kernel)) ggX7_finish_X7_lay
set_option maxRecDepth 20000 in
theorem ggX7_finish_X7_up : GoodIn wsX7_finish wsX7_up := goodIn_r _ [64] (by decide +kernel) (by decide +kernel)
set_option maxRecDepth 20000 in
theorem gX7_finish_X7_up : GoodIn wsX7_finish (va_wsS RX7 106 yX7_up wsX7_up) := goodIn_app (goodIn_of _ (by decide +kernel)) ggX7_finish_X7_up
theorem dX7_finish_0 : decode cX7_finish 0 = .ok (.aload_n 0, 1) := by decide +kernel
theorem dX7_finish_1 : decode cX7_finish 1 = .ok (.iload_n 1, 1) := by decide +kernel
theorem dX7_finish_2 : decode cX7_finish 2 = .ok (.invokevirtual 133, 3) := by decide +kernel
theorem dX7_finish_5 : decode cX7_finish 5 = .ok (.astore_n 2, 1) := by decide +kernel
theorem dX7_finish_6 : decode cX7_finish 6 = .ok (.aload_n 2, 1) := by decide +kernel
theorem dX7_finish_7 : decode cX7_finish 7 = .ok (.ifnonnull 5, 3) := by decide +kernel
theorem dX7_finish_10 : decode cX7_finish 10 = .ok (.iconst (-1), 1) := by decide +kernel
theorem dX7_finish_11 : decode cX7_finish 11 = .ok (.ireturn, 1) := by decide +kernel
theorem dX7_finish_12 : decode cX7_finish 12 = .ok (.aload_n 0, 1) := by decide +kernel
theorem dX7_finish_13 : decode cX7_finish 13 = .ok (.aload_n 2, 1) := by decide +kernel
theorem dX7_finish_14 : decode cX7_finish 14 = .ok (.invokevirtual 126, 3) := by decide +kernel
theorem dX7_finish_17 : decode cX7_finish 17 = .ok (.aload_n 0, 1) := by decide +kernel
theorem dX7_finish_18 : decode cX7_finish 18 = .ok (.getfield 88, 3) := by decide +kernel
theorem dX7_finish_21 : decode cX7_finish 21 = .ok (.ifCond .ne 6, 3) := by decide +kernel
theorem dX7_finish_24 : decode cX7_finish 24 = .ok (.bipush (-2), 2) := by decide +kernel
theorem dX7_finish_26 : decode cX7_finish 26 = .ok (.ireturn, 1) := by decide +kernel
theorem dX7_finish_27 : decode cX7_finish 27 = .ok (.aload_n 0, 1) := by decide +kernel
theorem dX7_finish_28 : decode cX7_finish 28 = .ok (.getfield 91, 3) := by decide +kernel
theorem dX7_finish_31 : decode cX7_finish 31 = .ok (.aload_n 0, 1) := by decide +kernel
theorem dX7_finish_32 : decode cX7_finish 32 = .ok (.getfield 94, 3) := by decide +kernel
theorem dX7_finish_35 : decode cX7_finish 35 = .ok (.invokestatic 106, 3) := by decide +kernel
theorem dX7_finish_38 : decode cX7_finish 38 = .ok (.ldc 76, 2) := by decide +kernel
theorem dX7_finish_40 : decode cX7_finish 40 = .ok (.if_icmp .le 6, 3) := by decide +kernel
theorem dX7_finish_43 : decode cX7_finish 43 = .ok (.bipush (-3), 2) := by decide +kernel
theorem dX7_finish_45 : decode cX7_finish 45 = .ok (.ireturn, 1) := by decide +kernel
theorem dX7_finish_46 : decode cX7_finish 46 = .ok (.aload_n 2, 1) := by decide +kernel
theorem dX7_finish_47 : decode cX7_finish 47 = .ok (.iconst 1, 1) := by decide +kernel
theorem dX7_finish_48 : decode cX7_finish 48 = .ok (.putfield 54, 3) := by decide +kernel
theorem dX7_finish_51 : decode cX7_finish 51 = .ok (.aload_n 2, 1) := by decide +kernel
theorem dX7_finish_52 : decode cX7_finish 52 = .ok (.aload_n 0, 1) := by decide +kernel
theorem dX7_finish_53 : decode cX7_finish 53 = .ok (.getfield 91, 3) := by decide +kernel
theorem dX7_finish_56 : decode cX7_finish 56 = .ok (.aload_n 0, 1) := by decide +kernel
theorem dX7_finish_57 : decode cX7_finish 57 = .ok (.getfield 94, 3) := by decide +kernel
theorem dX7_finish_60 : decode cX7_finish 60 = .ok (.invokestatic 106, 3) := by decide +kernel
theorem dX7_finish_63 : decode cX7_finish 63 = .ok (.putfield 113, 3) := by decide +kernel
theorem dX7_finish_66 : decode cX7_finish 66 = .ok (.aload_n 2, 1) := by decide +kernel
theorem dX7_finish_67 : decode cX7_finish 67 = .ok (.aload_n 0, 1) := by decide +kernel
theorem dX7_finish_68 : decode cX7_finish 68 = .ok (.getfield 94, 3) := by decide +kernel
theorem dX7_finish_71 : decode cX7_finish 71 = .ok (.putfield 85, 3) := by decide +kernel
theorem dX7_finish_74 : decode cX7_finish 74 = .ok (.aload_n 2, 1) := by decide +kernel
theorem dX7_finish_75 : decode cX7_finish 75 = .ok (.getfield 113, 3) := by decide +kernel
theorem dX7_finish_78 : decode cX7_finish 78 = .ok (.ireturn, 1) := by decide +kernel
set_option maxRecDepth 20000 in
theorem ggX7_types_Jx4a65c_size_8abf5 : GoodIn wsX7_types wsJx4a65c_size_8abf5 := goodIn_r _ [6, 7, 16, 17, 18] (by decide +kernel) (by decide +kernel)
set_option maxRecDepth 20000 in
theorem gX7_types_Jx4a65c_size_8abf5 : GoodIn wsX7_types (wsV RX7 38 RJx4a65c yJx4a65c_size_8abf5 wsJx4a65c_size_8abf5) := goodIn_app (goodIn_of _ (by decide +kernel)) ggX7_types_Jx4a65c_size_8abf5
theorem dX7_types_0 : decode cX7_types 0 = .ok (.aload_n 0, 1) := by decide +kernel
theorem dX7_types_1 : decode cX7_types 1 = .ok (.getfield 10, 3) := by decide +kernel
theorem dX7_types_4 : decode cX7_types 4 = .ok (.invokevirtual 38, 3) := by decide +kernel
theorem dX7_types_7 : decode cX7_types 7 = .ok (.ireturn, 1) := by decide +kernel
set_option maxRecDepth 20000 in
theorem ggX7_size_X7_there : GoodIn wsX7_size wsX7_there := goodIn_r _ [8, 1, 9, 10, 11, 12, 13, 14, 32, 33, 34, 35, 36, 37, 38, 39, 47, 48, 49] (by decide +kernel) (by decide +kernel)
set_option maxRecDepth 20000 in
theorem gX7_size_X7_there : GoodIn wsX7_size (wsV RX7 42 RX7 yX7_there wsX7_there) := goodIn_app (goodIn_of _ (by decide +kernel)) ggX7_size_X7_there
set_option maxRecDepth 20000 in
theorem ggX7_size_Jx4a65c_get_915e3 : GoodIn wsX7_size wsJx4a65c_get_915e3 := goodIn_r _ [18, 14, 19, 20, 21, 22, 23, 24, 25, 26, 27, 28, 29, 12, 30, 31, 47, 48, 49] (by decide +kernel) (by decide +kernel)
set_option maxRecDepth 20000 in
theorem gX7_size_Jx4a65c_get_915e3 : GoodIn wsX7_size (wsV RX7 46 RJx4a65c yJx4a65c_get_915e3 wsJx4a65c_get_915e3) := goodIn_app (goodIn_of _ (by decide +kernel)) ggX7_size_Jx4a65c_get_915e3
theorem dX7_size_0 : decode cX7_size 0 = .ok (.aload_n 0, 1) := by decide +kernel
theorem dX7_size_1 : decode cX7_size 1 = .ok (.iload_n 1, 1) := by decide +kernel
theorem dX7_size_2 : decode cX7_size 2 = .ok (.invokevirtual 42, 3) := by decide +kernel
theorem dX7_size_5 : decode cX7_size 5 = .ok (.ifCond .eq 20, 3) := by decide +kernel
theorem dX7_size_8 : decode cX7_size 8 = .ok (.aload_n 0, 1) := by decide +kernel
theorem dX7_size_9 : decode cX7_size 9 = .ok (.getfield 10, 3) := by decide +kernel
theorem dX7_size_12 : decode cX7_size 12 = .ok (.iload_n 1, 1) := by decide +kernel
theorem dX7_size_13 : decode cX7_size 13 = .ok (.invokevirtual 46, 3) := by decide +kernel
theorem dX7_size_16 : decode cX7_size 16 = .ok (.checkcast 29, 3) := by decide +kernel
theorem dX7_size_19 : decode cX7_size 19 = .ok (.getfield 113, 3) := by decide +kernel
theorem dX7_size_22 : decode cX7_size 22 = .ok (.goto 4, 3) := by decide +kernel
theorem dX7_size_25 : decode cX7_size 25 = .ok (.iconst (-1), 1) := by decide +kernel
theorem dX7_size_26 : decode cX7_size 26 = .ok (.ireturn, 1) := by decide +kernel
set_option maxRecDepth 20000 in
theorem ggX7_align_X7_there : GoodIn wsX7_align wsX7_there := goodIn_r _ [10, 1, 11, 12, 13, 14, 15, 16, 68, 69, 70, 71, 72, 73, 74, 75, 83, 84, 85] (by decide +kernel) (by decide +kernel)
set_option maxRecDepth 20000 in
theorem gX7_align_X7_there : GoodIn wsX7_align (wsV RX7 42 RX7 yX7_there wsX7_there) := goodIn_app (goodIn_of _ (by decide +kernel)) ggX7_align_X7_there
set_option maxRecDepth 20000 in
theorem ggX7_align_Jx4a65c_get_915e3 : GoodIn wsX7_align wsJx4a65c_get_915e3 := goodIn_r _ [20, 16, 21, 22, 23, 24, 25, 26, 27, 28, 29, 30, 31, 14, 32, 33, 83, 84, 85] (by decide +kernel) (by decide +kernel)
set_option maxRecDepth 20000 in
theorem gX7_align_Jx4a65c_get_915e3 : GoodIn wsX7_align (wsV RX7 46 RJx4a65c yJx4a65c_get_915e3 wsJx4a65c_get_915e3) := goodIn_app (goodIn_of _ (by decide +kernel)) ggX7_align_Jx4a65c_get_915e3
set_option maxRecDepth 20000 in
theorem ggX7_align_X6_record : GoodIn wsX7_align wsX6_record := goodIn_r _ [38, 39, 76, 77, 78, 79, 80, 81, 82] (by decide +kernel) (by decide +kernel)
set_option maxRecDepth 20000 in
theorem gX7_align_X6_record : GoodIn wsX7_align (wsV RX7 50 RX6 yX6_record wsX6_record) := goodIn_app (goodIn_of _ (by decide +kernel)) ggX7_align_X6_record
set_option maxRecDepth 20000 in
theorem ggX7_align_X7_lay : GoodIn wsX7_align wsX7_lay := goodIn_r _ [43, 44, 45, 5, 46, 47, 48, 49, 1, 2, 50, 4, 51, 52, 53, 54, 55, 56, 11, 12, 13, 14, 15, 16, 17, 18, 19, 20, 21, 22, 23, 24, 25, 26, 27, 28, 29, 30, 31, 32, 33, 57, 58, 9, 59, 60, 61, 62, 63, 64, 65, 66, 67, 68, 69, 70, 71, 72, 73, 74, 75, 76, 77, 78, 79, 80, 81, 82, 86, 87, 88, 83, 84, 85] (by decide +kernel) (by decide +kernel)
set_option maxRecDepth 20000 in
theorem gX7_align_X7_lay : GoodIn wsX7_align (wsV RX7 126 RX7 yX7_lay wsX7_lay) := goodIn_app (goodIn_of _ (by decide +kernel)) ggX7_align_X7_lay
theorem dX7_align_0 : decode cX7_align 0 = .ok (.aload_n 0, 1) := by decide +kernel
theorem dX7_align_1 : decode cX7_align 1 = .ok (.iload_n 1, 1) := by decide +kernel
theorem dX7_align_2 : decode cX7_align 2 = .ok (.invokevirtual 42, 3) := by decide +kernel
theorem dX7_align_5 : decode cX7_align 5 = .ok (.ifCond .ne 5, 3) := by decide +kernel
theorem dX7_align_8 : decode cX7_align 8 = .ok (.iconst (-1), 1) := by decide +kernel
theorem dX7_align_9 : decode cX7_align 9 = .ok (.ireturn, 1) := by decide +kernel
theorem dX7_align_10 : decode cX7_align 10 = .ok (.aload_n 0, 1) := by decide +kernel
theorem dX7_align_11 : decode cX7_align 11 = .ok (.getfield 10, 3) := by decide +kernel
theorem dX7_align_14 : decode cX7_align 14 = .ok (.iload_n 1, 1) := by decide +kernel
theorem dX7_align_15 : decode cX7_align 15 = .ok (.invokevirtual 46, 3) := by decide +kernel
theorem dX7_align_18 : decode cX7_align 18 = .ok (.checkcast 29, 3) := by decide +kernel
theorem dX7_align_21 : decode cX7_align 21 = .ok (.astore_n 2, 1) := by decide +kernel
theorem dX7_align_22 : decode cX7_align 22 = .ok (.aload_n 2, 1) := by decide +kernel
theorem dX7_align_23 : decode cX7_align 23 = .ok (.invokevirtual 50, 3) := by decide +kernel
theorem dX7_align_26 : decode cX7_align 26 = .ok (.ifCond .eq 10, 3) := by decide +kernel
theorem dX7_align_29 : decode cX7_align 29 = .ok (.aload_n 2, 1) := by decide +kernel
theorem dX7_align_30 : decode cX7_align 30 = .ok (.getfield 54, 3) := by decide +kernel
theorem dX7_align_33 : decode cX7_align 33 = .ok (.ifCond .eq 8, 3) := by decide +kernel
theorem dX7_align_36 : decode cX7_align 36 = .ok (.aload_n 2, 1) := by decide +kernel
theorem dX7_align_37 : decode cX7_align 37 = .ok (.getfield 85, 3) := by decide +kernel
theorem dX7_align_40 : decode cX7_align 40 = .ok (.ireturn, 1) := by decide +kernel
theorem dX7_align_41 : decode cX7_align 41 = .ok (.aload_n 0, 1) := by decide +kernel
theorem dX7_align_42 : decode cX7_align 42 = .ok (.aload_n 2, 1) := by decide +kernel
theorem dX7_align_43 : decode cX7_align 43 = .ok (.invokevirtual 126, 3) := by decide +kernel
theorem dX7_align_46 : decode cX7_align 46 = .ok (.aload_n 0, 1) := by decide +kernel
end
section
theorem dX7_align_47 : decode cX7_align 47 = .ok (.getfield 94, 3) := by decide +kernel
theorem dX7_align_50 : decode cX7_align 50 = .ok (.ireturn, 1) := by decide +kernel
set_option maxRecDepth 20000 in
theorem ggX7_members_X7_there : GoodIn wsX7_members wsX7_there := goodIn_r _ [8, 1, 9, 10, 11, 12, 13, 14, 67, 68, 69, 70, 71, 72, 73, 74, 75, 76, 77] (by decide +kernel) (by decide +kernel)
set_option maxRecDepth 20000 in
theorem gX7_members_X7_there : GoodIn wsX7_members (wsV RX7 42 RX7 yX7_there wsX7_there) := goodIn_app (goodIn_of _ (by decide +kernel)) ggX7_members_X7_there
set_option maxRecDepth 20000 in
theorem ggX7_members_Jx4a65c_get_915e3 : GoodIn wsX7_members wsJx4a65c_get_915e3 := goodIn_r _ [18, 14, 19, 20, 21, 22, 23, 24, 25, 26, 27, 28, 29, 12, 30, 31, 75, 76, 77] (by decide +kernel) (by decide +kernel)
set_option maxRecDepth 20000 in
theorem gX7_members_Jx4a65c_get_915e3 : GoodIn wsX7_members (wsV RX7 46 RJx4a65c yJx4a65c_get_915e3 wsJx4a65c_get_915e3) := goodIn_app (goodIn_of _ (by decide +kernel)) ggX7_members_Jx4a65c_get_915e3
set_option maxRecDepth 20000 in
theorem ggX7_members_X6_record : GoodIn wsX7_members wsX6_record := goodIn_r _ [36, 37, 78, 79, 80, 81, 82, 83, 84] (by decide +kernel) (by decide +kernel)
set_option maxRecDepth 20000 in
theorem gX7_members_X6_record : GoodIn wsX7_members (wsV RX7 50 RX6 yX6_record wsX6_record) := goodIn_app (goodIn_of _ (by decide +kernel)) ggX7_members_X6_record
set_option maxRecDepth 20000 in
theorem ggX7_members_X7_lay : GoodIn wsX7_members wsX7_lay := goodIn_r _ [41, 3, 42, 43, 44, 45, 46, 47, 1, 2, 48, 49, 50, 51, 52, 53, 54, 55, 9, 10, 11, 12, 13, 14, 15, 16, 17, 18, 19, 20, 21, 22, 23, 24, 25, 26, 27, 28, 29, 30, 31, 56, 57, 7, 58, 59, 60, 61, 62, 63, 64, 65, 66, 67, 68, 69, 70, 71, 72, 73, 74, 78, 79, 80, 81, 82, 83, 84, 85, 86, 87, 75, 76, 77] (by decide +kernel) (by decide +kernel)
set_option maxRecDepth 20000 in
theorem gX7_members_X7_lay : GoodIn wsX7_members (wsV RX7 126 RX7 yX7_lay wsX7_lay) := goodIn_app (goodIn_of _ (by decide +kernel)) ggX7_members_X7_lay
theorem dX7_members_0 : decode cX7_members 0 = .ok (.aload_n 0, 1) := by decide +kernel
theorem dX7_members_1 : decode cX7_members 1 = .ok (.iload_n 1, 1) := by decide +kernel
theorem dX7_members_2 : decode cX7_members 2 = .ok (.invokevirtual 42, 3) := by decide +kernel
theorem dX7_members_5 : decode cX7_members 5 = .ok (.ifCond .eq 20, 3) := by decide +kernel
theorem dX7_members_8 : decode cX7_members 8 = .ok (.aload_n 0, 1) := by decide +kernel
theorem dX7_members_9 : decode cX7_members 9 = .ok (.getfield 10, 3) := by decide +kernel
theorem dX7_members_12 : decode cX7_members 12 = .ok (.iload_n 1, 1) := by decide +kernel
theorem dX7_members_13 : decode cX7_members 13 = .ok (.invokevirtual 46, 3) := by decide +kernel
theorem dX7_members_16 : decode cX7_members 16 = .ok (.checkcast 29, 3) := by decide +kernel
theorem dX7_members_19 : decode cX7_members 19 = .ok (.invokevirtual 50, 3) := by decide +kernel
theorem dX7_members_22 : decode cX7_members 22 = .ok (.ifCond .ne 5, 3) := by decide +kernel
theorem dX7_members_25 : decode cX7_members 25 = .ok (.iconst (-1), 1) := by decide +kernel
theorem dX7_members_26 : decode cX7_members 26 = .ok (.ireturn, 1) := by decide +kernel
theorem dX7_members_27 : decode cX7_members 27 = .ok (.aload_n 0, 1) := by decide +kernel
theorem dX7_members_28 : decode cX7_members 28 = .ok (.aload_n 0, 1) := by decide +kernel
theorem dX7_members_29 : decode cX7_members 29 = .ok (.getfield 10, 3) := by decide +kernel
theorem dX7_members_32 : decode cX7_members 32 = .ok (.iload_n 1, 1) := by decide +kernel
theorem dX7_members_33 : decode cX7_members 33 = .ok (.invokevirtual 46, 3) := by decide +kernel
theorem dX7_members_36 : decode cX7_members 36 = .ok (.checkcast 29, 3) := by decide +kernel
theorem dX7_members_39 : decode cX7_members 39 = .ok (.invokevirtual 126, 3) := by decide +kernel
theorem dX7_members_42 : decode cX7_members 42 = .ok (.aload_n 0, 1) := by decide +kernel
theorem dX7_members_43 : decode cX7_members 43 = .ok (.getfield 88, 3) := by decide +kernel
theorem dX7_members_46 : decode cX7_members 46 = .ok (.ireturn, 1) := by decide +kernel
set_option maxRecDepth 20000 in
theorem ggX7_member_X7_members : GoodIn wsX7_member wsX7_members := goodIn_r _ [9, 10, 11, 12, 13, 14, 15, 8, 16, 17, 18, 19, 20, 21, 22, 23, 24, 25, 26, 27, 28, 29, 30, 31, 32, 33, 34, 35, 36, 37, 38, 39, 40, 41, 42, 43, 44, 45, 46, 47, 48, 49, 50, 51, 52, 53, 54, 55, 56, 57, 58, 59, 60, 61, 62, 63, 64, 65, 66, 67, 68, 69, 70, 1, 2, 3, 4, 71, 72, 73, 74, 75, 76, 77, 78, 79, 80, 81, 82, 83, 84, 85, 86, 87, 88, 89, 90, 91] (by decide +kernel) (by decide +kernel)
set_option maxRecDepth 20000 in
theorem gX7_member_X7_members : GoodIn wsX7_member (wsV RX7 141 RX7 yX7_members wsX7_members) := goodIn_app (goodIn_of _ (by decide +kernel)) ggX7_member_X7_members
theorem dX7_member_0 : decode cX7_member 0 = .ok (.aload_n 0, 1) := by decide +kernel
theorem dX7_member_1 : decode cX7_member 1 = .ok (.iload_n 1, 1) := by decide +kernel
theorem dX7_member_2 : decode cX7_member 2 = .ok (.invokevirtual 141, 3) := by decide +kernel
theorem dX7_member_5 : decode cX7_member 5 = .ok (.iload_n 2, 1) := by decide +kernel
theorem dX7_member_6 : decode cX7_member 6 = .ok (.if_icmp .le 16, 3) := by decide +kernel
theorem dX7_member_9 : decode cX7_member 9 = .ok (.iload_n 2, 1) := by decide +kernel
theorem dX7_member_10 : decode cX7_member 10 = .ok (.ifCond .lt 12, 3) := by decide +kernel
theorem dX7_member_13 : decode cX7_member 13 = .ok (.iload_n 3, 1) := by decide +kernel
theorem dX7_member_14 : decode cX7_member 14 = .ok (.ifCond .lt 8, 3) := by decide +kernel
theorem dX7_member_17 : decode cX7_member 17 = .ok (.iload_n 3, 1) := by decide +kernel
theorem dX7_member_18 : decode cX7_member 18 = .ok (.iconst 3, 1) := by decide +kernel
theorem dX7_member_19 : decode cX7_member 19 = .ok (.if_icmp .le 5, 3) := by decide +kernel
theorem dX7_member_22 : decode cX7_member 22 = .ok (.iconst (-1), 1) := by decide +kernel
theorem dX7_member_23 : decode cX7_member 23 = .ok (.ireturn, 1) := by decide +kernel
theorem dX7_member_24 : decode cX7_member 24 = .ok (.iload_n 3, 1) := by decide +kernel
theorem dX7_member_25 : decode cX7_member 25 = .ok (.ifCond .ne 12, 3) := by decide +kernel
theorem dX7_member_28 : decode cX7_member 28 = .ok (.aload_n 0, 1) := by decide +kernel
theorem dX7_member_29 : decode cX7_member 29 = .ok (.getfield 16, 3) := by decide +kernel
theorem dX7_member_32 : decode cX7_member 32 = .ok (.iload_n 2, 1) := by decide +kernel
theorem dX7_member_33 : decode cX7_member 33 = .ok (.iaload, 1) := by decide +kernel
theorem dX7_member_34 : decode cX7_member 34 = .ok (.goto 37, 3) := by decide +kernel
theorem dX7_member_37 : decode cX7_member 37 = .ok (.iload_n 3, 1) := by decide +kernel
theorem dX7_member_38 : decode cX7_member 38 = .ok (.iconst 1, 1) := by decide +kernel
theorem dX7_member_39 : decode cX7_member 39 = .ok (.if_icmp .ne 12, 3) := by decide +kernel
theorem dX7_member_42 : decode cX7_member 42 = .ok (.aload_n 0, 1) := by decide +kernel
theorem dX7_member_43 : decode cX7_member 43 = .ok (.getfield 20, 3) := by decide +kernel
theorem dX7_member_46 : decode cX7_member 46 = .ok (.iload_n 2, 1) := by decide +kernel
theorem dX7_member_47 : decode cX7_member 47 = .ok (.iaload, 1) := by decide +kernel
theorem dX7_member_48 : decode cX7_member 48 = .ok (.goto 23, 3) := by decide +kernel
theorem dX7_member_51 : decode cX7_member 51 = .ok (.iload_n 3, 1) := by decide +kernel
theorem dX7_member_52 : decode cX7_member 52 = .ok (.iconst 2, 1) := by decide +kernel
theorem dX7_member_53 : decode cX7_member 53 = .ok (.if_icmp .ne 12, 3) := by decide +kernel
theorem dX7_member_56 : decode cX7_member 56 = .ok (.aload_n 0, 1) := by decide +kernel
theorem dX7_member_57 : decode cX7_member 57 = .ok (.getfield 23, 3) := by decide +kernel
theorem dX7_member_60 : decode cX7_member 60 = .ok (.iload_n 2, 1) := by decide +kernel
theorem dX7_member_61 : decode cX7_member 61 = .ok (.iaload, 1) := by decide +kernel
theorem dX7_member_62 : decode cX7_member 62 = .ok (.goto 9, 3) := by decide +kernel
theorem dX7_member_65 : decode cX7_member 65 = .ok (.aload_n 0, 1) := by decide +kernel
theorem dX7_member_66 : decode cX7_member 66 = .ok (.getfield 26, 3) := by decide +kernel
theorem dX7_member_69 : decode cX7_member 69 = .ok (.iload_n 2, 1) := by decide +kernel
theorem dX7_member_70 : decode cX7_member 70 = .ok (.iaload, 1) := by decide +kernel
theorem dX7_member_71 : decode cX7_member 71 = .ok (.ireturn, 1) := by decide +kernel
theorem dJ9_max_7cf53_0 : decode cJ9_max_7cf53 0 = .ok (.iload_n 0, 1) := by decide +kernel
theorem dJ9_max_7cf53_1 : decode cJ9_max_7cf53 1 = .ok (.iload_n 1, 1) := by decide +kernel
theorem dJ9_max_7cf53_2 : decode cJ9_max_7cf53 2 = .ok (.if_icmp .lt 7, 3) := by decide +kernel
theorem dJ9_max_7cf53_5 : decode cJ9_max_7cf53 5 = .ok (.iload_n 0, 1) := by decide +kernel
theorem dJ9_max_7cf53_6 : decode cJ9_max_7cf53 6 = .ok (.goto 4, 3) := by decide +kernel
theorem dJ9_max_7cf53_9 : decode cJ9_max_7cf53 9 = .ok (.iload_n 1, 1) := by decide +kernel
theorem dJ9_max_7cf53_10 : decode cJ9_max_7cf53 10 = .ok (.ireturn, 1) := by decide +kernel
theorem dJ9_min_7cf53_0 : decode cJ9_min_7cf53 0 = .ok (.iload_n 0, 1) := by decide +kernel
theorem dJ9_min_7cf53_1 : decode cJ9_min_7cf53 1 = .ok (.iload_n 1, 1) := by decide +kernel
theorem dJ9_min_7cf53_2 : decode cJ9_min_7cf53 2 = .ok (.if_icmp .gt 7, 3) := by decide +kernel
theorem dJ9_min_7cf53_5 : decode cJ9_min_7cf53 5 = .ok (.iload_n 0, 1) := by decide +kernel
theorem dJ9_min_7cf53_6 : decode cJ9_min_7cf53 6 = .ok (.goto 4, 3) := by decide +kernel
theorem dJ9_min_7cf53_9 : decode cJ9_min_7cf53 9 = .ok (.iload_n 1, 1) := by decide +kernel
theorem dJ9_min_7cf53_10 : decode cJ9_min_7cf53 10 = .ok (.ireturn, 1) := by decide +kernel
theorem dJxa1e45_init_da8c8_0 : decode cJxa1e45_init_da8c8 0 = .ok (.aload_n 0, 1) := by decide +kernel
theorem dJxa1e45_init_da8c8_1 : decode cJxa1e45_init_da8c8 1 = .ok (.invokespecial 1, 3) := by decide +kernel
theorem dJxa1e45_init_da8c8_4 : decode cJxa1e45_init_da8c8 4 = .ok (.return_, 1) := by decide +kernel
set_option maxRecDepth 20000 in
theorem ggJxc12de_init_da8c8_Jxa1e45_init_da8c8 : GoodIn wsJxc12de_init_da8c8 wsJxa1e45_init_da8c8 := goodIn_r _ [5, 6, 7, 8] (by decide +kernel) (by decide +kernel)
set_option maxRecDepth 20000 in
theorem gJxc12de_init_da8c8_Jxa1e45_init_da8c8 : GoodIn wsJxc12de_init_da8c8 (wsJxa1e45_init_da8c8) := ggJxc12de_init_da8c8_Jxa1e45_init_da8c8
theorem dJxc12de_init_da8c8_0 : decode cJxc12de_init_da8c8 0 = .ok (.aload_n 0, 1) := by decide +kernel
theorem dJxc12de_init_da8c8_1 : decode cJxc12de_init_da8c8 1 = .ok (.invokespecial 1, 3) := by decide +kernel
theorem dJxc12de_init_da8c8_4 : decode cJxc12de_init_da8c8 4 = .ok (.aload_n 0, 1) := by decide +kernel
theorem dJxc12de_init_da8c8_5 : decode cJxc12de_init_da8c8 5 = .ok (.iconst 0, 1) := by decide +kernel
theorem dJxc12de_init_da8c8_6 : decode cJxc12de_init_da8c8 6 = .ok (.putfield 7, 3) := by decide +kernel
theorem dJxc12de_init_da8c8_9 : decode cJxc12de_init_da8c8 9 = .ok (.return_, 1) := by decide +kernel
set_option maxRecDepth 20000 in
theorem ggJx4a65c_init_da8c8_Jxc12de_init_da8c8 : GoodIn wsJx4a65c_init_da8c8 wsJxc12de_init_da8c8 := goodIn_r _ [6, 7, 8, 9, 10, 11, 12, 13, 14, 15, 16, 17] (by decide +kernel) (by decide +kernel)
set_option maxRecDepth 20000 in
theorem gJx4a65c_init_da8c8_Jxc12de_init_da8c8 : GoodIn wsJx4a65c_init_da8c8 (wsJxc12de_init_da8c8) := ggJx4a65c_init_da8c8_Jxc12de_init_da8c8
theorem dJx4a65c_init_da8c8_0 : decode cJx4a65c_init_da8c8 0 = .ok (.aload_n 0, 1) := by decide +kernel
theorem dJx4a65c_init_da8c8_1 : decode cJx4a65c_init_da8c8 1 = .ok (.invokespecial 1, 3) := by decide +kernel
theorem dJx4a65c_init_da8c8_4 : decode cJx4a65c_init_da8c8 4 = .ok (.aload_n 0, 1) := by decide +kernel
theorem dJx4a65c_init_da8c8_5 : decode cJx4a65c_init_da8c8 5 = .ok (.getstatic 39, 3) := by decide +kernel
theorem dJx4a65c_init_da8c8_8 : decode cJx4a65c_init_da8c8 8 = .ok (.putfield 9, 3) := by decide +kernel
theorem dJx4a65c_init_da8c8_11 : decode cJx4a65c_init_da8c8 11 = .ok (.return_, 1) := by decide +kernel
set_option maxRecDepth 20000 in
theorem ggJx4a65c_grow_92f84_J8_newLength_cabcc : GoodIn wsJx4a65c_grow_92f84 wsJ8_newLength_cabcc := goodIn_r _ [11, 12, 4, 5, 6, 13, 14, 15, 10, 16] (by decide +kernel) (by decide +kernel)
set_option maxRecDepth 20000 in
theorem gJx4a65c_grow_92f84_J8_newLength_cabcc : GoodIn wsJx4a65c_grow_92f84 (va_wsS RJx4a65c 73 yJ8_newLength_cabcc wsJ8_newLength_cabcc) := goodIn_app (goodIn_of _ (by decide +kernel)) ggJx4a65c_grow_92f84_J8_newLength_cabcc
set_option maxRecDepth 20000 in
theorem ggJx4a65c_grow_92f84_J7_copyOf_1904c : GoodIn wsJx4a65c_grow_92f84 wsJ7_copyOf_1904c := goodIn_r _ [20, 21, 22, 23, 24, 25, 26, 19, 27, 28, 29, 30, 31, 5, 32, 33, 34, 35, 36] (by decide +kernel) (by decide +kernel)
set_option maxRecDepth 20000 in
theorem gJx4a65c_grow_92f84_J7_copyOf_1904c : GoodIn wsJx4a65c_grow_92f84 (va_wsS RJx4a65c 66 yJ7_copyOf_1904c wsJ7_copyOf_1904c) := goodIn_app (goodIn_of _ (by decide +kernel)) ggJx4a65c_grow_92f84_J7_copyOf_1904c
theorem dJx4a65c_grow_92f84_0 : decode cJx4a65c_grow_92f84 0 = .ok (.aload_n 0, 1) := by decide +kernel
theorem dJx4a65c_grow_92f84_1 : decode cJx4a65c_grow_92f84 1 = .ok (.getfield 9, 3) := by decide +kernel
theorem dJx4a65c_grow_92f84_4 : decode cJx4a65c_grow_92f84 4 = .ok (.arraylength, 1) := by decide +kernel
theorem dJx4a65c_grow_92f84_5 : decode cJx4a65c_grow_92f84 5 = .ok (.istore_n 2, 1) := by decide +kernel
theorem dJx4a65c_grow_92f84_6 : decode cJx4a65c_grow_92f84 6 = .ok (.iload_n 2, 1) := by decide +kernel
theorem dJx4a65c_grow_92f84_7 : decode cJx4a65c_grow_92f84 7 = .ok (.ifCond .gt 13, 3) := by decide +kernel
theorem dJx4a65c_grow_92f84_10 : decode cJx4a65c_grow_92f84 10 = .ok (.aload_n 0, 1) := by decide +kernel
theorem dJx4a65c_grow_92f84_11 : decode cJx4a65c_grow_92f84 11 = .ok (.getfield 9, 3) := by decide +kernel
theorem dJx4a65c_grow_92f84_14 : decode cJx4a65c_grow_92f84 14 = .ok (.getstatic 39, 3) := by decide +kernel
theorem dJx4a65c_grow_92f84_17 : decode cJx4a65c_grow_92f84 17 = .ok (.if_acmp .eq 28, 3) := by decide +kernel
theorem dJx4a65c_grow_92f84_20 : decode cJx4a65c_grow_92f84 20 = .ok (.iload_n 2, 1) := by decide +kernel
theorem dJx4a65c_grow_92f84_21 : decode cJx4a65c_grow_92f84 21 = .ok (.iload_n 1, 1) := by decide +kernel
theorem dJx4a65c_grow_92f84_22 : decode cJx4a65c_grow_92f84 22 = .ok (.iload_n 2, 1) := by decide +kernel
theorem dJx4a65c_grow_92f84_23 : decode cJx4a65c_grow_92f84 23 = .ok (.isub, 1) := by decide +kernel
theorem dJx4a65c_grow_92f84_24 : decode cJx4a65c_grow_92f84 24 = .ok (.iload_n 2, 1) := by decide +kernel
theorem dJx4a65c_grow_92f84_25 : decode cJx4a65c_grow_92f84 25 = .ok (.iconst 1, 1) := by decide +kernel
theorem dJx4a65c_grow_92f84_26 : decode cJx4a65c_grow_92f84 26 = .ok (.ishr, 1) := by decide +kernel
theorem dJx4a65c_grow_92f84_27 : decode cJx4a65c_grow_92f84 27 = .ok (.invokestatic 73, 3) := by decide +kernel
theorem dJx4a65c_grow_92f84_30 : decode cJx4a65c_grow_92f84 30 = .ok (.istore_n 3, 1) := by decide +kernel
theorem dJx4a65c_grow_92f84_31 : decode cJx4a65c_grow_92f84 31 = .ok (.aload_n 0, 1) := by decide +kernel
theorem dJx4a65c_grow_92f84_32 : decode cJx4a65c_grow_92f84 32 = .ok (.aload_n 0, 1) := by decide +kernel
theorem dJx4a65c_grow_92f84_33 : decode cJx4a65c_grow_92f84 33 = .ok (.getfield 9, 3) := by decide +kernel
theorem dJx4a65c_grow_92f84_36 : decode cJx4a65c_grow_92f84 36 = .ok (.iload_n 3, 1) := by decide +kernel
theorem dJx4a65c_grow_92f84_37 : decode cJx4a65c_grow_92f84 37 = .ok (.invokestatic 66, 3) := by decide +kernel
theorem dJx4a65c_grow_92f84_40 : decode cJx4a65c_grow_92f84 40 = .ok (.dup_x1, 1) := by decide +kernel
theorem dJx4a65c_grow_92f84_41 : decode cJx4a65c_grow_92f84 41 = .ok (.putfield 9, 3) := by decide +kernel
theorem dJx4a65c_grow_92f84_44 : decode cJx4a65c_grow_92f84 44 = .ok (.areturn, 1) := by decide +kernel
theorem dJx4a65c_grow_92f84_45 : decode cJx4a65c_grow_92f84 45 = .ok (.aload_n 0, 1) := by decide +kernel
theorem dJx4a65c_grow_92f84_46 : decode cJx4a65c_grow_92f84 46 = .ok (.bipush 10, 2) := by decide +kernel
theorem dJx4a65c_grow_92f84_48 : decode cJx4a65c_grow_92f84 48 = .ok (.iload_n 1, 1) := by decide +kernel
theorem dJx4a65c_grow_92f84_49 : decode cJx4a65c_grow_92f84 49 = .ok (.invokestatic 79, 3) := by decide +kernel
theorem dJx4a65c_grow_92f84_52 : decode cJx4a65c_grow_92f84 52 = .ok (.anewarray 7, 3) := by decide +kernel
theorem dJx4a65c_grow_92f84_55 : decode cJx4a65c_grow_92f84 55 = .ok (.dup_x1, 1) := by decide +kernel
theorem dJx4a65c_grow_92f84_56 : decode cJx4a65c_grow_92f84 56 = .ok (.putfield 9, 3) := by decide +kernel
theorem dJx4a65c_grow_92f84_59 : decode cJx4a65c_grow_92f84 59 = .ok (.areturn, 1) := by decide +kernel
set_option maxRecDepth 20000 in
theorem ggJx4a65c_grow_d5877_Jx4a65c_grow_92f84 : GoodIn wsJx4a65c_grow_d5877 wsJx4a65c_grow_92f84 := goodIn_r _ [6, 7, 8, 9, 10, 11, 12, 13, 14, 15, 16, 17, 18, 19, 20, 21, 22, 23, 24, 25, 26, 27, 28, 29, 30, 31, 32, 33, 34, 35, 36, 37, 38, 39, 40, 41, 42, 43, 44, 45] (by decide +kernel) (by decide +kernel)
set_option maxRecDepth 20000 in
theorem gJx4a65c_grow_d5877_Jx4a65c_grow_92f84 : GoodIn wsJx4a65c_grow_d5877 (wsV RJx4a65c 69 RJx4a65c yJx4a65c_grow_92f84 wsJx4a65c_grow_92f84) := goodIn_app (goodIn_of _ (by decide +kernel)) ggJx4a65c_grow_d5877_Jx4a65c_grow_92f84
theorem dJx4a65c_grow_d5877_0 : decode cJx4a65c_grow_d5877 0 = .ok (.aload_n 0, 1) := by decide +kernel
theorem dJx4a65c_grow_d5877_1 : decode cJx4a65c_grow_d5877 1 = .ok (.aload_n 0, 1) := by decide +kernel
theorem dJx4a65c_grow_d5877_2 : decode cJx4a65c_grow_d5877 2 = .ok (.getfield 48, 3) := by decide +kernel
theorem dJx4a65c_grow_d5877_5 : decode cJx4a65c_grow_d5877 5 = .ok (.iconst 1, 1) := by decide +kernel
theorem dJx4a65c_grow_d5877_6 : decode cJx4a65c_grow_d5877 6 = .ok (.iadd, 1) := by decide +kernel
theorem dJx4a65c_grow_d5877_7 : decode cJx4a65c_grow_d5877 7 = .ok (.invokevirtual 69, 3) := by decide +kernel
theorem dJx4a65c_grow_d5877_10 : decode cJx4a65c_grow_d5877 10 = .ok (.areturn, 1) := by decide +kernel
theorem dJx4a65c_size_8abf5_0 : decode cJx4a65c_size_8abf5 0 = .ok (.aload_n 0, 1) := by decide +kernel
theorem dJx4a65c_size_8abf5_1 : decode cJx4a65c_size_8abf5 1 = .ok (.getfield 48, 3) := by decide +kernel
theorem dJx4a65c_size_8abf5_4 : decode cJx4a65c_size_8abf5 4 = .ok (.ireturn, 1) := by decide +kernel
theorem dJx4a65c_isEmpty_aae02_0 : decode cJx4a65c_isEmpty_aae02 0 = .ok (.aload_n 0, 1) := by decide +kernel
theorem dJx4a65c_isEmpty_aae02_1 : decode cJx4a65c_isEmpty_aae02 1 = .ok (.getfield 48, 3) := by decide +kernel
theorem dJx4a65c_isEmpty_aae02_4 : decode cJx4a65c_isEmpty_aae02 4 = .ok (.ifCond .ne 7, 3) := by decide +kernel
theorem dJx4a65c_isEmpty_aae02_7 : decode cJx4a65c_isEmpty_aae02 7 = .ok (.iconst 1, 1) := by decide +kernel
theorem dJx4a65c_isEmpty_aae02_8 : decode cJx4a65c_isEmpty_aae02 8 = .ok (.goto 4, 3) := by decide +kernel
theorem dJx4a65c_isEmpty_aae02_11 : decode cJx4a65c_isEmpty_aae02 11 = .ok (.iconst 0, 1) := by decide +kernel
theorem dJx4a65c_isEmpty_aae02_12 : decode cJx4a65c_isEmpty_aae02 12 = .ok (.ireturn, 1) := by decide +kernel
theorem dJx4a65c_elementData_915e3_0 : decode cJx4a65c_elementData_915e3 0 = .ok (.aload_n 0, 1) := by decide +kernel
theorem dJx4a65c_elementData_915e3_1 : decode cJx4a65c_elementData_915e3 1 = .ok (.getfield 9, 3) := by decide +kernel
theorem dJx4a65c_elementData_915e3_4 : decode cJx4a65c_elementData_915e3 4 = .ok (.iload_n 1, 1) := by decide +kernel
theorem dJx4a65c_elementData_915e3_5 : decode cJx4a65c_elementData_915e3 5 = .ok (.aaload, 1) := by decide +kernel
theorem dJx4a65c_elementData_915e3_6 : decode cJx4a65c_elementData_915e3 6 = .ok (.areturn, 1) := by decide +kernel
set_option maxRecDepth 20000 in
theorem ggJx4a65c_get_915e3_J15_checkIndex_7cf53 : GoodIn wsJx4a65c_get_915e3 wsJ15_checkIndex_7cf53 := goodIn_r _ [5, 6, 7, 8, 9] (by decide +kernel) (by decide +kernel)
set_option maxRecDepth 20000 in
theorem gJx4a65c_get_915e3_J15_checkIndex_7cf53 : GoodIn wsJx4a65c_get_915e3 (va_wsS RJx4a65c 118 yJ15_checkIndex_7cf53 wsJ15_checkIndex_7cf53) := goodIn_app (goodIn_of _ (by decide +kernel)) ggJx4a65c_get_915e3_J15_checkIndex_7cf53
set_option maxRecDepth 20000 in
theorem ggJx4a65c_get_915e3_Jx4a65c_elementData_915e3 : GoodIn wsJx4a65c_get_915e3 wsJx4a65c_elementData_915e3 := goodIn_r _ [14, 15, 16, 17, 18] (by decide +kernel) (by decide +kernel)
set_option maxRecDepth 20000 in
theorem gJx4a65c_get_915e3_Jx4a65c_elementData_915e3 : GoodIn wsJx4a65c_get_915e3 (wsV RJx4a65c 123 RJx4a65c yJx4a65c_elementData_915e3 wsJx4a65c_elementData_915e3) := goodIn_app (goodIn_of _ (by decide +kernel)) ggJx4a65c_get_915e3_Jx4a65c_elementData_915e3
theorem dJx4a65c_get_915e3_0 : decode cJx4a65c_get_915e3 0 = .ok (.iload_n 1, 1) := by decide +kernel
theorem dJx4a65c_get_915e3_1 : decode cJx4a65c_get_915e3 1 = .ok (.aload_n 0, 1) := by decide +kernel
theorem dJx4a65c_get_915e3_2 : decode cJx4a65c_get_915e3 2 = .ok (.getfield 48, 3) := by decide +kernel
theorem dJx4a65c_get_915e3_5 : decode cJx4a65c_get_915e3 5 = .ok (.invokestatic 118, 3) := by decide +kernel
theorem dJx4a65c_get_915e3_8 : decode cJx4a65c_get_915e3 8 = .ok (.pop, 1) := by decide +kernel
theorem dJx4a65c_get_915e3_9 : decode cJx4a65c_get_915e3 9 = .ok (.aload_n 0, 1) := by decide +kernel
theorem dJx4a65c_get_915e3_10 : decode cJx4a65c_get_915e3 10 = .ok (.iload_n 1, 1) := by decide +kernel
theorem dJx4a65c_get_915e3_11 : decode cJx4a65c_get_915e3 11 = .ok (.invokevirtual 123, 3) := by decide +kernel
theorem dJx4a65c_get_915e3_14 : decode cJx4a65c_get_915e3 14 = .ok (.areturn, 1) := by decide +kernel
set_option maxRecDepth 20000 in
theorem ggJx4a65c_add_72be8_Jx4a65c_grow_d5877 : GoodIn wsJx4a65c_add_72be8 wsJx4a65c_grow_d5877 := goodIn_r _ [6, 1, 7, 8, 9, 5, 10, 11, 12, 13, 14, 15, 16, 17, 18, 19, 20, 21, 22, 23, 24, 25, 26, 27, 28, 29, 30, 31, 32, 33, 34, 35, 36, 37, 38, 39, 40, 41, 42, 43, 44, 45, 46, 47, 48, 49] (by decide +kernel) (by decide +kernel)
set_option maxRecDepth 20000 in
theorem gJx4a65c_add_72be8_Jx4a65c_grow_d5877 : GoodIn wsJx4a65c_add_72be8 (wsV RJx4a65c 129 RJx4a65c yJx4a65c_grow_d5877 wsJx4a65c_grow_d5877) := goodIn_app (goodIn_of _ (by decide +kernel)) ggJx4a65c_add_72be8_Jx4a65c_grow_d5877
theorem dJx4a65c_add_72be8_0 : decode cJx4a65c_add_72be8 0 = .ok (.iload_n 3, 1) := by decide +kernel
theorem dJx4a65c_add_72be8_1 : decode cJx4a65c_add_72be8 1 = .ok (.aload_n 2, 1) := by decide +kernel
theorem dJx4a65c_add_72be8_2 : decode cJx4a65c_add_72be8 2 = .ok (.arraylength, 1) := by decide +kernel
theorem dJx4a65c_add_72be8_3 : decode cJx4a65c_add_72be8 3 = .ok (.if_icmp .ne 8, 3) := by decide +kernel
theorem dJx4a65c_add_72be8_6 : decode cJx4a65c_add_72be8 6 = .ok (.aload_n 0, 1) := by decide +kernel
theorem dJx4a65c_add_72be8_7 : decode cJx4a65c_add_72be8 7 = .ok (.invokevirtual 129, 3) := by decide +kernel
theorem dJx4a65c_add_72be8_10 : decode cJx4a65c_add_72be8 10 = .ok (.astore_n 2, 1) := by decide +kernel
theorem dJx4a65c_add_72be8_11 : decode cJx4a65c_add_72be8 11 = .ok (.aload_n 2, 1) := by decide +kernel
theorem dJx4a65c_add_72be8_12 : decode cJx4a65c_add_72be8 12 = .ok (.iload_n 3, 1) := by decide +kernel
theorem dJx4a65c_add_72be8_13 : decode cJx4a65c_add_72be8 13 = .ok (.aload_n 1, 1) := by decide +kernel
theorem dJx4a65c_add_72be8_14 : decode cJx4a65c_add_72be8 14 = .ok (.aastore, 1) := by decide +kernel
theorem dJx4a65c_add_72be8_15 : decode cJx4a65c_add_72be8 15 = .ok (.aload_n 0, 1) := by decide +kernel
theorem dJx4a65c_add_72be8_16 : decode cJx4a65c_add_72be8 16 = .ok (.iload_n 3, 1) := by decide +kernel
theorem dJx4a65c_add_72be8_17 : decode cJx4a65c_add_72be8 17 = .ok (.iconst 1, 1) := by decide +kernel
theorem dJx4a65c_add_72be8_18 : decode cJx4a65c_add_72be8 18 = .ok (.iadd, 1) := by decide +kernel
theorem dJx4a65c_add_72be8_19 : decode cJx4a65c_add_72be8 19 = .ok (.putfield 48, 3) := by decide +kernel
theorem dJx4a65c_add_72be8_22 : decode cJx4a65c_add_72be8 22 = .ok (.return_, 1) := by decide +kernel
set_option maxRecDepth 20000 in
theorem ggJx4a65c_add_9ea2d_Jx4a65c_add_72be8 : GoodIn wsJx4a65c_add_9ea2d wsJx4a65c_add_72be8 := goodIn_r _ [9, 4, 10, 11, 12, 8, 13, 14, 15, 16, 17, 3, 18, 19, 20, 21, 22, 23, 24, 25, 26, 27, 28, 29, 30, 31, 32, 33, 34, 35, 36, 37, 38, 39, 40, 41, 42, 43, 44, 45, 46, 47, 48, 49, 50, 51, 52, 53, 54, 55] (by decide +kernel) (by decide +kernel)
set_option maxRecDepth 20000 in
theorem gJx4a65c_add_9ea2d_Jx4a65c_add_72be8 : GoodIn wsJx4a65c_add_9ea2d (wsV RJx4a65c 131 RJx4a65c yJx4a65c_add_72be8 wsJx4a65c_add_72be8) := goodIn_app (goodIn_of _ (by decide +kernel)) ggJx4a65c_add_9ea2d_Jx4a65c_add_72be8
theorem dJx4a65c_add_9ea2d_0 : decode cJx4a65c_add_9ea2d 0 = .ok (.aload_n 0, 1) := by decide +kernel
theorem dJx4a65c_add_9ea2d_1 : decode cJx4a65c_add_9ea2d 1 = .ok (.dup, 1) := by decide +kernel
theorem dJx4a65c_add_9ea2d_2 : decode cJx4a65c_add_9ea2d 2 = .ok (.getfield 63, 3) := by decide +kernel
theorem dJx4a65c_add_9ea2d_5 : decode cJx4a65c_add_9ea2d 5 = .ok (.iconst 1, 1) := by decide +kernel
theorem dJx4a65c_add_9ea2d_6 : decode cJx4a65c_add_9ea2d 6 = .ok (.iadd, 1) := by decide +kernel
theorem dJx4a65c_add_9ea2d_7 : decode cJx4a65c_add_9ea2d 7 = .ok (.putfield 63, 3) := by decide +kernel
theorem dJx4a65c_add_9ea2d_10 : decode cJx4a65c_add_9ea2d 10 = .ok (.aload_n 0, 1) := by decide +kernel
theorem dJx4a65c_add_9ea2d_11 : decode cJx4a65c_add_9ea2d 11 = .ok (.aload_n 1, 1) := by decide +kernel
theorem dJx4a65c_add_9ea2d_12 : decode cJx4a65c_add_9ea2d 12 = .ok (.aload_n 0, 1) := by decide +kernel
theorem dJx4a65c_add_9ea2d_13 : decode cJx4a65c_add_9ea2d 13 = .ok (.getfield 9, 3) := by decide +kernel
theorem dJx4a65c_add_9ea2d_16 : decode cJx4a65c_add_9ea2d 16 = .ok (.aload_n 0, 1) := by decide +kernel
theorem dJx4a65c_add_9ea2d_17 : decode cJx4a65c_add_9ea2d 17 = .ok (.getfield 48, 3) := by decide +kernel
theorem dJx4a65c_add_9ea2d_20 : decode cJx4a65c_add_9ea2d 20 = .ok (.invokevirtual 131, 3) := by decide +kernel
theorem dJx4a65c_add_9ea2d_23 : decode cJx4a65c_add_9ea2d 23 = .ok (.iconst 1, 1) := by decide +kernel
theorem dJx4a65c_add_9ea2d_24 : decode cJx4a65c_add_9ea2d 24 = .ok (.ireturn, 1) := by decide +kernel
set_option maxRecDepth 20000 in
theorem ggJx4a65c_remove_915e3_J15_checkIndex_7cf53 : GoodIn wsJx4a65c_remove_915e3 wsJ15_checkIndex_7cf53 := goodIn_r _ [6, 7, 8, 9, 10] (by decide +kernel) (by decide +kernel)
set_option maxRecDepth 20000 in
theorem gJx4a65c_remove_915e3_J15_checkIndex_7cf53 : GoodIn wsJx4a65c_remove_915e3 (va_wsS RJx4a65c 118 yJ15_checkIndex_7cf53 wsJ15_checkIndex_7cf53) := goodIn_app (goodIn_of _ (by decide +kernel)) ggJx4a65c_remove_915e3_J15_checkIndex_7cf53
set_option maxRecDepth 20000 in
theorem ggJx4a65c_remove_915e3_Jx4a65c_fastRemove_b59b0 : GoodIn wsJx4a65c_remove_915e3 wsJx4a65c_fastRemove_b59b0 := goodIn_r _ [15, 16, 17, 1, 18, 19, 20, 21, 22, 23, 24] (by decide +kernel) (by decide +kernel)
set_option maxRecDepth 20000 in
theorem gJx4a65c_remove_915e3_Jx4a65c_fastRemove_b59b0 : GoodIn wsJx4a65c_remove_915e3 (wsV RJx4a65c 144 RJx4a65c yJx4a65c_fastRemove_b59b0 wsJx4a65c_fastRemove_b59b0) := goodIn_app (goodIn_of _ (by decide +kernel)) ggJx4a65c_remove_915e3_Jx4a65c_fastRemove_b59b0
theorem dJx4a65c_remove_915e3_0 : decode cJx4a65c_remove_915e3 0 = .ok (.iload_n 1, 1) := by decide +kernel
theorem dJx4a65c_remove_915e3_1 : decode cJx4a65c_remove_915e3 1 = .ok (.aload_n 0, 1) := by decide +kernel
theorem dJx4a65c_remove_915e3_2 : decode cJx4a65c_remove_915e3 2 = .ok (.getfield 48, 3) := by decide +kernel
theorem dJx4a65c_remove_915e3_5 : decode cJx4a65c_remove_915e3 5 = .ok (.invokestatic 118, 3) := by decide +kernel
theorem dJx4a65c_remove_915e3_8 : decode cJx4a65c_remove_915e3 8 = .ok (.pop, 1) := by decide +kernel
theorem dJx4a65c_remove_915e3_9 : decode cJx4a65c_remove_915e3 9 = .ok (.aload_n 0, 1) := by decide +kernel
theorem dJx4a65c_remove_915e3_10 : decode cJx4a65c_remove_915e3 10 = .ok (.getfield 9, 3) := by decide +kernel
theorem dJx4a65c_remove_915e3_13 : decode cJx4a65c_remove_915e3 13 = .ok (.astore_n 2, 1) := by decide +kernel
theorem dJx4a65c_remove_915e3_14 : decode cJx4a65c_remove_915e3 14 = .ok (.aload_n 2, 1) := by decide +kernel
theorem dJx4a65c_remove_915e3_15 : decode cJx4a65c_remove_915e3 15 = .ok (.iload_n 1, 1) := by decide +kernel
theorem dJx4a65c_remove_915e3_16 : decode cJx4a65c_remove_915e3 16 = .ok (.aaload, 1) := by decide +kernel
theorem dJx4a65c_remove_915e3_17 : decode cJx4a65c_remove_915e3 17 = .ok (.astore_n 3, 1) := by decide +kernel
theorem dJx4a65c_remove_915e3_18 : decode cJx4a65c_remove_915e3 18 = .ok (.aload_n 0, 1) := by decide +kernel
theorem dJx4a65c_remove_915e3_19 : decode cJx4a65c_remove_915e3 19 = .ok (.aload_n 2, 1) := by decide +kernel
theorem dJx4a65c_remove_915e3_20 : decode cJx4a65c_remove_915e3 20 = .ok (.iload_n 1, 1) := by decide +kernel
theorem dJx4a65c_remove_915e3_21 : decode cJx4a65c_remove_915e3 21 = .ok (.invokevirtual 144, 3) := by decide +kernel
theorem dJx4a65c_remove_915e3_24 : decode cJx4a65c_remove_915e3 24 = .ok (.aload_n 3, 1) := by decide +kernel
theorem dJx4a65c_remove_915e3_25 : decode cJx4a65c_remove_915e3 25 = .ok (.areturn, 1) := by decide +kernel
theorem dJx4a65c_fastRemove_b59b0_0 : decode cJx4a65c_fastRemove_b59b0 0 = .ok (.aload_n 0, 1) := by decide +kernel
theorem dJx4a65c_fastRemove_b59b0_1 : decode cJx4a65c_fastRemove_b59b0 1 = .ok (.dup, 1) := by decide +kernel
theorem dJx4a65c_fastRemove_b59b0_2 : decode cJx4a65c_fastRemove_b59b0 2 = .ok (.getfield 63, 3) := by decide +kernel
theorem dJx4a65c_fastRemove_b59b0_5 : decode cJx4a65c_fastRemove_b59b0 5 = .ok (.iconst 1, 1) := by decide +kernel
theorem dJx4a65c_fastRemove_b59b0_6 : decode cJx4a65c_fastRemove_b59b0 6 = .ok (.iadd, 1) := by decide +kernel
theorem dJx4a65c_fastRemove_b59b0_7 : decode cJx4a65c_fastRemove_b59b0 7 = .ok (.putfield 63, 3) := by decide +kernel
theorem dJx4a65c_fastRemove_b59b0_10 : decode cJx4a65c_fastRemove_b59b0 10 = .ok (.aload_n 0, 1) := by decide +kernel
theorem dJx4a65c_fastRemove_b59b0_11 : decode cJx4a65c_fastRemove_b59b0 11 = .ok (.getfield 48, 3) := by decide +kernel
theorem dJx4a65c_fastRemove_b59b0_14 : decode cJx4a65c_fastRemove_b59b0 14 = .ok (.iconst 1, 1) := by decide +kernel
theorem dJx4a65c_fastRemove_b59b0_15 : decode cJx4a65c_fastRemove_b59b0 15 = .ok (.isub, 1) := by decide +kernel
theorem dJx4a65c_fastRemove_b59b0_16 : decode cJx4a65c_fastRemove_b59b0 16 = .ok (.dup, 1) := by decide +kernel
theorem dJx4a65c_fastRemove_b59b0_17 : decode cJx4a65c_fastRemove_b59b0 17 = .ok (.istore_n 3, 1) := by decide +kernel
theorem dJx4a65c_fastRemove_b59b0_18 : decode cJx4a65c_fastRemove_b59b0 18 = .ok (.iload_n 2, 1) := by decide +kernel
theorem dJx4a65c_fastRemove_b59b0_19 : decode cJx4a65c_fastRemove_b59b0 19 = .ok (.if_icmp .le 15, 3) := by decide +kernel
theorem dJx4a65c_fastRemove_b59b0_22 : decode cJx4a65c_fastRemove_b59b0 22 = .ok (.aload_n 1, 1) := by decide +kernel
theorem dJx4a65c_fastRemove_b59b0_23 : decode cJx4a65c_fastRemove_b59b0 23 = .ok (.iload_n 2, 1) := by decide +kernel
theorem dJx4a65c_fastRemove_b59b0_24 : decode cJx4a65c_fastRemove_b59b0 24 = .ok (.iconst 1, 1) := by decide +kernel
theorem dJx4a65c_fastRemove_b59b0_25 : decode cJx4a65c_fastRemove_b59b0 25 = .ok (.iadd, 1) := by decide +kernel
theorem dJx4a65c_fastRemove_b59b0_26 : decode cJx4a65c_fastRemove_b59b0 26 = .ok (.aload_n 1, 1) := by decide +kernel
theorem dJx4a65c_fastRemove_b59b0_27 : decode cJx4a65c_fastRemove_b59b0 27 = .ok (.iload_n 2, 1) := by decide +kernel
theorem dJx4a65c_fastRemove_b59b0_28 : decode cJx4a65c_fastRemove_b59b0 28 = .ok (.iload_n 3, 1) := by decide +kernel
theorem dJx4a65c_fastRemove_b59b0_29 : decode cJx4a65c_fastRemove_b59b0 29 = .ok (.iload_n 2, 1) := by decide +kernel
theorem dJx4a65c_fastRemove_b59b0_30 : decode cJx4a65c_fastRemove_b59b0 30 = .ok (.isub, 1) := by decide +kernel
theorem dJx4a65c_fastRemove_b59b0_31 : decode cJx4a65c_fastRemove_b59b0 31 = .ok (.invokestatic 112, 3) := by decide +kernel
theorem dJx4a65c_fastRemove_b59b0_34 : decode cJx4a65c_fastRemove_b59b0 34 = .ok (.aload_n 1, 1) := by decide +kernel
theorem dJx4a65c_fastRemove_b59b0_35 : decode cJx4a65c_fastRemove_b59b0 35 = .ok (.aload_n 0, 1) := by decide +kernel
theorem dJx4a65c_fastRemove_b59b0_36 : decode cJx4a65c_fastRemove_b59b0 36 = .ok (.iload_n 3, 1) := by decide +kernel
theorem dJx4a65c_fastRemove_b59b0_37 : decode cJx4a65c_fastRemove_b59b0 37 = .ok (.dup_x1, 1) := by decide +kernel
theorem dJx4a65c_fastRemove_b59b0_38 : decode cJx4a65c_fastRemove_b59b0 38 = .ok (.putfield 48, 3) := by decide +kernel
theorem dJx4a65c_fastRemove_b59b0_41 : decode cJx4a65c_fastRemove_b59b0 41 = .ok (.aconst_null, 1) := by decide +kernel
theorem dJx4a65c_fastRemove_b59b0_42 : decode cJx4a65c_fastRemove_b59b0 42 = .ok (.aastore, 1) := by decide +kernel
theorem dJx4a65c_fastRemove_b59b0_43 : decode cJx4a65c_fastRemove_b59b0 43 = .ok (.return_, 1) := by decide +kernel
set_option maxRecDepth 20000 in
theorem ggJ7_copyOf_1904c_J7_copyOf_6403c : GoodIn wsJ7_copyOf_1904c wsJ7_copyOf_6403c := goodIn_r _ [8, 9, 10, 11, 12, 13, 14, 15, 16, 17, 18] (by decide +kernel) (by decide +kernel)
set_option maxRecDepth 20000 in
theorem gJ7_copyOf_1904c_J7_copyOf_6403c : GoodIn wsJ7_copyOf_1904c (va_wsS RJ7 300 yJ7_copyOf_6403c wsJ7_copyOf_6403c) := goodIn_app (goodIn_of _ (by decide +kernel)) ggJ7_copyOf_1904c_J7_copyOf_6403c
theorem dJ7_copyOf_1904c_0 : decode cJ7_copyOf_1904c 0 = .ok (.aload_n 0, 1) := by decide +kernel
theorem dJ7_copyOf_1904c_1 : decode cJ7_copyOf_1904c 1 = .ok (.iload_n 1, 1) := by decide +kernel
theorem dJ7_copyOf_1904c_2 : decode cJ7_copyOf_1904c 2 = .ok (.aload_n 0, 1) := by decide +kernel
theorem dJ7_copyOf_1904c_3 : decode cJ7_copyOf_1904c 3 = .ok (.invokevirtual 86, 3) := by decide +kernel
theorem dJ7_copyOf_1904c_6 : decode cJ7_copyOf_1904c 6 = .ok (.invokestatic 300, 3) := by decide +kernel
theorem dJ7_copyOf_1904c_9 : decode cJ7_copyOf_1904c 9 = .ok (.areturn, 1) := by decide +kernel
theorem dJ7_copyOf_6403c_0 : decode cJ7_copyOf_6403c 0 = .ok (.aload_n 2, 1) := by decide +kernel
theorem dJ7_copyOf_6403c_1 : decode cJ7_copyOf_6403c 1 = .ok (.ldc 110, 2) := by decide +kernel
theorem dJ7_copyOf_6403c_3 : decode cJ7_copyOf_6403c 3 = .ok (.if_acmp .ne 10, 3) := by decide +kernel
theorem dJ7_copyOf_6403c_6 : decode cJ7_copyOf_6403c 6 = .ok (.iload_n 1, 1) := by decide +kernel
theorem dJ7_copyOf_6403c_7 : decode cJ7_copyOf_6403c 7 = .ok (.anewarray 2, 3) := by decide +kernel
theorem dJ7_copyOf_6403c_10 : decode cJ7_copyOf_6403c 10 = .ok (.goto 14, 3) := by decide +kernel
theorem dJ7_copyOf_6403c_13 : decode cJ7_copyOf_6403c 13 = .ok (.aload_n 2, 1) := by decide +kernel
theorem dJ7_copyOf_6403c_14 : decode cJ7_copyOf_6403c 14 = .ok (.invokevirtual 90, 3) := by decide +kernel
theorem dJ7_copyOf_6403c_17 : decode cJ7_copyOf_6403c 17 = .ok (.iload_n 1, 1) := by decide +kernel
theorem dJ7_copyOf_6403c_18 : decode cJ7_copyOf_6403c 18 = .ok (.invokestatic 95, 3) := by decide +kernel
theorem dJ7_copyOf_6403c_21 : decode cJ7_copyOf_6403c 21 = .ok (.checkcast 110, 3) := by decide +kernel
theorem dJ7_copyOf_6403c_24 : decode cJ7_copyOf_6403c 24 = .ok (.astore_n 3, 1) := by decide +kernel
theorem dJ7_copyOf_6403c_25 : decode cJ7_copyOf_6403c 25 = .ok (.aload_n 0, 1) := by decide +kernel
theorem dJ7_copyOf_6403c_26 : decode cJ7_copyOf_6403c 26 = .ok (.iconst 0, 1) := by decide +kernel
theorem dJ7_copyOf_6403c_27 : decode cJ7_copyOf_6403c 27 = .ok (.aload_n 3, 1) := by decide +kernel
theorem dJ7_copyOf_6403c_28 : decode cJ7_copyOf_6403c 28 = .ok (.iconst 0, 1) := by decide +kernel
theorem dJ7_copyOf_6403c_29 : decode cJ7_copyOf_6403c 29 = .ok (.aload_n 0, 1) := by decide +kernel
theorem dJ7_copyOf_6403c_30 : decode cJ7_copyOf_6403c 30 = .ok (.arraylength, 1) := by decide +kernel
theorem dJ7_copyOf_6403c_31 : decode cJ7_copyOf_6403c 31 = .ok (.iload_n 1, 1) := by decide +kernel
theorem dJ7_copyOf_6403c_32 : decode cJ7_copyOf_6403c 32 = .ok (.invokestatic 304, 3) := by decide +kernel
theorem dJ7_copyOf_6403c_35 : decode cJ7_copyOf_6403c 35 = .ok (.invokestatic 150, 3) := by decide +kernel
theorem dJ7_copyOf_6403c_38 : decode cJ7_copyOf_6403c 38 = .ok (.aload_n 3, 1) := by decide +kernel
theorem dJ7_copyOf_6403c_39 : decode cJ7_copyOf_6403c 39 = .ok (.areturn, 1) := by decide +kernel
set_option maxRecDepth 20000 in
theorem ggJ15_checkIndex_7cf53_J3_checkIndex_8e157 : GoodIn wsJ15_checkIndex_7cf53 wsJ3_checkIndex_8e157 := goodIn_r _ [4] (by decide +kernel) (by decide +kernel)
set_option maxRecDepth 20000 in
theorem gJ15_checkIndex_7cf53_J3_checkIndex_8e157 : GoodIn wsJ15_checkIndex_7cf53 (va_wsS RJ15 105 yJ3_checkIndex_8e157 wsJ3_checkIndex_8e157) := goodIn_app (goodIn_of _ (by decide +kernel)) ggJ15_checkIndex_7cf53_J3_checkIndex_8e157
theorem dJ15_checkIndex_7cf53_0 : decode cJ15_checkIndex_7cf53 0 = .ok (.iload_n 0, 1) := by decide +kernel
theorem dJ15_checkIndex_7cf53_1 : decode cJ15_checkIndex_7cf53 1 = .ok (.iload_n 1, 1) := by decide +kernel
theorem dJ15_checkIndex_7cf53_2 : decode cJ15_checkIndex_7cf53 2 = .ok (.aconst_null, 1) := by decide +kernel
theorem dJ15_checkIndex_7cf53_3 : decode cJ15_checkIndex_7cf53 3 = .ok (.invokestatic 105, 3) := by decide +kernel
theorem dJ15_checkIndex_7cf53_6 : decode cJ15_checkIndex_7cf53 6 = .ok (.ireturn, 1) := by decide +kernel
set_option maxRecDepth 20000 in
theorem ggJ8_newLength_cabcc_J8_hugeLength_7cf53 : GoodIn wsJ8_newLength_cabcc wsJ8_hugeLength_7cf53 := goodIn_r _ [9, 5] (by decide +kernel) (by decide +kernel)
set_option maxRecDepth 20000 in
theorem gJ8_newLength_cabcc_J8_hugeLength_7cf53 : GoodIn wsJ8_newLength_cabcc (va_wsS RJ8 201 yJ8_hugeLength_7cf53 wsJ8_hugeLength_7cf53) := goodIn_app (goodIn_of _ (by decide +kernel)) ggJ8_newLength_cabcc_J8_hugeLength_7cf53
theorem dJ8_newLength_cabcc_0 : decode cJ8_newLength_cabcc 0 = .ok (.iload_n 0, 1) := by decide +kernel
theorem dJ8_newLength_cabcc_1 : decode cJ8_newLength_cabcc 1 = .ok (.iload_n 1, 1) := by decide +kernel
theorem dJ8_newLength_cabcc_2 : decode cJ8_newLength_cabcc 2 = .ok (.iload_n 2, 1) := by decide +kernel
theorem dJ8_newLength_cabcc_3 : decode cJ8_newLength_cabcc 3 = .ok (.invokestatic 194, 3) := by decide +kernel
theorem dJ8_newLength_cabcc_6 : decode cJ8_newLength_cabcc 6 = .ok (.iadd, 1) := by decide +kernel
theorem dJ8_newLength_cabcc_7 : decode cJ8_newLength_cabcc 7 = .ok (.istore_n 3, 1) := by decide +kernel
theorem dJ8_newLength_cabcc_8 : decode cJ8_newLength_cabcc 8 = .ok (.iconst 0, 1) := by decide +kernel
theorem dJ8_newLength_cabcc_9 : decode cJ8_newLength_cabcc 9 = .ok (.iload_n 3, 1) := by decide +kernel
theorem dJ8_newLength_cabcc_10 : decode cJ8_newLength_cabcc 10 = .ok (.if_icmp .ge 11, 3) := by decide +kernel
theorem dJ8_newLength_cabcc_13 : decode cJ8_newLength_cabcc 13 = .ok (.iload_n 3, 1) := by decide +kernel
theorem dJ8_newLength_cabcc_14 : decode cJ8_newLength_cabcc 14 = .ok (.ldc 200, 2) := by decide +kernel
theorem dJ8_newLength_cabcc_16 : decode cJ8_newLength_cabcc 16 = .ok (.if_icmp .gt 5, 3) := by decide +kernel
theorem dJ8_newLength_cabcc_19 : decode cJ8_newLength_cabcc 19 = .ok (.iload_n 3, 1) := by decide +kernel
theorem dJ8_newLength_cabcc_20 : decode cJ8_newLength_cabcc 20 = .ok (.ireturn, 1) := by decide +kernel
theorem dJ8_newLength_cabcc_21 : decode cJ8_newLength_cabcc 21 = .ok (.iload_n 0, 1) := by decide +kernel
theorem dJ8_newLength_cabcc_22 : decode cJ8_newLength_cabcc 22 = .ok (.iload_n 1, 1) := by decide +kernel
theorem dJ8_newLength_cabcc_23 : decode cJ8_newLength_cabcc 23 = .ok (.invokestatic 201, 3) := by decide +kernel
theorem dJ8_newLength_cabcc_26 : decode cJ8_newLength_cabcc 26 = .ok (.ireturn, 1) := by decide +kernel
theorem dJ8_hugeLength_7cf53_0 : decode cJ8_hugeLength_7cf53 0 = .ok (.iload_n 0, 1) := by decide +kernel
theorem dJ8_hugeLength_7cf53_1 : decode cJ8_hugeLength_7cf53 1 = .ok (.iload_n 1, 1) := by decide +kernel
theorem dJ8_hugeLength_7cf53_2 : decode cJ8_hugeLength_7cf53 2 = .ok (.iadd, 1) := by decide +kernel
theorem dJ8_hugeLength_7cf53_3 : decode cJ8_hugeLength_7cf53 3 = .ok (.istore_n 2, 1) := by decide +kernel
theorem dJ8_hugeLength_7cf53_4 : decode cJ8_hugeLength_7cf53 4 = .ok (.iload_n 2, 1) := by decide +kernel
theorem dJ8_hugeLength_7cf53_5 : decode cJ8_hugeLength_7cf53 5 = .ok (.ifCond .ge 44, 3) := by decide +kernel
theorem dJ8_hugeLength_7cf53_8 : decode cJ8_hugeLength_7cf53 8 = .ok (.new 204, 3) := by decide +kernel
theorem dJ8_hugeLength_7cf53_11 : decode cJ8_hugeLength_7cf53 11 = .ok (.dup, 1) := by decide +kernel
theorem dJ8_hugeLength_7cf53_12 : decode cJ8_hugeLength_7cf53 12 = .ok (.new 89, 3) := by decide +kernel
theorem dJ8_hugeLength_7cf53_15 : decode cJ8_hugeLength_7cf53 15 = .ok (.dup, 1) := by decide +kernel
theorem dJ8_hugeLength_7cf53_16 : decode cJ8_hugeLength_7cf53 16 = .ok (.invokespecial 91, 3) := by decide +kernel
theorem dJ8_hugeLength_7cf53_19 : decode cJ8_hugeLength_7cf53 19 = .ok (.ldc 206, 2) := by decide +kernel
theorem dJ8_hugeLength_7cf53_21 : decode cJ8_hugeLength_7cf53 21 = .ok (.invokevirtual 94, 3) := by decide +kernel
theorem dJ8_hugeLength_7cf53_24 : decode cJ8_hugeLength_7cf53 24 = .ok (.iload_n 0, 1) := by decide +kernel
theorem dJ8_hugeLength_7cf53_25 : decode cJ8_hugeLength_7cf53 25 = .ok (.invokevirtual 98, 3) := by decide +kernel
theorem dJ8_hugeLength_7cf53_28 : decode cJ8_hugeLength_7cf53 28 = .ok (.ldc 208, 2) := by decide +kernel
theorem dJ8_hugeLength_7cf53_30 : decode cJ8_hugeLength_7cf53 30 = .ok (.invokevirtual 94, 3) := by decide +kernel
theorem dJ8_hugeLength_7cf53_33 : decode cJ8_hugeLength_7cf53 33 = .ok (.iload_n 1, 1) := by decide +kernel
theorem dJ8_hugeLength_7cf53_34 : decode cJ8_hugeLength_7cf53 34 = .ok (.invokevirtual 98, 3) := by decide +kernel
theorem dJ8_hugeLength_7cf53_37 : decode cJ8_hugeLength_7cf53 37 = .ok (.ldc 210, 2) := by decide +kernel
theorem dJ8_hugeLength_7cf53_39 : decode cJ8_hugeLength_7cf53 39 = .ok (.invokevirtual 94, 3) := by decide +kernel
theorem dJ8_hugeLength_7cf53_42 : decode cJ8_hugeLength_7cf53 42 = .ok (.invokevirtual 101, 3) := by decide +kernel
theorem dJ8_hugeLength_7cf53_45 : decode cJ8_hugeLength_7cf53 45 = .ok (.invokespecial 212, 3) := by decide +kernel
theorem dJ8_hugeLength_7cf53_48 : decode cJ8_hugeLength_7cf53 48 = .ok (.athrow, 1) := by decide +kernel
theorem dJ8_hugeLength_7cf53_49 : decode cJ8_hugeLength_7cf53 49 = .ok (.iload_n 2, 1) := by decide +kernel
theorem dJ8_hugeLength_7cf53_50 : decode cJ8_hugeLength_7cf53 50 = .ok (.ldc 200, 2) := by decide +kernel
theorem dJ8_hugeLength_7cf53_52 : decode cJ8_hugeLength_7cf53 52 = .ok (.if_icmp .gt 6, 3) := by decide +kernel
theorem dJ8_hugeLength_7cf53_55 : decode cJ8_hugeLength_7cf53 55 = .ok (.ldc 200, 2) := by decide +kernel
theorem dJ8_hugeLength_7cf53_57 : decode cJ8_hugeLength_7cf53 57 = .ok (.ireturn, 1) := by decide +kernel
theorem dJ8_hugeLength_7cf53_58 : decode cJ8_hugeLength_7cf53 58 = .ok (.iload_n 2, 1) := by decide +kernel
theorem dJ8_hugeLength_7cf53_59 : decode cJ8_hugeLength_7cf53 59 = .ok (.ireturn, 1) := by decide +kernel
theorem dJ3_checkIndex_8e157_0 : decode cJ3_checkIndex_8e157 0 = .ok (.iload_n 0, 1) := by decide +kernel
theorem dJ3_checkIndex_8e157_1 : decode cJ3_checkIndex_8e157 1 = .ok (.ifCond .lt 8, 3) := by decide +kernel
theorem dJ3_checkIndex_8e157_4 : decode cJ3_checkIndex_8e157 4 = .ok (.iload_n 0, 1) := by decide +kernel
theorem dJ3_checkIndex_8e157_5 : decode cJ3_checkIndex_8e157 5 = .ok (.iload_n 1, 1) := by decide +kernel
theorem dJ3_checkIndex_8e157_6 : decode cJ3_checkIndex_8e157 6 = .ok (.if_icmp .lt 10, 3) := by decide +kernel
theorem dJ3_checkIndex_8e157_9 : decode cJ3_checkIndex_8e157 9 = .ok (.aload_n 2, 1) := by decide +kernel
theorem dJ3_checkIndex_8e157_10 : decode cJ3_checkIndex_8e157 10 = .ok (.iload_n 0, 1) := by decide +kernel
theorem dJ3_checkIndex_8e157_11 : decode cJ3_checkIndex_8e157 11 = .ok (.iload_n 1, 1) := by decide +kernel
theorem dJ3_checkIndex_8e157_12 : decode cJ3_checkIndex_8e157 12 = .ok (.invokestatic 95, 3) := by decide +kernel
theorem dJ3_checkIndex_8e157_15 : decode cJ3_checkIndex_8e157 15 = .ok (.athrow, 1) := by decide +kernel
theorem dJ3_checkIndex_8e157_16 : decode cJ3_checkIndex_8e157 16 = .ok (.iload_n 0, 1) := by decide +kernel
theorem dJ3_checkIndex_8e157_17 : decode cJ3_checkIndex_8e157 17 = .ok (.ireturn, 1) := by decide +kernel
set_option maxRecDepth 20000 in
theorem ggL_law_X4_init : GoodIn wsL_law wsX4_init := goodIn_r _ [8, 9, 10, 11, 12, 13, 14, 15, 16, 17, 18, 19, 20, 21, 22, 23, 24, 25, 26, 27, 28, 29, 30, 31, 32, 33, 34, 35, 36, 37, 38, 39, 40, 41, 42, 43, 44, 45, 46, 47, 48, 49, 50, 51, 52, 53, 54, 55, 56, 57, 58, 59, 60, 61, 62, 63, 64, 65, 66, 67, 68, 69, 70, 71, 72, 73, 74, 75, 76, 77, 78, 79, 80, 81, 82, 83, 84, 85, 86, 87, 88, 89, 90, 91, 92, 93, 94, 95, 96, 97, 98, 99, 100, 101, 447, 448, 449, 438, 450, 451, 452, 453, 454, 455, 456, 457, 458, 459, 460, 461, 462] (by decide +kernel) (by decide +kernel)
set_option maxRecDepth 20000 in
theorem gL_law_X4_init : GoodIn wsL_law (wsX4_init) := ggL_law_X4_init
set_option maxRecDepth 20000 in
theorem ggL_law_X7_init : GoodIn wsL_law wsX7_init := goodIn_r _ [104, 105, 10, 11, 106, 13, 14, 107, 108, 109, 110, 111, 112, 113, 114, 115, 116, 25, 26, 27, 28, 29, 30, 31, 32, 33, 34, 35, 36, 37, 38, 117, 118, 119, 120, 121, 122, 123, 124, 125, 126, 127, 21, 22, 23, 128, 129, 130, 53, 54, 55, 56, 57, 58, 59, 60, 61, 62, 63, 64, 65, 66, 67, 68, 69, 70, 71, 72, 73, 74, 75, 76, 77, 78, 79, 80, 81, 82, 83, 84, 85, 86, 87, 88, 89, 90, 91, 92, 93, 94, 95, 96, 97, 98, 99, 100, 101, 447, 448, 449, 439, 440, 441, 442, 443, 444, 445, 446, 463, 464, 465, 466, 467, 468, 469] (by decide +kernel) (by decide +kernel)
set_option maxRecDepth 20000 in
theorem gL_law_X7_init : GoodIn wsL_law (wsX7_init) := ggL_law_X7_init
set_option maxRecDepth 20000 in
theorem ggL_law_X4_pointer : GoodIn wsL_law wsX4_pointer := goodIn_r _ [134, 17, 18, 19, 135, 136, 137, 2, 138, 15, 139, 140, 141, 142, 14, 143, 58, 144, 145, 146, 147, 148, 149, 150, 151, 152, 153, 154, 155, 156, 157, 158, 159, 28, 160, 161, 162, 163, 164, 165, 166, 167, 168, 42, 43, 44, 169, 170, 171, 172, 39, 40, 41, 45, 46, 47, 48, 49, 10, 11, 50, 51, 173, 174, 175, 176, 52, 53, 54, 55, 56, 57, 59, 60, 61, 62, 63, 64, 65, 66, 67, 68, 69, 70, 27, 71, 72, 22, 73, 74, 75, 76, 77, 78, 79, 80, 81, 82, 83, 84, 85, 86, 87, 88, 89, 90, 91, 92, 93, 94, 95, 96, 97, 21, 23, 98, 99, 100, 101, 450, 451, 452, 453, 454, 438, 447, 448, 449, 455, 456, 457, 458, 459, 460, 461, 462] (by decide +kernel) (by decide +kernel)
set_option maxRecDepth 20000 in
theorem gL_law_X4_pointer : GoodIn wsL_law (wsV RL 13 RX4 yX4_pointer wsX4_pointer) := goodIn_app (goodIn_of _ (by decide +kernel)) ggL_law_X4_pointer
set_option maxRecDepth 20000 in
theorem ggL_law_X7_pointer : GoodIn wsL_law wsX7_pointer := goodIn_r _ [180, 107, 113, 114, 115, 181, 182, 183, 5, 184, 185, 141, 142, 14, 143, 58, 186, 187, 188, 189, 190, 191, 192, 193, 194, 145, 146, 147, 148, 149, 150, 151, 152, 153, 154, 155, 156, 157, 158, 159, 28, 117, 118, 119, 120, 10, 11, 121, 13, 122, 123, 124, 125, 126, 127, 21, 22, 23, 128, 129, 25, 26, 27, 29, 30, 31, 32, 33, 34, 35, 36, 37, 38, 195, 196, 197, 198, 130, 53, 54, 55, 56, 57, 59, 60, 61, 62, 63, 64, 65, 66, 67, 68, 69, 70, 71, 72, 73, 74, 75, 76, 77, 78, 79, 80, 81, 82, 83, 84, 85, 86, 87, 88, 89, 90, 91, 92, 93, 94, 95, 96, 97, 98, 99, 100, 101, 439, 440, 441, 442, 443, 444, 445, 446, 463, 464, 465, 466, 467, 468, 469, 447, 448, 449] (by decide +kernel) (by decide +kernel)
set_option maxRecDepth 20000 in
theorem gL_law_X7_pointer : GoodIn wsL_law (wsV RL 17 RX7 yX7_pointer wsX7_pointer) := goodIn_app (goodIn_of _ (by decide +kernel)) ggL_law_X7_pointer
set_option maxRecDepth 20000 in
theorem ggL_law_X4_array : GoodIn wsL_law wsX4_array := goodIn_r _ [202, 203, 204, 205, 17, 18, 19, 206, 135, 136, 137, 2, 138, 15, 139, 140, 141, 142, 14, 143, 58, 144, 145, 146, 147, 148, 149, 150, 151, 152, 153, 154, 155, 156, 157, 158, 159, 28, 160, 161, 162, 163, 164, 165, 166, 167, 168, 42, 43, 44, 169, 170, 171, 172, 39, 40, 41, 45, 46, 47, 48, 49, 10, 11, 50, 51, 173, 174, 175, 176, 52, 53, 54, 55, 56, 57, 59, 60, 61, 62, 63, 64, 65, 66, 67, 68, 69, 70, 27, 71, 72, 22, 73, 74, 75, 76, 77, 78, 79, 80, 81, 82, 83, 84, 85, 86, 87, 88, 89, 90, 91, 92, 93, 94, 95, 96, 97, 21, 23, 98, 99, 100, 101, 455, 456, 457, 458, 459, 460, 461, 462, 450, 451, 452, 453, 454, 438, 447, 448, 449] (by decide +kernel) (by decide +kernel)
set_option maxRecDepth 20000 in
theorem gL_law_X4_array : GoodIn wsL_law (wsV RL 18 RX4 yX4_array wsX4_array) := goodIn_app (goodIn_of _ (by decide +kernel)) ggL_law_X4_array
set_option maxRecDepth 20000 in
theorem ggL_law_X7_array : GoodIn wsL_law wsX7_array := goodIn_r _ [210, 211, 212, 107, 113, 114, 115, 190, 213, 181, 182, 183, 5, 184, 185, 141, 142, 14, 143, 58, 214, 215, 216, 217, 218, 194, 145, 146, 147, 148, 149, 150, 151, 152, 153, 154, 155, 156, 157, 158, 159, 28, 219, 220, 221, 222, 123, 223, 224, 225, 226, 227, 186, 187, 188, 189, 191, 192, 193, 117, 118, 119, 120, 10, 11, 121, 13, 122, 124, 125, 126, 127, 21, 22, 23, 128, 129, 25, 26, 27, 29, 30, 31, 32, 33, 34, 35, 36, 37, 38, 195, 196, 197, 198, 130, 53, 54, 55, 56, 57, 59, 60, 61, 62, 63, 64, 65, 66, 67, 68, 69, 70, 71, 72, 73, 74, 75, 76, 77, 78, 79, 80, 81, 82, 83, 84, 85, 86, 87, 88, 89, 90, 91, 92, 93, 94, 95, 96, 97, 98, 99, 100, 101, 439, 440, 441, 442, 443, 444, 445, 446, 463, 464, 465, 466, 467, 468, 469, 447, 448, 449] (by decide +kernel) (by decide +kernel)
set_option maxRecDepth 20000 in
theorem gL_law_X7_array : GoodIn wsL_law (wsV RL 22 RX7 yX7_array wsX7_array) := goodIn_app (goodIn_of _ (by decide +kernel)) ggL_law_X7_array
set_option maxRecDepth 20000 in
theorem ggL_law_X4_record : GoodIn wsL_law wsX4_record := goodIn_r _ [231, 232, 233, 234, 169, 170, 171, 2, 172, 15, 140, 141, 142, 14, 143, 58, 235, 236, 237, 238, 239, 13, 240, 241, 242, 46, 47, 48, 49, 10, 11, 50, 51, 243, 25, 26, 27, 28, 29, 30, 31, 32, 33, 34, 35, 36, 37, 38, 173, 174, 175, 176, 52, 53, 54, 55, 56, 57, 59, 60, 61, 62, 63, 64, 65, 66, 67, 68, 69, 70, 71, 72, 22, 73, 74, 75, 76, 77, 78, 79, 80, 81, 82, 83, 84, 85, 86, 87, 88, 89, 90, 91, 92, 93, 94, 95, 96, 97, 21, 23, 98, 99, 100, 101, 455, 456, 457, 458, 459, 460, 461, 462, 438, 447, 448, 449, 450, 451, 452, 453, 454] (by decide +kernel) (by decide +kernel)
set_option maxRecDepth 20000 in
theorem gL_law_X4_record : GoodIn wsL_law (wsV RL 23 RX4 yX4_record wsX4_record) := goodIn_app (goodIn_of _ (by decide +kernel)) ggL_law_X4_record
set_option maxRecDepth 20000 in
theorem ggL_law_X7_record : GoodIn wsL_law wsX7_record := goodIn_r _ [247, 107, 113, 114, 115, 185, 141, 142, 14, 143, 58, 117, 118, 119, 120, 10, 11, 121, 13, 122, 123, 124, 125, 126, 127, 21, 22, 23, 128, 129, 25, 26, 27, 28, 29, 30, 31, 32, 33, 34, 35, 36, 37, 38, 195, 196, 197, 5, 198, 130, 53, 54, 55, 56, 57, 59, 60, 61, 62, 63, 64, 65, 66, 67, 68, 69, 70, 71, 72, 73, 74, 75, 76, 77, 78, 79, 80, 81, 82, 83, 84, 85, 86, 87, 88, 89, 90, 91, 92, 93, 94, 95, 96, 97, 98, 99, 100, 101, 439, 440, 441, 442, 443, 444, 445, 446, 463, 464, 465, 466, 467, 468, 469, 447, 448, 449] (by decide +kernel) (by decide +kernel)
set_option maxRecDepth 20000 in
theorem gL_law_X7_record : GoodIn wsL_law (wsV RL 26 RX7 yX7_record wsX7_record) := goodIn_app (goodIn_of _ (by decide +kernel)) ggL_law_X7_record
set_option maxRecDepth 20000 in
theorem ggL_law_X4_field : GoodIn wsL_law wsX4_field := goodIn_r _ [251, 204, 206, 203, 252, 253, 254, 255, 256, 257, 2, 258, 259, 260, 261, 262, 263, 135, 136, 137, 138, 15, 139, 140, 141, 142, 14, 143, 58, 144, 145, 146, 147, 148, 149, 150, 151, 152, 153, 154, 155, 156, 157, 158, 159, 28, 264, 265, 266, 234, 267, 240, 268, 269, 270, 271, 272, 238, 273, 274, 275, 276, 277, 278, 279, 280, 281, 282, 283, 284, 285, 72, 22, 73, 286, 287, 288, 289, 290, 291, 10, 11, 292, 293, 294, 295, 296, 297, 298, 299, 300, 53, 54, 55, 56, 57, 59, 60, 61, 62, 63, 64, 65, 66, 67, 68, 69, 70, 27, 71, 74, 75, 76, 77, 78, 79, 80, 81, 82, 83, 84, 85, 86, 87, 88, 89, 90, 91, 92, 93, 94, 95, 96, 97, 21, 23, 98, 99, 100, 101, 455, 456, 457, 458, 459, 460, 461, 462, 450, 451, 452, 453, 454, 470, 471, 472, 473, 438, 447, 448, 449] (by decide +kernel) (by decide +kernel)
set_option maxRecDepth 20000 in
theorem gL_law_X4_field : GoodIn wsL_law (wsV RL 27 RX4 yX4_field wsX4_field) := goodIn_app (goodIn_of _ (by decide +kernel)) ggL_law_X4_field
set_option maxRecDepth 20000 in
theorem ggL_law_X7_field : GoodIn wsL_law wsX7_field := goodIn_r _ [304, 305, 306, 307, 308, 5, 309, 107, 190, 218, 181, 182, 183, 184, 185, 141, 142, 14, 143, 58, 194, 145, 146, 147, 148, 149, 150, 151, 152, 153, 154, 155, 156, 157, 158, 159, 28, 219, 220, 221, 115, 222, 123, 214, 215, 216, 217, 310, 311, 312, 313, 314, 315, 316, 317, 318, 319, 191, 213, 227, 320, 72, 22, 73, 321, 322, 323, 324, 325, 326, 327, 328, 109, 110, 111, 112, 329, 330, 331, 332, 333, 334, 335, 211, 336, 337, 338, 339, 10, 11, 340, 341, 342, 130, 53, 54, 55, 56, 57, 59, 60, 61, 62, 63, 64, 65, 66, 67, 68, 69, 70, 27, 71, 74, 75, 76, 77, 78, 79, 80, 81, 82, 83, 84, 85, 86, 87, 88, 89, 90, 91, 92, 93, 94, 95, 96, 97, 21, 23, 98, 99, 100, 101, 343, 344, 345, 346, 347, 348, 349, 350, 351, 439, 440, 441, 442, 443, 444, 445, 446, 463, 464, 465, 466, 467, 468, 469, 447, 448, 449, 474, 475, 476] (by decide +kernel) (by decide +kernel)
set_option maxRecDepth 20000 in
theorem gL_law_X7_field : GoodIn wsL_law (wsV RL 30 RX7 yX7_field wsX7_field) := goodIn_app (goodIn_of _ (by decide +kernel)) ggL_law_X7_field
set_option maxRecDepth 20000 in
theorem ggL_law_X4_bits : GoodIn wsL_law wsX4_bits := goodIn_r _ [355, 252, 253, 254, 255, 256, 257, 2, 258, 259, 260, 261, 262, 263, 135, 136, 137, 138, 15, 139, 140, 141, 142, 14, 143, 58, 144, 145, 146, 147, 148, 149, 150, 151, 152, 153, 154, 155, 156, 157, 158, 159, 28, 356, 357, 358, 264, 265, 266, 234, 267, 240, 268, 359, 360, 361, 362, 363, 364, 280, 365, 270, 271, 272, 238, 273, 274, 275, 366, 282, 283, 284, 285, 72, 22, 73, 286, 287, 367, 368, 369, 370, 288, 289, 290, 291, 10, 11, 292, 293, 294, 295, 296, 297, 298, 299, 300, 53, 54, 55, 56, 57, 59, 60, 61, 62, 63, 64, 65, 66, 67, 68, 69, 70, 27, 71, 74, 75, 76, 77, 78, 79, 80, 81, 82, 83, 84, 85, 86, 87, 88, 89, 90, 91, 92, 93, 94, 95, 96, 97, 21, 23, 98, 99, 100, 101, 455, 456, 457, 458, 459, 460, 461, 462, 470, 471, 472, 473, 438, 447, 448, 449, 450, 451, 452, 453, 454] (by decide +kernel) (by decide +kernel)
set_option maxRecDepth 20000 in
theorem gL_law_X4_bits : GoodIn wsL_law (wsV RL 31 RX4 yX4_bits wsX4_bits) := goodIn_app (goodIn_of _ (by decide +kernel)) ggL_law_X4_bits
set_option maxRecDepth 20000 in
theorem ggL_law_X7_bits : GoodIn wsL_law wsX7_bits := goodIn_r _ [374, 305, 306, 307, 308, 5, 309, 107, 190, 218, 181, 182, 183, 184, 185, 141, 142, 14, 143, 58, 194, 145, 146, 147, 148, 149, 150, 151, 152, 153, 154, 155, 156, 157, 158, 159, 28, 219, 220, 221, 115, 222, 123, 310, 311, 312, 313, 314, 315, 316, 317, 318, 319, 191, 213, 227, 320, 72, 22, 73, 321, 322, 323, 324, 325, 326, 327, 328, 109, 110, 111, 112, 329, 330, 331, 332, 333, 334, 335, 211, 336, 337, 338, 339, 10, 11, 340, 341, 342, 130, 53, 54, 55, 56, 57, 59, 60, 61, 62, 63, 64, 65, 66, 67, 68, 69, 70, 27, 71, 74, 75, 76, 77, 78, 79, 80, 81, 82, 83, 84, 85, 86, 87, 88, 89, 90, 91, 92, 93, 94, 95, 96, 97, 21, 23, 98, 99, 100, 101, 343, 344, 345, 346, 347, 348, 349, 350, 351, 439, 440, 441, 442, 443, 444, 445, 446, 463, 464, 465, 466, 467, 468, 469, 447, 448, 449, 474, 475, 476] (by decide +kernel) (by decide +kernel)
set_option maxRecDepth 20000 in
theorem gL_law_X7_bits : GoodIn wsL_law (wsV RL 35 RX7 yX7_bits wsX7_bits) := goodIn_app (goodIn_of _ (by decide +kernel)) ggL_law_X7_bits
set_option maxRecDepth 20000 in
theorem ggL_law_X4_separate : GoodIn wsL_law wsX4_separate := goodIn_r _ [378, 255, 256, 257, 2, 258, 259, 260, 261, 262, 263, 135, 136, 137, 138, 15, 139, 140, 141, 142, 14, 143, 58, 144, 145, 146, 147, 148, 149, 150, 151, 152, 153, 154, 155, 156, 157, 158, 159, 28, 276, 277, 278, 234, 279, 280, 455, 456, 457, 458, 459, 460, 461, 462, 438, 447, 448, 449] (by decide +kernel) (by decide +kernel)
set_option maxRecDepth 20000 in
theorem gL_law_X4_separate : GoodIn wsL_law (wsV RL 36 RX4 yX4_separate wsX4_separate) := goodIn_app (goodIn_of _ (by decide +kernel)) ggL_law_X4_separate
set_option maxRecDepth 20000 in
theorem ggL_law_X7_separate : GoodIn wsL_law wsX7_separate := goodIn_r _ [382, 316, 333, 334, 335, 306, 307, 308, 5, 309, 107, 190, 218, 181, 182, 183, 184, 185, 141, 142, 14, 143, 58, 194, 145, 146, 147, 148, 149, 150, 151, 152, 153, 154, 155, 156, 157, 158, 159, 28, 219, 220, 221, 115, 222, 123, 336, 337, 338, 339, 10, 11, 340, 341, 342, 130, 53, 54, 55, 56, 57, 59, 60, 61, 62, 63, 64, 65, 66, 67, 68, 69, 70, 27, 71, 72, 22, 73, 74, 75, 76, 77, 78, 79, 80, 81, 82, 83, 84, 85, 86, 87, 88, 89, 90, 91, 92, 93, 94, 95, 96, 97, 21, 23, 98, 99, 100, 101, 463, 464, 465, 466, 467, 468, 469, 474, 475, 476, 439, 440, 441, 442, 443, 444, 445, 446, 447, 448, 449] (by decide +kernel) (by decide +kernel)
set_option maxRecDepth 20000 in
theorem gL_law_X7_separate : GoodIn wsL_law (wsV RL 40 RX7 yX7_separate wsX7_separate) := goodIn_app (goodIn_of _ (by decide +kernel)) ggL_law_X7_separate
set_option maxRecDepth 20000 in
theorem ggL_law_X4_finish : GoodIn wsL_law wsX4_finish := goodIn_r _ [386, 387, 287, 203, 388, 389, 255, 256, 257, 2, 258, 259, 260, 261, 262, 263, 135, 136, 137, 138, 15, 139, 140, 141, 142, 14, 143, 58, 144, 145, 146, 147, 148, 149, 150, 151, 152, 153, 154, 155, 156, 157, 158, 159, 28, 390, 391, 392, 393, 394, 274, 275, 455, 456, 457, 458, 459, 460, 461, 462, 450, 451, 452, 453, 454, 438, 447, 448, 449] (by decide +kernel) (by decide +kernel)
set_option maxRecDepth 20000 in
theorem gL_law_X4_finish : GoodIn wsL_law (wsV RL 41 RX4 yX4_finish wsX4_finish) := goodIn_app (goodIn_of _ (by decide +kernel)) ggL_law_X4_finish
set_option maxRecDepth 20000 in
theorem ggL_law_X7_finish : GoodIn wsL_law wsX7_finish := goodIn_r _ [398, 305, 314, 315, 211, 218, 227, 213, 306, 307, 308, 5, 309, 107, 190, 181, 182, 183, 184, 185, 141, 142, 14, 143, 58, 194, 145, 146, 147, 148, 149, 150, 151, 152, 153, 154, 155, 156, 157, 158, 159, 28, 219, 220, 221, 115, 222, 123, 310, 311, 312, 313, 316, 317, 318, 319, 191, 320, 72, 22, 73, 321, 322, 323, 324, 325, 326, 327, 328, 109, 110, 111, 112, 439, 440, 441, 442, 443, 444, 445, 446, 463, 464, 465, 466, 467, 468, 469, 447, 448, 449, 474, 475, 476] (by decide +kernel) (by decide +kernel)
set_option maxRecDepth 20000 in
theorem gL_law_X7_finish : GoodIn wsL_law (wsV RL 44 RX7 yX7_finish wsX7_finish) := goodIn_app (goodIn_of _ (by decide +kernel)) ggL_law_X7_finish
set_option maxRecDepth 20000 in
theorem ggL_law_X4_types : GoodIn wsL_law wsX4_types := goodIn_r _ [402, 15, 140, 141, 142, 14, 143, 58, 438, 447, 448, 449] (by decide +kernel) (by decide +kernel)
set_option maxRecDepth 20000 in
theorem gL_law_X4_types : GoodIn wsL_law (wsV RL 45 RX4 yX4_types wsX4_types) := goodIn_app (goodIn_of _ (by decide +kernel)) ggL_law_X4_types
set_option maxRecDepth 20000 in
theorem ggL_law_X7_types : GoodIn wsL_law wsX7_types := goodIn_r _ [406, 107, 185, 141, 142, 14, 143, 58, 439, 440, 441, 442, 443, 444, 445, 446, 447, 448, 449] (by decide +kernel) (by decide +kernel)
set_option maxRecDepth 20000 in
theorem gL_law_X7_types : GoodIn wsL_law (wsV RL 49 RX7 yX7_types wsX7_types) := goodIn_app (goodIn_of _ (by decide +kernel)) ggL_law_X7_types
set_option maxRecDepth 20000 in
theorem ggL_law_X4_size : GoodIn wsL_law wsX4_size := goodIn_r _ [410, 204, 135, 136, 137, 2, 138, 15, 139, 140, 141, 142, 14, 143, 58, 144, 145, 146, 147, 148, 149, 150, 151, 152, 153, 154, 155, 156, 157, 158, 159, 28, 455, 456, 457, 458, 459, 460, 461, 462, 450, 451, 452, 453, 454, 438, 447, 448, 449] (by decide +kernel) (by decide +kernel)
set_option maxRecDepth 20000 in
theorem gL_law_X4_size : GoodIn wsL_law (wsV RL 50 RX4 yX4_size wsX4_size) := goodIn_app (goodIn_of _ (by decide +kernel)) ggL_law_X4_size
set_option maxRecDepth 20000 in
theorem ggL_law_X7_size : GoodIn wsL_law wsX7_size := goodIn_r _ [226, 107, 190, 227, 181, 182, 183, 5, 184, 185, 141, 142, 14, 143, 58, 194, 145, 146, 147, 148, 149, 150, 151, 152, 153, 154, 155, 156, 157, 158, 159, 28, 439, 440, 441, 442, 443, 444, 445, 446, 463, 464, 465, 466, 467, 468, 469, 447, 448, 449] (by decide +kernel) (by decide +kernel)
set_option maxRecDepth 20000 in
theorem gL_law_X7_size : GoodIn wsL_law (wsV RL 53 RX7 yX7_size wsX7_size) := goodIn_app (goodIn_of _ (by decide +kernel)) ggL_law_X7_size
set_option maxRecDepth 20000 in
theorem ggL_law_X4_align : GoodIn wsL_law wsX4_align := goodIn_r _ [415, 206, 135, 136, 137, 2, 138, 15, 139, 140, 141, 142, 14, 143, 58, 144, 145, 146, 147, 148, 149, 150, 151, 152, 153, 154, 155, 156, 157, 158, 159, 28, 455, 456, 457, 458, 459, 460, 461, 462, 450, 451, 452, 453, 454, 438, 447, 448, 449] (by decide +kernel) (by decide +kernel)
set_option maxRecDepth 20000 in
theorem gL_law_X4_align : GoodIn wsL_law (wsV RL 54 RX4 yX4_align wsX4_align) := goodIn_app (goodIn_of _ (by decide +kernel)) ggL_law_X4_align
set_option maxRecDepth 20000 in
theorem ggL_law_X7_align : GoodIn wsL_law wsX7_align := goodIn_r _ [419, 107, 190, 218, 213, 315, 181, 182, 183, 5, 184, 185, 141, 142, 14, 143, 58, 194, 145, 146, 147, 148, 149, 150, 151, 152, 153, 154, 155, 156, 157, 158, 159, 28, 219, 220, 221, 115, 222, 123, 310, 311, 312, 313, 305, 314, 316, 317, 318, 319, 191, 227, 320, 72, 22, 73, 321, 322, 323, 324, 325, 326, 327, 328, 109, 110, 111, 112, 439, 440, 441, 442, 443, 444, 445, 446, 463, 464, 465, 466, 467, 468, 469, 447, 448, 449, 474, 475, 476] (by decide +kernel) (by decide +kernel)
end
section
set_option maxRecDepth 20000 in
theorem gL_law_X7_align : GoodIn wsL_law (wsV RL 57 RX7 yX7_align wsX7_align) := goodIn_app (goodIn_of _ (by decide +kernel)) ggL_law_X7_align
set_option maxRecDepth 20000 in
theorem ggL_law_X4_members : GoodIn wsL_law wsX4_members := goodIn_r _ [423, 259, 260, 261, 2, 262, 263, 135, 136, 137, 138, 15, 139, 140, 141, 142, 14, 143, 58, 144, 145, 146, 147, 148, 149, 150, 151, 152, 153, 154, 155, 156, 157, 158, 159, 28, 455, 456, 457, 458, 459, 460, 461, 462, 438, 447, 448, 449] (by decide +kernel) (by decide +kernel)
set_option maxRecDepth 20000 in
theorem gL_law_X4_members : GoodIn wsL_law (wsV RL 58 RX4 yX4_members wsX4_members) := goodIn_app (goodIn_of _ (by decide +kernel)) ggL_law_X4_members
set_option maxRecDepth 20000 in
theorem ggL_law_X7_members : GoodIn wsL_law wsX7_members := goodIn_r _ [427, 107, 190, 305, 181, 182, 183, 5, 184, 185, 141, 142, 14, 143, 58, 194, 145, 146, 147, 148, 149, 150, 151, 152, 153, 154, 155, 156, 157, 158, 159, 28, 219, 220, 221, 115, 222, 123, 310, 311, 312, 313, 314, 315, 316, 317, 318, 319, 191, 213, 227, 320, 72, 22, 73, 321, 322, 323, 324, 325, 326, 327, 328, 109, 110, 111, 112, 439, 440, 441, 442, 443, 444, 445, 446, 447, 448, 449, 463, 464, 465, 466, 467, 468, 469, 474, 475, 476] (by decide +kernel) (by decide +kernel)
set_option maxRecDepth 20000 in
theorem gL_law_X7_members : GoodIn wsL_law (wsV RL 61 RX7 yX7_members wsX7_members) := goodIn_app (goodIn_of _ (by decide +kernel)) ggL_law_X7_members
set_option maxRecDepth 20000 in
theorem ggL_law_X4_member : GoodIn wsL_law wsX4_member := goodIn_r _ [431, 432, 259, 260, 261, 2, 262, 263, 135, 136, 137, 138, 15, 139, 140, 141, 142, 14, 143, 58, 144, 145, 146, 147, 148, 149, 150, 151, 152, 153, 154, 155, 156, 157, 158, 159, 28, 455, 456, 457, 458, 459, 460, 461, 462, 470, 471, 472, 473, 438, 447, 448, 449] (by decide +kernel) (by decide +kernel)
set_option maxRecDepth 20000 in
theorem gL_law_X4_member : GoodIn wsL_law (wsV RL 62 RX4 yX4_member wsX4_member) := goodIn_app (goodIn_of _ (by decide +kernel)) ggL_law_X4_member
set_option maxRecDepth 20000 in
theorem ggL_law_X7_member : GoodIn wsL_law wsX7_member := goodIn_r _ [436, 109, 110, 111, 112, 437, 425, 426, 5, 427, 107, 190, 305, 181, 182, 183, 184, 185, 141, 142, 14, 143, 58, 194, 145, 146, 147, 148, 149, 150, 151, 152, 153, 154, 155, 156, 157, 158, 159, 28, 219, 220, 221, 115, 222, 123, 310, 311, 312, 313, 314, 315, 316, 317, 318, 319, 191, 213, 227, 320, 72, 22, 73, 321, 322, 323, 324, 325, 326, 327, 328, 439, 440, 441, 442, 443, 444, 445, 446, 447, 448, 449, 463, 464, 465, 466, 467, 468, 469, 474, 475, 476] (by decide +kernel) (by decide +kernel)
set_option maxRecDepth 20000 in
theorem gL_law_X7_member : GoodIn wsL_law (wsV RL 66 RX7 yX7_member wsX7_member) := goodIn_app (goodIn_of _ (by decide +kernel)) ggL_law_X7_member
theorem dL_law_0 : decode cL_law 0 = .ok (.new 7, 3) := by decide +kernel
theorem dL_law_3 : decode cL_law 3 = .ok (.dup, 1) := by decide +kernel
theorem dL_law_4 : decode cL_law 4 = .ok (.invokespecial 9, 3) := by decide +kernel
theorem dL_law_7 : decode cL_law 7 = .ok (.astore_n 1, 1) := by decide +kernel
theorem dL_law_8 : decode cL_law 8 = .ok (.new 10, 3) := by decide +kernel
theorem dL_law_11 : decode cL_law 11 = .ok (.dup, 1) := by decide +kernel
theorem dL_law_12 : decode cL_law 12 = .ok (.invokespecial 12, 3) := by decide +kernel
theorem dL_law_15 : decode cL_law 15 = .ok (.astore_n 2, 1) := by decide +kernel
theorem dL_law_16 : decode cL_law 16 = .ok (.iconst 0, 1) := by decide +kernel
theorem dL_law_17 : decode cL_law 17 = .ok (.istore_n 3, 1) := by decide +kernel
theorem dL_law_18 : decode cL_law 18 = .ok (.iload_n 3, 1) := by decide +kernel
theorem dL_law_19 : decode cL_law 19 = .ok (.aload_n 0, 1) := by decide +kernel
theorem dL_law_20 : decode cL_law 20 = .ok (.arraylength, 1) := by decide +kernel
theorem dL_law_21 : decode cL_law 21 = .ok (.iconst 5, 1) := by decide +kernel
theorem dL_law_22 : decode cL_law 22 = .ok (.isub, 1) := by decide +kernel
theorem dL_law_23 : decode cL_law 23 = .ok (.if_icmp .gt 431, 3) := by decide +kernel
theorem dL_law_26 : decode cL_law 26 = .ok (.aload_n 0, 1) := by decide +kernel
theorem dL_law_27 : decode cL_law 27 = .ok (.iload_n 3, 1) := by decide +kernel
theorem dL_law_28 : decode cL_law 28 = .ok (.iaload, 1) := by decide +kernel
theorem dL_law_29 : decode cL_law 29 = .ok (.bipush 15, 2) := by decide +kernel
theorem dL_law_31 : decode cL_law 31 = .ok (.iand, 1) := by decide +kernel
theorem dL_law_32 : decode cL_law 32 = .ok (.tableswitch 416 0 11 #[64, 87, 120, 143, 176, 245, 268, 291, 304, 327, 350, 373], 64) := by decide +kernel
theorem dL_law_96 : decode cL_law 96 = .ok (.aload_n 1, 1) := by decide +kernel
theorem dL_law_97 : decode cL_law 97 = .ok (.aload_n 0, 1) := by decide +kernel
theorem dL_law_98 : decode cL_law 98 = .ok (.iload_n 3, 1) := by decide +kernel
theorem dL_law_99 : decode cL_law 99 = .ok (.iconst 1, 1) := by decide +kernel
theorem dL_law_100 : decode cL_law 100 = .ok (.iadd, 1) := by decide +kernel
theorem dL_law_101 : decode cL_law 101 = .ok (.iaload, 1) := by decide +kernel
theorem dL_law_102 : decode cL_law 102 = .ok (.invokevirtual 13, 3) := by decide +kernel
theorem dL_law_105 : decode cL_law 105 = .ok (.aload_n 2, 1) := by decide +kernel
theorem dL_law_106 : decode cL_law 106 = .ok (.aload_n 0, 1) := by decide +kernel
theorem dL_law_107 : decode cL_law 107 = .ok (.iload_n 3, 1) := by decide +kernel
theorem dL_law_108 : decode cL_law 108 = .ok (.iconst 1, 1) := by decide +kernel
theorem dL_law_109 : decode cL_law 109 = .ok (.iadd, 1) := by decide +kernel
theorem dL_law_110 : decode cL_law 110 = .ok (.iaload, 1) := by decide +kernel
theorem dL_law_111 : decode cL_law 111 = .ok (.invokevirtual 17, 3) := by decide +kernel
theorem dL_law_114 : decode cL_law 114 = .ok (.if_icmp .eq 334, 3) := by decide +kernel
theorem dL_law_117 : decode cL_law 117 = .ok (.iconst 0, 1) := by decide +kernel
theorem dL_law_118 : decode cL_law 118 = .ok (.ireturn, 1) := by decide +kernel
theorem dL_law_119 : decode cL_law 119 = .ok (.aload_n 1, 1) := by decide +kernel
theorem dL_law_120 : decode cL_law 120 = .ok (.aload_n 0, 1) := by decide +kernel
theorem dL_law_121 : decode cL_law 121 = .ok (.iload_n 3, 1) := by decide +kernel
theorem dL_law_122 : decode cL_law 122 = .ok (.iconst 1, 1) := by decide +kernel
theorem dL_law_123 : decode cL_law 123 = .ok (.iadd, 1) := by decide +kernel
theorem dL_law_124 : decode cL_law 124 = .ok (.iaload, 1) := by decide +kernel
theorem dL_law_125 : decode cL_law 125 = .ok (.aload_n 0, 1) := by decide +kernel
theorem dL_law_126 : decode cL_law 126 = .ok (.iload_n 3, 1) := by decide +kernel
theorem dL_law_127 : decode cL_law 127 = .ok (.iconst 2, 1) := by decide +kernel
theorem dL_law_128 : decode cL_law 128 = .ok (.iadd, 1) := by decide +kernel
theorem dL_law_129 : decode cL_law 129 = .ok (.iaload, 1) := by decide +kernel
theorem dL_law_130 : decode cL_law 130 = .ok (.invokevirtual 18, 3) := by decide +kernel
theorem dL_law_133 : decode cL_law 133 = .ok (.aload_n 2, 1) := by decide +kernel
theorem dL_law_134 : decode cL_law 134 = .ok (.aload_n 0, 1) := by decide +kernel
theorem dL_law_135 : decode cL_law 135 = .ok (.iload_n 3, 1) := by decide +kernel
theorem dL_law_136 : decode cL_law 136 = .ok (.iconst 1, 1) := by decide +kernel
theorem dL_law_137 : decode cL_law 137 = .ok (.iadd, 1) := by decide +kernel
theorem dL_law_138 : decode cL_law 138 = .ok (.iaload, 1) := by decide +kernel
theorem dL_law_139 : decode cL_law 139 = .ok (.aload_n 0, 1) := by decide +kernel
theorem dL_law_140 : decode cL_law 140 = .ok (.iload_n 3, 1) := by decide +kernel
theorem dL_law_141 : decode cL_law 141 = .ok (.iconst 2, 1) := by decide +kernel
theorem dL_law_142 : decode cL_law 142 = .ok (.iadd, 1) := by decide +kernel
theorem dL_law_143 : decode cL_law 143 = .ok (.iaload, 1) := by decide +kernel
theorem dL_law_144 : decode cL_law 144 = .ok (.invokevirtual 22, 3) := by decide +kernel
theorem dL_law_147 : decode cL_law 147 = .ok (.if_icmp .eq 301, 3) := by decide +kernel
theorem dL_law_150 : decode cL_law 150 = .ok (.iconst 0, 1) := by decide +kernel
theorem dL_law_151 : decode cL_law 151 = .ok (.ireturn, 1) := by decide +kernel
theorem dL_law_152 : decode cL_law 152 = .ok (.aload_n 1, 1) := by decide +kernel
theorem dL_law_153 : decode cL_law 153 = .ok (.aload_n 0, 1) := by decide +kernel
theorem dL_law_154 : decode cL_law 154 = .ok (.iload_n 3, 1) := by decide +kernel
theorem dL_law_155 : decode cL_law 155 = .ok (.iconst 1, 1) := by decide +kernel
theorem dL_law_156 : decode cL_law 156 = .ok (.iadd, 1) := by decide +kernel
theorem dL_law_157 : decode cL_law 157 = .ok (.iaload, 1) := by decide +kernel
theorem dL_law_158 : decode cL_law 158 = .ok (.invokevirtual 23, 3) := by decide +kernel
theorem dL_law_161 : decode cL_law 161 = .ok (.aload_n 2, 1) := by decide +kernel
theorem dL_law_162 : decode cL_law 162 = .ok (.aload_n 0, 1) := by decide +kernel
theorem dL_law_163 : decode cL_law 163 = .ok (.iload_n 3, 1) := by decide +kernel
theorem dL_law_164 : decode cL_law 164 = .ok (.iconst 1, 1) := by decide +kernel
theorem dL_law_165 : decode cL_law 165 = .ok (.iadd, 1) := by decide +kernel
theorem dL_law_166 : decode cL_law 166 = .ok (.iaload, 1) := by decide +kernel
theorem dL_law_167 : decode cL_law 167 = .ok (.invokevirtual 26, 3) := by decide +kernel
theorem dL_law_170 : decode cL_law 170 = .ok (.if_icmp .eq 278, 3) := by decide +kernel
theorem dL_law_173 : decode cL_law 173 = .ok (.iconst 0, 1) := by decide +kernel
theorem dL_law_174 : decode cL_law 174 = .ok (.ireturn, 1) := by decide +kernel
theorem dL_law_175 : decode cL_law 175 = .ok (.aload_n 1, 1) := by decide +kernel
theorem dL_law_176 : decode cL_law 176 = .ok (.aload_n 0, 1) := by decide +kernel
theorem dL_law_177 : decode cL_law 177 = .ok (.iload_n 3, 1) := by decide +kernel
theorem dL_law_178 : decode cL_law 178 = .ok (.iconst 1, 1) := by decide +kernel
theorem dL_law_179 : decode cL_law 179 = .ok (.iadd, 1) := by decide +kernel
theorem dL_law_180 : decode cL_law 180 = .ok (.iaload, 1) := by decide +kernel
theorem dL_law_181 : decode cL_law 181 = .ok (.aload_n 0, 1) := by decide +kernel
theorem dL_law_182 : decode cL_law 182 = .ok (.iload_n 3, 1) := by decide +kernel
theorem dL_law_183 : decode cL_law 183 = .ok (.iconst 2, 1) := by decide +kernel
theorem dL_law_184 : decode cL_law 184 = .ok (.iadd, 1) := by decide +kernel
theorem dL_law_185 : decode cL_law 185 = .ok (.iaload, 1) := by decide +kernel
theorem dL_law_186 : decode cL_law 186 = .ok (.invokevirtual 27, 3) := by decide +kernel
theorem dL_law_189 : decode cL_law 189 = .ok (.aload_n 2, 1) := by decide +kernel
theorem dL_law_190 : decode cL_law 190 = .ok (.aload_n 0, 1) := by decide +kernel
theorem dL_law_191 : decode cL_law 191 = .ok (.iload_n 3, 1) := by decide +kernel
theorem dL_law_192 : decode cL_law 192 = .ok (.iconst 1, 1) := by decide +kernel
theorem dL_law_193 : decode cL_law 193 = .ok (.iadd, 1) := by decide +kernel
theorem dL_law_194 : decode cL_law 194 = .ok (.iaload, 1) := by decide +kernel
theorem dL_law_195 : decode cL_law 195 = .ok (.aload_n 0, 1) := by decide +kernel
theorem dL_law_196 : decode cL_law 196 = .ok (.iload_n 3, 1) := by decide +kernel
theorem dL_law_197 : decode cL_law 197 = .ok (.iconst 2, 1) := by decide +kernel
theorem dL_law_198 : decode cL_law 198 = .ok (.iadd, 1) := by decide +kernel
theorem dL_law_199 : decode cL_law 199 = .ok (.iaload, 1) := by decide +kernel
theorem dL_law_200 : decode cL_law 200 = .ok (.invokevirtual 30, 3) := by decide +kernel
theorem dL_law_203 : decode cL_law 203 = .ok (.if_icmp .eq 245, 3) := by decide +kernel
theorem dL_law_206 : decode cL_law 206 = .ok (.iconst 0, 1) := by decide +kernel
theorem dL_law_207 : decode cL_law 207 = .ok (.ireturn, 1) := by decide +kernel
theorem dL_law_208 : decode cL_law 208 = .ok (.aload_n 1, 1) := by decide +kernel
theorem dL_law_209 : decode cL_law 209 = .ok (.aload_n 0, 1) := by decide +kernel
theorem dL_law_210 : decode cL_law 210 = .ok (.iload_n 3, 1) := by decide +kernel
theorem dL_law_211 : decode cL_law 211 = .ok (.iconst 1, 1) := by decide +kernel
theorem dL_law_212 : decode cL_law 212 = .ok (.iadd, 1) := by decide +kernel
theorem dL_law_213 : decode cL_law 213 = .ok (.iaload, 1) := by decide +kernel
theorem dL_law_214 : decode cL_law 214 = .ok (.aload_n 0, 1) := by decide +kernel
theorem dL_law_215 : decode cL_law 215 = .ok (.iload_n 3, 1) := by decide +kernel
theorem dL_law_216 : decode cL_law 216 = .ok (.iconst 2, 1) := by decide +kernel
theorem dL_law_217 : decode cL_law 217 = .ok (.iadd, 1) := by decide +kernel
theorem dL_law_218 : decode cL_law 218 = .ok (.iaload, 1) := by decide +kernel
theorem dL_law_219 : decode cL_law 219 = .ok (.aload_n 0, 1) := by decide +kernel
theorem dL_law_220 : decode cL_law 220 = .ok (.iload_n 3, 1) := by decide +kernel
theorem dL_law_221 : decode cL_law 221 = .ok (.iconst 3, 1) := by decide +kernel
theorem dL_law_222 : decode cL_law 222 = .ok (.iadd, 1) := by decide +kernel
theorem dL_law_223 : decode cL_law 223 = .ok (.iaload, 1) := by decide +kernel
theorem dL_law_224 : decode cL_law 224 = .ok (.aload_n 0, 1) := by decide +kernel
theorem dL_law_225 : decode cL_law 225 = .ok (.iload_n 3, 1) := by decide +kernel
theorem dL_law_226 : decode cL_law 226 = .ok (.iconst 4, 1) := by decide +kernel
theorem dL_law_227 : decode cL_law 227 = .ok (.iadd, 1) := by decide +kernel
theorem dL_law_228 : decode cL_law 228 = .ok (.iaload, 1) := by decide +kernel
theorem dL_law_229 : decode cL_law 229 = .ok (.ifCond .eq 7, 3) := by decide +kernel
theorem dL_law_232 : decode cL_law 232 = .ok (.iconst 1, 1) := by decide +kernel
theorem dL_law_233 : decode cL_law 233 = .ok (.goto 4, 3) := by decide +kernel
theorem dL_law_236 : decode cL_law 236 = .ok (.iconst 0, 1) := by decide +kernel
theorem dL_law_237 : decode cL_law 237 = .ok (.invokevirtual 31, 3) := by decide +kernel
theorem dL_law_240 : decode cL_law 240 = .ok (.aload_n 2, 1) := by decide +kernel
theorem dL_law_241 : decode cL_law 241 = .ok (.aload_n 0, 1) := by decide +kernel
theorem dL_law_242 : decode cL_law 242 = .ok (.iload_n 3, 1) := by decide +kernel
theorem dL_law_243 : decode cL_law 243 = .ok (.iconst 1, 1) := by decide +kernel
theorem dL_law_244 : decode cL_law 244 = .ok (.iadd, 1) := by decide +kernel
theorem dL_law_245 : decode cL_law 245 = .ok (.iaload, 1) := by decide +kernel
theorem dL_law_246 : decode cL_law 246 = .ok (.aload_n 0, 1) := by decide +kernel
theorem dL_law_247 : decode cL_law 247 = .ok (.iload_n 3, 1) := by decide +kernel
theorem dL_law_248 : decode cL_law 248 = .ok (.iconst 2, 1) := by decide +kernel
theorem dL_law_249 : decode cL_law 249 = .ok (.iadd, 1) := by decide +kernel
theorem dL_law_250 : decode cL_law 250 = .ok (.iaload, 1) := by decide +kernel
theorem dL_law_251 : decode cL_law 251 = .ok (.aload_n 0, 1) := by decide +kernel
theorem dL_law_252 : decode cL_law 252 = .ok (.iload_n 3, 1) := by decide +kernel
theorem dL_law_253 : decode cL_law 253 = .ok (.iconst 3, 1) := by decide +kernel
theorem dL_law_254 : decode cL_law 254 = .ok (.iadd, 1) := by decide +kernel
theorem dL_law_255 : decode cL_law 255 = .ok (.iaload, 1) := by decide +kernel
theorem dL_law_256 : decode cL_law 256 = .ok (.aload_n 0, 1) := by decide +kernel
theorem dL_law_257 : decode cL_law 257 = .ok (.iload_n 3, 1) := by decide +kernel
theorem dL_law_258 : decode cL_law 258 = .ok (.iconst 4, 1) := by decide +kernel
theorem dL_law_259 : decode cL_law 259 = .ok (.iadd, 1) := by decide +kernel
theorem dL_law_260 : decode cL_law 260 = .ok (.iaload, 1) := by decide +kernel
theorem dL_law_261 : decode cL_law 261 = .ok (.ifCond .eq 7, 3) := by decide +kernel
theorem dL_law_264 : decode cL_law 264 = .ok (.iconst 1, 1) := by decide +kernel
theorem dL_law_265 : decode cL_law 265 = .ok (.goto 4, 3) := by decide +kernel
theorem dL_law_268 : decode cL_law 268 = .ok (.iconst 0, 1) := by decide +kernel
theorem dL_law_269 : decode cL_law 269 = .ok (.invokevirtual 35, 3) := by decide +kernel
theorem dL_law_272 : decode cL_law 272 = .ok (.if_icmp .eq 176, 3) := by decide +kernel
theorem dL_law_275 : decode cL_law 275 = .ok (.iconst 0, 1) := by decide +kernel
theorem dL_law_276 : decode cL_law 276 = .ok (.ireturn, 1) := by decide +kernel
theorem dL_law_277 : decode cL_law 277 = .ok (.aload_n 1, 1) := by decide +kernel
theorem dL_law_278 : decode cL_law 278 = .ok (.aload_n 0, 1) := by decide +kernel
theorem dL_law_279 : decode cL_law 279 = .ok (.iload_n 3, 1) := by decide +kernel
theorem dL_law_280 : decode cL_law 280 = .ok (.iconst 1, 1) := by decide +kernel
theorem dL_law_281 : decode cL_law 281 = .ok (.iadd, 1) := by decide +kernel
theorem dL_law_282 : decode cL_law 282 = .ok (.iaload, 1) := by decide +kernel
theorem dL_law_283 : decode cL_law 283 = .ok (.invokevirtual 36, 3) := by decide +kernel
theorem dL_law_286 : decode cL_law 286 = .ok (.aload_n 2, 1) := by decide +kernel
theorem dL_law_287 : decode cL_law 287 = .ok (.aload_n 0, 1) := by decide +kernel
theorem dL_law_288 : decode cL_law 288 = .ok (.iload_n 3, 1) := by decide +kernel
theorem dL_law_289 : decode cL_law 289 = .ok (.iconst 1, 1) := by decide +kernel
theorem dL_law_290 : decode cL_law 290 = .ok (.iadd, 1) := by decide +kernel
theorem dL_law_291 : decode cL_law 291 = .ok (.iaload, 1) := by decide +kernel
theorem dL_law_292 : decode cL_law 292 = .ok (.invokevirtual 40, 3) := by decide +kernel
theorem dL_law_295 : decode cL_law 295 = .ok (.if_icmp .eq 153, 3) := by decide +kernel
theorem dL_law_298 : decode cL_law 298 = .ok (.iconst 0, 1) := by decide +kernel
theorem dL_law_299 : decode cL_law 299 = .ok (.ireturn, 1) := by decide +kernel
theorem dL_law_300 : decode cL_law 300 = .ok (.aload_n 1, 1) := by decide +kernel
theorem dL_law_301 : decode cL_law 301 = .ok (.aload_n 0, 1) := by decide +kernel
theorem dL_law_302 : decode cL_law 302 = .ok (.iload_n 3, 1) := by decide +kernel
theorem dL_law_303 : decode cL_law 303 = .ok (.iconst 1, 1) := by decide +kernel
theorem dL_law_304 : decode cL_law 304 = .ok (.iadd, 1) := by decide +kernel
theorem dL_law_305 : decode cL_law 305 = .ok (.iaload, 1) := by decide +kernel
theorem dL_law_306 : decode cL_law 306 = .ok (.invokevirtual 41, 3) := by decide +kernel
theorem dL_law_309 : decode cL_law 309 = .ok (.aload_n 2, 1) := by decide +kernel
theorem dL_law_310 : decode cL_law 310 = .ok (.aload_n 0, 1) := by decide +kernel
theorem dL_law_311 : decode cL_law 311 = .ok (.iload_n 3, 1) := by decide +kernel
theorem dL_law_312 : decode cL_law 312 = .ok (.iconst 1, 1) := by decide +kernel
theorem dL_law_313 : decode cL_law 313 = .ok (.iadd, 1) := by decide +kernel
theorem dL_law_314 : decode cL_law 314 = .ok (.iaload, 1) := by decide +kernel
theorem dL_law_315 : decode cL_law 315 = .ok (.invokevirtual 44, 3) := by decide +kernel
theorem dL_law_318 : decode cL_law 318 = .ok (.if_icmp .eq 130, 3) := by decide +kernel
theorem dL_law_321 : decode cL_law 321 = .ok (.iconst 0, 1) := by decide +kernel
theorem dL_law_322 : decode cL_law 322 = .ok (.ireturn, 1) := by decide +kernel
theorem dL_law_323 : decode cL_law 323 = .ok (.aload_n 1, 1) := by decide +kernel
theorem dL_law_324 : decode cL_law 324 = .ok (.invokevirtual 45, 3) := by decide +kernel
theorem dL_law_327 : decode cL_law 327 = .ok (.aload_n 2, 1) := by decide +kernel
theorem dL_law_328 : decode cL_law 328 = .ok (.invokevirtual 49, 3) := by decide +kernel
theorem dL_law_331 : decode cL_law 331 = .ok (.if_icmp .eq 117, 3) := by decide +kernel
theorem dL_law_334 : decode cL_law 334 = .ok (.iconst 0, 1) := by decide +kernel
theorem dL_law_335 : decode cL_law 335 = .ok (.ireturn, 1) := by decide +kernel
theorem dL_law_336 : decode cL_law 336 = .ok (.aload_n 1, 1) := by decide +kernel
theorem dL_law_337 : decode cL_law 337 = .ok (.aload_n 0, 1) := by decide +kernel
theorem dL_law_338 : decode cL_law 338 = .ok (.iload_n 3, 1) := by decide +kernel
theorem dL_law_339 : decode cL_law 339 = .ok (.iconst 1, 1) := by decide +kernel
theorem dL_law_340 : decode cL_law 340 = .ok (.iadd, 1) := by decide +kernel
theorem dL_law_341 : decode cL_law 341 = .ok (.iaload, 1) := by decide +kernel
theorem dL_law_342 : decode cL_law 342 = .ok (.invokevirtual 50, 3) := by decide +kernel
theorem dL_law_345 : decode cL_law 345 = .ok (.aload_n 2, 1) := by decide +kernel
theorem dL_law_346 : decode cL_law 346 = .ok (.aload_n 0, 1) := by decide +kernel
theorem dL_law_347 : decode cL_law 347 = .ok (.iload_n 3, 1) := by decide +kernel
theorem dL_law_348 : decode cL_law 348 = .ok (.iconst 1, 1) := by decide +kernel
theorem dL_law_349 : decode cL_law 349 = .ok (.iadd, 1) := by decide +kernel
theorem dL_law_350 : decode cL_law 350 = .ok (.iaload, 1) := by decide +kernel
theorem dL_law_351 : decode cL_law 351 = .ok (.invokevirtual 53, 3) := by decide +kernel
theorem dL_law_354 : decode cL_law 354 = .ok (.if_icmp .eq 94, 3) := by decide +kernel
theorem dL_law_357 : decode cL_law 357 = .ok (.iconst 0, 1) := by decide +kernel
theorem dL_law_358 : decode cL_law 358 = .ok (.ireturn, 1) := by decide +kernel
theorem dL_law_359 : decode cL_law 359 = .ok (.aload_n 1, 1) := by decide +kernel
theorem dL_law_360 : decode cL_law 360 = .ok (.aload_n 0, 1) := by decide +kernel
theorem dL_law_361 : decode cL_law 361 = .ok (.iload_n 3, 1) := by decide +kernel
theorem dL_law_362 : decode cL_law 362 = .ok (.iconst 1, 1) := by decide +kernel
theorem dL_law_363 : decode cL_law 363 = .ok (.iadd, 1) := by decide +kernel
theorem dL_law_364 : decode cL_law 364 = .ok (.iaload, 1) := by decide +kernel
theorem dL_law_365 : decode cL_law 365 = .ok (.invokevirtual 54, 3) := by decide +kernel
theorem dL_law_368 : decode cL_law 368 = .ok (.aload_n 2, 1) := by decide +kernel
theorem dL_law_369 : decode cL_law 369 = .ok (.aload_n 0, 1) := by decide +kernel
theorem dL_law_370 : decode cL_law 370 = .ok (.iload_n 3, 1) := by decide +kernel
theorem dL_law_371 : decode cL_law 371 = .ok (.iconst 1, 1) := by decide +kernel
theorem dL_law_372 : decode cL_law 372 = .ok (.iadd, 1) := by decide +kernel
theorem dL_law_373 : decode cL_law 373 = .ok (.iaload, 1) := by decide +kernel
theorem dL_law_374 : decode cL_law 374 = .ok (.invokevirtual 57, 3) := by decide +kernel
theorem dL_law_377 : decode cL_law 377 = .ok (.if_icmp .eq 71, 3) := by decide +kernel
theorem dL_law_380 : decode cL_law 380 = .ok (.iconst 0, 1) := by decide +kernel
theorem dL_law_381 : decode cL_law 381 = .ok (.ireturn, 1) := by decide +kernel
theorem dL_law_382 : decode cL_law 382 = .ok (.aload_n 1, 1) := by decide +kernel
theorem dL_law_383 : decode cL_law 383 = .ok (.aload_n 0, 1) := by decide +kernel
theorem dL_law_384 : decode cL_law 384 = .ok (.iload_n 3, 1) := by decide +kernel
theorem dL_law_385 : decode cL_law 385 = .ok (.iconst 1, 1) := by decide +kernel
theorem dL_law_386 : decode cL_law 386 = .ok (.iadd, 1) := by decide +kernel
theorem dL_law_387 : decode cL_law 387 = .ok (.iaload, 1) := by decide +kernel
theorem dL_law_388 : decode cL_law 388 = .ok (.invokevirtual 58, 3) := by decide +kernel
theorem dL_law_391 : decode cL_law 391 = .ok (.aload_n 2, 1) := by decide +kernel
theorem dL_law_392 : decode cL_law 392 = .ok (.aload_n 0, 1) := by decide +kernel
theorem dL_law_393 : decode cL_law 393 = .ok (.iload_n 3, 1) := by decide +kernel
theorem dL_law_394 : decode cL_law 394 = .ok (.iconst 1, 1) := by decide +kernel
theorem dL_law_395 : decode cL_law 395 = .ok (.iadd, 1) := by decide +kernel
theorem dL_law_396 : decode cL_law 396 = .ok (.iaload, 1) := by decide +kernel
theorem dL_law_397 : decode cL_law 397 = .ok (.invokevirtual 61, 3) := by decide +kernel
theorem dL_law_400 : decode cL_law 400 = .ok (.if_icmp .eq 48, 3) := by decide +kernel
theorem dL_law_403 : decode cL_law 403 = .ok (.iconst 0, 1) := by decide +kernel
theorem dL_law_404 : decode cL_law 404 = .ok (.ireturn, 1) := by decide +kernel
theorem dL_law_405 : decode cL_law 405 = .ok (.aload_n 1, 1) := by decide +kernel
theorem dL_law_406 : decode cL_law 406 = .ok (.aload_n 0, 1) := by decide +kernel
theorem dL_law_407 : decode cL_law 407 = .ok (.iload_n 3, 1) := by decide +kernel
theorem dL_law_408 : decode cL_law 408 = .ok (.iconst 1, 1) := by decide +kernel
theorem dL_law_409 : decode cL_law 409 = .ok (.iadd, 1) := by decide +kernel
theorem dL_law_410 : decode cL_law 410 = .ok (.iaload, 1) := by decide +kernel
theorem dL_law_411 : decode cL_law 411 = .ok (.aload_n 0, 1) := by decide +kernel
theorem dL_law_412 : decode cL_law 412 = .ok (.iload_n 3, 1) := by decide +kernel
theorem dL_law_413 : decode cL_law 413 = .ok (.iconst 2, 1) := by decide +kernel
theorem dL_law_414 : decode cL_law 414 = .ok (.iadd, 1) := by decide +kernel
theorem dL_law_415 : decode cL_law 415 = .ok (.iaload, 1) := by decide +kernel
theorem dL_law_416 : decode cL_law 416 = .ok (.aload_n 0, 1) := by decide +kernel
theorem dL_law_417 : decode cL_law 417 = .ok (.iload_n 3, 1) := by decide +kernel
theorem dL_law_418 : decode cL_law 418 = .ok (.iconst 3, 1) := by decide +kernel
theorem dL_law_419 : decode cL_law 419 = .ok (.iadd, 1) := by decide +kernel
theorem dL_law_420 : decode cL_law 420 = .ok (.iaload, 1) := by decide +kernel
theorem dL_law_421 : decode cL_law 421 = .ok (.invokevirtual 62, 3) := by decide +kernel
theorem dL_law_424 : decode cL_law 424 = .ok (.aload_n 2, 1) := by decide +kernel
theorem dL_law_425 : decode cL_law 425 = .ok (.aload_n 0, 1) := by decide +kernel
theorem dL_law_426 : decode cL_law 426 = .ok (.iload_n 3, 1) := by decide +kernel
theorem dL_law_427 : decode cL_law 427 = .ok (.iconst 1, 1) := by decide +kernel
theorem dL_law_428 : decode cL_law 428 = .ok (.iadd, 1) := by decide +kernel
theorem dL_law_429 : decode cL_law 429 = .ok (.iaload, 1) := by decide +kernel
theorem dL_law_430 : decode cL_law 430 = .ok (.aload_n 0, 1) := by decide +kernel
theorem dL_law_431 : decode cL_law 431 = .ok (.iload_n 3, 1) := by decide +kernel
theorem dL_law_432 : decode cL_law 432 = .ok (.iconst 2, 1) := by decide +kernel
theorem dL_law_433 : decode cL_law 433 = .ok (.iadd, 1) := by decide +kernel
theorem dL_law_434 : decode cL_law 434 = .ok (.iaload, 1) := by decide +kernel
theorem dL_law_435 : decode cL_law 435 = .ok (.aload_n 0, 1) := by decide +kernel
theorem dL_law_436 : decode cL_law 436 = .ok (.iload_n 3, 1) := by decide +kernel
theorem dL_law_437 : decode cL_law 437 = .ok (.iconst 3, 1) := by decide +kernel
theorem dL_law_438 : decode cL_law 438 = .ok (.iadd, 1) := by decide +kernel
theorem dL_law_439 : decode cL_law 439 = .ok (.iaload, 1) := by decide +kernel
theorem dL_law_440 : decode cL_law 440 = .ok (.invokevirtual 66, 3) := by decide +kernel
theorem dL_law_443 : decode cL_law 443 = .ok (.if_icmp .eq 5, 3) := by decide +kernel
theorem dL_law_446 : decode cL_law 446 = .ok (.iconst 0, 1) := by decide +kernel
theorem dL_law_447 : decode cL_law 447 = .ok (.ireturn, 1) := by decide +kernel
theorem dL_law_448 : decode cL_law 448 = .ok (.iinc 3 5, 3) := by decide +kernel
theorem dL_law_451 : decode cL_law 451 = .ok (.goto (-433), 3) := by decide +kernel
theorem dL_law_454 : decode cL_law 454 = .ok (.iconst 1, 1) := by decide +kernel
theorem dL_law_455 : decode cL_law 455 = .ok (.ireturn, 1) := by decide +kernel
end
section
/-! THE WORLD AS A PARTIAL MAP: h a = some e: the cell a holds e. Rows of the kit, said of such a map; contracts over it. -/
def wu (h : Nat → Option va_E) (a : Nat) (e : va_E) : Nat → Option va_E := fun q => if q = a then some e else h q
theorem wu_s (h : Nat → Option va_E) (a : Nat) (e : va_E) : wu h a e a = some e := by simp [wu]
theorem wu_n {h : Nat → Option va_E} {a q : Nat} {e : va_E} (hq : q ≠ a) : wu h a e q = h q := by simp [wu, hq]
theorem wu_uu (h : Nat → Option va_E) (a : Nat) (e e2 : va_E) : wu (wu h a e) a e2 = wu h a e2 := by
  funext q; by_cases hq : q = a <;> simp [wu, hq]
theorem wu_id {h : Nat → Option va_E} {a : Nat} {e : va_E} (ha : h a = some e) : wu h a e = h := by
  funext q; by_cases hq : q = a
  · subst hq; simp [wu, ha]
  · simp [wu, hq]
/-- the map is the list of cells -/
def wI (h : Nat → Option va_E) (ws : va_W) : Prop := ∀ (a : Nat) (e : va_E), h a = some e ↔ (a, e) ∈ ws
/-- what a method that has the world h may change: its cells, and new ones -/
def wA (h : Nat → Option va_E) (sz : Nat) : Nat → Prop := fun q => h q ≠ none ∨ sz ≤ q
def wP (D : va_G) (A : Nat → Prop) (h : Nat → Option va_E) (H : Heap) : Prop := ∃ ws : va_W, va_P D vwCl ws H ∧ va_D A ws ∧ wI h ws
abbrev GG : Type := va_G × ClassId × ClassId × Nat × Nat × Nat
/-- arrays of references, of ints -/
abbrev arO (g : GG) (n : Nat) (f : Nat → Option Nat) : va_E := .inl (g.2.1, n, .inr (.inr (.inr (.inr f))))
abbrev arI (g : GG) (n : Nat) (f : Nat → Int32) : va_E := .inl (g.2.2.1, n, .inl f)
abbrev tysG (g : GG) : List (ClassId × FieldType) := [(g.2.1, .object "java/lang/Object"), (g.2.2.1, .int)]
abbrev gZ (g : GG) : Nat := g.2.2.2.1
abbrev gT (g : GG) : Nat := g.2.2.2.2.1
abbrev gM (g : GG) : Nat := g.2.2.2.2.2
def bbTab : List Int32 := [0, 1, 1, 2, 2, 4, 4, 8, 8, 4, 8]
def nwIs : Cond → Bool
  | .castable _ _ => true
  | .fieldLinkNest _ _ _ _ _ _ => true
  | .methodLinkNest _ _ _ _ => true
  | _ => false
def nwL : List Cond := [.fieldLinkNest "LayoutDesk" 110 "LayoutDesk$Compound" "members" "Ljava/util/ArrayList;" "LayoutDesk", .fieldLinkNest "LayoutDesk" 124 "LayoutDesk$Compound" "open" "Z" "LayoutDesk", .fieldLinkNest "LayoutDesk" 116 "LayoutDesk$Compound" "reach" "I" "LayoutDesk", .fieldLinkNest "LayoutDesk" 107 "LayoutDesk$Compound" "unitPlace" "I" "LayoutDesk", .fieldLinkNest "LayoutDesk" 98 "LayoutDesk$Compound" "freeBits" "I" "LayoutDesk", .methodLinkNest "LayoutDesk$Compound" 39 ⟨"LayoutDesk", "roundUp", "(II)I"⟩ "LayoutDesk", .fieldLinkNest "LayoutDesk" 139 "LayoutDesk$Member" "place" "I" "LayoutDesk", .fieldLinkNest "LayoutDesk" 142 "LayoutDesk$Member" "type" "I" "LayoutDesk", .fieldLinkNest "LayoutDesk" 145 "LayoutDesk$Member" "lowestBit" "I" "LayoutDesk", .fieldLinkNest "LayoutDesk" 148 "LayoutDesk$Member" "width" "I" "LayoutDesk", .castable "LayoutDesk$Compound" "LayoutDesk$Type", .castable "LayoutDesk$Simple" "LayoutDesk$Type", .castable "LayoutDesk$Simple" "LayoutDesk$Simple", .castable "LayoutDesk$Compound" "LayoutDesk$Compound", .castable "LayoutDesk$Member" "LayoutDesk$Member", .castable "LayoutDeskModel$Type" "LayoutDeskModel$Type", .castable "LayoutDeskModel$Added" "LayoutDeskModel$Added", .castable "LayoutDesk" "java/lang/Object", .castable "LayoutDesk$Simple" "java/lang/Object", .castable "LayoutDeskModel" "java/lang/Object", .castable "LayoutDeskModel$Type" "java/lang/Object", .castable "LayoutDesk$Compound" "java/lang/Object", .castable "LayoutDesk$Member" "java/lang/Object", .castable "LayoutDeskModel$Added" "java/lang/Object"]
def ncL : List (String × String) := [("LayoutDesk$Compound", "LayoutDesk$Simple"), ("LayoutDesk$Simple", "LayoutDesk$Compound")]
/-- what the start gives of statics and tables, that the words of a method don't hold -/
def St (g : GG) (A : Nat → Prop) (U : State) (H : Heap) : Prop :=
  va_Z "java/util/ArrayList" "DEFAULTCAPACITY_EMPTY_ELEMENTDATA" "[Ljava/lang/Object;" (.ref (gZ g)) A U H ∧ va_T (.object "java/lang/Object") (gZ g) 0 (fun _ => .null) A U H ∧
  va_Z "LayoutDesk" "BASIC_BYTES" "[I" (.ref (gT g)) A U H ∧ va_T .int (gT g) 11 (fun j => .int (bbTab.getD j 0)) A U H ∧
  va_Mi "[Ljava/lang/Object;" (gM g) U ∧ va_Dc U ∧ va_AO "java/lang/Object" U ∧ (∀ w ∈ nwL, va_Nw w U) ∧ ∀ q ∈ ncL, va_Nc q.1 q.2 U
theorem nw_warm {w : Cond} (hw : nwIs w = true) {s U : State} (hW : s.WarmedH U.vm) (h : va_Nw w s) : va_Nw w U := by
  cases w with
  | castable C T => exact va_Nw.warmC hW h
  | fieldLinkNest a i b n d k => exact va_Nw.warmF hW h
  | methodLinkNest a i x k => exact va_Nw.warmM hW h
  | _ => cases hw
theorem nw_on {w : Cond} (hw : nwIs w = true) : w.onTables = true := by
  cases w with
  | castable C T => rfl
  | fieldLinkNest a i b n d k => rfl
  | methodLinkNest a i x k => rfl
  | _ => cases hw
theorem nwL_is : ∀ w ∈ nwL, nwIs w = true := by
  intro w hw
  exact List.all_eq_true.mp (by decide +kernel : nwL.all nwIs = true) w hw
theorem St_call {g : GG} {A B : Nat → Prop} {s U : State} {H : Heap} (h : St g A s s.heap) (hW : s.WarmedH U.vm) (hq : ∀ a : Nat, a < s.heap.size → ¬ A a → H[a]? = s.heap[a]?) (hAB : ∀ q, B q → A q) : St g B U H := by
  obtain ⟨h1, h2, h3, h4, h5, h6, h7, h8, h9⟩ := h
  exact ⟨((h1.kept hq).moved hW.alike).narrow hAB, ((h2.kept hq).moved hW.alike).narrow hAB, ((h3.kept hq).moved hW.alike).narrow hAB, ((h4.kept hq).moved hW.alike).narrow hAB, h5.moved hW.alike, h6.moved hW.alike, h7.moved hW.alike, fun w hw => nw_warm (nwL_is w hw) hW (h8 w hw), fun q hq => (h9 q hq).moved hW.alike⟩
theorem St_same {g : GG} {A : Nat → Prop} {u U : State} {H : Heap} (h : St g A u H) (hv : u.vm = U.vm) : St g A U H := by
  obtain ⟨h1, h2, h3, h4, h5, h6, h7, h8, h9⟩ := h
  have ha : u.vm.Alike U.vm := by rw [hv]; exact Vm.Alike.refl _
  exact ⟨h1.moved ha, h2.moved ha, h3.moved ha, h4.moved ha, h5.moved ha, h6.moved ha, h7.moved ha, fun w hw => va_Nw.same (nw_on (nwL_is w hw)) hv (h8 w hw), fun q hq => (h9 q hq).moved ha⟩
def wd (g : GG) (A : Nat → Prop) (s : State) (h : Nat → Option va_E) (H : Heap) (locs : List Loc) : Prop :=
  va_K g.1 vwCl (tysG g) s ∧ wP g.1 A h H ∧ va_S A s.heap H locs ∧ (∀ q : Nat, s.heap.size ≤ q → A q) ∧ St g A s s.heap
theorem wI_set {h : Nat → Option va_E} {ws : va_W} {A : Nat → Prop} {k a : Nat} {e0 e : va_E} (hI : wI h ws) (hD : va_D A ws) (hk : ws[k]? = some (a, e0)) : wI (wu h a e) (ws.set k (a, e)) := by
  have hl : k < ws.length := (List.getElem?_eq_some_iff.mp hk).1
  intro b e'
  constructor
  · intro hb
    by_cases hq : b = a
    · subst hq
      rw [wu_s] at hb
      cases hb
      exact List.mem_iff_getElem?.mpr ⟨k, by rw [List.getElem?_set_self hl]⟩
    · rw [wu_n hq] at hb
      obtain ⟨j, hj⟩ := List.mem_iff_getElem?.mp ((hI b e').mp hb)
      refine List.mem_iff_getElem?.mpr ⟨j, ?_⟩
      rw [List.getElem?_set_ne]
      · exact hj
      · intro hkj
        subst hkj
        rw [hk] at hj
        cases hj
        exact hq rfl
  · intro hb
    obtain ⟨j, hj⟩ := List.mem_iff_getElem?.mp hb
    by_cases hkj : k = j
    · subst hkj
      rw [List.getElem?_set_self hl] at hj
      cases hj
      exact wu_s _ _ _
    · rw [List.getElem?_set_ne hkj] at hj
      have hq : b ≠ a := fun q => by
        subst q
        exact hkj (hD.1 k j _ _ hk hj rfl)
      rw [wu_n hq]
      exact (hI b e').mpr (List.mem_of_getElem? hj)
theorem wI_push {h : Nat → Option va_E} {ws : va_W} {A : Nat → Prop} {a : Nat} {e : va_E} (hI : wI h ws) (hD : va_D A (ws ++ [(a, e)])) : h a = none ∧ wI (wu h a e) (ws ++ [(a, e)]) := by
  have hl : (ws ++ [(a, e)])[ws.length]? = some (a, e) := by simp
  have h0 : ∀ e', (a, e') ∉ ws := by
    intro e' hm
    obtain ⟨j, hj⟩ := List.mem_iff_getElem?.mp hm
    have hjl : j < ws.length := (List.getElem?_eq_some_iff.mp hj).1
    have := hD.1 j ws.length (a, e') (a, e) (by rw [List.getElem?_append_left hjl]; exact hj) hl rfl
    omega
  refine ⟨?_, ?_⟩
  · cases hh : h a with
    | none => rfl
    | some e' => exact absurd ((hI a e').mp hh) (h0 e')
  · intro b e'
    by_cases hq : b = a
    · subst hq
      rw [wu_s]
      constructor
      · intro hb
        cases hb
        simp
      · intro hb
        rcases List.mem_append.mp hb with hm | hm
        · exact absurd hm (h0 e')
        · rw [List.mem_singleton] at hm
          cases hm
          rfl
    · rw [wu_n hq, hI b e']
      constructor
      · intro hb
        exact List.mem_append_left _ hb
      · intro hb
        rcases List.mem_append.mp hb with hm | hm
        · exact hm
        · rw [List.mem_singleton] at hm
          cases hm
          exact absurd rfl hq
theorem wP_A {D : va_G} {A : Nat → Prop} {h : Nat → Option va_E} {H : Heap} (hw : wP D A h H) {a : Nat} {e : va_E} (ha : h a = some e) : A a ∧ va_at D vwCl (a, e) H := by
  obtain ⟨ws, hP, hD, hI⟩ := hw
  obtain ⟨k, hk⟩ := List.mem_iff_getElem?.mp ((hI a e).mp ha)
  exact ⟨hD.2 k _ hk, hP k _ hk⟩
theorem wP_weaken {D : va_G} {A B : Nat → Prop} {h : Nat → Option va_E} {H : Heap} (hw : wP D A h H) (hAB : ∀ q, A q → B q) : wP D B h H := by
  obtain ⟨ws, hP, hD, hI⟩ := hw
  exact ⟨ws, hP, hD.weaken (fun _ q _ hq => hAB q.1 hq), hI⟩
theorem wP_self {D : va_G} {A : Nat → Prop} {h : Nat → Option va_E} {H : Heap} (hw : wP D A h H) (sz : Nat) : wP D (wA h sz) h H := by
  obtain ⟨ws, hP, hD, hI⟩ := hw
  refine ⟨ws, hP, hD.weaken (fun k q hk _ => Or.inl ?_), hI⟩
  rw [(hI q.1 q.2).mpr (List.mem_of_getElem? hk)]
  exact fun z => by cases z
theorem wd_free {g : GG} {A : Nat → Prop} {s : State} {h : Nat → Option va_E} {H : Heap} {locs : List Loc} (hw : wd g A s h H locs) : ∀ q, wA h H.size q → A q := by
  obtain ⟨hK, hP, hS, hA, hZ⟩ := hw
  intro q hq
  rcases hq with hq | hq
  · cases hh : h q with
    | none => exact absurd hh hq
    | some e => exact (wP_A hP hh).1
  · exact hA q (Nat.le_trans hS.1 hq)
section WB
variable {p : Program} {l : Launch} {e : Env} {R : Room} {s : State} {m : MethodId} {args : Array Value} {below : List Frame} {meth : Method} {c : Code} {H : Heap} {locs : List Loc} {cells slots : Nat} {Q : State → Prop}
variable {cc : ByteArray} {pc : Nat} {ls : Array Slot} {rest : List Value} {g : GG} {A : Nat → Prop} {a : Nat} {h : Nat → Option va_E}
theorem w_get (hx : p.tables.exec = Jvm.exec) (hb : c.code = cc) {own ref C : String} {T : u_T} {N ci index : Nat} {Ts : List Cond} (hts : ∀ w ∈ Ts, w.before args s = true) (hin : ∀ w ∈ u_ws C T N, w ∈ Ts) (hown : s.vm.findClass own = some m.cls) (hw : wd g A s h H locs) {fs : List Value} (ha : h a = some (.inr (ci, fs))) (hc : vwCl[ci]? = some (C, T, N)) (k : Nat) (hk : k < N) (hlink : (Cond.fieldLink own index ref (T k).2.1 (T k).2.2.1).before args s = true) (hsame : ∀ x, s.fieldFound? (T k).1 (T k).2.1 (T k).2.2.1 = some x → s.fieldFound? ref (T k).2.1 (T k).2.2.1 = some x) {v : Value} (hv : fs[k]? = some v) (hdg : decode cc pc = .ok (.getfield index, 3))
    (kk : W p l e R s m args below meth c H locs cells slots Q (F0 m (pc + 3) ls (v :: rest))) : W p l e R s m args below meth c H locs cells slots Q (F0 m pc ls (.ref a :: rest)) := by
  obtain ⟨hK, ⟨ws, hP, hD, hI⟩, hS, hA, hZ⟩ := hw
  obtain ⟨k0, hk0⟩ := List.mem_iff_getElem?.mp ((hI _ _).mp ha)
  exact va_get hx hb hts hin hown hK hP k0 hk0 hc k hk hlink hsame hv hdg kk
theorem w_getN (hx : p.tables.exec = Jvm.exec) (hb : c.code = cc) {own ref C host : String} {T : u_T} {N ci index : Nat} {Ts : List Cond} (hts : ∀ w ∈ Ts, w.before args s = true) (hin : ∀ w ∈ u_ws C T N, w ∈ Ts) (hown : s.vm.findClass own = some m.cls) (hw : wd g A s h H locs) {fs : List Value} (ha : h a = some (.inr (ci, fs))) (hc : vwCl[ci]? = some (C, T, N)) (k : Nat) (hk : k < N) (hlink : (Cond.fieldLinkNest own index ref (T k).2.1 (T k).2.2.1 host).before args s = true) (hsame : ∀ x, s.fieldFound? (T k).1 (T k).2.1 (T k).2.2.1 = some x → s.fieldFound? ref (T k).2.1 (T k).2.2.1 = some x) {v : Value} (hv : fs[k]? = some v) (hdg : decode cc pc = .ok (.getfield index, 3))
    (kk : W p l e R s m args below meth c H locs cells slots Q (F0 m (pc + 3) ls (v :: rest))) : W p l e R s m args below meth c H locs cells slots Q (F0 m pc ls (.ref a :: rest)) := by
  obtain ⟨hK, ⟨ws, hP, hD, hI⟩, hS, hA, hZ⟩ := hw
  obtain ⟨k0, hk0⟩ := List.mem_iff_getElem?.mp ((hI _ _).mp ha)
  exact va_getN hx hb hts hin hown hK hP k0 hk0 hc k hk hlink hsame hv hdg kk
theorem w_put (hx : p.tables.exec = Jvm.exec) (hb : c.code = cc) {own ref C : String} {T : u_T} {N ci index : Nat} {Ts : List Cond} (hts : ∀ w ∈ Ts, w.before args s = true) (hin : ∀ w ∈ u_ws C T N, w ∈ Ts) (ty0 : Nat → FieldType) (hty : ∀ k, k < N → parseFieldDescriptor (T k).2.2.1 = some (ty0 k)) (hnm : ∀ a, a < N → ∀ b, b < N → a ≠ b → (T a).2.1 ≠ (T b).2.1) (hown : s.vm.findClass own = some m.cls) (hw : wd g A s h H locs) {fs : List Value} (ha : h a = some (.inr (ci, fs))) (hc : vwCl[ci]? = some (C, T, N)) (k : Nat) (hk : k < N) (hlink : (Cond.fieldLink own index ref (T k).2.1 (T k).2.2.1).before args s = true) (hsame : ∀ x, s.fieldFound? (T k).1 (T k).2.1 (T k).2.2.1 = some x → s.fieldFound? ref (T k).2.1 (T k).2.2.1 = some x) (hfin : (T k).2.2.2 = false) {ty : FieldType} {v : Value} (hd : parseFieldDescriptor (T k).2.2.1 = some ty) (hn : narrow ty v = v) (hfit : fits ty v = true) (hl : k < fs.length) {fs' : List Value} (hfs : fs.set k v = fs')
    (hdg : decode cc pc = .ok (.putfield index, 3)) (kk : ∀ (H1 : Heap) (locs1 : List Loc), wd g A s (wu h a (.inr (ci, fs'))) H1 locs1 → W p l e R s m args below meth c H1 locs1 cells slots Q (F0 m (pc + 3) ls rest)) : W p l e R s m args below meth c H locs cells slots Q (F0 m pc ls (v :: .ref a :: rest)) := by
  obtain ⟨hK, ⟨ws, hP, hD, hI⟩, hS, hA, hZ⟩ := hw
  obtain ⟨k0, hk0⟩ := List.mem_iff_getElem?.mp ((hI _ _).mp ha)
  subst hfs
  exact va_put hx hb hts hin ty0 hty hnm hown hK hP hD hS k0 hk0 hc k hk hlink hsame hfin hd hn hfit hl hdg (fun H1 locs1 hP1 hD1 hS1 => kk H1 locs1 ⟨hK, ⟨_, hP1, hD1, wI_set hI hD hk0⟩, hS1, hA, hZ⟩)
theorem w_putF (hx : p.tables.exec = Jvm.exec) (hb : c.code = cc) {own ref C : String} {T : u_T} {N ci index : Nat} {Ts : List Cond} (hts : ∀ w ∈ Ts, w.before args s = true) (hin : ∀ w ∈ u_ws C T N, w ∈ Ts) (ty0 : Nat → FieldType) (hty : ∀ k, k < N → parseFieldDescriptor (T k).2.2.1 = some (ty0 k)) (hnm : ∀ a, a < N → ∀ b, b < N → a ≠ b → (T a).2.1 ≠ (T b).2.1) (hown : s.vm.findClass own = some m.cls) (hw : wd g A s h H locs) {fs : List Value} (ha : h a = some (.inr (ci, fs))) (hc : vwCl[ci]? = some (C, T, N)) (k : Nat) (hk : k < N) (hlink : (Cond.fieldLink own index ref (T k).2.1 (T k).2.2.1).before args s = true) (hsame : ∀ x, s.fieldFound? (T k).1 (T k).2.1 (T k).2.2.1 = some x → s.fieldFound? ref (T k).2.1 (T k).2.2.1 = some x) (hfin : (T k).2.2.2 = true) (hin2 : meth.name = "<init>") (hdecl : (T k).1 = own) {ty : FieldType} {v : Value} (hd : parseFieldDescriptor (T k).2.2.1 = some ty) (hn : narrow ty v = v) (hfit : fits ty v = true) (hl : k < fs.length) {fs' : List Value} (hfs : fs.set k v = fs')
    (hdg : decode cc pc = .ok (.putfield index, 3)) (kk : ∀ (H1 : Heap) (locs1 : List Loc), wd g A s (wu h a (.inr (ci, fs'))) H1 locs1 → W p l e R s m args below meth c H1 locs1 cells slots Q (F0 m (pc + 3) ls rest)) : W p l e R s m args below meth c H locs cells slots Q (F0 m pc ls (v :: .ref a :: rest)) := by
  obtain ⟨hK, ⟨ws, hP, hD, hI⟩, hS, hA, hZ⟩ := hw
  obtain ⟨k0, hk0⟩ := List.mem_iff_getElem?.mp ((hI _ _).mp ha)
  subst hfs
  exact va_putF hx hb hts hin ty0 hty hnm hown hK hP hD hS k0 hk0 hc k hk hlink hsame hfin hin2 hdecl hd hn hfit hl hdg (fun H1 locs1 hP1 hD1 hS1 => kk H1 locs1 ⟨hK, ⟨_, hP1, hD1, wI_set hI hD hk0⟩, hS1, hA, hZ⟩)
theorem w_putN (hx : p.tables.exec = Jvm.exec) (hb : c.code = cc) {own ref C host : String} {T : u_T} {N ci index : Nat} {Ts : List Cond} (hts : ∀ w ∈ Ts, w.before args s = true) (hin : ∀ w ∈ u_ws C T N, w ∈ Ts) (ty0 : Nat → FieldType) (hty : ∀ k, k < N → parseFieldDescriptor (T k).2.2.1 = some (ty0 k)) (hnm : ∀ a, a < N → ∀ b, b < N → a ≠ b → (T a).2.1 ≠ (T b).2.1) (hown : s.vm.findClass own = some m.cls) (hw : wd g A s h H locs) {fs : List Value} (ha : h a = some (.inr (ci, fs))) (hc : vwCl[ci]? = some (C, T, N)) (k : Nat) (hk : k < N) (hlink : (Cond.fieldLinkNest own index ref (T k).2.1 (T k).2.2.1 host).before args s = true) (hsame : ∀ x, s.fieldFound? (T k).1 (T k).2.1 (T k).2.2.1 = some x → s.fieldFound? ref (T k).2.1 (T k).2.2.1 = some x) (hfin : (T k).2.2.2 = false) {ty : FieldType} {v : Value} (hd : parseFieldDescriptor (T k).2.2.1 = some ty) (hn : narrow ty v = v) (hfit : fits ty v = true) (hl : k < fs.length) {fs' : List Value} (hfs : fs.set k v = fs')
    (hdg : decode cc pc = .ok (.putfield index, 3)) (kk : ∀ (H1 : Heap) (locs1 : List Loc), wd g A s (wu h a (.inr (ci, fs'))) H1 locs1 → W p l e R s m args below meth c H1 locs1 cells slots Q (F0 m (pc + 3) ls rest)) : W p l e R s m args below meth c H locs cells slots Q (F0 m pc ls (v :: .ref a :: rest)) := by
  obtain ⟨hK, ⟨ws, hP, hD, hI⟩, hS, hA, hZ⟩ := hw
  obtain ⟨k0, hk0⟩ := List.mem_iff_getElem?.mp ((hI _ _).mp ha)
  subst hfs
  exact va_putN hx hb hts hin ty0 hty hnm hown hK hP hD hS k0 hk0 hc k hk hlink hsame hfin hd hn hfit hl hdg (fun H1 locs1 hP1 hD1 hS1 => kk H1 locs1 ⟨hK, ⟨_, hP1, hD1, wI_set hI hD hk0⟩, hS1, hA, hZ⟩)
theorem w_new (hx : p.tables.exec = Jvm.exec) (hb : c.code = cc) {own C : String} {T : u_T} {N ci index : Nat} {Ts : List Cond} (hts : ∀ w ∈ Ts, w.before args s = true) (hin : ∀ w ∈ u_ws C T N, w ∈ Ts) (ty : Nat → FieldType) (hty : ∀ k, k < N → parseFieldDescriptor (T k).2.2.1 = some (ty k)) (hown : s.vm.findClass own = some m.cls) (hcl : (Cond.classLink own index C).before args s = true) (hinst : (Cond.instantiable C N).before args s = true) (hini : (Cond.initialized C).before args s = true)
    (hw : wd g A s h H locs) (hc : vwCl[ci]? = some (C, T, N)) {fs : List Value} (hfs : ∀ j, j < N → defaultValue (ty j) = vp_V fs j) (hcells : cells + 1 ≤ R.cells) (hslots : slots + N ≤ R.slots) (hdg : decode cc pc = .ok (.new index, 3))
    (kk : ∀ (q : Nat) (H1 : Heap), h q = none → wd g A s (wu h q (.inr (ci, fs))) H1 locs → W p l e R s m args below meth c H1 locs (cells + 1) (slots + N) Q (F0 m (pc + 3) ls (.ref q :: rest))) : W p l e R s m args below meth c H locs cells slots Q (F0 m pc ls rest) := by
  obtain ⟨hK, ⟨ws, hP, hD, hI⟩, hS, hA, hZ⟩ := hw
  exact va_new hx hb hts hin ty hty hown hcl hinst hini hK hP hD hS hA hc hfs hcells hslots hdg (fun q H1 hP1 hD1 hS1 => kk q H1 (wI_push hI hD1).1 ⟨hK, ⟨_, hP1, hD1, (wI_push hI hD1).2⟩, hS1, hA, hZ⟩)
theorem w_alenO (hx : p.tables.exec = Jvm.exec) (hb : c.code = cc) (hw : wd g A s h H locs) {n : Nat} {f : Nat → Option Nat} (ha : h a = some (arO g n f)) {v : Int32} (hv : nI n = v) (hdg : decode cc pc = .ok (.arraylength, 1))
    (kk : W p l e R s m args below meth c H locs cells slots Q (F0 m (pc + 1) ls (.int v :: rest))) : W p l e R s m args below meth c H locs cells slots Q (F0 m pc ls (.ref a :: rest)) := by
  obtain ⟨hK, ⟨ws, hP, hD, hI⟩, hS, hA, hZ⟩ := hw
  obtain ⟨k0, hk0⟩ := List.mem_iff_getElem?.mp ((hI _ _).mp ha)
  exact va_alen hx hb hK hP k0 0 hk0 rfl hv hdg kk
theorem w_aald (hx : p.tables.exec = Jvm.exec) (hb : c.code = cc) (hw : wd g A s h H locs) {n : Nat} {f : Nat → Option Nat} (ha : h a = some (arO g n f)) {i : Int32} (hin : vp_in i n) (hdg : decode cc pc = .ok (.aaload, 1))
    (kk : W p l e R s m args below meth c H locs cells slots Q (F0 m (pc + 1) ls (va_rf (f i.toNatClampNeg) :: rest))) : W p l e R s m args below meth c H locs cells slots Q (F0 m pc ls (.int i :: .ref a :: rest)) := by
  obtain ⟨hK, ⟨ws, hP, hD, hI⟩, hS, hA, hZ⟩ := hw
  obtain ⟨k0, hk0⟩ := List.mem_iff_getElem?.mp ((hI _ _).mp ha)
  exact va_aldq hx hb hK hP k0 0 hk0 rfl hin hdg kk
theorem w_iald (hx : p.tables.exec = Jvm.exec) (hb : c.code = cc) (hw : wd g A s h H locs) {n : Nat} {f : Nat → Int32} (ha : h a = some (arI g n f)) {i : Int32} (hin : vp_in i n) (hdg : decode cc pc = .ok (.iaload, 1))
    (kk : W p l e R s m args below meth c H locs cells slots Q (F0 m (pc + 1) ls (.int (f i.toNatClampNeg) :: rest))) : W p l e R s m args below meth c H locs cells slots Q (F0 m pc ls (.int i :: .ref a :: rest)) := by
  obtain ⟨hK, ⟨ws, hP, hD, hI⟩, hS, hA, hZ⟩ := hw
  obtain ⟨k0, hk0⟩ := List.mem_iff_getElem?.mp ((hI _ _).mp ha)
  exact va_iald hx hb hK hP k0 1 hk0 rfl hin hdg kk
theorem w_iast (hx : p.tables.exec = Jvm.exec) (hb : c.code = cc) (hw : wd g A s h H locs) {n : Nat} {f : Nat → Int32} (ha : h a = some (arI g n f)) {i x : Int32} (hin : vp_in i n) (hdg : decode cc pc = .ok (.iastore, 1))
    (kk : ∀ (H1 : Heap) (locs1 : List Loc), wd g A s (wu h a (arI g n (upd f i.toNatClampNeg x))) H1 locs1 → W p l e R s m args below meth c H1 locs1 cells slots Q (F0 m (pc + 1) ls rest)) : W p l e R s m args below meth c H locs cells slots Q (F0 m pc ls (.int x :: .int i :: .ref a :: rest)) := by
  obtain ⟨hK, ⟨ws, hP, hD, hI⟩, hS, hA, hZ⟩ := hw
  obtain ⟨k0, hk0⟩ := List.mem_iff_getElem?.mp ((hI _ _).mp ha)
  exact va_iast hx hb hK hP hD hS k0 1 hk0 rfl hin hdg (fun H1 locs1 hP1 hD1 hS1 => kk H1 locs1 ⟨hK, ⟨_, hP1, hD1, wI_set hI hD hk0⟩, hS1, hA, hZ⟩)
theorem w_aast (hx : p.tables.exec = Jvm.exec) (hb : c.code = cc) (hw : wd g A s h H locs) {n v : Nat} {f : Nat → Option Nat} (ha : h a = some (arO g n f)) (hr : va_Any "java/lang/Object" s H v) {i : Int32} (hin : vp_in i n) (hdg : decode cc pc = .ok (.aastore, 1))
    (kk : ∀ (H1 : Heap) (locs1 : List Loc), wd g A s (wu h a (arO g n (va_up f i.toNatClampNeg (some v)))) H1 locs1 → W p l e R s m args below meth c H1 locs1 cells slots Q (F0 m (pc + 1) ls rest)) : W p l e R s m args below meth c H locs cells slots Q (F0 m pc ls (.ref v :: .int i :: .ref a :: rest)) := by
  obtain ⟨hK, ⟨ws, hP, hD, hI⟩, hS, hA, hZ⟩ := hw
  obtain ⟨k0, hk0⟩ := List.mem_iff_getElem?.mp ((hI _ _).mp ha)
  exact va_astqM hx hb hK hP hD hS k0 0 hk0 rfl hr hin hdg (fun H1 locs1 hP1 hD1 hS1 => kk H1 locs1 ⟨hK, ⟨_, hP1, hD1, wI_set hI hD hk0⟩, hS1, hA, hZ⟩)
theorem w_aastN (hx : p.tables.exec = Jvm.exec) (hb : c.code = cc) (hw : wd g A s h H locs) {n : Nat} {f : Nat → Option Nat} (ha : h a = some (arO g n f)) {i : Int32} (hin : vp_in i n) (hdg : decode cc pc = .ok (.aastore, 1))
    (kk : ∀ (H1 : Heap) (locs1 : List Loc), wd g A s (wu h a (arO g n (va_up f i.toNatClampNeg none))) H1 locs1 → W p l e R s m args below meth c H1 locs1 cells slots Q (F0 m (pc + 1) ls rest)) : W p l e R s m args below meth c H locs cells slots Q (F0 m pc ls (.null :: .int i :: .ref a :: rest)) := by
  obtain ⟨hK, ⟨ws, hP, hD, hI⟩, hS, hA, hZ⟩ := hw
  obtain ⟨k0, hk0⟩ := List.mem_iff_getElem?.mp ((hI _ _).mp ha)
  exact va_astqN hx hb hK hP hD hS k0 0 hk0 rfl hin hdg (fun H1 locs1 hP1 hD1 hS1 => kk H1 locs1 ⟨hK, ⟨_, hP1, hD1, wI_set hI hD hk0⟩, hS1, hA, hZ⟩)
/-- a new array of references, its class being the one that the tables know -/
theorem w_newq (hx : p.tables.exec = Jvm.exec) (hb : c.code = cc) {own : String} {index : Nat} (hown : s.vm.findClass own = some m.cls) (hclink : (Cond.classLink own index "java/lang/Object").before args s = true) (hw : wd g A s h H locs)
    {n : Int32} {N' : Nat} (hn : ¬ n < 0) (hN : n.toNatClampNeg = N') (hbytes : N' * 4 ≤ 536870912) (hcells : cells + 1 ≤ R.cells) (hslots : slots + N' ≤ R.slots) (hdg : decode cc pc = .ok (.anewarray index, 3))
    (kk : ∀ (q : Nat) (H1 : Heap), h q = none → wd g A s (wu h q (arO g N' (fun _ => none))) H1 locs →
      W p l e R s m args below meth c H1 locs (cells + 1) (slots + N') Q (F0 m (pc + 3) ls (.ref q :: rest))) : W p l e R s m args below meth c H locs cells slots Q (F0 m pc ls (.int n :: rest)) := by
  obtain ⟨hK, ⟨ws, hP, hD, hI⟩, hS, hA, hZ⟩ := hw
  refine va_newq hx hb hown hclink hZ.2.2.2.2.2.2.1 hK hP hD hS hA hn hN hbytes hcells hslots hdg (fun q cB H1 hK1 hP1 hD1 hS1 => ?_)
  have e1 : cB = g.2.1 := by
    obtain ⟨-, kA, comp, -, -, -, f1⟩ := hK1.2 2 (cB, .object "java/lang/Object") rfl
    obtain ⟨-, kA2, comp2, -, -, -, f2⟩ := hK.2 0 _ rfl
    exact Option.some.inj (f1.symm.trans f2)
  subst e1
  exact kk q H1 (wI_push hI hD1).1 ⟨hK, ⟨_, hP1, hD1, (wI_push hI hD1).2⟩, hS1, hA, hZ⟩
/-- a new array of ints -/
theorem w_newi (hx : p.tables.exec = Jvm.exec) (hb : c.code = cc) (harr : (Cond.arrayClass .int).before args s = true) (hw : wd g A s h H locs)
    {n : Int32} {N' : Nat} (hn : ¬ n < 0) (hN : n.toNatClampNeg = N') (hbytes : N' * componentBytes .int ≤ 536870912) (hcells : cells + 1 ≤ R.cells) (hslots : slots + N' ≤ R.slots) (hdg : decode cc pc = .ok (.newarray .int, 2))
    (kk : ∀ (q : Nat) (H1 : Heap), h q = none → wd g A s (wu h q (arI g N' (fun _ => 0))) H1 locs →
      W p l e R s m args below meth c H1 locs (cells + 1) (slots + N') Q (F0 m (pc + 2) ls (.ref q :: rest))) : W p l e R s m args below meth c H locs cells slots Q (F0 m pc ls (.int n :: rest)) := by
  obtain ⟨hK, ⟨ws, hP, hD, hI⟩, hS, hA, hZ⟩ := hw
  refine va_newa (a0 := (N', .inl (fun _ => 0))) (atype := .int) hx hb harr rfl hK hP hD hS hA (fun cA => rfl) hn hN hbytes hcells hslots hdg (fun q cB H1 hK1 hP1 hD1 hS1 => ?_)
  have e1 : cB = g.2.2.1 := by
    have f1 := (hK1.2 2 (cB, .int) rfl).2
    have f2 := (hK.2 1 _ rfl).2
    exact Option.some.inj (f1.symm.trans f2)
  subst e1
  exact kk q H1 (wI_push hI hD1).1 ⟨hK, ⟨_, hP1, hD1, (wI_push hI hD1).2⟩, hS1, hA, hZ⟩
theorem w_recv (hw : wd g A s h H locs) {ci : Nat} {q : vw_C} {fs : List Value} (ha : h a = some (.inr (ci, fs))) (hc : vwCl[ci]? = some q) : ∃ cell : Cell, H[a]? = some cell ∧ cell.vm.isStatics = false ∧ s.vm.findClass q.1 = some cell.cls := by
  obtain ⟨hK, ⟨ws, hP, hD, hI⟩, hS, hA, hZ⟩ := hw
  obtain ⟨k0, hk0⟩ := List.mem_iff_getElem?.mp ((hI _ _).mp ha)
  exact va_recv hK hP hc hk0
/-- an object that may lie in an array of Objects -/
def isE (h : Nat → Option va_E) (a : Nat) : Prop := ∃ (ci : Nat) (fs : List Value), h a = some (.inr (ci, fs)) ∧ 1 ≤ ci ∧ ci < 8
theorem w_any (hw : wd g A s h H locs) (ha : isE h a) : va_Any "java/lang/Object" s H a := by
  obtain ⟨ci, fs, h1, h2, h3⟩ := ha
  obtain ⟨hK, ⟨ws, hP, hD, hI⟩, hS, hA, hZ⟩ := hw
  obtain ⟨k0, hk0⟩ := List.mem_iff_getElem?.mp ((hI _ _).mp h1)
  have key : ∀ (r : vw_C), vwCl[ci]? = some r → Cond.castable r.1 "java/lang/Object" ∈ nwL → va_Any "java/lang/Object" s H a := by
    intro r hr hm
    refine va_rAny hK hP hk0 hr (fun comp c0 f1 f2 => ?_)
    obtain ⟨c1, t1, e1, e2, e3⟩ := Cond.castable_spec (va_Nw.use (A := #[]) rfl (hZ.2.2.2.2.2.2.2.1 _ hm))
    cases f2.symm.trans e1
    cases f1.symm.trans e2
    exact e3
  rcases (by omega : ci = 1 ∨ ci = 2 ∨ ci = 3 ∨ ci = 4 ∨ ci = 5 ∨ ci = 6 ∨ ci = 7) with z | z | z | z | z | z | z <;> subst z
  · exact key _ rfl (by decide +kernel)
  · exact key _ rfl (by decide +kernel)
  · exact key _ rfl (by decide +kernel)
  · exact key _ rfl (by decide +kernel)
  · exact key _ rfl (by decide +kernel)
  · exact key _ rfl (by decide +kernel)
  · exact key _ rfl (by decide +kernel)
/-! contracts: any world h; the answer and the new world are 'post' -/
def cQ (g : GG) (A : Nat → Prop) (post : Option Value → (Nat → Option va_E) → Prop) : Array Value → State → Outcome → State → Prop := fun _ st oc t => (∃ (v : Option Value) (h' : Nat → Option va_E), oc = .returned v ∧ post v h' ∧ wP g.1 A h' t.heap ∧ va_K g.1 vwCl (tysG g) t) ∧ va_F A st t
def pr (g : GG) (h : Nat → Option va_E) (sz : Nat) (U : State) : Prop := U.heap.size = sz ∧ wP g.1 (wA h sz) h U.heap ∧ va_K g.1 vwCl (tysG g) U ∧ St g (wA h sz) U U.heap
def Con (l : Launch) (y : MethodName) (ws : List Cond) (fr lo mc ms : Nat) (av : List Value) (g : GG) (h : Nat → Option va_E) (post : Option Value → (Nat → Option va_E) → Prop) : Prop :=
  ∀ sz : Nat, Met l y ws { frames := fr, cells := mc, slots := ms, locals := lo } (va_Pc av (pr g h sz)) (cQ g (wA h sz) post) mc ms (wA h sz)
theorem pr_blind {av : List Value} {sz : Nat} : FrameBlind (va_Pc av (pr g h sz)) := fun a U gg mk q => by
  obtain ⟨q0, q1, q2, q3, q4⟩ := q
  exact ⟨q0, q1, q2, va_K.moved (u := U) (U := U.calling gg mk a) (Vm.Alike.refl U.vm) q3, St_same q4 rfl⟩
theorem pr_of (hw : wd g A s h H locs) {av : List Value} : ∀ U : State, U.heap = H → s.WarmedH U.vm → va_Pc av (pr g h H.size) av.toArray U := fun U hU hW =>
  ⟨rfl, by rw [hU], by rw [hU]; exact wP_self hw.2.1 _, va_K.moved hW.alike hw.1, by rw [hU]; exact St_call hw.2.2.2.2 hW hw.2.2.1.2.1 (wd_free hw)⟩
theorem w_call {mc ms : Nat} {post : Option Value → (Nat → Option va_E) → Prop} {av : Array Value} {st0 : List Value} (hr : va_Run p l e R s m args below meth c H locs cells slots mc ms (F0 m pc ls st0) rest (cQ g (wA h H.size) post av) (wA h H.size)) (hw : wd g A s h H locs)
    (kk : ∀ (v : Option Value) (h' : Nat → Option va_E) (H1 : Heap) (locs1 : List Loc), post v h' → wd g A s h' H1 locs1 → W p l e R s m args below meth c H1 locs1 (cells + mc) (slots + ms) Q (F0 m (pc + 3) ls (v.toList ++ rest))) : W p l e R s m args below meth c H locs cells slots Q (F0 m pc ls st0) := by
  intro T hT X
  obtain ⟨v, st₀, t, T', L, h0, X', hL, e1, e2, ⟨⟨v', h', hv, hp, hP1, hK1⟩, hz, hk⟩, st⟩ := hr T hT X
  cases hv
  rw [h0] at hz hk
  have hfr := wd_free hw
  obtain ⟨hK, hP, hS, hA, hZ⟩ := hw
  obtain ⟨t2, a1, b1⟩ := kk v h' T'.heap (locs ++ L) hp ⟨hK, by rw [e1]; exact wP_weaken hP1 hfr, ⟨Nat.le_trans hS.1 (by rw [e1]; exact hz), fun q h1 h2 => by
    rw [e1, hk q (Nat.lt_of_lt_of_le h1 hS.1) (fun z => h2 (hfr q z))]; exact hS.2.1 q h1 h2, fun q hq => by
      rcases List.mem_append.mp hq with hh | hh
      · exact hS.2.2 q hh
      · exact hfr _ (hL q hh)⟩, hA, hZ⟩ T' rfl X'
  exact ⟨t2, st t2 a1, b1⟩
theorem m_start {y : MethodName} {ws ws' : List Cond} {fr lo mc ms : Nat} {av : List Value} {post : Option Value → (Nat → Option va_E) → Prop} {maxL : Nat} {ret : Option FieldType} (hy : plainName y.cls = true) (hws : ws = Cond.code y cc maxL ret :: ws') (hlen : (lg_sl av).length ≤ maxL)
    (body : ∀ (p : Program) (e : Env) (s : State) (m : MethodId) (below : List Frame) (meth : Method) (c : Code) (A : Nat → Prop) (ls : Array Slot), p.tables.exec = Jvm.exec → c.code = cc → meth.sig.returnType = ret → c.maxLocals = maxL → (∀ w ∈ ws, w.before av.toArray s = true) → s.vm.findClass y.cls = some m.cls → meth.locks = false → meth.name = y.name → wd g A s h s.heap [] → lv_has ls maxL (lv_args 0 av) →
      W p l e { frames := fr, cells := mc, slots := ms, locals := lo } s m av.toArray below meth c s.heap [] 0 0 (MQ below (cQ g A post) av.toArray s mc ms A) (F0 m 0 ls [])) : Con l y ws fr lo mc ms av g h post := by
  intro sz
  refine Met.ofW (cc := cc) (maxL := maxL) (ret := ret) hy hws ?_
  intro p e s m args below meth c s₁ B hml hv
  obtain ⟨rfl, hsz, hP, hK, hZ⟩ := hv
  subst hsz
  rw [lg_entry_eq]
  exact body p e s m below meth c (wA h s.heap.size) _ B.exec B.bytes B.returns hml (atoms_spec (ws := ws) B.pre) (findClass_of_methodNamed B.named) B.notSynchronized (name_of_methodNamed B.named B.method).1 ⟨hK, hP, va_S.rf, fun q hq => Or.inr hq, hZ⟩ (lv_entry av hlen)
theorem r_int {mc ms : Nat} {post : Option Value → (Nat → Option va_E) → Prop} {v : Int32} (hx : p.tables.exec = Jvm.exec) (hb : c.code = cc) (hr : meth.sig.returnType = some .int) (hlocks : meth.locks = false) (hw : wd g A s h H locs) (hdg : decode cc pc = .ok (.ireturn, 1)) (hc : cells ≤ mc) (hs : slots ≤ ms) (hp : post (some (.int v)) h) : W p l e R s m args below meth c H locs cells slots (MQ below (cQ g A post) args s mc ms A) (F0 m pc ls [.int v]) :=
  W.widen hc hs (W.iret hx hb hr (fun t ht hW => ⟨⟨_, h, rfl, hp, by rw [ht]; exact hw.2.1, va_K.moved hW.alike hw.1⟩, hw.2.2.1.F ht⟩) hw.2.2.1.2.2 hdg hlocks)
theorem r_bool {mc ms : Nat} {post : Option Value → (Nat → Option va_E) → Prop} {v : Int32} (hx : p.tables.exec = Jvm.exec) (hb : c.code = cc) (hr : meth.sig.returnType = some .boolean) (hlocks : meth.locks = false) (hw : wd g A s h H locs) (hn : narrow .boolean (.int v) = .int v) (hdg : decode cc pc = .ok (.ireturn, 1)) (hc : cells ≤ mc) (hs : slots ≤ ms) (hp : post (some (.int v)) h) : W p l e R s m args below meth c H locs cells slots (MQ below (cQ g A post) args s mc ms A) (F0 m pc ls [.int v]) :=
  W.widen hc hs (W.zret hx hb hr hn (fun t ht hW => ⟨⟨_, h, rfl, hp, by rw [ht]; exact hw.2.1, va_K.moved hW.alike hw.1⟩, hw.2.2.1.F ht⟩) hw.2.2.1.2.2 hdg hlocks)
theorem r_ref {mc ms : Nat} {post : Option Value → (Nat → Option va_E) → Prop} {v : Value} {rt : FieldType} (hx : p.tables.exec = Jvm.exec) (hb : c.code = cc) (hr : meth.sig.returnType = some rt) (hrt : (∃ n, rt = .object n) ∨ ∃ t, rt = .array t) (hv : v = .null ∨ ∃ a, v = .ref a) (hlocks : meth.locks = false) (hw : wd g A s h H locs) (hdg : decode cc pc = .ok (.areturn, 1)) (hc : cells ≤ mc) (hs : slots ≤ ms) (hp : post (some v) h) : W p l e R s m args below meth c H locs cells slots (MQ below (cQ g A post) args s mc ms A) (F0 m pc ls [v]) :=
  W.widen hc hs (W.aret hx hb hr hrt hv (fun t ht hW => ⟨⟨_, h, rfl, hp, by rw [ht]; exact hw.2.1, va_K.moved hW.alike hw.1⟩, hw.2.2.1.F ht⟩) hw.2.2.1.2.2 hdg hlocks)
theorem r_void {mc ms : Nat} {post : Option Value → (Nat → Option va_E) → Prop} (hx : p.tables.exec = Jvm.exec) (hb : c.code = cc) (hr : meth.sig.returnType = none) (hlocks : meth.locks = false) (hw : wd g A s h H locs) (hdg : decode cc pc = .ok (.return_, 1)) (hc : cells ≤ mc) (hs : slots ≤ ms) (hp : post none h) : W p l e R s m args below meth c H locs cells slots (MQ below (cQ g A post) args s mc ms A) (F0 m pc ls []) :=
  W.widen hc hs (W.vret hx hb hr (fun t ht hW => ⟨⟨_, h, rfl, hp, by rw [ht]; exact hw.2.1, va_K.moved hW.alike hw.1⟩, hw.2.2.1.F ht⟩) hw.2.2.1.2.2 hdg hlocks)
/-- arraycopy of references -/
theorem w_copy (hx : p.tables.exec = Jvm.exec) (hb : c.code = cc) (hml : c.maxLocals = ls.size) {own : String} {index : Nat} (hown : s.vm.findClass own = some m.cls) (hlink : (Cond.methodLink own index arraycopyName).before args s = true) (hnat : (Cond.native arraycopyName).before args s = true) (hstat : (Cond.static arraycopyName).before args s = true) (hini : (Cond.initialized "java/lang/System").before args s = true)
    (hw : wd g A s h H locs) {a0 : Nat} {n0 n1 : Nat} {f f1 : Nat → Option Nat} (ha0 : h a0 = some (arO g n0 f)) (ha1 : h a = some (arO g n1 f1))
    {sp dp n : Int32} (h1 : ¬ sp < 0) (h2 : ¬ dp < 0) (h3 : ¬ n < 0) (h4 : sp.toNatClampNeg + n.toNatClampNeg ≤ n0) (h5 : dp.toNatClampNeg + n.toNatClampNeg ≤ n1) (hel : ∀ i : Nat, i < n.toNatClampNeg → ∀ y : Nat, f (sp.toNatClampNeg + i) = some y → isE h y)
    (hframes : 1 ≤ R.frames) (hlocals : (rest.map fun v => v.category).sum + (nativeFrameWords "java/lang/System" "arraycopy" 5 + 11) ≤ R.locals) (hdg : decode cc pc = .ok (.invokestatic index, 3))
    (kk : ∀ (H1 : Heap) (locs1 : List Loc), wd g A s (wu h a (arO g n1 (va_cpy f f1 sp.toNatClampNeg dp.toNatClampNeg n.toNatClampNeg))) H1 locs1 → W p l e R s m args below meth c H1 locs1 cells slots Q (F0 m (pc + 3) ls rest)) : W p l e R s m args below meth c H locs cells slots Q (F0 m pc ls (.int n :: .int dp :: .ref a :: .int sp :: .ref a0 :: rest)) := by
  have hany : ∀ i : Nat, i < n.toNatClampNeg → ∀ y : Nat, f (sp.toNatClampNeg + i) = some y → va_Any "java/lang/Object" s H y := fun i hi y hy => w_any hw (hel i hi y hy)
  obtain ⟨hK, ⟨ws, hP, hD, hI⟩, hS, hA, hZ⟩ := hw
  obtain ⟨k0, hk0⟩ := List.mem_iff_getElem?.mp ((hI _ _).mp ha0)
  obtain ⟨k1, hk1⟩ := List.mem_iff_getElem?.mp ((hI _ _).mp ha1)
  exact va_copyM hx hb hml hown hlink hnat hstat hini hK hP hD hS k0 k1 0 0 hk0 hk1 rfl rfl h1 h2 h3 h4 h5 hany hframes hlocals hdg (fun H1 locs1 hP1 hD1 hS1 => kk H1 locs1 ⟨hK, ⟨_, hP1, hD1, wI_set hI hD hk1⟩, hS1, hA, hZ⟩)
end WB
end
section
/-! what a cell of each class holds; small rows -/
abbrev oAL (mc : Int32) (arr : Nat) (n : Int32) : va_E := .inr (0, [.int mc, .ref arr, .int n])
abbrev oCo (by_ al ov : Int32) (ml : Nat) (op re up fb : Int32) : va_E := .inr (1, [.int by_, .int al, .int ov, .ref ml, .int op, .int re, .int up, .int fb])
abbrev oMb (pl ty lo wi : Int32) : va_E := .inr (2, [.int pl, .int ty, .int lo, .int wi])
abbrev oSi (by_ al ki ba le : Int32) : va_E := .inr (3, [.int by_, .int al, .int ki, .int ba, .int le])
abbrev oDk (kl : Nat) : va_E := .inr (4, [.ref kl])
abbrev oAd (ty wi mb : Int32) : va_E := .inr (5, [.int ty, .int wi, .int mb])
abbrev oTy (ki to_ le si al : Int32) (ad : Nat) (fi : Int32) : va_E := .inr (6, [.int ki, .int to_, .int le, .int si, .int al, .ref ad, .int fi])
abbrev oMo (tl p0 p1 p2 p3 : Nat) (mem rea al : Int32) : va_E := .inr (7, [.ref tl, .ref p0, .ref p1, .ref p2, .ref p3, .int mem, .int rea, .int al])
section WH
variable {s : State} {H : Heap} {locs : List Loc} {g : GG} {A : Nat → Prop} {h : Nat → Option va_E}
theorem w_nwN (hw : wd g A s h H locs) {w : Cond} (hm : w ∈ nwL) : va_Nw w s := hw.2.2.2.2.2.2.2.2.2.2.2.1 w hm
theorem w_nw (hw : wd g A s h H locs) {w : Cond} (hm : w ∈ nwL) {av : Array Value} : w.before av s = true := va_Nw.use (nw_on (nwL_is w hm)) (w_nwN hw hm)
theorem w_nc (hw : wd g A s h H locs) {C T : String} (hm : (C, T) ∈ ncL) : va_Nc C T s := hw.2.2.2.2.2.2.2.2.2.2.2.2 (C, T) hm
theorem w_z (hw : wd g A s h H locs) : h (gZ g) = none := by
  cases hh : h (gZ g) with
  | none => rfl
  | some e =>
    obtain ⟨cell, h1, h2, h3, h4, h5, h6, h7⟩ := hw.2.2.2.2.2.1
    exact absurd (wP_A hw.2.1 hh).1 h7
theorem ne_e {a b : Nat} {x y : va_E} (ha : h a = some x) (hb : h b = some y) (hxy : x ≠ y) : a ≠ b := fun q => by
  subst q
  rw [ha] at hb
  exact hxy (Option.some.inj hb)
theorem ne_n {a b : Nat} {x : va_E} (ha : h a = some x) (hb : h b = none) : a ≠ b := fun q => by
  subst q
  rw [ha] at hb
  cases hb
theorem ne_c {ci cj : Nat} {fs gs : List Value} (hc : ci ≠ cj) : (Sum.inr (ci, fs) : va_E) ≠ Sum.inr (cj, gs) := fun q => hc (by cases q; rfl)
theorem ne_lr {x : ClassId × vp_A} {y : Nat × List Value} : (Sum.inl x : va_E) ≠ Sum.inr y := fun q => by cases q
theorem ne_rl {x : ClassId × vp_A} {y : Nat × List Value} : (Sum.inr y : va_E) ≠ Sum.inl x := fun q => by cases q
end WH
end
section
/-! the JDK methods: lists of objects -/
set_option maxHeartbeats 4000000 in
set_option maxRecDepth 100000 in
theorem c_AC_init (l : Launch) (g : GG) (h : Nat → Option va_E) (a : Nat) : Con l yJxa1e45_init_da8c8 wsJxa1e45_init_da8c8 1 12 0 0 [.ref a] g h (fun v h' => v = none ∧ h = h') := by
  refine m_start (cc := cJxa1e45_init_da8c8) (maxL := 1) (ret := none) (by decide) rfl (Nat.le_of_ble_eq_true rfl) ?_
  intro p e s m below meth c A ls hx hb hr hml hts hown hlocks hin hw hl
  have hl : lv_has ls 1 [(0, .ref a)] := hl
  have hown : s.vm.findClass RJxa1e45 = some m.cls := hown
  refine lv_aload_n hx hb dJxa1e45_init_da8c8_0 rfl (lv_at hl 0 rfl) ?_
  refine W.objInit hx hb hown (hts (.methodLink RJxa1e45 1 objectInit) (by decide +kernel)) (hts (.instanceMethod objectInit) (by decide +kernel)) (hts _ (List.mem_of_getElem? (i := 3) rfl)) rfl (by rw [hml]; exact hl.1) rfl dJxa1e45_init_da8c8_1 (Nat.le_of_ble_eq_true rfl) (Nat.le_of_ble_eq_true rfl) ?_
  refine W.eq (g2 := F0 m 4 ls []) rfl ?_
  exact r_void hx hb hr hlocks hw dJxa1e45_init_da8c8_4 (Nat.le_of_ble_eq_true rfl) (Nat.le_of_ble_eq_true rfl) (⟨rfl, rfl⟩)
theorem in_Jxc12de_init_da8c8_0 : ∀ w ∈ u_ws RJx4a65c TJx4a65c 3, w ∈ wsJxc12de_init_da8c8 := by decide +kernel
set_option maxHeartbeats 4000000 in
set_option maxRecDepth 100000 in
theorem c_AbL_init (l : Launch) (g : GG) (h : Nat → Option va_E) (a : Nat) (x n : Int32) (r : Value) (ha : h a = some (.inr (0, [.int x, r, .int n]))) : Con l yJxc12de_init_da8c8 wsJxc12de_init_da8c8 2 32 0 0 [.ref a] g h (fun v h' => v = none ∧ h' = wu h a (.inr (0, [.int 0, r, .int n]))) := by
  refine m_start (cc := cJxc12de_init_da8c8) (maxL := 1) (ret := none) (by decide) rfl (Nat.le_of_ble_eq_true rfl) ?_
  intro p e s m below meth c A ls hx hb hr hml hts hown hlocks hin hw hl
  have hl : lv_has ls 1 [(0, .ref a)] := hl
  have hown : s.vm.findClass RJxc12de = some m.cls := hown
  refine lv_aload_n hx hb dJxc12de_init_da8c8_0 rfl (lv_at hl 0 rfl) ?_
  refine w_call (va_runI (As := []) (rest := []) ⟨hx, hb, hml, hown, hts⟩ (c_AC_init l g h a s.heap.size) (cwI 0 hts gJxc12de_init_da8c8_Jxa1e45_init_da8c8 rfl rfl rfl (hts (.initialized RJxa1e45) (by decide +kernel)) (hts (.methodLink RJxc12de 1 yJxa1e45_init_da8c8) (by decide +kernel)) (hts (.instanceMethod yJxa1e45_init_da8c8) (by decide +kernel)) rfl (by decide +kernel) ⟨Nat.le_of_ble_eq_true rfl, Nat.le_of_ble_eq_true rfl⟩) ⟨pr_blind, pr_of hw⟩ rfl rfl hl.1 rfl (lv_room (Nat.le_of_ble_eq_true rfl)) dJxc12de_init_da8c8_1 ⟨Nat.le_of_ble_eq_true rfl, Nat.le_of_ble_eq_true rfl⟩) hw (fun v h' H locs hp hw => ?_)
  obtain ⟨rfl, rfl⟩ := hp
  refine W.eq (g2 := F0 m 4 ls []) rfl ?_
  refine lv_aload_n hx hb dJxc12de_init_da8c8_4 rfl (lv_at hl 0 rfl) ?_
  refine lv_iconst (v := 0) hx hb dJxc12de_init_da8c8_5 (by decide) ?_
  refine w_put (ci := 0) (C := RJx4a65c) (T := TJx4a65c) (N := 3) (ref := "java/util/AbstractList") (ty := .int) (fs' := [.int 0, r, .int n]) hx hb hts in_Jxc12de_init_da8c8_0 tyJx4a65c tyJx4a65c_ok nmJx4a65c hown hw ha rfl 0 (by decide) (hts (.fieldLink RJxc12de 7 "java/util/AbstractList" "modCount" "I") (by decide +kernel)) (fun _ h9 => h9) rfl (by decide +kernel) rfl rfl (Nat.le_of_ble_eq_true rfl) rfl dJxc12de_init_da8c8_6 (fun H locs hw => ?_)
  exact r_void hx hb hr hlocks hw dJxc12de_init_da8c8_9 (Nat.le_of_ble_eq_true rfl) (Nat.le_of_ble_eq_true rfl) (⟨rfl, rfl⟩)
theorem in_Jx4a65c_init_da8c8_0 : ∀ w ∈ u_ws RJx4a65c TJx4a65c 3, w ∈ wsJx4a65c_init_da8c8 := by decide +kernel
set_option maxHeartbeats 4000000 in
set_option maxRecDepth 100000 in
theorem c_AL_init (l : Launch) (g : GG) (h : Nat → Option va_E) (a : Nat) (x n : Int32) (r : Value) (ha : h a = some (.inr (0, [.int x, r, .int n]))) : Con l yJx4a65c_init_da8c8 wsJx4a65c_init_da8c8 3 52 0 0 [.ref a] g h (fun v h' => v = none ∧ h' = wu h a (oAL 0 (gZ g) n)) := by
  refine m_start (cc := cJx4a65c_init_da8c8) (maxL := 1) (ret := none) (by decide) rfl (Nat.le_of_ble_eq_true rfl) ?_
  intro p e s m below meth c A ls hx hb hr hml hts hown hlocks hin hw hl
  have hl : lv_has ls 1 [(0, .ref a)] := hl
  have hown : s.vm.findClass RJx4a65c = some m.cls := hown
  refine lv_aload_n hx hb dJx4a65c_init_da8c8_0 rfl (lv_at hl 0 rfl) ?_
  refine w_call (va_runI (As := []) (rest := []) ⟨hx, hb, hml, hown, hts⟩ (c_AbL_init l g h a x n r ha s.heap.size) (cwI 0 hts gJx4a65c_init_da8c8_Jxc12de_init_da8c8 rfl rfl rfl (hts (.initialized RJxc12de) (by decide +kernel)) (hts (.methodLink RJx4a65c 1 yJxc12de_init_da8c8) (by decide +kernel)) (hts (.instanceMethod yJxc12de_init_da8c8) (by decide +kernel)) rfl (by decide +kernel) ⟨Nat.le_of_ble_eq_true rfl, Nat.le_of_ble_eq_true rfl⟩) ⟨pr_blind, pr_of hw⟩ rfl rfl hl.1 rfl (lv_room (Nat.le_of_ble_eq_true rfl)) dJx4a65c_init_da8c8_1 ⟨Nat.le_of_ble_eq_true rfl, Nat.le_of_ble_eq_true rfl⟩) hw (fun v h' H locs hp hw => ?_)
  obtain ⟨rfl, rfl⟩ := hp
  refine W.eq (g2 := F0 m 4 ls []) rfl ?_
  refine lv_aload_n hx hb dJx4a65c_init_da8c8_4 rfl (lv_at hl 0 rfl) ?_
  refine va_gets hx hb hw.2.2.2.2.1 hw.2.2.1 hown (hts (.fieldLink RJx4a65c 39 "java/util/ArrayList" "DEFAULTCAPACITY_EMPTY_ELEMENTDATA" "[Ljava/lang/Object;") (by decide +kernel)) (fun _ h9 => h9) dJx4a65c_init_da8c8_5 ?_
  refine w_put (ci := 0) (C := RJx4a65c) (T := TJx4a65c) (N := 3) (ref := "java/util/ArrayList") (ty := .array (.object "java/lang/Object")) (fs' := [.int 0, .ref (gZ g), .int n]) hx hb hts in_Jx4a65c_init_da8c8_0 tyJx4a65c tyJx4a65c_ok nmJx4a65c hown hw (wu_s _ _ _) rfl 1 (by decide) (hts (.fieldLink RJx4a65c 9 "java/util/ArrayList" "elementData" "[Ljava/lang/Object;") (by decide +kernel)) (fun _ h9 => h9) rfl (by decide +kernel) rfl rfl (Nat.le_of_ble_eq_true rfl) rfl dJx4a65c_init_da8c8_8 (fun H locs hw => ?_)
  exact r_void hx hb hr hlocks hw dJx4a65c_init_da8c8_11 (Nat.le_of_ble_eq_true rfl) (Nat.le_of_ble_eq_true rfl) (⟨rfl, by rw [wu_uu]⟩)
theorem in_Jx4a65c_size_8abf5_0 : ∀ w ∈ u_ws RJx4a65c TJx4a65c 3, w ∈ wsJx4a65c_size_8abf5 := by decide +kernel
set_option maxHeartbeats 4000000 in
set_option maxRecDepth 100000 in
theorem c_AL_size (l : Launch) (g : GG) (h : Nat → Option va_E) (mc : Int32) (a arr : Nat) (n : Int32) (ha : h a = some (oAL mc arr n)) : Con l yJx4a65c_size_8abf5 wsJx4a65c_size_8abf5 0 0 0 0 [.ref a] g h (fun v h' => v = some (.int n) ∧ h = h') := by
  refine m_start (cc := cJx4a65c_size_8abf5) (maxL := 1) (ret := (some .int)) (by decide) rfl (Nat.le_of_ble_eq_true rfl) ?_
  intro p e s m below meth c A ls hx hb hr hml hts hown hlocks hin hw hl
  have hl : lv_has ls 1 [(0, .ref a)] := hl
  have hown : s.vm.findClass RJx4a65c = some m.cls := hown
  refine lv_aload_n hx hb dJx4a65c_size_8abf5_0 rfl (lv_at hl 0 rfl) ?_
  refine w_get (ci := 0) (C := RJx4a65c) (T := TJx4a65c) (N := 3) (ref := "java/util/ArrayList") hx hb hts in_Jx4a65c_size_8abf5_0 hown hw ha rfl 2 (by decide) (hts (.fieldLink RJx4a65c 48 "java/util/ArrayList" "size" "I") (by decide +kernel)) (fun _ h9 => h9) rfl dJx4a65c_size_8abf5_1 ?_
  exact r_int hx hb hr hlocks hw dJx4a65c_size_8abf5_4 (Nat.le_of_ble_eq_true rfl) (Nat.le_of_ble_eq_true rfl) (⟨rfl, rfl⟩)
theorem in_Jx4a65c_isEmpty_aae02_0 : ∀ w ∈ u_ws RJx4a65c TJx4a65c 3, w ∈ wsJx4a65c_isEmpty_aae02 := by decide +kernel
set_option maxHeartbeats 4000000 in
set_option maxRecDepth 100000 in
theorem c_AL_isEmpty (l : Launch) (g : GG) (h : Nat → Option va_E) (mc : Int32) (a arr : Nat) (n : Int32) (ha : h a = some (oAL mc arr n)) : Con l yJx4a65c_isEmpty_aae02 wsJx4a65c_isEmpty_aae02 0 0 0 0 [.ref a] g h (fun v h' => v = some (.int (if n = 0 then 1 else 0)) ∧ h = h') := by
  refine m_start (cc := cJx4a65c_isEmpty_aae02) (maxL := 1) (ret := (some .boolean)) (by decide) rfl (Nat.le_of_ble_eq_true rfl) ?_
  intro p e s m below meth c A ls hx hb hr hml hts hown hlocks hin hw hl
  have hl : lv_has ls 1 [(0, .ref a)] := hl
  have hown : s.vm.findClass RJx4a65c = some m.cls := hown
  refine lv_aload_n hx hb dJx4a65c_isEmpty_aae02_0 rfl (lv_at hl 0 rfl) ?_
  refine w_get (ci := 0) (C := RJx4a65c) (T := TJx4a65c) (N := 3) (ref := "java/util/ArrayList") hx hb hts in_Jx4a65c_isEmpty_aae02_0 hown hw ha rfl 2 (by decide) (hts (.fieldLink RJx4a65c 48 "java/util/ArrayList" "size" "I") (by decide +kernel)) (fun _ h9 => h9) rfl dJx4a65c_isEmpty_aae02_1 ?_
  refine lv_if_ne (tgt := 11) hx hb dJx4a65c_isEmpty_aae02_4 (by decide) (fun c4 => ?_) (fun c4 => ?_)
  · refine lv_iconst (v := 0) hx hb dJx4a65c_isEmpty_aae02_11 (by decide) ?_
    exact r_bool hx hb hr hlocks hw rfl dJx4a65c_isEmpty_aae02_12 (Nat.le_of_ble_eq_true rfl) (Nat.le_of_ble_eq_true rfl) (⟨by rw [if_neg c4], rfl⟩)
  · refine lv_iconst (v := 1) hx hb dJx4a65c_isEmpty_aae02_7 (by decide) ?_
    refine lv_goto (tgt := 12) hx hb dJx4a65c_isEmpty_aae02_8 (by decide) ?_
    exact r_bool hx hb hr hlocks hw rfl dJx4a65c_isEmpty_aae02_12 (Nat.le_of_ble_eq_true rfl) (Nat.le_of_ble_eq_true rfl) (⟨by rw [if_pos c4], rfl⟩)
set_option maxHeartbeats 4000000 in
set_option maxRecDepth 100000 in
theorem c_pre_check (l : Launch) (g : GG) (h : Nat → Option va_E) (i n : Int32) (h0 : ¬ i < 0) (h1 : i < n) : Con l yJ3_checkIndex_8e157 wsJ3_checkIndex_8e157 0 0 0 0 [.int i, .int n, .null] g h (fun v h' => v = some (.int i) ∧ h = h') := by
  refine m_start (cc := cJ3_checkIndex_8e157) (maxL := 3) (ret := (some .int)) (by decide) rfl (Nat.le_of_ble_eq_true rfl) ?_
  intro p e s m below meth c A ls hx hb hr hml hts hown hlocks hin hw hl
  have hl : lv_has ls 3 [(0, .int i), (1, .int n), (2, .null)] := hl
  have hown : s.vm.findClass RJ3 = some m.cls := hown
  refine lv_iload_n hx hb dJ3_checkIndex_8e157_0 rfl (lv_at hl 0 rfl) ?_
  refine lv_if_lt (tgt := 9) hx hb dJ3_checkIndex_8e157_1 (by decide) (fun c1 => ?_) (fun c1 => ?_)
  · exact absurd c1 h0
  · refine lv_iload_n hx hb dJ3_checkIndex_8e157_4 rfl (lv_at hl 0 rfl) ?_
    refine lv_iload_n hx hb dJ3_checkIndex_8e157_5 rfl (lv_at hl 1 rfl) ?_
    refine lv_icmp_lt (tgt := 16) hx hb dJ3_checkIndex_8e157_6 (by decide) (fun c6 => ?_) (fun c6 => ?_)
    · refine lv_iload_n hx hb dJ3_checkIndex_8e157_16 rfl (lv_at hl 0 rfl) ?_
      exact r_int hx hb hr hlocks hw dJ3_checkIndex_8e157_17 (Nat.le_of_ble_eq_true rfl) (Nat.le_of_ble_eq_true rfl) (⟨rfl, rfl⟩)
    · exact absurd h1 c6
set_option maxHeartbeats 4000000 in
set_option maxRecDepth 100000 in
theorem c_obj_check (l : Launch) (g : GG) (h : Nat → Option va_E) (i n : Int32) (h0 : ¬ i < 0) (h1 : i < n) : Con l yJ15_checkIndex_7cf53 wsJ15_checkIndex_7cf53 1 22 0 0 [.int i, .int n] g h (fun v h' => v = some (.int i) ∧ h = h') := by
  refine m_start (cc := cJ15_checkIndex_7cf53) (maxL := 2) (ret := (some .int)) (by decide) rfl (Nat.le_of_ble_eq_true rfl) ?_
  intro p e s m below meth c A ls hx hb hr hml hts hown hlocks hin hw hl
  have hl : lv_has ls 2 [(0, .int i), (1, .int n)] := hl
  have hown : s.vm.findClass RJ15 = some m.cls := hown
  refine lv_iload_n hx hb dJ15_checkIndex_7cf53_0 rfl (lv_at hl 0 rfl) ?_
  refine lv_iload_n hx hb dJ15_checkIndex_7cf53_1 rfl (lv_at hl 1 rfl) ?_
  refine lv_null hx hb dJ15_checkIndex_7cf53_2 ?_
  refine w_call (va_runS (As := [.int i, .int n, .null]) (rest := []) ⟨hx, hb, hml, hown, hts⟩ (c_pre_check l g h i n h0 h1 s.heap.size) (va_cwS 3 hts gJ15_checkIndex_7cf53_J3_checkIndex_8e157 rfl rfl rfl (by decide +kernel) ⟨Nat.le_of_ble_eq_true rfl, Nat.le_of_ble_eq_true rfl⟩) ⟨pr_blind, pr_of hw⟩ rfl rfl hl.1 rfl (lv_room (Nat.le_of_ble_eq_true rfl)) dJ15_checkIndex_7cf53_3 ⟨Nat.le_of_ble_eq_true rfl, Nat.le_of_ble_eq_true rfl⟩) hw (fun v h' H locs hp hw => ?_)
  obtain ⟨rfl, rfl⟩ := hp
  refine W.eq (g2 := F0 m 6 ls [.int i]) rfl ?_
  exact r_int hx hb hr hlocks hw dJ15_checkIndex_7cf53_6 (Nat.le_of_ble_eq_true rfl) (Nat.le_of_ble_eq_true rfl) (⟨rfl, rfl⟩)
theorem in_Jx4a65c_elementData_915e3_0 : ∀ w ∈ u_ws RJx4a65c TJx4a65c 3, w ∈ wsJx4a65c_elementData_915e3 := by decide +kernel
set_option maxHeartbeats 4000000 in
set_option maxRecDepth 100000 in
theorem c_AL_elementData (l : Launch) (g : GG) (h : Nat → Option va_E) (mc : Int32) (a arr : Nat) (n : Int32) (ha : h a = some (oAL mc arr n)) (cap : Nat) (f : Nat → Option Nat) (hr0 : h arr = some (arO g cap f)) (i : Int32) (hin0 : vp_in i cap) : Con l yJx4a65c_elementData_915e3 wsJx4a65c_elementData_915e3 0 0 0 0 [.ref a, .int i] g h (fun v h' => v = some (va_rf (f i.toNatClampNeg)) ∧ h = h') := by
  refine m_start (cc := cJx4a65c_elementData_915e3) (maxL := 2) (ret := (some (.object "java/lang/Object"))) (by decide) rfl (Nat.le_of_ble_eq_true rfl) ?_
  intro p e s m below meth c A ls hx hb hr hml hts hown hlocks hin hw hl
  have hl : lv_has ls 2 [(0, .ref a), (1, .int i)] := hl
  have hown : s.vm.findClass RJx4a65c = some m.cls := hown
  refine lv_aload_n hx hb dJx4a65c_elementData_915e3_0 rfl (lv_at hl 0 rfl) ?_
  refine w_get (ci := 0) (C := RJx4a65c) (T := TJx4a65c) (N := 3) (ref := "java/util/ArrayList") hx hb hts in_Jx4a65c_elementData_915e3_0 hown hw ha rfl 1 (by decide) (hts (.fieldLink RJx4a65c 9 "java/util/ArrayList" "elementData" "[Ljava/lang/Object;") (by decide +kernel)) (fun _ h9 => h9) rfl dJx4a65c_elementData_915e3_1 ?_
  refine lv_iload_n hx hb dJx4a65c_elementData_915e3_4 rfl (lv_at hl 1 rfl) ?_
  refine w_aald hx hb hw hr0 hin0 dJx4a65c_elementData_915e3_5 ?_
  exact r_ref hx hb hr (Or.inl ⟨_, rfl⟩) (va_rf_or _) hlocks hw dJx4a65c_elementData_915e3_6 (Nat.le_of_ble_eq_true rfl) (Nat.le_of_ble_eq_true rfl) (⟨rfl, rfl⟩)
theorem in_Jx4a65c_get_915e3_0 : ∀ w ∈ u_ws RJx4a65c TJx4a65c 3, w ∈ wsJx4a65c_get_915e3 := by decide +kernel
set_option maxHeartbeats 4000000 in
set_option maxRecDepth 100000 in
theorem c_AL_get (l : Launch) (g : GG) (h : Nat → Option va_E) (mc : Int32) (a arr : Nat) (n : Int32) (ha : h a = some (oAL mc arr n)) (cap : Nat) (f : Nat → Option Nat) (hr0 : h arr = some (arO g cap f)) (i : Int32) (hin0 : vp_in i cap) (h0 : ¬ i < 0) (h1 : i < n) : Con l yJx4a65c_get_915e3 wsJx4a65c_get_915e3 2 43 0 0 [.ref a, .int i] g h (fun v h' => v = some (va_rf (f i.toNatClampNeg)) ∧ h = h') := by
  refine m_start (cc := cJx4a65c_get_915e3) (maxL := 2) (ret := (some (.object "java/lang/Object"))) (by decide) rfl (Nat.le_of_ble_eq_true rfl) ?_
  intro p e s m below meth c A ls hx hb hr hml hts hown hlocks hin hw hl
  have hl : lv_has ls 2 [(0, .ref a), (1, .int i)] := hl
  have hown : s.vm.findClass RJx4a65c = some m.cls := hown
  refine lv_iload_n hx hb dJx4a65c_get_915e3_0 rfl (lv_at hl 1 rfl) ?_
  refine lv_aload_n hx hb dJx4a65c_get_915e3_1 rfl (lv_at hl 0 rfl) ?_
  refine w_get (ci := 0) (C := RJx4a65c) (T := TJx4a65c) (N := 3) (ref := "java/util/ArrayList") hx hb hts in_Jx4a65c_get_915e3_0 hown hw ha rfl 2 (by decide) (hts (.fieldLink RJx4a65c 48 "java/util/ArrayList" "size" "I") (by decide +kernel)) (fun _ h9 => h9) rfl dJx4a65c_get_915e3_2 ?_
  refine w_call (va_runS (As := [.int i, .int n]) (rest := []) ⟨hx, hb, hml, hown, hts⟩ (c_obj_check l g h i n h0 h1 s.heap.size) (va_cwS 2 hts gJx4a65c_get_915e3_J15_checkIndex_7cf53 rfl rfl rfl (by decide +kernel) ⟨Nat.le_of_ble_eq_true rfl, Nat.le_of_ble_eq_true rfl⟩) ⟨pr_blind, pr_of hw⟩ rfl rfl hl.1 rfl (lv_room (Nat.le_of_ble_eq_true rfl)) dJx4a65c_get_915e3_5 ⟨Nat.le_of_ble_eq_true rfl, Nat.le_of_ble_eq_true rfl⟩) hw (fun v h' H locs hp hw => ?_)
  obtain ⟨rfl, rfl⟩ := hp
  refine W.eq (g2 := F0 m 8 ls [.int i]) rfl ?_
  refine lv_pop hx hb dJx4a65c_get_915e3_8 rfl ?_
  refine lv_aload_n hx hb dJx4a65c_get_915e3_9 rfl (lv_at hl 0 rfl) ?_
  refine lv_iload_n hx hb dJx4a65c_get_915e3_10 rfl (lv_at hl 1 rfl) ?_
  refine w_call (va_runV (As := [.int i]) (rest := []) ⟨hx, hb, hml, hown, hts⟩ (c_AL_elementData l g h mc a arr n ha cap f hr0 i hin0 H.size) (cwV 1 hts gJx4a65c_get_915e3_Jx4a65c_elementData_915e3 rfl rfl rfl (by decide +kernel) ⟨Nat.le_of_ble_eq_true rfl, Nat.le_of_ble_eq_true rfl⟩) ⟨pr_blind, w_recv hw ha rfl, pr_of hw⟩ rfl rfl hl.1 rfl (lv_room (Nat.le_of_ble_eq_true rfl)) dJx4a65c_get_915e3_11 ⟨Nat.le_of_ble_eq_true rfl, Nat.le_of_ble_eq_true rfl⟩) hw (fun v h' H locs hp hw => ?_)
  obtain ⟨rfl, rfl⟩ := hp
  refine W.eq (g2 := F0 m 14 ls [va_rf (f i.toNatClampNeg)]) rfl ?_
  exact r_ref hx hb hr (Or.inl ⟨_, rfl⟩) (va_rf_or _) hlocks hw dJx4a65c_get_915e3_14 (Nat.le_of_ble_eq_true rfl) (Nat.le_of_ble_eq_true rfl) (⟨rfl, rfl⟩)
end
section
/-! pure rows of lists of objects -/
def gcap (n : Nat) : Nat := n + max 1 (n / 2)
theorem nI_0lt {n : Nat} (h0 : 0 < n) (h : n < 2 ^ 31) : (0 : Int32) < nI n := by
  have := nI_lt h0 h
  rw [nI_0] at this
  exact this
theorem gcap_eq {n : Nat} (hn : n < 100000) : nI n + (if nI 1 < nI (n / 2) then nI (n / 2) else nI 1) = nI (gcap n) := by
  by_cases c : 1 < n / 2
  · rw [if_pos (nI_lt c (by omega)), nI_add]
    congr 1
    unfold gcap
    omega
  · rw [if_neg (nI_nlt (by omega) (by decide)), nI_add]
    congr 1
    unfold gcap
    omega
theorem gcap_lt (n : Nat) : n < gcap n := by unfold gcap; omega
theorem gcap_le {n : Nat} (h : n ≤ 530) : gcap n ≤ 800 := by unfold gcap; omega
theorem isE_wu {h : Nat → Option va_E} {q a : Nat} {e : va_E} (hq : h q = none) (ha : isE h a) : isE (wu h q e) a := by
  obtain ⟨ci, fs, h1, h2, h3⟩ := ha
  exact ⟨ci, fs, (wu_n (ne_n h1 hq)).trans h1, h2, h3⟩
theorem isE_wu0 {h : Nat → Option va_E} {q a : Nat} {e : va_E} {fs : List Value} (hq : h q = some (.inr (0, fs))) (ha : isE h a) : isE (wu h q e) a := by
  obtain ⟨ci, gs, h1, h2, h3⟩ := ha
  exact ⟨ci, gs, (wu_n (ne_e h1 hq (ne_c (by omega)))).trans h1, h2, h3⟩
theorem isE_wuA {h : Nat → Option va_E} {q a : Nat} {e : va_E} {z : ClassId × vp_A} (hq : h q = some (.inl z)) (ha : isE h a) : isE (wu h q e) a := by
  obtain ⟨ci, gs, h1, h2, h3⟩ := ha
  exact ⟨ci, gs, (wu_n (ne_e h1 hq ne_rl)).trans h1, h2, h3⟩
/-- the list a, its array arr, its elements xs -/
def AL (g : GG) (h : Nat → Option va_E) (a arr : Nat) (xs : List Nat) : Prop :=
  (∃ mc : Int32, h a = some (oAL mc arr (nI xs.length))) ∧ (∀ x ∈ xs, isE h x) ∧
  ((∃ (cap : Nat) (f : Nat → Option Nat), h arr = some (arO g cap f) ∧ xs.length ≤ cap ∧ 1 ≤ cap ∧ cap ≤ 800 ∧ ∀ i, i < xs.length → f i = xs[i]?) ∨ (arr = gZ g ∧ h (gZ g) = none ∧ xs = []))
/-- what add asks of the cells -/
def preA (g : GG) (h : Nat → Option va_E) (arr n : Nat) (f : Nat → Option Nat) : Prop :=
  (∃ cap : Nat, h arr = some (arO g cap f) ∧ n < cap ∧ cap ≤ 800) ∨ (h arr = some (arO g n f) ∧ 1 ≤ n ∧ n ≤ 530 ∧ ∀ i, i < n → ∀ y, f i = some y → isE h y) ∨ (arr = gZ g ∧ h (gZ g) = none ∧ n = 0)
theorem AL_pre {g : GG} {h : Nat → Option va_E} {a arr : Nat} {xs : List Nat} (hL : AL g h a arr xs) (hn : xs.length ≤ 530) : ∃ f : Nat → Option Nat, preA g h arr xs.length f ∧ ∀ i, i < xs.length → f i = xs[i]? := by
  obtain ⟨-, hE, hA⟩ := hL
  rcases hA with ⟨cap, f, h1, h2, h3, h4, h5⟩ | ⟨h1, h2, h3⟩
  · refine ⟨f, ?_, h5⟩
    rcases Nat.lt_or_ge xs.length cap with q | q
    · exact Or.inl ⟨cap, h1, q, h4⟩
    · have e : xs.length = cap := by omega
      refine Or.inr (Or.inl ⟨by rw [e]; exact h1, by omega, by omega, fun i hi y hy => ?_⟩)
      rw [h5 i hi] at hy
      exact hE y (List.mem_of_getElem? hy)
  · subst h3
    exact ⟨fun _ => none, Or.inr (Or.inr ⟨h1, h2, rfl⟩), fun i hi => absurd hi (Nat.not_lt_zero i)⟩
theorem preA_arr {g : GG} {h : Nat → Option va_E} {arr n : Nat} {f : Nat → Option Nat} (hp : preA g h arr n f) : h arr = none ∨ ∃ z, h arr = some (.inl z) := by
  rcases hp with ⟨cap, h1, -⟩ | ⟨h1, -⟩ | ⟨h1, h2, -⟩
  · exact Or.inr ⟨_, h1⟩
  · exact Or.inr ⟨_, h1⟩
  · exact Or.inl (h1 ▸ h2)
theorem preA_wu {g : GG} {h : Nat → Option va_E} {a arr n : Nat} {f : Nat → Option Nat} {e : va_E} {fs : List Value} (ha : h a = some (.inr (0, fs))) (hp : preA g h arr n f) : preA g (wu h a e) arr n f := by
  rcases hp with ⟨cap, h1, h2⟩ | ⟨h1, h2, h3, h4⟩ | ⟨h1, h2, h3⟩
  · exact Or.inl ⟨cap, (wu_n (ne_e h1 ha ne_lr)).trans h1, h2⟩
  · exact Or.inr (Or.inl ⟨(wu_n (ne_e h1 ha ne_lr)).trans h1, h2, h3, fun i hi y hy => isE_wu0 ha (h4 i hi y hy)⟩)
  · exact Or.inr (Or.inr ⟨h1, (wu_n (ne_n ha h2).symm).trans h2, h3⟩)
theorem isE_frame {h h' : Nat → Option va_E} {a arr y : Nat} {fs : List Value} (hy : isE h y) (hf : ∀ q, q ≠ a → q ≠ arr → h' q = h q) (ha : h a = some (.inr (0, fs))) (hr : h arr = none ∨ ∃ z, h arr = some (.inl z)) : isE h' y := by
  obtain ⟨ci, gs, h1, h2, h3⟩ := hy
  refine ⟨ci, gs, ?_, h2, h3⟩
  rw [hf y (ne_e h1 ha (ne_c (by omega)))]
  · exact h1
  · rcases hr with hr | ⟨z, hr⟩
    · exact ne_n h1 hr
    · exact ne_e h1 hr ne_rl
/-- what add leaves -/
theorem AL_add {g : GG} {h h' : Nat → Option va_E} {a arr arr' x : Nat} {mc : Int32} {xs : List Nat} {f f' : Nat → Option Nat} {cap' : Nat} {fs : List Value} (ha : h a = some (.inr (0, fs))) (hE : ∀ y ∈ xs, isE h y) (hx : isE h x) (hf0 : ∀ i, i < xs.length → f i = xs[i]?) (hr : h arr = none ∨ ∃ z, h arr = some (.inl z))
    (h1 : arr' = arr ∨ h arr' = none) (h2 : h' a = some (oAL mc arr' (nI (xs.length + 1)))) (h3 : h' arr' = some (arO g cap' f')) (h4 : xs.length + 1 ≤ cap') (h5 : cap' ≤ 800) (h6 : ∀ i, i < xs.length → f' i = f i) (h7 : f' xs.length = some x) (h8 : ∀ q, q ≠ a → q ≠ arr' → h' q = h q) : AL g h' a arr' (xs ++ [x]) := by
  have hr' : h arr' = none ∨ ∃ z, h arr' = some (.inl z) := by
    rcases h1 with h1 | h1
    · subst h1; exact hr
    · exact Or.inl h1
  refine ⟨⟨mc, by rw [h2, List.length_append]; rfl⟩, fun y hy => ?_, Or.inl ⟨cap', f', h3, by rw [List.length_append]; exact h4, by omega, h5, fun i hi => ?_⟩⟩
  · rcases List.mem_append.mp hy with hy | hy
    · exact isE_frame (hE y hy) h8 ha hr'
    · rw [List.mem_singleton] at hy
      subst hy
      exact isE_frame hx h8 ha hr'
  · rw [List.length_append] at hi
    rcases Nat.lt_or_ge i xs.length with q | q
    · rw [h6 i q, hf0 i q, List.getElem?_append_left q]
    · have e : i = xs.length := by simp at hi; omega
      subst e
      rw [h7]
      simp
section WR
variable {s : State} {H : Heap} {locs : List Loc} {g : GG} {A : Nat → Prop} {h : Nat → Option va_E}
theorem w_recvA (hw : wd g A s h H locs) {a n : Nat} {f : Nat → Option Nat} (ha : h a = some (arO g n f)) : ∃ cell : Cell, H[a]? = some cell ∧ cell.vm.isStatics = false ∧ s.vm.findClass "[Ljava/lang/Object;" = some cell.cls := by
  have h1 := (wP_A hw.2.1 ha).2
  obtain ⟨kA, comp, -, -, -, f1⟩ := (hw.1.2 0 _ rfl).2
  exact ⟨_, h1, rfl, f1⟩
end WR
end
section
/-! the JDK methods: growing, adding, taking away -/
set_option maxHeartbeats 4000000 in
set_option maxRecDepth 100000 in
theorem c_newLen (l : Launch) (g : GG) (h : Nat → Option va_E) (n : Nat) (h2 : n ≤ 530) : Con l yJ8_newLength_cabcc wsJ8_newLength_cabcc 1 20 0 0 [.int (nI n), .int (nI 1), .int (nI (n / 2))] g h (fun v h' => v = some (.int (nI (gcap n))) ∧ h = h') := by
  refine m_start (cc := cJ8_newLength_cabcc) (maxL := 4) (ret := (some .int)) (by decide) rfl (Nat.le_of_ble_eq_true rfl) ?_
  intro p e s m below meth c A ls hx hb hr hml hts hown hlocks hin hw hl
  have hl : lv_has ls 4 [(0, .int (nI n)), (1, .int (nI 1)), (2, .int (nI (n / 2)))] := hl
  have hown : s.vm.findClass RJ8 = some m.cls := hown
  refine lv_iload_n hx hb dJ8_newLength_cabcc_0 rfl (lv_at hl 0 rfl) ?_
  refine lv_iload_n hx hb dJ8_newLength_cabcc_1 rfl (lv_at hl 1 rfl) ?_
  refine lv_iload_n hx hb dJ8_newLength_cabcc_2 rfl (lv_at hl 2 rfl) ?_
  refine va_mmax hx hb (hml.trans hl.1.symm) hown (hts (.methodLink RJ8 194 Lib.Math.max.name) (by decide +kernel)) (hts (.static Lib.Math.max.name) (by decide +kernel)) (hts (.initialized "java/lang/Math") (by decide +kernel)) (hts _ (List.mem_of_getElem? (i := 4) rfl)) (Nat.le_of_ble_eq_true rfl) (Nat.le_of_ble_eq_true rfl) (Nat.le_of_ble_eq_true rfl) (Nat.le_of_ble_eq_true rfl) dJ8_newLength_cabcc_3 ?_
  refine lv_iadd hx hb dJ8_newLength_cabcc_6 ?_
  refine lv_topi (fun x3 ex3 => ?_)
  have ex3 : x3 = nI (gcap n) := ex3.trans (gcap_eq (by omega))
  refine lv_istore_n (lv' := [(3, .int x3), (0, .int (nI n)), (1, .int (nI 1)), (2, .int (nI (n / 2)))]) hx hb dJ8_newLength_cabcc_7 rfl hl (by decide) rfl (fun ls hl => ?_)
  refine lv_iconst (v := 0) hx hb dJ8_newLength_cabcc_8 (by decide) ?_
  refine lv_iload_n hx hb dJ8_newLength_cabcc_9 rfl (lv_at hl 0 rfl) ?_
  refine lv_icmp_ge (tgt := 21) hx hb dJ8_newLength_cabcc_10 (by decide) (fun c10 => ?_) (fun c10 => ?_)
  · rw [ex3] at c10
    exact absurd c10 (nI_nle (by have := gcap_lt n; omega) (by have := gcap_le h2; omega))
  · refine lv_iload_n hx hb dJ8_newLength_cabcc_13 rfl (lv_at hl 0 rfl) ?_
    refine lv_ldc (v := 2147483639) hx hb hown (hts (.constant RJ8 200 (2147483639)) (by decide +kernel)) dJ8_newLength_cabcc_14 ?_
    refine lv_icmp_gt (tgt := 21) hx hb dJ8_newLength_cabcc_16 (by decide) (fun c16 => ?_) (fun c16 => ?_)
    · rw [ex3] at c16
      exact absurd c16 (show ¬ nI 2147483639 < nI (gcap n) from nI_nlt (by have := gcap_le h2; omega) (by decide))
    · refine lv_iload_n hx hb dJ8_newLength_cabcc_19 rfl (lv_at hl 0 rfl) ?_
      exact r_int hx hb hr hlocks hw dJ8_newLength_cabcc_20 (Nat.le_of_ble_eq_true rfl) (Nat.le_of_ble_eq_true rfl) (⟨by rw [ex3], rfl⟩)
set_option maxHeartbeats 4000000 in
set_option maxRecDepth 100000 in
theorem c_copy3 (l : Launch) (g : GG) (h : Nat → Option va_E) (arr n m' : Nat) (f : Nat → Option Nat) (k : Int32) (ek : k = nI m') (hr0 : h arr = some (arO g n f)) (hel : ∀ i, i < n → ∀ y, f i = some y → isE h y) (h1 : n ≤ m') (h2 : m' ≤ 800) : Con l yJ7_copyOf_6403c wsJ7_copyOf_6403c 1 40 1 800 [.ref arr, .int k, .ref (gM g)] g h (fun v h' => ∃ q : Nat, h q = none ∧ v = some (.ref q) ∧ h' = wu h q (arO g m' (va_cpy f (fun _ => none) 0 0 n))) := by
  refine m_start (cc := cJ7_copyOf_6403c) (maxL := 4) (ret := (some (.array (.object "java/lang/Object")))) (by decide) rfl (Nat.le_of_ble_eq_true rfl) ?_
  intro p e s m below meth c A ls hx hb hr hml hts hown hlocks hin hw hl
  have hl : lv_has ls 4 [(0, .ref arr), (1, .int k), (2, .ref (gM g))] := hl
  have hown : s.vm.findClass RJ7 = some m.cls := hown
  refine lv_aload_n hx hb dJ7_copyOf_6403c_0 rfl (lv_at hl 2 rfl) ?_
  refine va_ldcM hx hb hown (hts (.classLink RJ7 110 "[Ljava/lang/Object;") (by decide +kernel)) hw.2.2.2.2.2.2.2.2.1 dJ7_copyOf_6403c_1 ?_
  refine lv_acmp_ne (rx := some (gM g)) (ry := some (gM g)) (tgt := 13) hx hb dJ7_copyOf_6403c_3 (by decide) (fun c0 => absurd rfl c0) (fun _ => ?_)
  refine lv_iload_n hx hb dJ7_copyOf_6403c_6 rfl (lv_at hl 1 rfl) ?_
  refine w_newq (N' := m') hx hb hown (hts (.classLink RJ7 2 "java/lang/Object") (by decide +kernel)) hw (by rw [ek]; exact nI_pos (by omega)) (by rw [ek]; exact nI_clamp (by omega)) (by omega) (Nat.le_of_ble_eq_true rfl) (by show 0 + m' ≤ 800; omega) dJ7_copyOf_6403c_7 (fun q H hq hw => ?_)
  refine W.widen (k := 1) (n := 800) (by omega) (by omega) ?_
  refine lv_goto (tgt := 24) hx hb dJ7_copyOf_6403c_10 (by decide) ?_
  refine lv_astore_n (lv' := [(3, .ref q), (0, .ref arr), (1, .int k), (2, .ref (gM g))]) hx hb dJ7_copyOf_6403c_24 rfl hl (by decide) rfl (fun ls hl => ?_)
  refine lv_aload_n hx hb dJ7_copyOf_6403c_25 rfl (lv_at hl 1 rfl) ?_
  refine lv_iconst (v := 0) hx hb dJ7_copyOf_6403c_26 (by decide) ?_
  refine lv_aload_n hx hb dJ7_copyOf_6403c_27 rfl (lv_at hl 0 rfl) ?_
  refine lv_iconst (v := 0) hx hb dJ7_copyOf_6403c_28 (by decide) ?_
  refine lv_aload_n hx hb dJ7_copyOf_6403c_29 rfl (lv_at hl 1 rfl) ?_
  refine w_alenO (v := nI n) hx hb hw ((wu_n (ne_n hr0 hq)).trans hr0) rfl dJ7_copyOf_6403c_30 ?_
  refine lv_iload_n hx hb dJ7_copyOf_6403c_31 rfl (lv_at hl 2 rfl) ?_
  refine va_mmin hx hb (hml.trans hl.1.symm) hown (hts (.methodLink RJ7 304 Lib.Math.min.name) (by decide +kernel)) (hts (.static Lib.Math.min.name) (by decide +kernel)) (hts (.initialized "java/lang/Math") (by decide +kernel)) (hts _ (List.mem_of_getElem? (i := 6) rfl)) (Nat.le_of_ble_eq_true rfl) (Nat.le_of_ble_eq_true rfl) (Nat.le_of_ble_eq_true rfl) (Nat.le_of_ble_eq_true rfl) dJ7_copyOf_6403c_32 ?_
  refine lv_topi (fun x4 ex4 => ?_)
  have ex4 : x4 = nI n := ex4.trans (by rw [ek]; exact if_neg (nI_nlt h1 (by omega)))
  refine w_copy hx hb (hml.trans hl.1.symm) hown (hts (.methodLink RJ7 150 arraycopyName) (by decide +kernel)) (hts (.native arraycopyName) (by decide +kernel)) (hts (.static arraycopyName) (by decide +kernel)) (hts (.initialized "java/lang/System") (by decide +kernel)) hw ((wu_n (ne_n hr0 hq)).trans hr0) (wu_s _ _ _) (by decide) (by decide) (by rw [ex4]; exact nI_pos (by omega)) (by rw [ex4, sb_cl0, nI_clamp (by omega)]; omega) (by rw [ex4, sb_cl0, nI_clamp (by omega)]; omega) (fun i hi y hy => isE_wu hq (hel i (by rw [ex4, nI_clamp (by omega)] at hi; exact hi) y (by rw [sb_cl0, Nat.zero_add] at hy; exact hy))) (Nat.le_of_ble_eq_true rfl) (Nat.le_of_ble_eq_true rfl) dJ7_copyOf_6403c_35 (fun H locs hw => ?_)
  refine lv_aload_n hx hb dJ7_copyOf_6403c_38 rfl (lv_at hl 0 rfl) ?_
  exact r_ref hx hb hr (Or.inr ⟨_, rfl⟩) (Or.inr ⟨_, rfl⟩) hlocks hw dJ7_copyOf_6403c_39 (Nat.le_of_ble_eq_true rfl) (Nat.le_of_ble_eq_true rfl) (⟨q, hq, rfl, by rw [wu_uu, ex4, sb_cl0, nI_clamp (by omega)]⟩)
set_option maxHeartbeats 4000000 in
set_option maxRecDepth 100000 in
theorem c_copy2 (l : Launch) (g : GG) (h : Nat → Option va_E) (arr n m' : Nat) (f : Nat → Option Nat) (k : Int32) (ek : k = nI m') (hr0 : h arr = some (arO g n f)) (hel : ∀ i, i < n → ∀ y, f i = some y → isE h y) (h1 : n ≤ m') (h2 : m' ≤ 800) : Con l yJ7_copyOf_1904c wsJ7_copyOf_1904c 2 63 1 800 [.ref arr, .int k] g h (fun v h' => ∃ q : Nat, h q = none ∧ v = some (.ref q) ∧ h' = wu h q (arO g m' (va_cpy f (fun _ => none) 0 0 n))) := by
  refine m_start (cc := cJ7_copyOf_1904c) (maxL := 2) (ret := (some (.array (.object "java/lang/Object")))) (by decide) rfl (Nat.le_of_ble_eq_true rfl) ?_
  intro p e s m below meth c A ls hx hb hr hml hts hown hlocks hin hw hl
  have hl : lv_has ls 2 [(0, .ref arr), (1, .int k)] := hl
  have hown : s.vm.findClass RJ7 = some m.cls := hown
  refine lv_aload_n hx hb dJ7_copyOf_1904c_0 rfl (lv_at hl 0 rfl) ?_
  refine lv_iload_n hx hb dJ7_copyOf_1904c_1 rfl (lv_at hl 1 rfl) ?_
  refine lv_aload_n hx hb dJ7_copyOf_1904c_2 rfl (lv_at hl 0 rfl) ?_
  refine va_getC (C := "[Ljava/lang/Object;") hx hb (hml.trans hl.1.symm) hown (hts (.methodLink RJ7 86 ⟨"java/lang/Object", "getClass", "()Ljava/lang/Class;"⟩) (by decide +kernel)) (va_Dc.use hw.2.2.2.2.2.2.2.2.2.1) (hts (.selects "[Ljava/lang/Object;" ⟨"java/lang/Object", "getClass", "()Ljava/lang/Class;"⟩ ⟨"java/lang/Object", "getClass", "()Ljava/lang/Class;"⟩) (by decide +kernel)) (hts (.instanceMethod ⟨"java/lang/Object", "getClass", "()Ljava/lang/Class;"⟩) (by decide +kernel)) (hts (.native ⟨"java/lang/Object", "getClass", "()Ljava/lang/Class;"⟩) (by decide +kernel)) hw.2.2.2.2.2.2.2.2.1 (w_recvA hw hr0) (Nat.le_of_ble_eq_true rfl) (Nat.le_of_ble_eq_true rfl) dJ7_copyOf_1904c_3 ?_
  refine w_call (va_runS (As := [.ref arr, .int k, .ref (gM g)]) (rest := []) ⟨hx, hb, hml, hown, hts⟩ (c_copy3 l g h arr n m' f k ek hr0 hel h1 h2 s.heap.size) (va_cwS 3 hts gJ7_copyOf_1904c_J7_copyOf_6403c rfl rfl rfl (by decide +kernel) ⟨Nat.le_of_ble_eq_true rfl, Nat.le_of_ble_eq_true rfl⟩) ⟨pr_blind, pr_of hw⟩ rfl rfl hl.1 rfl (lv_room (Nat.le_of_ble_eq_true rfl)) dJ7_copyOf_1904c_6 ⟨Nat.le_of_ble_eq_true rfl, Nat.le_of_ble_eq_true rfl⟩) hw (fun v h' H locs hp hw => ?_)
  obtain ⟨q, hq, rfl, rfl⟩ := hp
  refine W.eq (g2 := F0 m 9 ls [.ref q]) rfl ?_
  exact r_ref hx hb hr (Or.inr ⟨_, rfl⟩) (Or.inr ⟨_, rfl⟩) hlocks hw dJ7_copyOf_1904c_9 (Nat.le_of_ble_eq_true rfl) (Nat.le_of_ble_eq_true rfl) (⟨q, hq, rfl, rfl⟩)
theorem in_Jx4a65c_grow_92f84_0 : ∀ w ∈ u_ws RJx4a65c TJx4a65c 3, w ∈ wsJx4a65c_grow_92f84 := by decide +kernel
set_option maxHeartbeats 4000000 in
set_option maxRecDepth 100000 in
theorem c_AL_growF (l : Launch) (g : GG) (h : Nat → Option va_E) (mc : Int32) (a arr n : Nat) (f : Nat → Option Nat) (k : Int32) (ek : k = nI (n + 1)) (ha : h a = some (oAL mc arr (nI n))) (hr0 : h arr = some (arO g n f)) (h1 : 1 ≤ n) (h2 : n ≤ 530) (hel : ∀ i, i < n → ∀ y, f i = some y → isE h y) : Con l yJx4a65c_grow_92f84 wsJx4a65c_grow_92f84 3 84 1 800 [.ref a, .int k] g h (fun v h' => ∃ (q cap' : Nat) (f' : Nat → Option Nat), h q = none ∧ v = some (.ref q) ∧ h' = wu (wu h q (arO g cap' f')) a (oAL mc q (nI n)) ∧ n < cap' ∧ cap' ≤ 800 ∧ ∀ i, i < n → f' i = f i) := by
  refine m_start (cc := cJx4a65c_grow_92f84) (maxL := 4) (ret := (some (.array (.object "java/lang/Object")))) (by decide) rfl (Nat.le_of_ble_eq_true rfl) ?_
  intro p e s m below meth c A ls hx hb hr hml hts hown hlocks hin hw hl
  have hl : lv_has ls 4 [(0, .ref a), (1, .int k)] := hl
  have hown : s.vm.findClass RJx4a65c = some m.cls := hown
  refine lv_aload_n hx hb dJx4a65c_grow_92f84_0 rfl (lv_at hl 0 rfl) ?_
  refine w_get (ci := 0) (C := RJx4a65c) (T := TJx4a65c) (N := 3) (ref := "java/util/ArrayList") hx hb hts in_Jx4a65c_grow_92f84_0 hown hw ha rfl 1 (by decide) (hts (.fieldLink RJx4a65c 9 "java/util/ArrayList" "elementData" "[Ljava/lang/Object;") (by decide +kernel)) (fun _ h9 => h9) rfl dJx4a65c_grow_92f84_1 ?_
  refine w_alenO (v := nI n) hx hb hw hr0 rfl dJx4a65c_grow_92f84_4 ?_
  refine lv_istore_n (lv' := [(2, .int (nI n)), (0, .ref a), (1, .int k)]) hx hb dJx4a65c_grow_92f84_5 rfl hl (by decide) rfl (fun ls hl => ?_)
  refine lv_iload_n hx hb dJx4a65c_grow_92f84_6 rfl (lv_at hl 0 rfl) ?_
  refine lv_if_gt (tgt := 20) hx hb dJx4a65c_grow_92f84_7 (by decide) (fun c7 => ?_) (fun c7 => ?_)
  · refine lv_iload_n hx hb dJx4a65c_grow_92f84_20 rfl (lv_at hl 0 rfl) ?_
    refine lv_iload_n hx hb dJx4a65c_grow_92f84_21 rfl (lv_at hl 2 rfl) ?_
    refine lv_iload_n hx hb dJx4a65c_grow_92f84_22 rfl (lv_at hl 0 rfl) ?_
    refine lv_isub hx hb dJx4a65c_grow_92f84_23 ?_
    refine lv_topi (fun x5 ex5 => ?_)
    refine lv_iload_n hx hb dJx4a65c_grow_92f84_24 rfl (lv_at hl 0 rfl) ?_
    refine lv_iconst (v := 1) hx hb dJx4a65c_grow_92f84_25 (by decide) ?_
    refine lv_ishr hx hb dJx4a65c_grow_92f84_26 ?_
    refine lv_topi (fun x6 ex6 => ?_)
    have ex5 : x5 = nI 1 := by rw [ex5, ek, pk_sub (by omega)]; congr 1; omega
    have ex6 : x6 = nI (n / 2) := by rw [ex6]; have k2 := pk_shrN (n := n) (by omega) ((1 : Int32) &&& 31) 1 (by decide); rw [Nat.pow_one] at k2; exact k2
    subst ex5
    subst ex6
    refine w_call (va_runS (As := [.int (nI n), .int (nI 1), .int (nI (n / 2))]) (rest := []) ⟨hx, hb, hml, hown, hts⟩ (c_newLen l g h n h2 s.heap.size) (va_cwS 3 hts gJx4a65c_grow_92f84_J8_newLength_cabcc rfl rfl rfl (by decide +kernel) ⟨Nat.le_of_ble_eq_true rfl, Nat.le_of_ble_eq_true rfl⟩) ⟨pr_blind, pr_of hw⟩ rfl rfl hl.1 rfl (lv_room (Nat.le_of_ble_eq_true rfl)) dJx4a65c_grow_92f84_27 ⟨Nat.le_of_ble_eq_true rfl, Nat.le_of_ble_eq_true rfl⟩) hw (fun v h' H locs hp hw => ?_)
    obtain ⟨rfl, rfl⟩ := hp
    refine W.eq (g2 := F0 m 30 ls [.int (nI (gcap n))]) rfl ?_
    refine lv_istore_n (lv' := [(3, .int (nI (gcap n))), (2, .int (nI n)), (0, .ref a), (1, .int k)]) hx hb dJx4a65c_grow_92f84_30 rfl hl (by decide) rfl (fun ls hl => ?_)
    refine lv_aload_n hx hb dJx4a65c_grow_92f84_31 rfl (lv_at hl 2 rfl) ?_
    refine lv_aload_n hx hb dJx4a65c_grow_92f84_32 rfl (lv_at hl 2 rfl) ?_
    refine w_get (ci := 0) (C := RJx4a65c) (T := TJx4a65c) (N := 3) (ref := "java/util/ArrayList") hx hb hts in_Jx4a65c_grow_92f84_0 hown hw ha rfl 1 (by decide) (hts (.fieldLink RJx4a65c 9 "java/util/ArrayList" "elementData" "[Ljava/lang/Object;") (by decide +kernel)) (fun _ h9 => h9) rfl dJx4a65c_grow_92f84_33 ?_
    refine lv_iload_n hx hb dJx4a65c_grow_92f84_36 rfl (lv_at hl 0 rfl) ?_
    refine w_call (va_runS (As := [.ref arr, .int (nI (gcap n))]) (rest := [.ref a]) ⟨hx, hb, hml, hown, hts⟩ (c_copy2 l g h arr n (gcap n) f (nI (gcap n)) rfl hr0 hel (by have := gcap_lt n; omega) (gcap_le h2) H.size) (va_cwS 2 hts gJx4a65c_grow_92f84_J7_copyOf_1904c rfl rfl rfl (by decide +kernel) ⟨Nat.le_of_ble_eq_true rfl, Nat.le_of_ble_eq_true rfl⟩) ⟨pr_blind, pr_of hw⟩ rfl rfl hl.1 rfl (lv_room (Nat.le_of_ble_eq_true rfl)) dJx4a65c_grow_92f84_37 ⟨Nat.le_of_ble_eq_true rfl, Nat.le_of_ble_eq_true rfl⟩) hw (fun v h' H locs hp hw => ?_)
    obtain ⟨q, hq, rfl, rfl⟩ := hp
    refine W.eq (g2 := F0 m 40 ls [.ref q, .ref a]) rfl ?_
    refine lv_dup_x1 hx hb dJx4a65c_grow_92f84_40 rfl rfl ?_
    refine w_put (ci := 0) (C := RJx4a65c) (T := TJx4a65c) (N := 3) (ref := "java/util/ArrayList") (ty := .array (.object "java/lang/Object")) (fs' := [.int mc, .ref q, .int (nI n)]) hx hb hts in_Jx4a65c_grow_92f84_0 tyJx4a65c tyJx4a65c_ok nmJx4a65c hown hw ((wu_n (ne_n ha hq)).trans ha) rfl 1 (by decide) (hts (.fieldLink RJx4a65c 9 "java/util/ArrayList" "elementData" "[Ljava/lang/Object;") (by decide +kernel)) (fun _ h9 => h9) rfl (by decide +kernel) rfl rfl (Nat.le_of_ble_eq_true rfl) rfl dJx4a65c_grow_92f84_41 (fun H locs hw => ?_)
    exact r_ref hx hb hr (Or.inr ⟨_, rfl⟩) (Or.inr ⟨_, rfl⟩) hlocks hw dJx4a65c_grow_92f84_44 (Nat.le_of_ble_eq_true rfl) (Nat.le_of_ble_eq_true rfl) (⟨q, gcap n, _, hq, rfl, rfl, gcap_lt n, gcap_le h2, fun i hi => by simp [va_cpy, hi]⟩)
  · exact absurd (nI_0lt (by omega) (by omega)) c7
set_option maxHeartbeats 4000000 in
set_option maxRecDepth 100000 in
theorem c_AL_growZ (l : Launch) (g : GG) (h : Nat → Option va_E) (mc : Int32) (a : Nat) (f : Nat → Option Nat) (k : Int32) (ek : k = nI (0 + 1)) (ha : h a = some (oAL mc (gZ g) (nI 0))) : Con l yJx4a65c_grow_92f84 wsJx4a65c_grow_92f84 3 84 1 800 [.ref a, .int k] g h (fun v h' => ∃ (q cap' : Nat) (f' : Nat → Option Nat), h q = none ∧ v = some (.ref q) ∧ h' = wu (wu h q (arO g cap' f')) a (oAL mc q (nI 0)) ∧ 0 < cap' ∧ cap' ≤ 800 ∧ ∀ i, i < 0 → f' i = f i) := by
  refine m_start (cc := cJx4a65c_grow_92f84) (maxL := 4) (ret := (some (.array (.object "java/lang/Object")))) (by decide) rfl (Nat.le_of_ble_eq_true rfl) ?_
  intro p e s m below meth c A ls hx hb hr hml hts hown hlocks hin hw hl
  have hl : lv_has ls 4 [(0, .ref a), (1, .int k)] := hl
  have hown : s.vm.findClass RJx4a65c = some m.cls := hown
  refine lv_aload_n hx hb dJx4a65c_grow_92f84_0 rfl (lv_at hl 0 rfl) ?_
  refine w_get (ci := 0) (C := RJx4a65c) (T := TJx4a65c) (N := 3) (ref := "java/util/ArrayList") hx hb hts in_Jx4a65c_grow_92f84_0 hown hw ha rfl 1 (by decide) (hts (.fieldLink RJx4a65c 9 "java/util/ArrayList" "elementData" "[Ljava/lang/Object;") (by decide +kernel)) (fun _ h9 => h9) rfl dJx4a65c_grow_92f84_1 ?_
  refine va_tlen (v := 0) hx hb hw.2.2.2.2.2.1 hw.2.2.1 (by decide) dJx4a65c_grow_92f84_4 ?_
  refine lv_istore_n (lv' := [(2, .int 0), (0, .ref a), (1, .int k)]) hx hb dJx4a65c_grow_92f84_5 rfl hl (by decide) rfl (fun ls hl => ?_)
  refine lv_iload_n hx hb dJx4a65c_grow_92f84_6 rfl (lv_at hl 0 rfl) ?_
  refine lv_if_gt (tgt := 20) hx hb dJx4a65c_grow_92f84_7 (by decide) (fun c7 => ?_) (fun c7 => ?_)
  · exact absurd c7 (by decide)
  · refine lv_aload_n hx hb dJx4a65c_grow_92f84_10 rfl (lv_at hl 1 rfl) ?_
    refine w_get (ci := 0) (C := RJx4a65c) (T := TJx4a65c) (N := 3) (ref := "java/util/ArrayList") hx hb hts in_Jx4a65c_grow_92f84_0 hown hw ha rfl 1 (by decide) (hts (.fieldLink RJx4a65c 9 "java/util/ArrayList" "elementData" "[Ljava/lang/Object;") (by decide +kernel)) (fun _ h9 => h9) rfl dJx4a65c_grow_92f84_11 ?_
    refine va_gets hx hb hw.2.2.2.2.1 hw.2.2.1 hown (hts (.fieldLink RJx4a65c 39 "java/util/ArrayList" "DEFAULTCAPACITY_EMPTY_ELEMENTDATA" "[Ljava/lang/Object;") (by decide +kernel)) (fun _ h9 => h9) dJx4a65c_grow_92f84_14 ?_
    refine lv_acmp_eq (rx := some (gZ g)) (ry := some (gZ g)) (tgt := 45) hx hb dJx4a65c_grow_92f84_17 (by decide) (fun _ => ?_) (fun c0 => absurd rfl c0)
    refine lv_aload_n hx hb dJx4a65c_grow_92f84_45 rfl (lv_at hl 1 rfl) ?_
    refine lv_bipush (v := 10) hx hb dJx4a65c_grow_92f84_46 (by decide) ?_
    refine lv_iload_n hx hb dJx4a65c_grow_92f84_48 rfl (lv_at hl 2 rfl) ?_
    refine va_mmax hx hb (hml.trans hl.1.symm) hown (hts (.methodLink RJx4a65c 79 Lib.Math.max.name) (by decide +kernel)) (hts (.static Lib.Math.max.name) (by decide +kernel)) (hts (.initialized "java/lang/Math") (by decide +kernel)) (hts _ (List.mem_of_getElem? (i := 6) rfl)) (Nat.le_of_ble_eq_true rfl) (Nat.le_of_ble_eq_true rfl) (Nat.le_of_ble_eq_true rfl) (Nat.le_of_ble_eq_true rfl) dJx4a65c_grow_92f84_49 ?_
    refine lv_topi (fun x7 ex7 => ?_)
    have ex7 : x7 = nI 10 := by rw [ex7, ek]; decide
    refine w_newq (N' := 10) hx hb hown (hts (.classLink RJx4a65c 7 "java/lang/Object") (by decide +kernel)) hw (by rw [ex7]; exact nI_pos (by decide)) (by rw [ex7]; exact nI_clamp (by decide)) (by decide) (Nat.le_of_ble_eq_true rfl) (by decide) dJx4a65c_grow_92f84_52 (fun q H hq hw => ?_)
    refine W.widen (k := 1) (n := 800) (by omega) (by omega) ?_
    refine lv_dup_x1 hx hb dJx4a65c_grow_92f84_55 rfl rfl ?_
    refine w_put (ci := 0) (C := RJx4a65c) (T := TJx4a65c) (N := 3) (ref := "java/util/ArrayList") (ty := .array (.object "java/lang/Object")) (fs' := [.int mc, .ref q, .int (nI 0)]) hx hb hts in_Jx4a65c_grow_92f84_0 tyJx4a65c tyJx4a65c_ok nmJx4a65c hown hw ((wu_n (ne_n ha hq)).trans ha) rfl 1 (by decide) (hts (.fieldLink RJx4a65c 9 "java/util/ArrayList" "elementData" "[Ljava/lang/Object;") (by decide +kernel)) (fun _ h9 => h9) rfl (by decide +kernel) rfl rfl (Nat.le_of_ble_eq_true rfl) rfl dJx4a65c_grow_92f84_56 (fun H locs hw => ?_)
    exact r_ref hx hb hr (Or.inr ⟨_, rfl⟩) (Or.inr ⟨_, rfl⟩) hlocks hw dJx4a65c_grow_92f84_59 (Nat.le_of_ble_eq_true rfl) (Nat.le_of_ble_eq_true rfl) (⟨q, 10, _, hq, rfl, rfl, by omega, by omega, fun i hi => absurd hi (by omega)⟩)
theorem c_AL_growI (l : Launch) (g : GG) (h : Nat → Option va_E) (mc : Int32) (a arr n : Nat) (f : Nat → Option Nat) (k : Int32) (ek : k = nI (n + 1)) (ha : h a = some (oAL mc arr (nI n))) (hp : (h arr = some (arO g n f) ∧ 1 ≤ n ∧ n ≤ 530 ∧ ∀ i, i < n → ∀ y, f i = some y → isE h y) ∨ (arr = gZ g ∧ h (gZ g) = none ∧ n = 0)) : Con l yJx4a65c_grow_92f84 wsJx4a65c_grow_92f84 3 84 1 800 [.ref a, .int k] g h (fun v h' => ∃ (q cap' : Nat) (f' : Nat → Option Nat), h q = none ∧ v = some (.ref q) ∧ h' = wu (wu h q (arO g cap' f')) a (oAL mc q (nI n)) ∧ n < cap' ∧ cap' ≤ 800 ∧ ∀ i, i < n → f' i = f i) := by
  rcases hp with ⟨h1, h2, h3, h4⟩ | ⟨h1, h2, h3⟩
  · exact c_AL_growF l g h mc a arr n f k ek ha h1 h2 h3 h4
  · subst h1
    subst h3
    exact c_AL_growZ l g h mc a f k ek ha
theorem in_Jx4a65c_grow_d5877_0 : ∀ w ∈ u_ws RJx4a65c TJx4a65c 3, w ∈ wsJx4a65c_grow_d5877 := by decide +kernel
set_option maxHeartbeats 4000000 in
set_option maxRecDepth 100000 in
theorem c_AL_grow (l : Launch) (g : GG) (h : Nat → Option va_E) (mc : Int32) (a arr n : Nat) (f : Nat → Option Nat) (ha : h a = some (oAL mc arr (nI n))) (hp : (h arr = some (arO g n f) ∧ 1 ≤ n ∧ n ≤ 530 ∧ ∀ i, i < n → ∀ y, f i = some y → isE h y) ∨ (arr = gZ g ∧ h (gZ g) = none ∧ n = 0)) : Con l yJx4a65c_grow_d5877 wsJx4a65c_grow_d5877 4 107 1 800 [.ref a] g h (fun v h' => ∃ (q cap' : Nat) (f' : Nat → Option Nat), h q = none ∧ v = some (.ref q) ∧ h' = wu (wu h q (arO g cap' f')) a (oAL mc q (nI n)) ∧ n < cap' ∧ cap' ≤ 800 ∧ ∀ i, i < n → f' i = f i) := by
  refine m_start (cc := cJx4a65c_grow_d5877) (maxL := 1) (ret := (some (.array (.object "java/lang/Object")))) (by decide) rfl (Nat.le_of_ble_eq_true rfl) ?_
  intro p e s m below meth c A ls hx hb hr hml hts hown hlocks hin hw hl
  have hl : lv_has ls 1 [(0, .ref a)] := hl
  have hown : s.vm.findClass RJx4a65c = some m.cls := hown
  refine lv_aload_n hx hb dJx4a65c_grow_d5877_0 rfl (lv_at hl 0 rfl) ?_
  refine lv_aload_n hx hb dJx4a65c_grow_d5877_1 rfl (lv_at hl 0 rfl) ?_
  refine w_get (ci := 0) (C := RJx4a65c) (T := TJx4a65c) (N := 3) (ref := "java/util/ArrayList") hx hb hts in_Jx4a65c_grow_d5877_0 hown hw ha rfl 2 (by decide) (hts (.fieldLink RJx4a65c 48 "java/util/ArrayList" "size" "I") (by decide +kernel)) (fun _ h9 => h9) rfl dJx4a65c_grow_d5877_2 ?_
  refine lv_iconst (v := 1) hx hb dJx4a65c_grow_d5877_5 (by decide) ?_
  refine lv_iadd hx hb dJx4a65c_grow_d5877_6 ?_
  refine lv_topi (fun k ek => ?_)
  refine w_call (va_runV (As := [.int k]) (rest := []) ⟨hx, hb, hml, hown, hts⟩ (c_AL_growI l g h mc a arr n f k (ek.trans (nI_1 n)) ha hp s.heap.size) (cwV 1 hts gJx4a65c_grow_d5877_Jx4a65c_grow_92f84 rfl rfl rfl (by decide +kernel) ⟨Nat.le_of_ble_eq_true rfl, Nat.le_of_ble_eq_true rfl⟩) ⟨pr_blind, w_recv hw ha rfl, pr_of hw⟩ rfl rfl hl.1 rfl (lv_room (Nat.le_of_ble_eq_true rfl)) dJx4a65c_grow_d5877_7 ⟨Nat.le_of_ble_eq_true rfl, Nat.le_of_ble_eq_true rfl⟩) hw (fun v h' H locs hp hw => ?_)
  obtain ⟨q, cap', f', hq, rfl, rfl, hc1, hc2, hc3⟩ := hp
  refine W.eq (g2 := F0 m 10 ls [.ref q]) rfl ?_
  exact r_ref hx hb hr (Or.inr ⟨_, rfl⟩) (Or.inr ⟨_, rfl⟩) hlocks hw dJx4a65c_grow_d5877_10 (Nat.le_of_ble_eq_true rfl) (Nat.le_of_ble_eq_true rfl) (⟨q, cap', f', hq, rfl, rfl, hc1, hc2, hc3⟩)
theorem in_Jx4a65c_add_72be8_0 : ∀ w ∈ u_ws RJx4a65c TJx4a65c 3, w ∈ wsJx4a65c_add_72be8 := by decide +kernel
set_option maxHeartbeats 4000000 in
set_option maxRecDepth 100000 in
theorem c_AL_add3A (l : Launch) (g : GG) (h : Nat → Option va_E) (mc : Int32) (a arr x n cap : Nat) (f : Nat → Option Nat) (ha : h a = some (oAL mc arr (nI n))) (hx0 : isE h x) (hr0 : h arr = some (arO g cap f)) (h1 : n < cap) (h2 : cap ≤ 800) : Con l yJx4a65c_add_72be8 wsJx4a65c_add_72be8 5 127 1 800 [.ref a, .ref x, .ref arr, .int (nI n)] g h (fun v h' => ∃ (arr' cap' : Nat) (f' : Nat → Option Nat), v = none ∧ (arr' = arr ∨ h arr' = none) ∧ h' a = some (oAL mc arr' (nI (n + 1))) ∧ h' arr' = some (arO g cap' f') ∧ n + 1 ≤ cap' ∧ cap' ≤ 800 ∧ (∀ i, i < n → f' i = f i) ∧ f' n = some x ∧ ∀ q, q ≠ a → q ≠ arr' → h' q = h q) := by
  refine m_start (cc := cJx4a65c_add_72be8) (maxL := 4) (ret := none) (by decide) rfl (Nat.le_of_ble_eq_true rfl) ?_
  intro p e s m below meth c A ls hx hb hr hml hts hown hlocks hin hw hl
  have hl : lv_has ls 4 [(0, .ref a), (1, .ref x), (2, .ref arr), (3, .int (nI n))] := hl
  have hown : s.vm.findClass RJx4a65c = some m.cls := hown
  refine lv_iload_n hx hb dJx4a65c_add_72be8_0 rfl (lv_at hl 3 rfl) ?_
  refine lv_aload_n hx hb dJx4a65c_add_72be8_1 rfl (lv_at hl 2 rfl) ?_
  refine w_alenO (v := nI cap) hx hb hw hr0 rfl dJx4a65c_add_72be8_2 ?_
  refine lv_icmp_ne (tgt := 11) hx hb dJx4a65c_add_72be8_3 (by decide) (fun c3 => ?_) (fun c3 => ?_)
  · refine lv_aload_n hx hb dJx4a65c_add_72be8_11 rfl (lv_at hl 2 rfl) ?_
    refine lv_iload_n hx hb dJx4a65c_add_72be8_12 rfl (lv_at hl 3 rfl) ?_
    refine lv_aload_n hx hb dJx4a65c_add_72be8_13 rfl (lv_at hl 1 rfl) ?_
    refine w_aast hx hb hw hr0 (w_any hw hx0) (vp_in_nI h1 (by omega)) dJx4a65c_add_72be8_14 (fun H locs hw => ?_)
    refine lv_aload_n hx hb dJx4a65c_add_72be8_15 rfl (lv_at hl 0 rfl) ?_
    refine lv_iload_n hx hb dJx4a65c_add_72be8_16 rfl (lv_at hl 3 rfl) ?_
    refine lv_iconst (v := 1) hx hb dJx4a65c_add_72be8_17 (by decide) ?_
    refine lv_iadd hx hb dJx4a65c_add_72be8_18 ?_
    refine w_put (ci := 0) (C := RJx4a65c) (T := TJx4a65c) (N := 3) (ref := "java/util/ArrayList") (ty := .int) (fs' := [.int mc, .ref arr, .int ((nI n) + 1)]) hx hb hts in_Jx4a65c_add_72be8_0 tyJx4a65c tyJx4a65c_ok nmJx4a65c hown hw ((wu_n (ne_e ha hr0 ne_rl)).trans ha) rfl 2 (by decide) (hts (.fieldLink RJx4a65c 48 "java/util/ArrayList" "size" "I") (by decide +kernel)) (fun _ h9 => h9) rfl (by decide +kernel) rfl rfl (Nat.le_of_ble_eq_true rfl) rfl dJx4a65c_add_72be8_19 (fun H locs hw => ?_)
    exact r_void hx hb hr hlocks hw dJx4a65c_add_72be8_22 (Nat.le_of_ble_eq_true rfl) (Nat.le_of_ble_eq_true rfl) (⟨arr, cap, _, rfl, Or.inl rfl, by rw [wu_s, nI_1], (wu_n (ne_e hr0 ha ne_lr)).trans (wu_s _ _ _), h1, h2, fun i hi => by rw [nI_clamp (by omega)]; exact va_up_ne _ _ (by omega), by rw [nI_clamp (by omega)]; exact va_up_self _ _ _, fun q h1 h2 => (wu_n h1).trans (wu_n h2)⟩)
  · exact absurd ((nI_eq (by omega) (by omega)).mp c3) (by omega)
set_option maxHeartbeats 4000000 in
set_option maxRecDepth 100000 in
theorem c_AL_add3B (l : Launch) (g : GG) (h : Nat → Option va_E) (mc : Int32) (a arr x n : Nat) (f : Nat → Option Nat) (ha : h a = some (oAL mc arr (nI n))) (hx0 : isE h x) (hr0 : h arr = some (arO g n f)) (h1 : 1 ≤ n) (h2 : n ≤ 530) (hel : ∀ i, i < n → ∀ y, f i = some y → isE h y) : Con l yJx4a65c_add_72be8 wsJx4a65c_add_72be8 5 127 1 800 [.ref a, .ref x, .ref arr, .int (nI n)] g h (fun v h' => ∃ (arr' cap' : Nat) (f' : Nat → Option Nat), v = none ∧ (arr' = arr ∨ h arr' = none) ∧ h' a = some (oAL mc arr' (nI (n + 1))) ∧ h' arr' = some (arO g cap' f') ∧ n + 1 ≤ cap' ∧ cap' ≤ 800 ∧ (∀ i, i < n → f' i = f i) ∧ f' n = some x ∧ ∀ q, q ≠ a → q ≠ arr' → h' q = h q) := by
  refine m_start (cc := cJx4a65c_add_72be8) (maxL := 4) (ret := none) (by decide) rfl (Nat.le_of_ble_eq_true rfl) ?_
  intro p e s m below meth c A ls hx hb hr hml hts hown hlocks hin hw hl
  have hl : lv_has ls 4 [(0, .ref a), (1, .ref x), (2, .ref arr), (3, .int (nI n))] := hl
  have hown : s.vm.findClass RJx4a65c = some m.cls := hown
  refine lv_iload_n hx hb dJx4a65c_add_72be8_0 rfl (lv_at hl 3 rfl) ?_
  refine lv_aload_n hx hb dJx4a65c_add_72be8_1 rfl (lv_at hl 2 rfl) ?_
  refine w_alenO (v := nI n) hx hb hw hr0 rfl dJx4a65c_add_72be8_2 ?_
  refine lv_icmp_ne (tgt := 11) hx hb dJx4a65c_add_72be8_3 (by decide) (fun c3 => ?_) (fun c3 => ?_)
  · exact absurd rfl c3
  · refine lv_aload_n hx hb dJx4a65c_add_72be8_6 rfl (lv_at hl 0 rfl) ?_
    refine w_call (va_runV (As := []) (rest := []) ⟨hx, hb, hml, hown, hts⟩ (c_AL_grow l g h mc a arr n f ha (Or.inl ⟨hr0, h1, h2, hel⟩) s.heap.size) (cwV 0 hts gJx4a65c_add_72be8_Jx4a65c_grow_d5877 rfl rfl rfl (by decide +kernel) ⟨Nat.le_of_ble_eq_true rfl, Nat.le_of_ble_eq_true rfl⟩) ⟨pr_blind, w_recv hw ha rfl, pr_of hw⟩ rfl rfl hl.1 rfl (lv_room (Nat.le_of_ble_eq_true rfl)) dJx4a65c_add_72be8_7 ⟨Nat.le_of_ble_eq_true rfl, Nat.le_of_ble_eq_true rfl⟩) hw (fun v h' H locs hp hw => ?_)
    obtain ⟨q, cap', f', hq, rfl, rfl, hc1, hc2, hc3⟩ := hp
    refine W.eq (g2 := F0 m 10 ls [.ref q]) rfl ?_
    refine lv_astore_n (lv' := [(2, .ref q), (0, .ref a), (1, .ref x), (3, .int (nI n))]) hx hb dJx4a65c_add_72be8_10 rfl hl (by decide) rfl (fun ls hl => ?_)
    refine lv_aload_n hx hb dJx4a65c_add_72be8_11 rfl (lv_at hl 0 rfl) ?_
    refine lv_iload_n hx hb dJx4a65c_add_72be8_12 rfl (lv_at hl 3 rfl) ?_
    refine lv_aload_n hx hb dJx4a65c_add_72be8_13 rfl (lv_at hl 2 rfl) ?_
    refine w_aast hx hb hw ((wu_n (ne_n ha hq).symm).trans (wu_s _ _ _)) (w_any hw (isE_wu0 ((wu_n (ne_n ha hq)).trans ha) (isE_wu hq hx0))) (vp_in_nI hc1 (by omega)) dJx4a65c_add_72be8_14 (fun H locs hw => ?_)
    refine lv_aload_n hx hb dJx4a65c_add_72be8_15 rfl (lv_at hl 1 rfl) ?_
    refine lv_iload_n hx hb dJx4a65c_add_72be8_16 rfl (lv_at hl 3 rfl) ?_
    refine lv_iconst (v := 1) hx hb dJx4a65c_add_72be8_17 (by decide) ?_
    refine lv_iadd hx hb dJx4a65c_add_72be8_18 ?_
    refine w_put (ci := 0) (C := RJx4a65c) (T := TJx4a65c) (N := 3) (ref := "java/util/ArrayList") (ty := .int) (fs' := [.int mc, .ref q, .int ((nI n) + 1)]) hx hb hts in_Jx4a65c_add_72be8_0 tyJx4a65c tyJx4a65c_ok nmJx4a65c hown hw ((wu_n (ne_n ha hq)).trans (wu_s _ _ _)) rfl 2 (by decide) (hts (.fieldLink RJx4a65c 48 "java/util/ArrayList" "size" "I") (by decide +kernel)) (fun _ h9 => h9) rfl (by decide +kernel) rfl rfl (Nat.le_of_ble_eq_true rfl) rfl dJx4a65c_add_72be8_19 (fun H locs hw => ?_)
    exact r_void hx hb hr hlocks hw dJx4a65c_add_72be8_22 (Nat.le_of_ble_eq_true rfl) (Nat.le_of_ble_eq_true rfl) (⟨q, cap', _, rfl, Or.inr hq, by rw [wu_s, nI_1], (wu_n (ne_n ha hq).symm).trans (wu_s _ _ _), hc1, hc2, fun i hi => by rw [nI_clamp (by omega), va_up_ne _ _ (by omega)]; exact hc3 i hi, by rw [nI_clamp (by omega)]; exact va_up_self _ _ _, fun z h1 h2 => (wu_n h1).trans ((wu_n h2).trans ((wu_n h1).trans (wu_n h2)))⟩)
set_option maxHeartbeats 4000000 in
set_option maxRecDepth 100000 in
theorem c_AL_add3C (l : Launch) (g : GG) (h : Nat → Option va_E) (mc : Int32) (a x : Nat) (f : Nat → Option Nat) (ha : h a = some (oAL mc (gZ g) (nI 0))) (hx0 : isE h x) (hz : h (gZ g) = none) : Con l yJx4a65c_add_72be8 wsJx4a65c_add_72be8 5 127 1 800 [.ref a, .ref x, .ref (gZ g), .int (nI 0)] g h (fun v h' => ∃ (arr' cap' : Nat) (f' : Nat → Option Nat), v = none ∧ (arr' = gZ g ∨ h arr' = none) ∧ h' a = some (oAL mc arr' (nI (0 + 1))) ∧ h' arr' = some (arO g cap' f') ∧ 0 + 1 ≤ cap' ∧ cap' ≤ 800 ∧ (∀ i, i < 0 → f' i = f i) ∧ f' 0 = some x ∧ ∀ q, q ≠ a → q ≠ arr' → h' q = h q) := by
  refine m_start (cc := cJx4a65c_add_72be8) (maxL := 4) (ret := none) (by decide) rfl (Nat.le_of_ble_eq_true rfl) ?_
  intro p e s m below meth c A ls hx hb hr hml hts hown hlocks hin hw hl
  have hl : lv_has ls 4 [(0, .ref a), (1, .ref x), (2, .ref (gZ g)), (3, .int (nI 0))] := hl
  have hown : s.vm.findClass RJx4a65c = some m.cls := hown
  refine lv_iload_n hx hb dJx4a65c_add_72be8_0 rfl (lv_at hl 3 rfl) ?_
  refine lv_aload_n hx hb dJx4a65c_add_72be8_1 rfl (lv_at hl 2 rfl) ?_
  refine va_tlen (v := 0) hx hb hw.2.2.2.2.2.1 hw.2.2.1 (by decide) dJx4a65c_add_72be8_2 ?_
  refine lv_icmp_ne (tgt := 11) hx hb dJx4a65c_add_72be8_3 (by decide) (fun c3 => ?_) (fun c3 => ?_)
  · exact absurd nI_0 c3
  · refine lv_aload_n hx hb dJx4a65c_add_72be8_6 rfl (lv_at hl 0 rfl) ?_
    refine w_call (va_runV (As := []) (rest := []) ⟨hx, hb, hml, hown, hts⟩ (c_AL_grow l g h mc a (gZ g) 0 f ha (Or.inr ⟨rfl, hz, rfl⟩) s.heap.size) (cwV 0 hts gJx4a65c_add_72be8_Jx4a65c_grow_d5877 rfl rfl rfl (by decide +kernel) ⟨Nat.le_of_ble_eq_true rfl, Nat.le_of_ble_eq_true rfl⟩) ⟨pr_blind, w_recv hw ha rfl, pr_of hw⟩ rfl rfl hl.1 rfl (lv_room (Nat.le_of_ble_eq_true rfl)) dJx4a65c_add_72be8_7 ⟨Nat.le_of_ble_eq_true rfl, Nat.le_of_ble_eq_true rfl⟩) hw (fun v h' H locs hp hw => ?_)
    obtain ⟨q, cap', f', hq, rfl, rfl, hc1, hc2, hc3⟩ := hp
    refine W.eq (g2 := F0 m 10 ls [.ref q]) rfl ?_
    refine lv_astore_n (lv' := [(2, .ref q), (0, .ref a), (1, .ref x), (3, .int (nI 0))]) hx hb dJx4a65c_add_72be8_10 rfl hl (by decide) rfl (fun ls hl => ?_)
    refine lv_aload_n hx hb dJx4a65c_add_72be8_11 rfl (lv_at hl 0 rfl) ?_
    refine lv_iload_n hx hb dJx4a65c_add_72be8_12 rfl (lv_at hl 3 rfl) ?_
    refine lv_aload_n hx hb dJx4a65c_add_72be8_13 rfl (lv_at hl 2 rfl) ?_
    refine w_aast hx hb hw ((wu_n (ne_n ha hq).symm).trans (wu_s _ _ _)) (w_any hw (isE_wu0 ((wu_n (ne_n ha hq)).trans ha) (isE_wu hq hx0))) (vp_in_nI hc1 (by omega)) dJx4a65c_add_72be8_14 (fun H locs hw => ?_)
    refine lv_aload_n hx hb dJx4a65c_add_72be8_15 rfl (lv_at hl 1 rfl) ?_
    refine lv_iload_n hx hb dJx4a65c_add_72be8_16 rfl (lv_at hl 3 rfl) ?_
    refine lv_iconst (v := 1) hx hb dJx4a65c_add_72be8_17 (by decide) ?_
    refine lv_iadd hx hb dJx4a65c_add_72be8_18 ?_
    refine w_put (ci := 0) (C := RJx4a65c) (T := TJx4a65c) (N := 3) (ref := "java/util/ArrayList") (ty := .int) (fs' := [.int mc, .ref q, .int ((nI 0) + 1)]) hx hb hts in_Jx4a65c_add_72be8_0 tyJx4a65c tyJx4a65c_ok nmJx4a65c hown hw ((wu_n (ne_n ha hq)).trans (wu_s _ _ _)) rfl 2 (by decide) (hts (.fieldLink RJx4a65c 48 "java/util/ArrayList" "size" "I") (by decide +kernel)) (fun _ h9 => h9) rfl (by decide +kernel) rfl rfl (Nat.le_of_ble_eq_true rfl) rfl dJx4a65c_add_72be8_19 (fun H locs hw => ?_)
    exact r_void hx hb hr hlocks hw dJx4a65c_add_72be8_22 (Nat.le_of_ble_eq_true rfl) (Nat.le_of_ble_eq_true rfl) (⟨q, cap', _, rfl, Or.inr hq, by rw [wu_s, nI_1], (wu_n (ne_n ha hq).symm).trans (wu_s _ _ _), hc1, hc2, fun i hi => by rw [nI_clamp (by omega), va_up_ne _ _ (by omega)]; exact hc3 i hi, by rw [nI_clamp (by omega)]; exact va_up_self _ _ _, fun z h1 h2 => (wu_n h1).trans ((wu_n h2).trans ((wu_n h1).trans (wu_n h2)))⟩)
theorem c_AL_add3 (l : Launch) (g : GG) (h : Nat → Option va_E) (mc : Int32) (a arr x n : Nat) (f : Nat → Option Nat) (ha : h a = some (oAL mc arr (nI n))) (hx0 : isE h x) (hp : preA g h arr n f) : Con l yJx4a65c_add_72be8 wsJx4a65c_add_72be8 5 127 1 800 [.ref a, .ref x, .ref arr, .int (nI n)] g h (fun v h' => ∃ (arr' cap' : Nat) (f' : Nat → Option Nat), v = none ∧ (arr' = arr ∨ h arr' = none) ∧ h' a = some (oAL mc arr' (nI (n + 1))) ∧ h' arr' = some (arO g cap' f') ∧ n + 1 ≤ cap' ∧ cap' ≤ 800 ∧ (∀ i, i < n → f' i = f i) ∧ f' n = some x ∧ ∀ q, q ≠ a → q ≠ arr' → h' q = h q) := by
  rcases hp with ⟨cap, h1, h2, h3⟩ | ⟨h1, h2, h3, h4⟩ | ⟨h1, h2, h3⟩
  · exact c_AL_add3A l g h mc a arr x n cap f ha hx0 h1 h2 h3
  · exact c_AL_add3B l g h mc a arr x n f ha hx0 h1 h2 h3 h4
  · subst h1
    subst h3
    exact c_AL_add3C l g h mc a x f ha hx0 h2
theorem in_Jx4a65c_add_9ea2d_0 : ∀ w ∈ u_ws RJx4a65c TJx4a65c 3, w ∈ wsJx4a65c_add_9ea2d := by decide +kernel
set_option maxHeartbeats 4000000 in
set_option maxRecDepth 100000 in
theorem c_AL_add (l : Launch) (g : GG) (h : Nat → Option va_E) (a arr x : Nat) (xs : List Nat) (hL : AL g h a arr xs) (hx0 : isE h x) (hn : xs.length ≤ 530) : Con l yJx4a65c_add_9ea2d wsJx4a65c_add_9ea2d 6 150 1 800 [.ref a, .ref x] g h (fun v h' => ∃ arr' : Nat, v = some (.int 1) ∧ (arr' = arr ∨ h arr' = none) ∧ AL g h' a arr' (xs ++ [x]) ∧ ∀ q, q ≠ a → q ≠ arr' → h' q = h q) := by
  obtain ⟨f, hp, hf⟩ := AL_pre hL hn
  have hr9 := preA_arr hp
  obtain ⟨⟨mc, ha⟩, hE, -⟩ := hL
  refine m_start (cc := cJx4a65c_add_9ea2d) (maxL := 2) (ret := (some .boolean)) (by decide) rfl (Nat.le_of_ble_eq_true rfl) ?_
  intro p e s m below meth c A ls hx hb hr hml hts hown hlocks hin hw hl
  have hl : lv_has ls 2 [(0, .ref a), (1, .ref x)] := hl
  have hown : s.vm.findClass RJx4a65c = some m.cls := hown
  refine lv_aload_n hx hb dJx4a65c_add_9ea2d_0 rfl (lv_at hl 0 rfl) ?_
  refine lv_dup hx hb dJx4a65c_add_9ea2d_1 rfl ?_
  refine w_get (ci := 0) (C := RJx4a65c) (T := TJx4a65c) (N := 3) (ref := "java/util/ArrayList") hx hb hts in_Jx4a65c_add_9ea2d_0 hown hw ha rfl 0 (by decide) (hts (.fieldLink RJx4a65c 63 "java/util/ArrayList" "modCount" "I") (by decide +kernel)) (u_same (hts (.sameField "java/util/ArrayList" "java/util/AbstractList" "modCount" "I") (by decide +kernel))) rfl dJx4a65c_add_9ea2d_2 ?_
  refine lv_iconst (v := 1) hx hb dJx4a65c_add_9ea2d_5 (by decide) ?_
  refine lv_iadd hx hb dJx4a65c_add_9ea2d_6 ?_
  refine w_put (ci := 0) (C := RJx4a65c) (T := TJx4a65c) (N := 3) (ref := "java/util/ArrayList") (ty := .int) (fs' := [.int (mc + 1), .ref arr, .int (nI xs.length)]) hx hb hts in_Jx4a65c_add_9ea2d_0 tyJx4a65c tyJx4a65c_ok nmJx4a65c hown hw ha rfl 0 (by decide) (hts (.fieldLink RJx4a65c 63 "java/util/ArrayList" "modCount" "I") (by decide +kernel)) (u_same (hts (.sameField "java/util/ArrayList" "java/util/AbstractList" "modCount" "I") (by decide +kernel))) rfl (by decide +kernel) rfl rfl (Nat.le_of_ble_eq_true rfl) rfl dJx4a65c_add_9ea2d_7 (fun H locs hw => ?_)
  refine lv_aload_n hx hb dJx4a65c_add_9ea2d_10 rfl (lv_at hl 0 rfl) ?_
  refine lv_aload_n hx hb dJx4a65c_add_9ea2d_11 rfl (lv_at hl 1 rfl) ?_
  refine lv_aload_n hx hb dJx4a65c_add_9ea2d_12 rfl (lv_at hl 0 rfl) ?_
  refine w_get (ci := 0) (C := RJx4a65c) (T := TJx4a65c) (N := 3) (ref := "java/util/ArrayList") hx hb hts in_Jx4a65c_add_9ea2d_0 hown hw (wu_s _ _ _) rfl 1 (by decide) (hts (.fieldLink RJx4a65c 9 "java/util/ArrayList" "elementData" "[Ljava/lang/Object;") (by decide +kernel)) (fun _ h9 => h9) rfl dJx4a65c_add_9ea2d_13 ?_
  refine lv_aload_n hx hb dJx4a65c_add_9ea2d_16 rfl (lv_at hl 0 rfl) ?_
  refine w_get (ci := 0) (C := RJx4a65c) (T := TJx4a65c) (N := 3) (ref := "java/util/ArrayList") hx hb hts in_Jx4a65c_add_9ea2d_0 hown hw (wu_s _ _ _) rfl 2 (by decide) (hts (.fieldLink RJx4a65c 48 "java/util/ArrayList" "size" "I") (by decide +kernel)) (fun _ h9 => h9) rfl dJx4a65c_add_9ea2d_17 ?_
  refine w_call (va_runV (As := [.ref x, .ref arr, .int (nI xs.length)]) (rest := []) ⟨hx, hb, hml, hown, hts⟩ (c_AL_add3 l g (wu h a (oAL (mc + 1) arr (nI xs.length))) (mc + 1) a arr x xs.length f (wu_s _ _ _) (isE_wu0 ha hx0) (preA_wu ha hp) H.size) (cwV 3 hts gJx4a65c_add_9ea2d_Jx4a65c_add_72be8 rfl rfl rfl (by decide +kernel) ⟨Nat.le_of_ble_eq_true rfl, Nat.le_of_ble_eq_true rfl⟩) ⟨pr_blind, w_recv hw (wu_s _ _ _) rfl, pr_of hw⟩ rfl rfl hl.1 rfl (lv_room (Nat.le_of_ble_eq_true rfl)) dJx4a65c_add_9ea2d_20 ⟨Nat.le_of_ble_eq_true rfl, Nat.le_of_ble_eq_true rfl⟩) hw (fun v h' H locs hp hw => ?_)
  obtain ⟨arr', cap', f', rfl, q1, q2, q3, q4, q5, q6, q7, q8⟩ := hp
  refine W.eq (g2 := F0 m 23 ls []) rfl ?_
  refine lv_iconst (v := 1) hx hb dJx4a65c_add_9ea2d_23 (by decide) ?_
  have q8' : ∀ q, q ≠ a → q ≠ arr' → h' q = h q := fun q h1 h2 => (q8 q h1 h2).trans (wu_n h1)
  have q1' : arr' = arr ∨ h arr' = none := by
    rcases q1 with q1 | q1
    · exact Or.inl q1
    · refine Or.inr ?_
      have hne : arr' ≠ a := fun z => by
        rw [z, wu_s] at q1
        cases q1
      rw [wu_n hne] at q1
      exact q1
  exact r_bool hx hb hr hlocks hw rfl dJx4a65c_add_9ea2d_24 (Nat.le_of_ble_eq_true rfl) (Nat.le_of_ble_eq_true rfl) ⟨arr', rfl, q1', AL_add ha hE hx0 hf hr9 q1' q2 q3 q4 q5 q6 q7 q8', q8'⟩
end
section
/-! taking the last element away -/
theorem in_Jx4a65c_fastRemove_b59b0_0 : ∀ w ∈ u_ws RJx4a65c TJx4a65c 3, w ∈ wsJx4a65c_fastRemove_b59b0 := by decide +kernel
set_option maxHeartbeats 4000000 in
set_option maxRecDepth 100000 in
theorem c_AL_fastRemove (l : Launch) (g : GG) (h : Nat → Option va_E) (mc : Int32) (a arr k cap : Nat) (f : Nat → Option Nat) (ha : h a = some (oAL mc arr (nI (k + 1)))) (hr0 : h arr = some (arO g cap f)) (h1 : k < cap) (h2 : cap ≤ 800) : Con l yJx4a65c_fastRemove_b59b0 wsJx4a65c_fastRemove_b59b0 1 40 0 0 [.ref a, .ref arr, .int (nI k)] g h (fun v h' => v = none ∧ h' = wu (wu h a (oAL (mc + 1) arr (nI k))) arr (arO g cap (va_up f k none))) := by
  refine m_start (cc := cJx4a65c_fastRemove_b59b0) (maxL := 4) (ret := none) (by decide) rfl (Nat.le_of_ble_eq_true rfl) ?_
  intro p e s m below meth c A ls hx hb hr hml hts hown hlocks hin hw hl
  have hl : lv_has ls 4 [(0, .ref a), (1, .ref arr), (2, .int (nI k))] := hl
  have hown : s.vm.findClass RJx4a65c = some m.cls := hown
  refine lv_aload_n hx hb dJx4a65c_fastRemove_b59b0_0 rfl (lv_at hl 0 rfl) ?_
  refine lv_dup hx hb dJx4a65c_fastRemove_b59b0_1 rfl ?_
  refine w_get (ci := 0) (C := RJx4a65c) (T := TJx4a65c) (N := 3) (ref := "java/util/ArrayList") hx hb hts in_Jx4a65c_fastRemove_b59b0_0 hown hw ha rfl 0 (by decide) (hts (.fieldLink RJx4a65c 63 "java/util/ArrayList" "modCount" "I") (by decide +kernel)) (u_same (hts (.sameField "java/util/ArrayList" "java/util/AbstractList" "modCount" "I") (by decide +kernel))) rfl dJx4a65c_fastRemove_b59b0_2 ?_
  refine lv_iconst (v := 1) hx hb dJx4a65c_fastRemove_b59b0_5 (by decide) ?_
  refine lv_iadd hx hb dJx4a65c_fastRemove_b59b0_6 ?_
  refine w_put (ci := 0) (C := RJx4a65c) (T := TJx4a65c) (N := 3) (ref := "java/util/ArrayList") (ty := .int) (fs' := [.int (mc + 1), .ref arr, .int (nI (k + 1))]) hx hb hts in_Jx4a65c_fastRemove_b59b0_0 tyJx4a65c tyJx4a65c_ok nmJx4a65c hown hw ha rfl 0 (by decide) (hts (.fieldLink RJx4a65c 63 "java/util/ArrayList" "modCount" "I") (by decide +kernel)) (u_same (hts (.sameField "java/util/ArrayList" "java/util/AbstractList" "modCount" "I") (by decide +kernel))) rfl (by decide +kernel) rfl rfl (Nat.le_of_ble_eq_true rfl) rfl dJx4a65c_fastRemove_b59b0_7 (fun H locs hw => ?_)
  refine lv_aload_n hx hb dJx4a65c_fastRemove_b59b0_10 rfl (lv_at hl 0 rfl) ?_
  refine w_get (ci := 0) (C := RJx4a65c) (T := TJx4a65c) (N := 3) (ref := "java/util/ArrayList") hx hb hts in_Jx4a65c_fastRemove_b59b0_0 hown hw (wu_s _ _ _) rfl 2 (by decide) (hts (.fieldLink RJx4a65c 48 "java/util/ArrayList" "size" "I") (by decide +kernel)) (fun _ h9 => h9) rfl dJx4a65c_fastRemove_b59b0_11 ?_
  refine lv_iconst (v := 1) hx hb dJx4a65c_fastRemove_b59b0_14 (by decide) ?_
  refine lv_isub hx hb dJx4a65c_fastRemove_b59b0_15 ?_
  refine lv_topi (fun k1 ek1 => ?_)
  have ek1 : k1 = nI k := ek1.trans (nI_pred k)
  subst ek1
  refine lv_dup hx hb dJx4a65c_fastRemove_b59b0_16 rfl ?_
  refine lv_istore_n (lv' := [(3, .int (nI k)), (0, .ref a), (1, .ref arr), (2, .int (nI k))]) hx hb dJx4a65c_fastRemove_b59b0_17 rfl hl (by decide) rfl (fun ls hl => ?_)
  refine lv_iload_n hx hb dJx4a65c_fastRemove_b59b0_18 rfl (lv_at hl 3 rfl) ?_
  refine lv_icmp_le (tgt := 34) hx hb dJx4a65c_fastRemove_b59b0_19 (by decide) (fun c19 => ?_) (fun c19 => ?_)
  · refine lv_aload_n hx hb dJx4a65c_fastRemove_b59b0_34 rfl (lv_at hl 2 rfl) ?_
    refine lv_aload_n hx hb dJx4a65c_fastRemove_b59b0_35 rfl (lv_at hl 1 rfl) ?_
    refine lv_iload_n hx hb dJx4a65c_fastRemove_b59b0_36 rfl (lv_at hl 0 rfl) ?_
    refine lv_dup_x1 hx hb dJx4a65c_fastRemove_b59b0_37 rfl rfl ?_
    refine w_put (ci := 0) (C := RJx4a65c) (T := TJx4a65c) (N := 3) (ref := "java/util/ArrayList") (ty := .int) (fs' := [.int (mc + 1), .ref arr, .int (nI k)]) hx hb hts in_Jx4a65c_fastRemove_b59b0_0 tyJx4a65c tyJx4a65c_ok nmJx4a65c hown hw (wu_s _ _ _) rfl 2 (by decide) (hts (.fieldLink RJx4a65c 48 "java/util/ArrayList" "size" "I") (by decide +kernel)) (fun _ h9 => h9) rfl (by decide +kernel) rfl rfl (Nat.le_of_ble_eq_true rfl) rfl dJx4a65c_fastRemove_b59b0_38 (fun H locs hw => ?_)
    refine lv_null hx hb dJx4a65c_fastRemove_b59b0_41 ?_
    refine w_aastN hx hb hw ((wu_n (ne_e hr0 ha ne_lr)).trans ((wu_n (ne_e hr0 ha ne_lr)).trans hr0)) (vp_in_nI h1 (by omega)) dJx4a65c_fastRemove_b59b0_42 (fun H locs hw => ?_)
    exact r_void hx hb hr hlocks hw dJx4a65c_fastRemove_b59b0_43 (Nat.le_of_ble_eq_true rfl) (Nat.le_of_ble_eq_true rfl) (⟨rfl, by rw [wu_uu, nI_clamp (by omega)]⟩)
  · exact absurd (nI_le (Nat.le_refl k) (by omega)) c19
theorem in_Jx4a65c_remove_915e3_0 : ∀ w ∈ u_ws RJx4a65c TJx4a65c 3, w ∈ wsJx4a65c_remove_915e3 := by decide +kernel
set_option maxHeartbeats 4000000 in
set_option maxRecDepth 100000 in
theorem c_AL_removeR (l : Launch) (g : GG) (h : Nat → Option va_E) (mc : Int32) (a arr k cap x : Nat) (f : Nat → Option Nat) (ha : h a = some (oAL mc arr (nI (k + 1)))) (hr0 : h arr = some (arO g cap f)) (h1 : k < cap) (h2 : cap ≤ 800) (hfx : f k = some x) : Con l yJx4a65c_remove_915e3 wsJx4a65c_remove_915e3 2 70 0 0 [.ref a, .int (nI k)] g h (fun v h' => v = some (.ref x) ∧ h' = wu (wu h a (oAL (mc + 1) arr (nI k))) arr (arO g cap (va_up f k none))) := by
  refine m_start (cc := cJx4a65c_remove_915e3) (maxL := 4) (ret := (some (.object "java/lang/Object"))) (by decide) rfl (Nat.le_of_ble_eq_true rfl) ?_
  intro p e s m below meth c A ls hx hb hr hml hts hown hlocks hin hw hl
  have hl : lv_has ls 4 [(0, .ref a), (1, .int (nI k))] := hl
  have hown : s.vm.findClass RJx4a65c = some m.cls := hown
  refine lv_iload_n hx hb dJx4a65c_remove_915e3_0 rfl (lv_at hl 1 rfl) ?_
  refine lv_aload_n hx hb dJx4a65c_remove_915e3_1 rfl (lv_at hl 0 rfl) ?_
  refine w_get (ci := 0) (C := RJx4a65c) (T := TJx4a65c) (N := 3) (ref := "java/util/ArrayList") hx hb hts in_Jx4a65c_remove_915e3_0 hown hw ha rfl 2 (by decide) (hts (.fieldLink RJx4a65c 48 "java/util/ArrayList" "size" "I") (by decide +kernel)) (fun _ h9 => h9) rfl dJx4a65c_remove_915e3_2 ?_
  refine w_call (va_runS (As := [.int (nI k), .int (nI (k + 1))]) (rest := []) ⟨hx, hb, hml, hown, hts⟩ (c_obj_check l g h (nI k) (nI (k + 1)) (nI_pos (by omega)) (nI_lt (by omega) (by omega)) s.heap.size) (va_cwS 2 hts gJx4a65c_remove_915e3_J15_checkIndex_7cf53 rfl rfl rfl (by decide +kernel) ⟨Nat.le_of_ble_eq_true rfl, Nat.le_of_ble_eq_true rfl⟩) ⟨pr_blind, pr_of hw⟩ rfl rfl hl.1 rfl (lv_room (Nat.le_of_ble_eq_true rfl)) dJx4a65c_remove_915e3_5 ⟨Nat.le_of_ble_eq_true rfl, Nat.le_of_ble_eq_true rfl⟩) hw (fun v h' H locs hp hw => ?_)
  obtain ⟨rfl, rfl⟩ := hp
  refine W.eq (g2 := F0 m 8 ls [.int (nI k)]) rfl ?_
  refine lv_pop hx hb dJx4a65c_remove_915e3_8 rfl ?_
  refine lv_aload_n hx hb dJx4a65c_remove_915e3_9 rfl (lv_at hl 0 rfl) ?_
  refine w_get (ci := 0) (C := RJx4a65c) (T := TJx4a65c) (N := 3) (ref := "java/util/ArrayList") hx hb hts in_Jx4a65c_remove_915e3_0 hown hw ha rfl 1 (by decide) (hts (.fieldLink RJx4a65c 9 "java/util/ArrayList" "elementData" "[Ljava/lang/Object;") (by decide +kernel)) (fun _ h9 => h9) rfl dJx4a65c_remove_915e3_10 ?_
  refine lv_astore_n (lv' := [(2, .ref arr), (0, .ref a), (1, .int (nI k))]) hx hb dJx4a65c_remove_915e3_13 rfl hl (by decide) rfl (fun ls hl => ?_)
  refine lv_aload_n hx hb dJx4a65c_remove_915e3_14 rfl (lv_at hl 0 rfl) ?_
  refine lv_iload_n hx hb dJx4a65c_remove_915e3_15 rfl (lv_at hl 2 rfl) ?_
  refine w_aald hx hb hw hr0 (vp_in_nI h1 (by omega)) dJx4a65c_remove_915e3_16 ?_
  refine W.eq (g2 := F0 m 17 ls [.ref x]) (by rw [nI_clamp (by omega), hfx]; rfl) ?_
  refine lv_astore_n (lv' := [(3, .ref x), (2, .ref arr), (0, .ref a), (1, .int (nI k))]) hx hb dJx4a65c_remove_915e3_17 rfl hl (by decide) rfl (fun ls hl => ?_)
  refine lv_aload_n hx hb dJx4a65c_remove_915e3_18 rfl (lv_at hl 2 rfl) ?_
  refine lv_aload_n hx hb dJx4a65c_remove_915e3_19 rfl (lv_at hl 1 rfl) ?_
  refine lv_iload_n hx hb dJx4a65c_remove_915e3_20 rfl (lv_at hl 3 rfl) ?_
  refine w_call (va_runV (As := [.ref arr, .int (nI k)]) (rest := []) ⟨hx, hb, hml, hown, hts⟩ (c_AL_fastRemove l g h mc a arr k cap f ha hr0 h1 h2 H.size) (cwV 2 hts gJx4a65c_remove_915e3_Jx4a65c_fastRemove_b59b0 rfl rfl rfl (by decide +kernel) ⟨Nat.le_of_ble_eq_true rfl, Nat.le_of_ble_eq_true rfl⟩) ⟨pr_blind, w_recv hw ha rfl, pr_of hw⟩ rfl rfl hl.1 rfl (lv_room (Nat.le_of_ble_eq_true rfl)) dJx4a65c_remove_915e3_21 ⟨Nat.le_of_ble_eq_true rfl, Nat.le_of_ble_eq_true rfl⟩) hw (fun v h' H locs hp hw => ?_)
  obtain ⟨rfl, rfl⟩ := hp
  refine W.eq (g2 := F0 m 24 ls []) rfl ?_
  refine lv_aload_n hx hb dJx4a65c_remove_915e3_24 rfl (lv_at hl 0 rfl) ?_
  exact r_ref hx hb hr (Or.inl ⟨_, rfl⟩) (Or.inr ⟨_, rfl⟩) hlocks hw dJx4a65c_remove_915e3_25 (Nat.le_of_ble_eq_true rfl) (Nat.le_of_ble_eq_true rfl) (⟨rfl, rfl⟩)
end
section
/-! rounding up; small rows on numbers -/
def rup (p s : Nat) : Nat := if s = 0 then p else (p + s - 1) / s * s
theorem rup_alt {p s : Nat} (hs : 0 < s) : rup p s = if p % s = 0 then p else p + s - p % s := by
  unfold rup
  rw [if_neg (by omega)]
  have h1 := Nat.div_add_mod p s
  have h2 := Nat.mod_lt p hs
  by_cases c : p % s = 0
  · rw [if_pos c]
    have e : p + s - 1 = (s - 1) + s * (p / s) := by omega
    rw [e, Nat.add_mul_div_left _ _ hs, Nat.div_eq_of_lt (by omega), Nat.zero_add, Nat.mul_comm]
    omega
  · rw [if_neg c]
    have e : p + s - 1 = (p % s - 1) + s * (p / s + 1) := by rw [Nat.mul_add]; omega
    rw [e, Nat.add_mul_div_left _ _ hs, Nat.div_eq_of_lt (by omega), Nat.zero_add, Nat.add_mul, Nat.mul_comm]
    omega
theorem rup_ge (p s : Nat) : p ≤ rup p s := by
  by_cases c : s = 0
  · unfold rup; rw [if_pos c]; exact Nat.le_refl _
  · rw [rup_alt (by omega)]
    have := Nat.mod_lt p (show 0 < s by omega)
    split <;> omega
theorem rup_le (p s : Nat) : rup p s ≤ p + s := by
  by_cases c : s = 0
  · unfold rup; rw [if_pos c]; omega
  · rw [rup_alt (by omega)]
    split <;> omega
theorem mx_nI {a b : Nat} (ha : a < 2 ^ 31) (hb : b < 2 ^ 31) : (if nI a < nI b then nI b else nI a) = nI (max a b) := by
  by_cases c : a < b
  · rw [if_pos (nI_lt c hb)]; congr 1; omega
  · rw [if_neg (nI_nlt (by omega) ha)]; congr 1; omega
theorem b01 {v : Int32} (h : v = 0 ∨ v = 1) : narrow .boolean (.int v) = .int v := by rcases h with rfl | rfl <;> rfl
theorem f01 {v : Int32} (h : v = 0 ∨ v = 1) : fits .boolean (.int v) = true := by rcases h with rfl | rfl <;> rfl
/-- a place of a list by an int -/
def lk {α : Type} (ty : List α) (t : Int32) : Option α := if t < 0 then none else ty[t.toNatClampNeg]?
theorem lk_neg {α : Type} {ty : List α} {t : Int32} (h : t < 0) : lk ty t = none := by unfold lk; rw [if_pos h]
theorem lk_ofS {α : Type} {ty : List α} {t : Int32} {a : α} (h : lk ty t = some a) : ¬ t < 0 ∧ ty[t.toNatClampNeg]? = some a := by
  unfold lk at h
  by_cases c : t < 0
  · rw [if_pos c] at h; cases h
  · rw [if_neg c] at h; exact ⟨c, h⟩
theorem lk_lt {α : Type} {ty : List α} {t : Int32} {a : α} (h : lk ty t = some a) (hl : ty.length < 2 ^ 31) : t < nI ty.length ∧ t = nI t.toNatClampNeg ∧ t.toNatClampNeg < ty.length := by
  obtain ⟨h0, h1⟩ := lk_ofS h
  obtain ⟨j, hj, e⟩ := nI_of h0
  have hlt : t.toNatClampNeg < ty.length := (List.getElem?_eq_some_iff.mp h1).1
  have e2 : t.toNatClampNeg = j := by rw [e]; exact nI_clamp hj
  refine ⟨?_, by rw [e2]; exact e, hlt⟩
  rw [e]
  exact nI_lt (by omega) hl
theorem lk_ge {α : Type} {ty : List α} {t : Int32} (h0 : ¬ t < 0) (h : ¬ t < nI ty.length) (hl : ty.length < 2 ^ 31) : lk ty t = none := by
  cases hh : lk ty t with
  | none => rfl
  | some a => exact absurd (lk_lt hh hl).1 h
theorem lk_some {α : Type} {ty : List α} {t : Int32} (h0 : ¬ t < 0) (h : t < nI ty.length) (hl : ty.length < 2 ^ 31) : ∃ a, lk ty t = some a := by
  obtain ⟨j, hj, e⟩ := nI_of h0
  rw [e] at h
  have hlt : j < ty.length := (nI_ltI hj hl).mp h
  refine ⟨ty[j], ?_⟩
  unfold lk
  rw [if_neg h0, e, nI_clamp hj]
  exact List.getElem?_eq_getElem hlt
theorem lk_nI {α : Type} {ty : List α} {i : Nat} (hi : i < 2 ^ 31) : lk ty (nI i) = ty[i]? := by
  unfold lk
  rw [if_neg (nI_pos hi), nI_clamp hi]
theorem AL_len {g : GG} {h : Nat → Option va_E} {a arr : Nat} {xs : List Nat} (hL : AL g h a arr xs) : xs.length ≤ 800 := by
  obtain ⟨-, -, h1⟩ := hL
  rcases h1 with ⟨cap, f, -, h2, -, h3, -⟩ | ⟨-, -, h2⟩
  · omega
  · rw [h2]; exact Nat.zero_le _
theorem AL_get {g : GG} {h : Nat → Option va_E} {a arr : Nat} {xs : List Nat} (hL : AL g h a arr xs) {i : Int32} {y : Nat} (hy : lk xs i = some y) : ∃ (cap : Nat) (f : Nat → Option Nat), h arr = some (arO g cap f) ∧ vp_in i cap ∧ f i.toNatClampNeg = some y ∧ ¬ i < 0 ∧ i < nI xs.length := by
  have hn := AL_len hL
  obtain ⟨h0, h1⟩ := lk_ofS hy
  obtain ⟨h2, h3, h4⟩ := lk_lt hy (by omega)
  obtain ⟨-, -, hA⟩ := hL
  rcases hA with ⟨cap, f, e1, e2, e3, e4, e5⟩ | ⟨-, -, e⟩
  · refine ⟨cap, f, e1, ?_, ?_, h0, h2⟩
    · rw [h3]; exact vp_in_nI (by omega) (by omega)
    · rw [e5 _ h4]; exact h1
  · subst e
    exact absurd h4 (Nat.not_lt_zero _)
theorem AL_arr {g : GG} {h : Nat → Option va_E} {a arr : Nat} {xs : List Nat} (hL : AL g h a arr xs) : h arr = none ∨ ∃ z, h arr = some (.inl z) := by
  obtain ⟨-, -, h1⟩ := hL
  rcases h1 with ⟨cap, f, h2, -⟩ | ⟨h2, h3, -⟩
  · exact Or.inr ⟨_, h2⟩
  · exact Or.inl (by rw [h2]; exact h3)
/-- a type's cell: a Compound, or a Simple -/
def isTy (h : Nat → Option va_E) (a : Nat) : Prop := (∃ (by_ al ov : Int32) (ml : Nat) (op re up fb : Int32), h a = some (oCo by_ al ov ml op re up fb)) ∨ ∃ by_ al ki ba le : Int32, h a = some (oSi by_ al ki ba le)
def mt (h : Nat → Option va_E) (k b n : Int32) (a : Nat) : Prop := ∃ by_ al : Int32, h a = some (oSi by_ al k b n)
theorem mt_co {h : Nat → Option va_E} {k b n : Int32} {a : Nat} {fs : List Value} (ha : h a = some (.inr (1, fs))) : ¬ mt h k b n a := fun ⟨_, _, z⟩ => by
  rw [ha] at z
  cases z
theorem mt_si {h : Nat → Option va_E} {k b n by_ al ki ba le : Int32} {a : Nat} (ha : h a = some (oSi by_ al ki ba le)) (hz : ¬ (ki = k ∧ ba = b ∧ le = n)) : ¬ mt h k b n a := fun ⟨_, _, z⟩ => by
  rw [ha] at z
  cases z
  exact hz ⟨rfl, rfl, rfl⟩
section WT
variable {p : Program} {l : Launch} {e : Env} {R : Room} {s : State} {m : MethodId} {args : Array Value} {below : List Frame} {meth : Method} {c : Code} {H : Heap} {locs : List Loc} {cells slots : Nat} {Q : State → Prop}
variable {cc : ByteArray} {pc : Nat} {ls : Array Slot} {rest : List Value} {g : GG} {A : Nat → Prop} {a : Nat} {h : Nat → Option va_E}
theorem w_castT (hx : p.tables.exec = Jvm.exec) (hb : c.code = cc) {own : String} {index : Nat} (hown : s.vm.findClass own = some m.cls) (hlink : (Cond.classLink own index "LayoutDesk$Type").before args s = true) (hw : wd g A s h H locs) (ha : isTy h a) (hdg : decode cc pc = .ok (.checkcast index, 3))
    (k : W p l e R s m args below meth c H locs cells slots Q (F0 m (pc + 3) ls (.ref a :: rest))) : W p l e R s m args below meth c H locs cells slots Q (F0 m pc ls (.ref a :: rest)) := by
  rcases ha with ⟨b0, b1, b2, b3, b4, b5, b6, b7, ha⟩ | ⟨b0, b1, b2, b3, b4, ha⟩
  · exact va_castY (C := RX0) hx hb hown hlink (w_nwN hw (by decide +kernel)) (w_recv hw ha rfl) hdg k
  · exact va_castY (C := RX2) hx hb hown hlink (w_nwN hw (by decide +kernel)) (w_recv hw ha rfl) hdg k
end WT
end
section
/-! lists by their elements; the desk: leaves -/
set_option maxHeartbeats 4000000 in
set_option maxRecDepth 100000 in
theorem c_sizeL (l : Launch) (g : GG) (h : Nat → Option va_E) (a arr : Nat) (xs : List Nat) (hL : AL g h a arr xs) : Con l yJx4a65c_size_8abf5 wsJx4a65c_size_8abf5 0 0 0 0 [.ref a] g h (fun v h' => v = some (.int (nI xs.length)) ∧ h = h') := by
  have hn9 := AL_len hL
  obtain ⟨⟨mc, ha⟩, -, -⟩ := id hL
  refine m_start (cc := cJx4a65c_size_8abf5) (maxL := 1) (ret := (some .int)) (by decide) rfl (Nat.le_of_ble_eq_true rfl) ?_
  intro p e s m below meth c A ls hx hb hr hml hts hown hlocks hin hw hl
  have hl : lv_has ls 1 [(0, .ref a)] := hl
  have hown : s.vm.findClass RJx4a65c = some m.cls := hown
  refine lv_aload_n hx hb dJx4a65c_size_8abf5_0 rfl (lv_at hl 0 rfl) ?_
  refine w_get (ci := 0) (C := RJx4a65c) (T := TJx4a65c) (N := 3) (ref := "java/util/ArrayList") hx hb hts in_Jx4a65c_size_8abf5_0 hown hw ha rfl 2 (by decide) (hts (.fieldLink RJx4a65c 48 "java/util/ArrayList" "size" "I") (by decide +kernel)) (fun _ h9 => h9) rfl dJx4a65c_size_8abf5_1 ?_
  exact r_int hx hb hr hlocks hw dJx4a65c_size_8abf5_4 (Nat.le_of_ble_eq_true rfl) (Nat.le_of_ble_eq_true rfl) (⟨rfl, rfl⟩)
set_option maxHeartbeats 4000000 in
set_option maxRecDepth 100000 in
theorem c_isEmptyL (l : Launch) (g : GG) (h : Nat → Option va_E) (a arr : Nat) (xs : List Nat) (hL : AL g h a arr xs) : Con l yJx4a65c_isEmpty_aae02 wsJx4a65c_isEmpty_aae02 0 0 0 0 [.ref a] g h (fun v h' => v = some (.int (if xs = [] then 1 else 0)) ∧ h = h') := by
  have hn9 := AL_len hL
  obtain ⟨⟨mc, ha⟩, -, -⟩ := id hL
  refine m_start (cc := cJx4a65c_isEmpty_aae02) (maxL := 1) (ret := (some .boolean)) (by decide) rfl (Nat.le_of_ble_eq_true rfl) ?_
  intro p e s m below meth c A ls hx hb hr hml hts hown hlocks hin hw hl
  have hl : lv_has ls 1 [(0, .ref a)] := hl
  have hown : s.vm.findClass RJx4a65c = some m.cls := hown
  refine lv_aload_n hx hb dJx4a65c_isEmpty_aae02_0 rfl (lv_at hl 0 rfl) ?_
  refine w_get (ci := 0) (C := RJx4a65c) (T := TJx4a65c) (N := 3) (ref := "java/util/ArrayList") hx hb hts in_Jx4a65c_isEmpty_aae02_0 hown hw ha rfl 2 (by decide) (hts (.fieldLink RJx4a65c 48 "java/util/ArrayList" "size" "I") (by decide +kernel)) (fun _ h9 => h9) rfl dJx4a65c_isEmpty_aae02_1 ?_
  refine lv_if_ne (tgt := 11) hx hb dJx4a65c_isEmpty_aae02_4 (by decide) (fun c4 => ?_) (fun c4 => ?_)
  · refine lv_iconst (v := 0) hx hb dJx4a65c_isEmpty_aae02_11 (by decide) ?_
    exact r_bool hx hb hr hlocks hw rfl dJx4a65c_isEmpty_aae02_12 (Nat.le_of_ble_eq_true rfl) (Nat.le_of_ble_eq_true rfl) (⟨by rw [if_neg (fun z => c4 (by rw [z]; exact nI_0))], rfl⟩)
  · refine lv_iconst (v := 1) hx hb dJx4a65c_isEmpty_aae02_7 (by decide) ?_
    refine lv_goto (tgt := 12) hx hb dJx4a65c_isEmpty_aae02_8 (by decide) ?_
    exact r_bool hx hb hr hlocks hw rfl dJx4a65c_isEmpty_aae02_12 (Nat.le_of_ble_eq_true rfl) (Nat.le_of_ble_eq_true rfl) (⟨by rw [if_pos (List.eq_nil_of_length_eq_zero ((nI_eq (b := 0) (by omega) (by decide)).mp (c4.trans nI_0.symm)))], rfl⟩)
set_option maxHeartbeats 4000000 in
set_option maxRecDepth 100000 in
theorem c_getL (l : Launch) (g : GG) (h : Nat → Option va_E) (a arr : Nat) (xs : List Nat) (hL : AL g h a arr xs) (i : Int32) (y : Nat) (hy : lk xs i = some y) : Con l yJx4a65c_get_915e3 wsJx4a65c_get_915e3 2 43 0 0 [.ref a, .int i] g h (fun v h' => v = some (.ref y) ∧ h = h') := by
  have hn9 := AL_len hL
  obtain ⟨⟨mc, ha⟩, -, -⟩ := id hL
  obtain ⟨cap, f, hr0, hin0, hfy, h0, h1⟩ := AL_get hL hy
  refine m_start (cc := cJx4a65c_get_915e3) (maxL := 2) (ret := (some (.object "java/lang/Object"))) (by decide) rfl (Nat.le_of_ble_eq_true rfl) ?_
  intro p e s m below meth c A ls hx hb hr hml hts hown hlocks hin hw hl
  have hl : lv_has ls 2 [(0, .ref a), (1, .int i)] := hl
  have hown : s.vm.findClass RJx4a65c = some m.cls := hown
  refine lv_iload_n hx hb dJx4a65c_get_915e3_0 rfl (lv_at hl 1 rfl) ?_
  refine lv_aload_n hx hb dJx4a65c_get_915e3_1 rfl (lv_at hl 0 rfl) ?_
  refine w_get (ci := 0) (C := RJx4a65c) (T := TJx4a65c) (N := 3) (ref := "java/util/ArrayList") hx hb hts in_Jx4a65c_get_915e3_0 hown hw ha rfl 2 (by decide) (hts (.fieldLink RJx4a65c 48 "java/util/ArrayList" "size" "I") (by decide +kernel)) (fun _ h9 => h9) rfl dJx4a65c_get_915e3_2 ?_
  refine w_call (va_runS (As := [.int i, .int (nI xs.length)]) (rest := []) ⟨hx, hb, hml, hown, hts⟩ (c_obj_check l g h i (nI xs.length) h0 h1 s.heap.size) (va_cwS 2 hts gJx4a65c_get_915e3_J15_checkIndex_7cf53 rfl rfl rfl (by decide +kernel) ⟨Nat.le_of_ble_eq_true rfl, Nat.le_of_ble_eq_true rfl⟩) ⟨pr_blind, pr_of hw⟩ rfl rfl hl.1 rfl (lv_room (Nat.le_of_ble_eq_true rfl)) dJx4a65c_get_915e3_5 ⟨Nat.le_of_ble_eq_true rfl, Nat.le_of_ble_eq_true rfl⟩) hw (fun v h' H locs hp hw => ?_)
  obtain ⟨rfl, rfl⟩ := hp
  refine W.eq (g2 := F0 m 8 ls [.int i]) rfl ?_
  refine lv_pop hx hb dJx4a65c_get_915e3_8 rfl ?_
  refine lv_aload_n hx hb dJx4a65c_get_915e3_9 rfl (lv_at hl 0 rfl) ?_
  refine lv_iload_n hx hb dJx4a65c_get_915e3_10 rfl (lv_at hl 1 rfl) ?_
  refine w_call (va_runV (As := [.int i]) (rest := []) ⟨hx, hb, hml, hown, hts⟩ (c_AL_elementData l g h mc a arr (nI xs.length) ha cap f hr0 i hin0 H.size) (cwV 1 hts gJx4a65c_get_915e3_Jx4a65c_elementData_915e3 rfl rfl rfl (by decide +kernel) ⟨Nat.le_of_ble_eq_true rfl, Nat.le_of_ble_eq_true rfl⟩) ⟨pr_blind, w_recv hw ha rfl, pr_of hw⟩ rfl rfl hl.1 rfl (lv_room (Nat.le_of_ble_eq_true rfl)) dJx4a65c_get_915e3_11 ⟨Nat.le_of_ble_eq_true rfl, Nat.le_of_ble_eq_true rfl⟩) hw (fun v h' H locs hp hw => ?_)
  obtain ⟨rfl, rfl⟩ := hp
  refine W.eq (g2 := F0 m 14 ls [va_rf (f i.toNatClampNeg)]) rfl ?_
  exact r_ref hx hb hr (Or.inl ⟨_, rfl⟩) (va_rf_or _) hlocks hw dJx4a65c_get_915e3_14 (Nat.le_of_ble_eq_true rfl) (Nat.le_of_ble_eq_true rfl) (⟨by rw [hfy]; rfl, rfl⟩)
theorem in_X3_init_3 : ∀ w ∈ u_ws RX2 TX2 5, w ∈ wsX3_init := by decide +kernel
set_option maxHeartbeats 4000000 in
set_option maxRecDepth 100000 in
theorem c_Type_S (l : Launch) (g : GG) (h : Nat → Option va_E) (a : Nat) (b0 a0 k0 ba0 l0 by_ al : Int32) (ha : h a = some (.inr (3, [.int b0, .int a0, .int k0, .int ba0, .int l0]))) : Con l yX3_init wsX3_init 1 12 0 0 [.ref a, .int by_, .int al] g h (fun v h' => v = none ∧ h' = wu h a (.inr (3, [.int by_, .int al, .int k0, .int ba0, .int l0]))) := by
  refine m_start (cc := cX3_init) (maxL := 3) (ret := none) (by decide) rfl (Nat.le_of_ble_eq_true rfl) ?_
  intro p e s m below meth c A ls hx hb hr hml hts hown hlocks hin hw hl
  have hl : lv_has ls 3 [(0, .ref a), (1, .int by_), (2, .int al)] := hl
  have hown : s.vm.findClass RX3 = some m.cls := hown
  refine lv_aload_n hx hb dX3_init_0 rfl (lv_at hl 0 rfl) ?_
  refine W.objInit hx hb hown (hts (.methodLink RX3 1 objectInit) (by decide +kernel)) (hts (.instanceMethod objectInit) (by decide +kernel)) (hts _ (List.mem_of_getElem? (i := 3) rfl)) rfl (by rw [hml]; exact hl.1) rfl dX3_init_1 (Nat.le_of_ble_eq_true rfl) (Nat.le_of_ble_eq_true rfl) ?_
  refine W.eq (g2 := F0 m 4 ls []) rfl ?_
  refine lv_aload_n hx hb dX3_init_4 rfl (lv_at hl 0 rfl) ?_
  refine lv_iload_n hx hb dX3_init_5 rfl (lv_at hl 1 rfl) ?_
  refine w_put (ci := 3) (C := RX2) (T := TX2) (N := 5) (ref := "LayoutDesk$Type") (ty := .int) (fs' := [.int by_, .int a0, .int k0, .int ba0, .int l0]) hx hb hts in_X3_init_3 tyX2 tyX2_ok nmX2 hown hw ha rfl 0 (by decide) (hts (.fieldLink RX3 7 "LayoutDesk$Type" "bytes" "I") (by decide +kernel)) (fun _ h9 => h9) rfl (by decide +kernel) rfl rfl (Nat.le_of_ble_eq_true rfl) rfl dX3_init_6 (fun H locs hw => ?_)
  refine lv_aload_n hx hb dX3_init_9 rfl (lv_at hl 0 rfl) ?_
  refine lv_iload_n hx hb dX3_init_10 rfl (lv_at hl 2 rfl) ?_
  refine w_put (ci := 3) (C := RX2) (T := TX2) (N := 5) (ref := "LayoutDesk$Type") (ty := .int) (fs' := [.int by_, .int al, .int k0, .int ba0, .int l0]) hx hb hts in_X3_init_3 tyX2 tyX2_ok nmX2 hown hw (wu_s _ _ _) rfl 1 (by decide) (hts (.fieldLink RX3 13 "LayoutDesk$Type" "alignment" "I") (by decide +kernel)) (fun _ h9 => h9) rfl (by decide +kernel) rfl rfl (Nat.le_of_ble_eq_true rfl) rfl dX3_init_11 (fun H locs hw => ?_)
  exact r_void hx hb hr hlocks hw dX3_init_14 (Nat.le_of_ble_eq_true rfl) (Nat.le_of_ble_eq_true rfl) (⟨rfl, by rw [wu_uu]⟩)
theorem in_X3_init_1 : ∀ w ∈ u_ws RX0 TX0 8, w ∈ wsX3_init := by decide +kernel
set_option maxHeartbeats 4000000 in
set_option maxRecDepth 100000 in
theorem c_Type_C (l : Launch) (g : GG) (h : Nat → Option va_E) (a : Nat) (b0 a0 ov0 op0 re0 up0 fb0 by_ al : Int32) (ml0 : Value) (ha : h a = some (.inr (1, [.int b0, .int a0, .int ov0, ml0, .int op0, .int re0, .int up0, .int fb0]))) : Con l yX3_init wsX3_init 1 12 0 0 [.ref a, .int by_, .int al] g h (fun v h' => v = none ∧ h' = wu h a (.inr (1, [.int by_, .int al, .int ov0, ml0, .int op0, .int re0, .int up0, .int fb0]))) := by
  refine m_start (cc := cX3_init) (maxL := 3) (ret := none) (by decide) rfl (Nat.le_of_ble_eq_true rfl) ?_
  intro p e s m below meth c A ls hx hb hr hml hts hown hlocks hin hw hl
  have hl : lv_has ls 3 [(0, .ref a), (1, .int by_), (2, .int al)] := hl
  have hown : s.vm.findClass RX3 = some m.cls := hown
  refine lv_aload_n hx hb dX3_init_0 rfl (lv_at hl 0 rfl) ?_
  refine W.objInit hx hb hown (hts (.methodLink RX3 1 objectInit) (by decide +kernel)) (hts (.instanceMethod objectInit) (by decide +kernel)) (hts _ (List.mem_of_getElem? (i := 3) rfl)) rfl (by rw [hml]; exact hl.1) rfl dX3_init_1 (Nat.le_of_ble_eq_true rfl) (Nat.le_of_ble_eq_true rfl) ?_
  refine W.eq (g2 := F0 m 4 ls []) rfl ?_
  refine lv_aload_n hx hb dX3_init_4 rfl (lv_at hl 0 rfl) ?_
  refine lv_iload_n hx hb dX3_init_5 rfl (lv_at hl 1 rfl) ?_
  refine w_put (ci := 1) (C := RX0) (T := TX0) (N := 8) (ref := "LayoutDesk$Type") (ty := .int) (fs' := [.int by_, .int a0, .int ov0, ml0, .int op0, .int re0, .int up0, .int fb0]) hx hb hts in_X3_init_1 tyX0 tyX0_ok nmX0 hown hw ha rfl 0 (by decide) (hts (.fieldLink RX3 7 "LayoutDesk$Type" "bytes" "I") (by decide +kernel)) (fun _ h9 => h9) rfl (by decide +kernel) rfl rfl (Nat.le_of_ble_eq_true rfl) rfl dX3_init_6 (fun H locs hw => ?_)
  refine lv_aload_n hx hb dX3_init_9 rfl (lv_at hl 0 rfl) ?_
  refine lv_iload_n hx hb dX3_init_10 rfl (lv_at hl 2 rfl) ?_
  refine w_put (ci := 1) (C := RX0) (T := TX0) (N := 8) (ref := "LayoutDesk$Type") (ty := .int) (fs' := [.int by_, .int al, .int ov0, ml0, .int op0, .int re0, .int up0, .int fb0]) hx hb hts in_X3_init_1 tyX0 tyX0_ok nmX0 hown hw (wu_s _ _ _) rfl 1 (by decide) (hts (.fieldLink RX3 13 "LayoutDesk$Type" "alignment" "I") (by decide +kernel)) (fun _ h9 => h9) rfl (by decide +kernel) rfl rfl (Nat.le_of_ble_eq_true rfl) rfl dX3_init_11 (fun H locs hw => ?_)
  exact r_void hx hb hr hlocks hw dX3_init_14 (Nat.le_of_ble_eq_true rfl) (Nat.le_of_ble_eq_true rfl) (⟨rfl, by rw [wu_uu]⟩)
theorem in_X2_init_3 : ∀ w ∈ u_ws RX2 TX2 5, w ∈ wsX2_init := by decide +kernel
set_option maxHeartbeats 4000000 in
set_option maxRecDepth 100000 in
theorem c_Simple_init (l : Launch) (g : GG) (h : Nat → Option va_E) (a : Nat) (b0 a0 k0 ba0 l0 ki ba le by_ al : Int32) (ha : h a = some (.inr (3, [.int b0, .int a0, .int k0, .int ba0, .int l0]))) : Con l yX2_init wsX2_init 2 40 0 0 [.ref a, .int ki, .int ba, .int le, .int by_, .int al] g h (fun v h' => v = none ∧ h' = wu h a (oSi by_ al ki ba le)) := by
  refine m_start (cc := cX2_init) (maxL := 6) (ret := none) (by decide) rfl (Nat.le_of_ble_eq_true rfl) ?_
  intro p e s m below meth c A ls hx hb hr hml hts hown hlocks hin hw hl
  have hl : lv_has ls 6 [(0, .ref a), (1, .int ki), (2, .int ba), (3, .int le), (4, .int by_), (5, .int al)] := hl
  have hown : s.vm.findClass RX2 = some m.cls := hown
  refine lv_aload_n hx hb dX2_init_0 rfl (lv_at hl 0 rfl) ?_
  refine lv_iload hx hb dX2_init_1 (lv_at hl 4 rfl) ?_
  refine lv_iload hx hb dX2_init_3 (lv_at hl 5 rfl) ?_
  refine w_call (va_runI (As := [.int by_, .int al]) (rest := []) ⟨hx, hb, hml, hown, hts⟩ (c_Type_S l g h a b0 a0 k0 ba0 l0 by_ al ha s.heap.size) (cwI 2 hts gX2_init_X3_init rfl rfl rfl (hts (.initialized RX3) (by decide +kernel)) (hts (.methodLink RX2 1 yX3_init) (by decide +kernel)) (hts (.instanceMethod yX3_init) (by decide +kernel)) rfl (by decide +kernel) ⟨Nat.le_of_ble_eq_true rfl, Nat.le_of_ble_eq_true rfl⟩) ⟨pr_blind, pr_of hw⟩ rfl rfl hl.1 rfl (lv_room (Nat.le_of_ble_eq_true rfl)) dX2_init_5 ⟨Nat.le_of_ble_eq_true rfl, Nat.le_of_ble_eq_true rfl⟩) hw (fun v h' H locs hp hw => ?_)
  obtain ⟨rfl, rfl⟩ := hp
  refine W.eq (g2 := F0 m 8 ls []) rfl ?_
  refine lv_aload_n hx hb dX2_init_8 rfl (lv_at hl 0 rfl) ?_
  refine lv_iload_n hx hb dX2_init_9 rfl (lv_at hl 1 rfl) ?_
  refine w_putF (ci := 3) (C := RX2) (T := TX2) (N := 5) (ref := "LayoutDesk$Simple") (ty := .int) (fs' := [.int by_, .int al, .int ki, .int ba0, .int l0]) hx hb hts in_X2_init_3 tyX2 tyX2_ok nmX2 hown hw (wu_s _ _ _) rfl 2 (by decide) (hts (.fieldLink RX2 7 "LayoutDesk$Simple" "kind" "I") (by decide +kernel)) (fun _ h9 => h9) rfl hin rfl (by decide +kernel) rfl rfl (Nat.le_of_ble_eq_true rfl) rfl dX2_init_10 (fun H locs hw => ?_)
  refine lv_aload_n hx hb dX2_init_13 rfl (lv_at hl 0 rfl) ?_
  refine lv_iload_n hx hb dX2_init_14 rfl (lv_at hl 2 rfl) ?_
  refine w_putF (ci := 3) (C := RX2) (T := TX2) (N := 5) (ref := "LayoutDesk$Simple") (ty := .int) (fs' := [.int by_, .int al, .int ki, .int ba, .int l0]) hx hb hts in_X2_init_3 tyX2 tyX2_ok nmX2 hown hw (wu_s _ _ _) rfl 3 (by decide) (hts (.fieldLink RX2 13 "LayoutDesk$Simple" "base" "I") (by decide +kernel)) (fun _ h9 => h9) rfl hin rfl (by decide +kernel) rfl rfl (Nat.le_of_ble_eq_true rfl) rfl dX2_init_15 (fun H locs hw => ?_)
  refine lv_aload_n hx hb dX2_init_18 rfl (lv_at hl 0 rfl) ?_
  refine lv_iload_n hx hb dX2_init_19 rfl (lv_at hl 3 rfl) ?_
  refine w_putF (ci := 3) (C := RX2) (T := TX2) (N := 5) (ref := "LayoutDesk$Simple") (ty := .int) (fs' := [.int by_, .int al, .int ki, .int ba, .int le]) hx hb hts in_X2_init_3 tyX2 tyX2_ok nmX2 hown hw (wu_s _ _ _) rfl 4 (by decide) (hts (.fieldLink RX2 16 "LayoutDesk$Simple" "length" "I") (by decide +kernel)) (fun _ h9 => h9) rfl hin rfl (by decide +kernel) rfl rfl (Nat.le_of_ble_eq_true rfl) rfl dX2_init_20 (fun H locs hw => ?_)
  exact r_void hx hb hr hlocks hw dX2_init_23 (Nat.le_of_ble_eq_true rfl) (Nat.le_of_ble_eq_true rfl) (⟨rfl, by rw [wu_uu, wu_uu, wu_uu]⟩)
theorem in_X1_init_2 : ∀ w ∈ u_ws RX1 TX1 4, w ∈ wsX1_init := by decide +kernel
set_option maxHeartbeats 4000000 in
set_option maxRecDepth 100000 in
theorem c_Member_init (l : Launch) (g : GG) (h : Nat → Option va_E) (a : Nat) (p0 t0 l0 w0 pl ty lo wi : Int32) (ha : h a = some (.inr (2, [.int p0, .int t0, .int l0, .int w0]))) : Con l yX1_init wsX1_init 1 12 0 0 [.ref a, .int pl, .int ty, .int lo, .int wi] g h (fun v h' => v = none ∧ h' = wu h a (oMb pl ty lo wi)) := by
  refine m_start (cc := cX1_init) (maxL := 5) (ret := none) (by decide) rfl (Nat.le_of_ble_eq_true rfl) ?_
  intro p e s m below meth c A ls hx hb hr hml hts hown hlocks hin hw hl
  have hl : lv_has ls 5 [(0, .ref a), (1, .int pl), (2, .int ty), (3, .int lo), (4, .int wi)] := hl
  have hown : s.vm.findClass RX1 = some m.cls := hown
  refine lv_aload_n hx hb dX1_init_0 rfl (lv_at hl 0 rfl) ?_
  refine W.objInit hx hb hown (hts (.methodLink RX1 1 objectInit) (by decide +kernel)) (hts (.instanceMethod objectInit) (by decide +kernel)) (hts _ (List.mem_of_getElem? (i := 3) rfl)) rfl (by rw [hml]; exact hl.1) rfl dX1_init_1 (Nat.le_of_ble_eq_true rfl) (Nat.le_of_ble_eq_true rfl) ?_
  refine W.eq (g2 := F0 m 4 ls []) rfl ?_
  refine lv_aload_n hx hb dX1_init_4 rfl (lv_at hl 0 rfl) ?_
  refine lv_iload_n hx hb dX1_init_5 rfl (lv_at hl 1 rfl) ?_
  refine w_putF (ci := 2) (C := RX1) (T := TX1) (N := 4) (ref := "LayoutDesk$Member") (ty := .int) (fs' := [.int pl, .int t0, .int l0, .int w0]) hx hb hts in_X1_init_2 tyX1 tyX1_ok nmX1 hown hw ha rfl 0 (by decide) (hts (.fieldLink RX1 7 "LayoutDesk$Member" "place" "I") (by decide +kernel)) (fun _ h9 => h9) rfl hin rfl (by decide +kernel) rfl rfl (Nat.le_of_ble_eq_true rfl) rfl dX1_init_6 (fun H locs hw => ?_)
  refine lv_aload_n hx hb dX1_init_9 rfl (lv_at hl 0 rfl) ?_
  refine lv_iload_n hx hb dX1_init_10 rfl (lv_at hl 2 rfl) ?_
  refine w_putF (ci := 2) (C := RX1) (T := TX1) (N := 4) (ref := "LayoutDesk$Member") (ty := .int) (fs' := [.int pl, .int ty, .int l0, .int w0]) hx hb hts in_X1_init_2 tyX1 tyX1_ok nmX1 hown hw (wu_s _ _ _) rfl 1 (by decide) (hts (.fieldLink RX1 13 "LayoutDesk$Member" "type" "I") (by decide +kernel)) (fun _ h9 => h9) rfl hin rfl (by decide +kernel) rfl rfl (Nat.le_of_ble_eq_true rfl) rfl dX1_init_11 (fun H locs hw => ?_)
  refine lv_aload_n hx hb dX1_init_14 rfl (lv_at hl 0 rfl) ?_
  refine lv_iload_n hx hb dX1_init_15 rfl (lv_at hl 3 rfl) ?_
  refine w_putF (ci := 2) (C := RX1) (T := TX1) (N := 4) (ref := "LayoutDesk$Member") (ty := .int) (fs' := [.int pl, .int ty, .int lo, .int w0]) hx hb hts in_X1_init_2 tyX1 tyX1_ok nmX1 hown hw (wu_s _ _ _) rfl 2 (by decide) (hts (.fieldLink RX1 16 "LayoutDesk$Member" "lowestBit" "I") (by decide +kernel)) (fun _ h9 => h9) rfl hin rfl (by decide +kernel) rfl rfl (Nat.le_of_ble_eq_true rfl) rfl dX1_init_16 (fun H locs hw => ?_)
  refine lv_aload_n hx hb dX1_init_19 rfl (lv_at hl 0 rfl) ?_
  refine lv_iload hx hb dX1_init_20 (lv_at hl 4 rfl) ?_
  refine w_putF (ci := 2) (C := RX1) (T := TX1) (N := 4) (ref := "LayoutDesk$Member") (ty := .int) (fs' := [.int pl, .int ty, .int lo, .int wi]) hx hb hts in_X1_init_2 tyX1 tyX1_ok nmX1 hown hw (wu_s _ _ _) rfl 3 (by decide) (hts (.fieldLink RX1 19 "LayoutDesk$Member" "width" "I") (by decide +kernel)) (fun _ h9 => h9) rfl hin rfl (by decide +kernel) rfl rfl (Nat.le_of_ble_eq_true rfl) rfl dX1_init_22 (fun H locs hw => ?_)
  exact r_void hx hb hr hlocks hw dX1_init_25 (Nat.le_of_ble_eq_true rfl) (Nat.le_of_ble_eq_true rfl) (⟨rfl, by rw [wu_uu, wu_uu, wu_uu]⟩)
theorem in_X2_isMadeFrom_3 : ∀ w ∈ u_ws RX2 TX2 5, w ∈ wsX2_isMadeFrom := by decide +kernel
set_option maxHeartbeats 4000000 in
set_option maxRecDepth 100000 in
theorem c_isMadeFrom (l : Launch) (g : GG) (h : Nat → Option va_E) (a : Nat) (by_ al ki ba le k2 b2 l2 : Int32) (ha : h a = some (oSi by_ al ki ba le)) : Con l yX2_isMadeFrom wsX2_isMadeFrom 0 0 0 0 [.ref a, .int k2, .int b2, .int l2] g h (fun v h' => v = some (.int (if ki = k2 ∧ ba = b2 ∧ le = l2 then 1 else 0)) ∧ h = h') := by
  refine m_start (cc := cX2_isMadeFrom) (maxL := 4) (ret := (some .boolean)) (by decide) rfl (Nat.le_of_ble_eq_true rfl) ?_
  intro p e s m below meth c A ls hx hb hr hml hts hown hlocks hin hw hl
  have hl : lv_has ls 4 [(0, .ref a), (1, .int k2), (2, .int b2), (3, .int l2)] := hl
  have hown : s.vm.findClass RX2 = some m.cls := hown
  refine lv_aload_n hx hb dX2_isMadeFrom_0 rfl (lv_at hl 0 rfl) ?_
  refine w_get (ci := 3) (C := RX2) (T := TX2) (N := 5) (ref := "LayoutDesk$Simple") hx hb hts in_X2_isMadeFrom_3 hown hw ha rfl 2 (by decide) (hts (.fieldLink RX2 7 "LayoutDesk$Simple" "kind" "I") (by decide +kernel)) (fun _ h9 => h9) rfl dX2_isMadeFrom_1 ?_
  refine lv_iload_n hx hb dX2_isMadeFrom_4 rfl (lv_at hl 1 rfl) ?_
  refine lv_icmp_ne (tgt := 28) hx hb dX2_isMadeFrom_5 (by decide) (fun c5 => ?_) (fun c5 => ?_)
  · refine lv_iconst (v := 0) hx hb dX2_isMadeFrom_28 (by decide) ?_
    exact r_bool hx hb hr hlocks hw rfl dX2_isMadeFrom_29 (Nat.le_of_ble_eq_true rfl) (Nat.le_of_ble_eq_true rfl) (⟨by rw [if_neg (fun z => c5 z.1)], rfl⟩)
  · refine lv_aload_n hx hb dX2_isMadeFrom_8 rfl (lv_at hl 0 rfl) ?_
    refine w_get (ci := 3) (C := RX2) (T := TX2) (N := 5) (ref := "LayoutDesk$Simple") hx hb hts in_X2_isMadeFrom_3 hown hw ha rfl 3 (by decide) (hts (.fieldLink RX2 13 "LayoutDesk$Simple" "base" "I") (by decide +kernel)) (fun _ h9 => h9) rfl dX2_isMadeFrom_9 ?_
    refine lv_iload_n hx hb dX2_isMadeFrom_12 rfl (lv_at hl 2 rfl) ?_
    refine lv_icmp_ne (tgt := 28) hx hb dX2_isMadeFrom_13 (by decide) (fun c13 => ?_) (fun c13 => ?_)
    · refine lv_iconst (v := 0) hx hb dX2_isMadeFrom_28 (by decide) ?_
      exact r_bool hx hb hr hlocks hw rfl dX2_isMadeFrom_29 (Nat.le_of_ble_eq_true rfl) (Nat.le_of_ble_eq_true rfl) (⟨by rw [if_neg (fun z => c13 z.2.1)], rfl⟩)
    · refine lv_aload_n hx hb dX2_isMadeFrom_16 rfl (lv_at hl 0 rfl) ?_
      refine w_get (ci := 3) (C := RX2) (T := TX2) (N := 5) (ref := "LayoutDesk$Simple") hx hb hts in_X2_isMadeFrom_3 hown hw ha rfl 4 (by decide) (hts (.fieldLink RX2 16 "LayoutDesk$Simple" "length" "I") (by decide +kernel)) (fun _ h9 => h9) rfl dX2_isMadeFrom_17 ?_
      refine lv_iload_n hx hb dX2_isMadeFrom_20 rfl (lv_at hl 3 rfl) ?_
      refine lv_icmp_ne (tgt := 28) hx hb dX2_isMadeFrom_21 (by decide) (fun c21 => ?_) (fun c21 => ?_)
      · refine lv_iconst (v := 0) hx hb dX2_isMadeFrom_28 (by decide) ?_
        exact r_bool hx hb hr hlocks hw rfl dX2_isMadeFrom_29 (Nat.le_of_ble_eq_true rfl) (Nat.le_of_ble_eq_true rfl) (⟨by rw [if_neg (fun z => c21 z.2.2)], rfl⟩)
      · refine lv_iconst (v := 1) hx hb dX2_isMadeFrom_24 (by decide) ?_
        refine lv_goto (tgt := 29) hx hb dX2_isMadeFrom_25 (by decide) ?_
        exact r_bool hx hb hr hlocks hw rfl dX2_isMadeFrom_29 (Nat.le_of_ble_eq_true rfl) (Nat.le_of_ble_eq_true rfl) (⟨by rw [if_pos ⟨c5, c13, c21⟩], rfl⟩)
set_option maxHeartbeats 4000000 in
set_option maxRecDepth 100000 in
theorem c_roundUp (l : Launch) (g : GG) (h : Nat → Option va_E) (p_ s_ : Nat) (hp : p_ ≤ 2000000) (hs : s_ ≤ 4) : Con l yX4_roundUp wsX4_roundUp 0 0 0 0 [.int (nI p_), .int (nI s_)] g h (fun v h' => v = some (.int (nI (rup p_ s_))) ∧ h = h') := by
  refine m_start (cc := cX4_roundUp) (maxL := 3) (ret := (some .int)) (by decide) rfl (Nat.le_of_ble_eq_true rfl) ?_
  intro p e s m below meth c A ls hx hb hr hml hts hown hlocks hin hw hl
  have hl : lv_has ls 3 [(0, .int (nI p_)), (1, .int (nI s_))] := hl
  have hown : s.vm.findClass RX4 = some m.cls := hown
  refine lv_iload_n hx hb dX4_roundUp_0 rfl (lv_at hl 1 rfl) ?_
  refine lv_if_gt (tgt := 6) hx hb dX4_roundUp_1 (by decide) (fun c1 => ?_) (fun c1 => ?_)
  · have z0 : 0 < s_ := Nat.pos_of_ne_zero (fun z => by rw [z, nI_0] at c1; exact absurd c1 (by decide))
    refine lv_iload_n hx hb dX4_roundUp_6 rfl (lv_at hl 0 rfl) ?_
    refine lv_iload_n hx hb dX4_roundUp_7 rfl (lv_at hl 1 rfl) ?_
    refine lv_irem hx hb dX4_roundUp_8 (nI_ne0 z0 (by omega)) ?_
    refine lv_topi (fun o_ eo_ => ?_)
    have eo : o_ = nI (p_ % s_) := eo_.trans (pk_rem (by omega) z0 (by omega))
    refine lv_istore_n (lv' := [(2, .int o_), (0, .int (nI p_)), (1, .int (nI s_))]) hx hb dX4_roundUp_9 rfl hl (by decide) rfl (fun ls hl => ?_)
    refine lv_iload_n hx hb dX4_roundUp_10 rfl (lv_at hl 0 rfl) ?_
    refine lv_if_ne (tgt := 18) hx hb dX4_roundUp_11 (by decide) (fun c11 => ?_) (fun c11 => ?_)
    · have z1 : p_ % s_ ≠ 0 := fun z => c11 (by rw [eo, z]; exact nI_0)
      refine lv_iload_n hx hb dX4_roundUp_18 rfl (lv_at hl 1 rfl) ?_
      refine lv_iload_n hx hb dX4_roundUp_19 rfl (lv_at hl 2 rfl) ?_
      refine lv_iadd hx hb dX4_roundUp_20 ?_
      refine lv_iload_n hx hb dX4_roundUp_21 rfl (lv_at hl 0 rfl) ?_
      refine lv_isub hx hb dX4_roundUp_22 ?_
      exact r_int hx hb hr hlocks hw dX4_roundUp_23 (Nat.le_of_ble_eq_true rfl) (Nat.le_of_ble_eq_true rfl) (⟨by rw [rup_alt z0, if_neg z1, eo, nI_add, pk_sub (by have := Nat.mod_lt p_ z0; omega)], rfl⟩)
    · have z1 : p_ % s_ = 0 := (nI_eq (b := 0) (by have := Nat.mod_lt p_ z0; omega) (by decide)).mp (by rw [← eo, c11]; exact nI_0.symm)
      refine lv_iload_n hx hb dX4_roundUp_14 rfl (lv_at hl 1 rfl) ?_
      refine lv_goto (tgt := 23) hx hb dX4_roundUp_15 (by decide) ?_
      exact r_int hx hb hr hlocks hw dX4_roundUp_23 (Nat.le_of_ble_eq_true rfl) (Nat.le_of_ble_eq_true rfl) (⟨by rw [rup_alt z0, if_pos z1], rfl⟩)
  · have z0 : s_ = 0 := Nat.eq_zero_of_not_pos (fun z => c1 (nI_0lt z (by omega)))
    refine lv_iload_n hx hb dX4_roundUp_4 rfl (lv_at hl 0 rfl) ?_
    exact r_int hx hb hr hlocks hw dX4_roundUp_5 (Nat.le_of_ble_eq_true rfl) (Nat.le_of_ble_eq_true rfl) (⟨by rw [z0]; rfl, rfl⟩)
set_option maxHeartbeats 4000000 in
set_option maxRecDepth 100000 in
theorem c_isBit (l : Launch) (g : GG) (h : Nat → Option va_E) (t : Int32) : Con l yX4_isBitFieldType wsX4_isBitFieldType 0 0 0 0 [.int t] g h (fun v h' => v = some (.int (if t = 5 ∨ t = 6 then 1 else 0)) ∧ h = h') := by
  refine m_start (cc := cX4_isBitFieldType) (maxL := 1) (ret := (some .boolean)) (by decide) rfl (Nat.le_of_ble_eq_true rfl) ?_
  intro p e s m below meth c A ls hx hb hr hml hts hown hlocks hin hw hl
  have hl : lv_has ls 1 [(0, .int t)] := hl
  have hown : s.vm.findClass RX4 = some m.cls := hown
  refine lv_iload_n hx hb dX4_isBitFieldType_0 rfl (lv_at hl 0 rfl) ?_
  refine lv_iconst (v := 5) hx hb dX4_isBitFieldType_1 (by decide) ?_
  refine lv_icmp_eq (tgt := 11) hx hb dX4_isBitFieldType_2 (by decide) (fun c2 => ?_) (fun c2 => ?_)
  · refine lv_iconst (v := 1) hx hb dX4_isBitFieldType_11 (by decide) ?_
    refine lv_goto (tgt := 16) hx hb dX4_isBitFieldType_12 (by decide) ?_
    exact r_bool hx hb hr hlocks hw rfl dX4_isBitFieldType_16 (Nat.le_of_ble_eq_true rfl) (Nat.le_of_ble_eq_true rfl) (⟨by rw [if_pos (Or.inl c2)], rfl⟩)
  · refine lv_iload_n hx hb dX4_isBitFieldType_5 rfl (lv_at hl 0 rfl) ?_
    refine lv_bipush (v := 6) hx hb dX4_isBitFieldType_6 (by decide) ?_
    refine lv_icmp_ne (tgt := 15) hx hb dX4_isBitFieldType_8 (by decide) (fun c8 => ?_) (fun c8 => ?_)
    · refine lv_iconst (v := 0) hx hb dX4_isBitFieldType_15 (by decide) ?_
      exact r_bool hx hb hr hlocks hw rfl dX4_isBitFieldType_16 (Nat.le_of_ble_eq_true rfl) (Nat.le_of_ble_eq_true rfl) (⟨by rw [if_neg (fun z => z.elim c2 c8)], rfl⟩)
    · refine lv_iconst (v := 1) hx hb dX4_isBitFieldType_11 (by decide) ?_
      refine lv_goto (tgt := 16) hx hb dX4_isBitFieldType_12 (by decide) ?_
      exact r_bool hx hb hr hlocks hw rfl dX4_isBitFieldType_16 (Nat.le_of_ble_eq_true rfl) (Nat.le_of_ble_eq_true rfl) (⟨by rw [if_pos (Or.inr c8)], rfl⟩)
end
section
/-! the desk: Compound; the lookups -/
theorem in_X0_init_0 : ∀ w ∈ u_ws RJx4a65c TJx4a65c 3, w ∈ wsX0_init := by decide +kernel
theorem in_X0_init_1 : ∀ w ∈ u_ws RX0 TX0 8, w ∈ wsX0_init := by decide +kernel
set_option maxHeartbeats 4000000 in
set_option maxRecDepth 100000 in
theorem c_Comp_init (l : Launch) (g : GG) (h : Nat → Option va_E) (a : Nat) (ov : Int32) (hov : ov = 0 ∨ ov = 1) (ha : h a = some (.inr (1, [.int 0, .int 0, .int 0, .null, .int 0, .int 0, .int 0, .int 0]))) : Con l yX0_init wsX0_init 4 80 1 3 [.ref a, .int ov] g h (fun v h' => ∃ q : Nat, v = none ∧ h q = none ∧ h' a = some (oCo 0 0 ov q 1 0 0 0) ∧ h' q = some (oAL 0 (gZ g) 0) ∧ ∀ z, z ≠ a → z ≠ q → h' z = h z) := by
  refine m_start (cc := cX0_init) (maxL := 2) (ret := none) (by decide) rfl (Nat.le_of_ble_eq_true rfl) ?_
  intro p e s m below meth c A ls hx hb hr hml hts hown hlocks hin hw hl
  have hl : lv_has ls 2 [(0, .ref a), (1, .int ov)] := hl
  have hown : s.vm.findClass RX0 = some m.cls := hown
  refine lv_aload_n hx hb dX0_init_0 rfl (lv_at hl 0 rfl) ?_
  refine lv_iconst (v := 0) hx hb dX0_init_1 (by decide) ?_
  refine lv_iconst (v := 0) hx hb dX0_init_2 (by decide) ?_
  refine w_call (va_runI (As := [.int 0, .int 0]) (rest := []) ⟨hx, hb, hml, hown, hts⟩ (c_Type_C l g h a 0 0 0 0 0 0 0 0 0 .null ha s.heap.size) (cwI 2 hts gX0_init_X3_init rfl rfl rfl (hts (.initialized RX3) (by decide +kernel)) (hts (.methodLink RX0 3 yX3_init) (by decide +kernel)) (hts (.instanceMethod yX3_init) (by decide +kernel)) rfl (by decide +kernel) ⟨Nat.le_of_ble_eq_true rfl, Nat.le_of_ble_eq_true rfl⟩) ⟨pr_blind, pr_of hw⟩ rfl rfl hl.1 rfl (lv_room (Nat.le_of_ble_eq_true rfl)) dX0_init_3 ⟨Nat.le_of_ble_eq_true rfl, Nat.le_of_ble_eq_true rfl⟩) hw (fun v h' H locs hp hw => ?_)
  obtain ⟨rfl, rfl⟩ := hp
  refine W.eq (g2 := F0 m 6 ls []) rfl ?_
  refine lv_aload_n hx hb dX0_init_6 rfl (lv_at hl 0 rfl) ?_
  refine lv_iload_n hx hb dX0_init_7 rfl (lv_at hl 1 rfl) ?_
  refine w_putF (ci := 1) (C := RX0) (T := TX0) (N := 8) (ref := "LayoutDesk$Compound") (ty := .boolean) (fs' := [.int 0, .int 0, .int ov, .null, .int 0, .int 0, .int 0, .int 0]) hx hb hts in_X0_init_1 tyX0 tyX0_ok nmX0 hown hw (wu_s _ _ _) rfl 2 (by decide) (hts (.fieldLink RX0 9 "LayoutDesk$Compound" "overlaid" "Z") (by decide +kernel)) (fun _ h9 => h9) rfl hin rfl (by decide +kernel) (b01 hov) (f01 hov) (Nat.le_of_ble_eq_true rfl) rfl dX0_init_8 (fun H locs hw => ?_)
  refine lv_aload_n hx hb dX0_init_11 rfl (lv_at hl 0 rfl) ?_
  refine w_new (ci := 0) (C := RJx4a65c) (T := TJx4a65c) (N := 3) (fs := [.int 0, .null, .int 0]) hx hb hts in_X0_init_0 tyJx4a65c tyJx4a65c_ok hown (hts (.classLink RX0 15 RJx4a65c) (by decide +kernel)) (hts (.instantiable RJx4a65c 3) (by decide +kernel)) (hts (.initialized RJx4a65c) (by decide +kernel)) hw rfl (fun j hj => by rcases (show j = 0 ∨ j = 1 ∨ j = 2 by omega) with rfl | rfl | rfl <;> rfl) (Nat.le_of_ble_eq_true rfl) (Nat.le_of_ble_eq_true rfl) dX0_init_12 (fun q H hq hw => ?_)
  refine lv_dup hx hb dX0_init_15 rfl ?_
  refine w_call (va_runI (As := []) (rest := [.ref q, .ref a]) ⟨hx, hb, hml, hown, hts⟩ (c_AL_init l g (wu (wu (wu h a (.inr (1, [.int 0, .int 0, .int 0, .null, .int 0, .int 0, .int 0, .int 0]))) a (.inr (1, [.int 0, .int 0, .int ov, .null, .int 0, .int 0, .int 0, .int 0]))) q (.inr (0, [.int 0, .null, .int 0]))) q 0 0 .null (wu_s _ _ _) H.size) (cwI 0 hts gX0_init_Jx4a65c_init_da8c8 rfl rfl rfl (hts (.initialized RJx4a65c) (by decide +kernel)) (hts (.methodLink RX0 17 yJx4a65c_init_da8c8) (by decide +kernel)) (hts (.instanceMethod yJx4a65c_init_da8c8) (by decide +kernel)) rfl (by decide +kernel) ⟨Nat.le_of_ble_eq_true rfl, Nat.le_of_ble_eq_true rfl⟩) ⟨pr_blind, pr_of hw⟩ rfl rfl hl.1 rfl (lv_room (Nat.le_of_ble_eq_true rfl)) dX0_init_16 ⟨Nat.le_of_ble_eq_true rfl, Nat.le_of_ble_eq_true rfl⟩) hw (fun v h' H locs hp hw => ?_)
  obtain ⟨rfl, rfl⟩ := hp
  refine W.eq (g2 := F0 m 19 ls [.ref q, .ref a]) rfl ?_
  refine w_putF (ci := 1) (C := RX0) (T := TX0) (N := 8) (ref := "LayoutDesk$Compound") (ty := .object "java/util/ArrayList") (fs' := [.int 0, .int 0, .int ov, .ref q, .int 0, .int 0, .int 0, .int 0]) hx hb hts in_X0_init_1 tyX0 tyX0_ok nmX0 hown hw ((wu_n (ne_n (wu_s _ _ _) hq)).trans ((wu_n (ne_n (wu_s _ _ _) hq)).trans (wu_s _ _ _))) rfl 3 (by decide) (hts (.fieldLink RX0 20 "LayoutDesk$Compound" "members" "Ljava/util/ArrayList;") (by decide +kernel)) (fun _ h9 => h9) rfl hin rfl (by decide +kernel) rfl rfl (Nat.le_of_ble_eq_true rfl) rfl dX0_init_19 (fun H locs hw => ?_)
  refine lv_aload_n hx hb dX0_init_22 rfl (lv_at hl 0 rfl) ?_
  refine lv_iconst (v := 1) hx hb dX0_init_23 (by decide) ?_
  refine w_put (ci := 1) (C := RX0) (T := TX0) (N := 8) (ref := "LayoutDesk$Compound") (ty := .boolean) (fs' := [.int 0, .int 0, .int ov, .ref q, .int 1, .int 0, .int 0, .int 0]) hx hb hts in_X0_init_1 tyX0 tyX0_ok nmX0 hown hw (wu_s _ _ _) rfl 4 (by decide) (hts (.fieldLink RX0 24 "LayoutDesk$Compound" "open" "Z") (by decide +kernel)) (fun _ h9 => h9) rfl (by decide +kernel) rfl rfl (Nat.le_of_ble_eq_true rfl) rfl dX0_init_24 (fun H locs hw => ?_)
  exact r_void hx hb hr hlocks hw dX0_init_27 (Nat.le_of_ble_eq_true rfl) (Nat.le_of_ble_eq_true rfl) (⟨q, rfl, (wu_n (ne_n (wu_s _ _ _) hq).symm).symm.trans ((wu_n (ne_n (wu_s _ _ _) hq).symm).symm.trans hq), wu_s _ _ _, (((wu_n ((ne_n (wu_s _ _ _) hq)).symm).trans ((wu_n ((ne_n (wu_s _ _ _) hq)).symm).trans (wu_s _ _ _)))), fun z z1 z2 => (wu_n z1).trans ((wu_n z1).trans ((wu_n z2).trans ((wu_n z2).trans ((wu_n z1).trans (wu_n z1)))))⟩)
theorem in_X0_hasAllMembers_1 : ∀ w ∈ u_ws RX0 TX0 8, w ∈ wsX0_hasAllMembers := by decide +kernel
set_option maxHeartbeats 4000000 in
set_option maxRecDepth 100000 in
theorem c_hasAll (l : Launch) (g : GG) (h : Nat → Option va_E) (a ml : Nat) (by_ al ov op re up fb : Int32) (ha : h a = some (oCo by_ al ov ml op re up fb)) (ma : Nat) (mb : List Nat) (hM : AL g h ml ma mb) : Con l yX0_hasAllMembers wsX0_hasAllMembers 1 30 0 0 [.ref a] g h (fun v h' => v = some (.int (if 100 ≤ mb.length then 1 else 0)) ∧ h = h') := by
  have hn9 := AL_len hM
  obtain ⟨⟨mc, hm0⟩, -, -⟩ := id hM
  refine m_start (cc := cX0_hasAllMembers) (maxL := 1) (ret := (some .boolean)) (by decide) rfl (Nat.le_of_ble_eq_true rfl) ?_
  intro p e s m below meth c A ls hx hb hr hml hts hown hlocks hin hw hl
  have hl : lv_has ls 1 [(0, .ref a)] := hl
  have hown : s.vm.findClass RX0 = some m.cls := hown
  refine lv_aload_n hx hb dX0_hasAllMembers_0 rfl (lv_at hl 0 rfl) ?_
  refine w_get (ci := 1) (C := RX0) (T := TX0) (N := 8) (ref := "LayoutDesk$Compound") hx hb hts in_X0_hasAllMembers_1 hown hw ha rfl 3 (by decide) (hts (.fieldLink RX0 20 "LayoutDesk$Compound" "members" "Ljava/util/ArrayList;") (by decide +kernel)) (fun _ h9 => h9) rfl dX0_hasAllMembers_1 ?_
  refine w_call (va_runV (As := []) (rest := []) ⟨hx, hb, hml, hown, hts⟩ (c_sizeL l g h ml ma mb hM s.heap.size) (cwV 0 hts gX0_hasAllMembers_Jx4a65c_size_8abf5 rfl rfl rfl (by decide +kernel) ⟨Nat.le_of_ble_eq_true rfl, Nat.le_of_ble_eq_true rfl⟩) ⟨pr_blind, w_recv hw hm0 rfl, pr_of hw⟩ rfl rfl hl.1 rfl (lv_room (Nat.le_of_ble_eq_true rfl)) dX0_hasAllMembers_4 ⟨Nat.le_of_ble_eq_true rfl, Nat.le_of_ble_eq_true rfl⟩) hw (fun v h' H locs hp hw => ?_)
  obtain ⟨rfl, rfl⟩ := hp
  refine W.eq (g2 := F0 m 7 ls [.int (nI mb.length)]) rfl ?_
  refine lv_bipush (v := 100) hx hb dX0_hasAllMembers_7 (by decide) ?_
  refine lv_icmp_lt (tgt := 16) hx hb dX0_hasAllMembers_9 (by decide) (fun c9 => ?_) (fun c9 => ?_)
  · refine lv_iconst (v := 0) hx hb dX0_hasAllMembers_16 (by decide) ?_
    exact r_bool hx hb hr hlocks hw rfl dX0_hasAllMembers_17 (Nat.le_of_ble_eq_true rfl) (Nat.le_of_ble_eq_true rfl) (⟨by rw [if_neg (fun z => (nI_nlt (b := 100) z (by omega)) c9)], rfl⟩)
  · refine lv_iconst (v := 1) hx hb dX0_hasAllMembers_12 (by decide) ?_
    refine lv_goto (tgt := 17) hx hb dX0_hasAllMembers_13 (by decide) ?_
    exact r_bool hx hb hr hlocks hw rfl dX0_hasAllMembers_17 (Nat.le_of_ble_eq_true rfl) (Nat.le_of_ble_eq_true rfl) (⟨by rw [if_pos (Nat.le_of_not_lt (fun z => c9 (nI_lt (b := 100) z (by decide))))], rfl⟩)
theorem in_X0_enter_1 : ∀ w ∈ u_ws RX0 TX0 8, w ∈ wsX0_enter := by decide +kernel
set_option maxHeartbeats 4000000 in
set_option maxRecDepth 100000 in
theorem c_Comp_enter (l : Launch) (g : GG) (h : Nat → Option va_E) (a ml : Nat) (by_ al ov op re up fb : Int32) (ha : h a = some (oCo by_ al ov ml op re up fb)) (ma x : Nat) (mb : List Nat) (hM : AL g h ml ma mb) (hx0 : isE h x) (hn : mb.length ≤ 530) : Con l yX0_enter wsX0_enter 7 171 1 800 [.ref a, .ref x] g h (fun v h' => ∃ ma' : Nat, v = some (.int (nI mb.length)) ∧ (ma' = ma ∨ h ma' = none) ∧ AL g h' ml ma' (mb ++ [x]) ∧ ∀ q, q ≠ ml → q ≠ ma' → h' q = h q) := by
  obtain ⟨⟨mc, hm0⟩, -, -⟩ := id hM
  refine m_start (cc := cX0_enter) (maxL := 2) (ret := (some .int)) (by decide) rfl (Nat.le_of_ble_eq_true rfl) ?_
  intro p e s m below meth c A ls hx hb hr hml hts hown hlocks hin hw hl
  have hl : lv_has ls 2 [(0, .ref a), (1, .ref x)] := hl
  have hown : s.vm.findClass RX0 = some m.cls := hown
  refine lv_aload_n hx hb dX0_enter_0 rfl (lv_at hl 0 rfl) ?_
  refine w_get (ci := 1) (C := RX0) (T := TX0) (N := 8) (ref := "LayoutDesk$Compound") hx hb hts in_X0_enter_1 hown hw ha rfl 3 (by decide) (hts (.fieldLink RX0 20 "LayoutDesk$Compound" "members" "Ljava/util/ArrayList;") (by decide +kernel)) (fun _ h9 => h9) rfl dX0_enter_1 ?_
  refine lv_aload_n hx hb dX0_enter_4 rfl (lv_at hl 1 rfl) ?_
  refine w_call (va_runV (As := [.ref x]) (rest := []) ⟨hx, hb, hml, hown, hts⟩ (c_AL_add l g h ml ma x mb hM hx0 (by omega) s.heap.size) (cwV 1 hts gX0_enter_Jx4a65c_add_9ea2d rfl rfl rfl (by decide +kernel) ⟨Nat.le_of_ble_eq_true rfl, Nat.le_of_ble_eq_true rfl⟩) ⟨pr_blind, w_recv hw hm0 rfl, pr_of hw⟩ rfl rfl hl.1 rfl (lv_room (Nat.le_of_ble_eq_true rfl)) dX0_enter_5 ⟨Nat.le_of_ble_eq_true rfl, Nat.le_of_ble_eq_true rfl⟩) hw (fun v h' H locs hp hw => ?_)
  obtain ⟨ma', rfl, q1, q2, q3⟩ := hp
  refine W.eq (g2 := F0 m 8 ls [.int 1]) rfl ?_
  have hr' : h ma' = none ∨ ∃ z, h ma' = some (.inl z) := by
    rcases q1 with q1 | q1
    · subst q1; exact AL_arr hM
    · exact Or.inl q1
  have hA' : h' a = some (oCo by_ al ov ml op re up fb) := (q3 a (ne_e ha hm0 (ne_c (by decide))) (hr'.elim (fun z => ne_n ha z) (fun z => ne_e ha z.choose_spec ne_rl))).trans ha
  obtain ⟨mc2, hm2⟩ := q2.1
  refine lv_pop hx hb dX0_enter_8 rfl ?_
  refine lv_aload_n hx hb dX0_enter_9 rfl (lv_at hl 0 rfl) ?_
  refine w_get (ci := 1) (C := RX0) (T := TX0) (N := 8) (ref := "LayoutDesk$Compound") hx hb hts in_X0_enter_1 hown hw hA' rfl 3 (by decide) (hts (.fieldLink RX0 20 "LayoutDesk$Compound" "members" "Ljava/util/ArrayList;") (by decide +kernel)) (fun _ h9 => h9) rfl dX0_enter_10 ?_
  refine w_call (va_runV (As := []) (rest := []) ⟨hx, hb, hml, hown, hts⟩ (c_sizeL l g h' ml ma' (mb ++ [x]) q2 H.size) (cwV 0 hts gX0_enter_Jx4a65c_size_8abf5 rfl rfl rfl (by decide +kernel) ⟨Nat.le_of_ble_eq_true rfl, Nat.le_of_ble_eq_true rfl⟩) ⟨pr_blind, w_recv hw hm2 rfl, pr_of hw⟩ rfl rfl hl.1 rfl (lv_room (Nat.le_of_ble_eq_true rfl)) dX0_enter_13 ⟨Nat.le_of_ble_eq_true rfl, Nat.le_of_ble_eq_true rfl⟩) hw (fun v k' H locs hp hw => ?_)
  obtain ⟨rfl, rfl⟩ := hp
  refine W.eq (g2 := F0 m 16 ls [.int (nI (mb ++ [x]).length)]) rfl ?_
  refine lv_iconst (v := 1) hx hb dX0_enter_16 (by decide) ?_
  refine lv_isub hx hb dX0_enter_17 ?_
  exact r_int hx hb hr hlocks hw dX0_enter_18 (Nat.le_of_ble_eq_true rfl) (Nat.le_of_ble_eq_true rfl) (⟨ma', by rw [List.length_append, List.length_singleton, nI_pred], q1, q2, q3⟩)
theorem in_X0_placeFor_1 : ∀ w ∈ u_ws RX0 TX0 8, w ∈ wsX0_placeFor := by decide +kernel
set_option maxHeartbeats 4000000 in
set_option maxRecDepth 100000 in
theorem c_placeFor (l : Launch) (g : GG) (h : Nat → Option va_E) (a ml r_ s_ : Nat) (by_ al ov op up fb : Int32) (ha : h a = some (oCo by_ al ov ml op (nI r_) up fb)) (hp : r_ ≤ 2000000) (hs : s_ ≤ 4) : Con l yX0_placeFor wsX0_placeFor 1 30 0 0 [.ref a, .int (nI s_)] g h (fun v h' => v = some (.int (if ov = 0 then nI (rup r_ s_) else 0)) ∧ h = h') := by
  refine m_start (cc := cX0_placeFor) (maxL := 2) (ret := (some .int)) (by decide) rfl (Nat.le_of_ble_eq_true rfl) ?_
  intro p e s m below meth c A ls hx hb hr hml hts hown hlocks hin hw hl
  have hl : lv_has ls 2 [(0, .ref a), (1, .int (nI s_))] := hl
  have hown : s.vm.findClass RX0 = some m.cls := hown
  refine lv_aload_n hx hb dX0_placeFor_0 rfl (lv_at hl 0 rfl) ?_
  refine w_get (ci := 1) (C := RX0) (T := TX0) (N := 8) (ref := "LayoutDesk$Compound") hx hb hts in_X0_placeFor_1 hown hw ha rfl 2 (by decide) (hts (.fieldLink RX0 9 "LayoutDesk$Compound" "overlaid" "Z") (by decide +kernel)) (fun _ h9 => h9) rfl dX0_placeFor_1 ?_
  refine lv_if_eq (tgt := 11) hx hb dX0_placeFor_4 (by decide) (fun c4 => ?_) (fun c4 => ?_)
  · refine lv_aload_n hx hb dX0_placeFor_11 rfl (lv_at hl 0 rfl) ?_
    refine w_get (ci := 1) (C := RX0) (T := TX0) (N := 8) (ref := "LayoutDesk$Compound") hx hb hts in_X0_placeFor_1 hown hw ha rfl 5 (by decide) (hts (.fieldLink RX0 35 "LayoutDesk$Compound" "reach" "I") (by decide +kernel)) (fun _ h9 => h9) rfl dX0_placeFor_12 ?_
    refine lv_iload_n hx hb dX0_placeFor_15 rfl (lv_at hl 1 rfl) ?_
    refine w_call (va_runSN (As := [.int (nI r_), .int (nI s_)]) (rest := []) ⟨hx, hb, hml, hown, hts⟩ (c_roundUp l g h r_ s_ hp hs s.heap.size) ⟨va_cnB 2 hts gX0_placeFor_X4_roundUp_n39 rfl rfl rfl (w_nwN hw (w := .methodLinkNest "LayoutDesk$Compound" 39 yX4_roundUp "LayoutDesk") (by decide +kernel)) (hts (.initialized RX4) (by decide +kernel)) (by decide +kernel) ⟨Nat.le_of_ble_eq_true rfl, Nat.le_of_ble_eq_true rfl⟩, hts (.static yX4_roundUp) (by decide +kernel), trivial⟩ ⟨pr_blind, pr_of hw⟩ rfl rfl hl.1 rfl (lv_room (Nat.le_of_ble_eq_true rfl)) dX0_placeFor_16 ⟨Nat.le_of_ble_eq_true rfl, Nat.le_of_ble_eq_true rfl⟩) hw (fun v h' H locs hp hw => ?_)
    obtain ⟨rfl, rfl⟩ := hp
    refine W.eq (g2 := F0 m 19 ls [.int (nI (rup r_ s_))]) rfl ?_
    exact r_int hx hb hr hlocks hw dX0_placeFor_19 (Nat.le_of_ble_eq_true rfl) (Nat.le_of_ble_eq_true rfl) (⟨by rw [if_pos c4], rfl⟩)
  · refine lv_iconst (v := 0) hx hb dX0_placeFor_7 (by decide) ?_
    refine lv_goto (tgt := 19) hx hb dX0_placeFor_8 (by decide) ?_
    exact r_int hx hb hr hlocks hw dX0_placeFor_19 (Nat.le_of_ble_eq_true rfl) (Nat.le_of_ble_eq_true rfl) (⟨by rw [if_neg c4], rfl⟩)
theorem in_X0_occupy_1 : ∀ w ∈ u_ws RX0 TX0 8, w ∈ wsX0_occupy := by decide +kernel
set_option maxHeartbeats 4000000 in
set_option maxRecDepth 100000 in
theorem c_occupy (l : Launch) (g : GG) (h : Nat → Option va_E) (a ml al re p_ n_ s_ : Nat) (by_ ov op up fb : Int32) (ha : h a = some (oCo by_ (nI al) ov ml op (nI re) up fb)) (h1 : re ≤ 2000000) (h2 : p_ + n_ ≤ 2000000) (h3 : al ≤ 4) (h4 : s_ ≤ 4) : Con l yX0_occupy wsX0_occupy 1 30 0 0 [.ref a, .int (nI p_), .int (nI n_), .int (nI s_)] g h (fun v h' => v = none ∧ h' = wu h a (oCo by_ (nI (max al s_)) ov ml op (nI (max re (p_ + n_))) up fb)) := by
  refine m_start (cc := cX0_occupy) (maxL := 4) (ret := none) (by decide) rfl (Nat.le_of_ble_eq_true rfl) ?_
  intro p e s m below meth c A ls hx hb hr hml hts hown hlocks hin hw hl
  have hl : lv_has ls 4 [(0, .ref a), (1, .int (nI p_)), (2, .int (nI n_)), (3, .int (nI s_))] := hl
  have hown : s.vm.findClass RX0 = some m.cls := hown
  refine lv_aload_n hx hb dX0_occupy_0 rfl (lv_at hl 0 rfl) ?_
  refine lv_aload_n hx hb dX0_occupy_1 rfl (lv_at hl 0 rfl) ?_
  refine w_get (ci := 1) (C := RX0) (T := TX0) (N := 8) (ref := "LayoutDesk$Compound") hx hb hts in_X0_occupy_1 hown hw ha rfl 5 (by decide) (hts (.fieldLink RX0 35 "LayoutDesk$Compound" "reach" "I") (by decide +kernel)) (fun _ h9 => h9) rfl dX0_occupy_2 ?_
  refine lv_iload_n hx hb dX0_occupy_5 rfl (lv_at hl 1 rfl) ?_
  refine lv_iload_n hx hb dX0_occupy_6 rfl (lv_at hl 2 rfl) ?_
  refine lv_iadd hx hb dX0_occupy_7 ?_
  refine va_mmax hx hb (hml.trans hl.1.symm) hown (hts (.methodLink RX0 43 Lib.Math.max.name) (by decide +kernel)) (hts (.static Lib.Math.max.name) (by decide +kernel)) (hts (.initialized "java/lang/Math") (by decide +kernel)) (hts _ (List.mem_of_getElem? (i := 5) rfl)) (Nat.le_of_ble_eq_true rfl) (Nat.le_of_ble_eq_true rfl) (Nat.le_of_ble_eq_true rfl) (Nat.le_of_ble_eq_true rfl) dX0_occupy_8 ?_
  refine lv_topi (fun x8 ex8 => ?_)
  have ex8 : x8 = nI (max re (p_ + n_)) := ex8.trans (by rw [nI_add]; exact mx_nI (by omega) (by omega))
  subst ex8
  refine w_put (ci := 1) (C := RX0) (T := TX0) (N := 8) (ref := "LayoutDesk$Compound") (ty := .int) (fs' := [.int by_, .int (nI al), .int ov, .ref ml, .int op, .int (nI (max re (p_ + n_))), .int up, .int fb]) hx hb hts in_X0_occupy_1 tyX0 tyX0_ok nmX0 hown hw ha rfl 5 (by decide) (hts (.fieldLink RX0 35 "LayoutDesk$Compound" "reach" "I") (by decide +kernel)) (fun _ h9 => h9) rfl (by decide +kernel) rfl rfl (Nat.le_of_ble_eq_true rfl) rfl dX0_occupy_11 (fun H locs hw => ?_)
  refine lv_aload_n hx hb dX0_occupy_14 rfl (lv_at hl 0 rfl) ?_
  refine lv_aload_n hx hb dX0_occupy_15 rfl (lv_at hl 0 rfl) ?_
  refine w_get (ci := 1) (C := RX0) (T := TX0) (N := 8) (ref := "LayoutDesk$Compound") hx hb hts in_X0_occupy_1 hown hw (wu_s _ _ _) rfl 1 (by decide) (hts (.fieldLink RX0 48 "LayoutDesk$Compound" "alignment" "I") (by decide +kernel)) (u_same (hts (.sameField "LayoutDesk$Compound" "LayoutDesk$Type" "alignment" "I") (by decide +kernel))) rfl dX0_occupy_16 ?_
  refine lv_iload_n hx hb dX0_occupy_19 rfl (lv_at hl 3 rfl) ?_
  refine va_mmax hx hb (hml.trans hl.1.symm) hown (hts (.methodLink RX0 43 Lib.Math.max.name) (by decide +kernel)) (hts (.static Lib.Math.max.name) (by decide +kernel)) (hts (.initialized "java/lang/Math") (by decide +kernel)) (hts _ (List.mem_of_getElem? (i := 5) rfl)) (Nat.le_of_ble_eq_true rfl) (Nat.le_of_ble_eq_true rfl) (Nat.le_of_ble_eq_true rfl) (Nat.le_of_ble_eq_true rfl) dX0_occupy_20 ?_
  refine lv_topi (fun x20 ex20 => ?_)
  have ex20 : x20 = nI (max al s_) := ex20.trans (mx_nI (by omega) (by omega))
  subst ex20
  refine w_put (ci := 1) (C := RX0) (T := TX0) (N := 8) (ref := "LayoutDesk$Compound") (ty := .int) (fs' := [.int by_, .int (nI (max al s_)), .int ov, .ref ml, .int op, .int (nI (max re (p_ + n_))), .int up, .int fb]) hx hb hts in_X0_occupy_1 tyX0 tyX0_ok nmX0 hown hw (wu_s _ _ _) rfl 1 (by decide) (hts (.fieldLink RX0 48 "LayoutDesk$Compound" "alignment" "I") (by decide +kernel)) (u_same (hts (.sameField "LayoutDesk$Compound" "LayoutDesk$Type" "alignment" "I") (by decide +kernel))) rfl (by decide +kernel) rfl rfl (Nat.le_of_ble_eq_true rfl) rfl dX0_occupy_23 (fun H locs hw => ?_)
  exact r_void hx hb hr hlocks hw dX0_occupy_26 (Nat.le_of_ble_eq_true rfl) (Nat.le_of_ble_eq_true rfl) (⟨rfl, by rw [wu_uu]⟩)
theorem in_X0_endUnit_1 : ∀ w ∈ u_ws RX0 TX0 8, w ∈ wsX0_endUnit := by decide +kernel
set_option maxHeartbeats 4000000 in
set_option maxRecDepth 100000 in
theorem c_endUnit (l : Launch) (g : GG) (h : Nat → Option va_E) (a ml : Nat) (by_ al ov op re up fb : Int32) (ha : h a = some (oCo by_ al ov ml op re up fb)) : Con l yX0_endUnit wsX0_endUnit 0 0 0 0 [.ref a] g h (fun v h' => v = none ∧ h' = wu h a (oCo by_ al ov ml op re up 0)) := by
  refine m_start (cc := cX0_endUnit) (maxL := 1) (ret := none) (by decide) rfl (Nat.le_of_ble_eq_true rfl) ?_
  intro p e s m below meth c A ls hx hb hr hml hts hown hlocks hin hw hl
  have hl : lv_has ls 1 [(0, .ref a)] := hl
  have hown : s.vm.findClass RX0 = some m.cls := hown
  refine lv_aload_n hx hb dX0_endUnit_0 rfl (lv_at hl 0 rfl) ?_
  refine lv_iconst (v := 0) hx hb dX0_endUnit_1 (by decide) ?_
  refine w_put (ci := 1) (C := RX0) (T := TX0) (N := 8) (ref := "LayoutDesk$Compound") (ty := .int) (fs' := [.int by_, .int al, .int ov, .ref ml, .int op, .int re, .int up, .int 0]) hx hb hts in_X0_endUnit_1 tyX0 tyX0_ok nmX0 hown hw ha rfl 7 (by decide) (hts (.fieldLink RX0 51 "LayoutDesk$Compound" "freeBits" "I") (by decide +kernel)) (fun _ h9 => h9) rfl (by decide +kernel) rfl rfl (Nat.le_of_ble_eq_true rfl) rfl dX0_endUnit_2 (fun H locs hw => ?_)
  exact r_void hx hb hr hlocks hw dX0_endUnit_5 (Nat.le_of_ble_eq_true rfl) (Nat.le_of_ble_eq_true rfl) (⟨rfl, rfl⟩)
theorem in_X0_takeBits_1 : ∀ w ∈ u_ws RX0 TX0 8, w ∈ wsX0_takeBits := by decide +kernel
set_option maxHeartbeats 4000000 in
set_option maxRecDepth 100000 in
theorem c_takeBits (l : Launch) (g : GG) (h : Nat → Option va_E) (a ml : Nat) (by_ al ov op re up fb : Int32) (ha : h a = some (oCo by_ al ov ml op re up fb)) (w_ : Int32) : Con l yX0_takeBits wsX0_takeBits 0 0 0 0 [.ref a, .int w_] g h (fun v h' => v = some (.int (32 - fb)) ∧ h' = wu h a (oCo by_ al ov ml op re up (if ov = 0 then fb - w_ else 0))) := by
  refine m_start (cc := cX0_takeBits) (maxL := 3) (ret := (some .int)) (by decide) rfl (Nat.le_of_ble_eq_true rfl) ?_
  intro p e s m below meth c A ls hx hb hr hml hts hown hlocks hin hw hl
  have hl : lv_has ls 3 [(0, .ref a), (1, .int w_)] := hl
  have hown : s.vm.findClass RX0 = some m.cls := hown
  refine lv_bipush (v := 32) hx hb dX0_takeBits_0 (by decide) ?_
  refine lv_aload_n hx hb dX0_takeBits_2 rfl (lv_at hl 0 rfl) ?_
  refine w_get (ci := 1) (C := RX0) (T := TX0) (N := 8) (ref := "LayoutDesk$Compound") hx hb hts in_X0_takeBits_1 hown hw ha rfl 7 (by decide) (hts (.fieldLink RX0 51 "LayoutDesk$Compound" "freeBits" "I") (by decide +kernel)) (fun _ h9 => h9) rfl dX0_takeBits_3 ?_
  refine lv_isub hx hb dX0_takeBits_6 ?_
  refine lv_istore_n (lv' := [(2, .int (32 - fb)), (0, .ref a), (1, .int w_)]) hx hb dX0_takeBits_7 rfl hl (by decide) rfl (fun ls hl => ?_)
  refine lv_aload_n hx hb dX0_takeBits_8 rfl (lv_at hl 1 rfl) ?_
  refine lv_aload_n hx hb dX0_takeBits_9 rfl (lv_at hl 1 rfl) ?_
  refine w_get (ci := 1) (C := RX0) (T := TX0) (N := 8) (ref := "LayoutDesk$Compound") hx hb hts in_X0_takeBits_1 hown hw ha rfl 2 (by decide) (hts (.fieldLink RX0 9 "LayoutDesk$Compound" "overlaid" "Z") (by decide +kernel)) (fun _ h9 => h9) rfl dX0_takeBits_10 ?_
  refine lv_if_eq (tgt := 20) hx hb dX0_takeBits_13 (by decide) (fun c13 => ?_) (fun c13 => ?_)
  · refine lv_aload_n hx hb dX0_takeBits_20 rfl (lv_at hl 1 rfl) ?_
    refine w_get (ci := 1) (C := RX0) (T := TX0) (N := 8) (ref := "LayoutDesk$Compound") hx hb hts in_X0_takeBits_1 hown hw ha rfl 7 (by decide) (hts (.fieldLink RX0 51 "LayoutDesk$Compound" "freeBits" "I") (by decide +kernel)) (fun _ h9 => h9) rfl dX0_takeBits_21 ?_
    refine lv_iload_n hx hb dX0_takeBits_24 rfl (lv_at hl 2 rfl) ?_
    refine lv_isub hx hb dX0_takeBits_25 ?_
    refine w_put (ci := 1) (C := RX0) (T := TX0) (N := 8) (ref := "LayoutDesk$Compound") (ty := .int) (fs' := [.int by_, .int al, .int ov, .ref ml, .int op, .int re, .int up, .int (fb - w_)]) hx hb hts in_X0_takeBits_1 tyX0 tyX0_ok nmX0 hown hw ha rfl 7 (by decide) (hts (.fieldLink RX0 51 "LayoutDesk$Compound" "freeBits" "I") (by decide +kernel)) (fun _ h9 => h9) rfl (by decide +kernel) rfl rfl (Nat.le_of_ble_eq_true rfl) rfl dX0_takeBits_26 (fun H locs hw => ?_)
    refine lv_iload_n hx hb dX0_takeBits_29 rfl (lv_at hl 0 rfl) ?_
    exact r_int hx hb hr hlocks hw dX0_takeBits_30 (Nat.le_of_ble_eq_true rfl) (Nat.le_of_ble_eq_true rfl) (⟨rfl, by rw [if_pos c13]⟩)
  · refine lv_iconst (v := 0) hx hb dX0_takeBits_16 (by decide) ?_
    refine lv_goto (tgt := 26) hx hb dX0_takeBits_17 (by decide) ?_
    refine w_put (ci := 1) (C := RX0) (T := TX0) (N := 8) (ref := "LayoutDesk$Compound") (ty := .int) (fs' := [.int by_, .int al, .int ov, .ref ml, .int op, .int re, .int up, .int 0]) hx hb hts in_X0_takeBits_1 tyX0 tyX0_ok nmX0 hown hw ha rfl 7 (by decide) (hts (.fieldLink RX0 51 "LayoutDesk$Compound" "freeBits" "I") (by decide +kernel)) (fun _ h9 => h9) rfl (by decide +kernel) rfl rfl (Nat.le_of_ble_eq_true rfl) rfl dX0_takeBits_26 (fun H locs hw => ?_)
    refine lv_iload_n hx hb dX0_takeBits_29 rfl (lv_at hl 0 rfl) ?_
    exact r_int hx hb hr hlocks hw dX0_takeBits_30 (Nat.le_of_ble_eq_true rfl) (Nat.le_of_ble_eq_true rfl) (⟨rfl, by rw [if_neg c13]⟩)
theorem in_X0_beginUnit_1 : ∀ w ∈ u_ws RX0 TX0 8, w ∈ wsX0_beginUnit := by decide +kernel
set_option maxHeartbeats 4000000 in
set_option maxRecDepth 100000 in
theorem c_beginUnit (l : Launch) (g : GG) (h : Nat → Option va_E) (a ml al re p_ : Nat) (by_ ov op up fb : Int32) (ha : h a = some (oCo by_ (nI al) ov ml op (nI re) up fb)) (h1 : re ≤ 2000000) (h2 : p_ ≤ 1000000) (h3 : al ≤ 4) (hp_ : (if ov = 0 then nI (rup re 4) else 0) = nI p_) : Con l yX0_beginUnit wsX0_beginUnit 2 70 0 0 [.ref a] g h (fun v h' => (524288 < p_ + 4 ∧ v = some (.int 0) ∧ h = h') ∨ (p_ + 4 ≤ 524288 ∧ v = some (.int 1) ∧ h' = wu h a (oCo by_ (nI (max al 4)) ov ml op (nI (max re (p_ + 4))) (nI p_) 32))) := by
  refine m_start (cc := cX0_beginUnit) (maxL := 2) (ret := (some .boolean)) (by decide) rfl (Nat.le_of_ble_eq_true rfl) ?_
  intro p e s m below meth c A ls hx hb hr hml hts hown hlocks hin hw hl
  have hl : lv_has ls 2 [(0, .ref a)] := hl
  have hown : s.vm.findClass RX0 = some m.cls := hown
  refine lv_aload_n hx hb dX0_beginUnit_0 rfl (lv_at hl 0 rfl) ?_
  refine lv_iconst (v := 4) hx hb dX0_beginUnit_1 (by decide) ?_
  refine w_call (va_runV (As := [.int 4]) (rest := []) ⟨hx, hb, hml, hown, hts⟩ (c_placeFor l g h a ml re 4 by_ (nI al) ov op up fb ha h1 (by decide) s.heap.size) (cwV 1 hts gX0_beginUnit_X0_placeFor rfl rfl rfl (by decide +kernel) ⟨Nat.le_of_ble_eq_true rfl, Nat.le_of_ble_eq_true rfl⟩) ⟨pr_blind, w_recv hw ha rfl, pr_of hw⟩ rfl rfl hl.1 rfl (lv_room (Nat.le_of_ble_eq_true rfl)) dX0_beginUnit_2 ⟨Nat.le_of_ble_eq_true rfl, Nat.le_of_ble_eq_true rfl⟩) hw (fun v h' H locs hp hw => ?_)
  obtain ⟨rfl, rfl⟩ := hp
  refine W.eq (g2 := F0 m 5 ls [.int (if ov = 0 then nI (rup re 4) else 0)]) rfl ?_
  rw [hp_]
  refine lv_istore_n (lv' := [(1, .int (nI p_)), (0, .ref a)]) hx hb dX0_beginUnit_5 rfl hl (by decide) rfl (fun ls hl => ?_)
  refine lv_iload_n hx hb dX0_beginUnit_6 rfl (lv_at hl 0 rfl) ?_
  refine lv_iconst (v := 4) hx hb dX0_beginUnit_7 (by decide) ?_
  refine lv_iadd hx hb dX0_beginUnit_8 ?_
  have x8_eq : nI p_ + 4 = nI (p_ + 4) := nI_add p_ 4
  refine lv_ldc (v := 524288) hx hb hown (hts (.constant RX0 58 (524288)) (by decide +kernel)) dX0_beginUnit_9 ?_
  refine lv_icmp_le (tgt := 16) hx hb dX0_beginUnit_11 (by decide) (fun c11 => ?_) (fun c11 => ?_)
  · refine lv_aload_n hx hb dX0_beginUnit_16 rfl (lv_at hl 1 rfl) ?_
    refine lv_iload_n hx hb dX0_beginUnit_17 rfl (lv_at hl 0 rfl) ?_
    refine lv_iconst (v := 4) hx hb dX0_beginUnit_18 (by decide) ?_
    refine lv_iconst (v := 4) hx hb dX0_beginUnit_19 (by decide) ?_
    refine w_call (va_runV (As := [.int (nI p_), .int 4, .int 4]) (rest := []) ⟨hx, hb, hml, hown, hts⟩ (c_occupy l g h a ml al re p_ 4 4 by_ ov op up fb ha h1 (by omega) h3 (by decide) H.size) (cwV 3 hts gX0_beginUnit_X0_occupy rfl rfl rfl (by decide +kernel) ⟨Nat.le_of_ble_eq_true rfl, Nat.le_of_ble_eq_true rfl⟩) ⟨pr_blind, w_recv hw ha rfl, pr_of hw⟩ rfl rfl hl.1 rfl (lv_room (Nat.le_of_ble_eq_true rfl)) dX0_beginUnit_20 ⟨Nat.le_of_ble_eq_true rfl, Nat.le_of_ble_eq_true rfl⟩) hw (fun v h' H locs hp hw => ?_)
    obtain ⟨rfl, rfl⟩ := hp
    refine W.eq (g2 := F0 m 23 ls []) rfl ?_
    refine lv_aload_n hx hb dX0_beginUnit_23 rfl (lv_at hl 1 rfl) ?_
    refine lv_iload_n hx hb dX0_beginUnit_24 rfl (lv_at hl 0 rfl) ?_
    refine w_put (ci := 1) (C := RX0) (T := TX0) (N := 8) (ref := "LayoutDesk$Compound") (ty := .int) (fs' := [.int by_, .int (nI (max al 4)), .int ov, .ref ml, .int op, .int (nI (max re (p_ + 4))), .int (nI p_), .int fb]) hx hb hts in_X0_beginUnit_1 tyX0 tyX0_ok nmX0 hown hw (wu_s _ _ _) rfl 6 (by decide) (hts (.fieldLink RX0 63 "LayoutDesk$Compound" "unitPlace" "I") (by decide +kernel)) (fun _ h9 => h9) rfl (by decide +kernel) rfl rfl (Nat.le_of_ble_eq_true rfl) rfl dX0_beginUnit_25 (fun H locs hw => ?_)
    refine lv_aload_n hx hb dX0_beginUnit_28 rfl (lv_at hl 1 rfl) ?_
    refine lv_bipush (v := 32) hx hb dX0_beginUnit_29 (by decide) ?_
    refine w_put (ci := 1) (C := RX0) (T := TX0) (N := 8) (ref := "LayoutDesk$Compound") (ty := .int) (fs' := [.int by_, .int (nI (max al 4)), .int ov, .ref ml, .int op, .int (nI (max re (p_ + 4))), .int (nI p_), .int 32]) hx hb hts in_X0_beginUnit_1 tyX0 tyX0_ok nmX0 hown hw (wu_s _ _ _) rfl 7 (by decide) (hts (.fieldLink RX0 51 "LayoutDesk$Compound" "freeBits" "I") (by decide +kernel)) (fun _ h9 => h9) rfl (by decide +kernel) rfl rfl (Nat.le_of_ble_eq_true rfl) rfl dX0_beginUnit_31 (fun H locs hw => ?_)
    refine lv_iconst (v := 1) hx hb dX0_beginUnit_34 (by decide) ?_
    exact r_bool hx hb hr hlocks hw rfl dX0_beginUnit_35 (Nat.le_of_ble_eq_true rfl) (Nat.le_of_ble_eq_true rfl) (Or.inr ⟨(nI_leI (a := p_ + 4) (b := 524288) (by omega) (by omega)).mp (by rw [← x8_eq]; exact c11), rfl, by rw [wu_uu, wu_uu]⟩)
  · refine lv_iconst (v := 0) hx hb dX0_beginUnit_14 (by decide) ?_
    exact r_bool hx hb hr hlocks hw rfl dX0_beginUnit_15 (Nat.le_of_ble_eq_true rfl) (Nat.le_of_ble_eq_true rfl) (Or.inl ⟨Nat.lt_of_not_le (fun z => c11 (by rw [x8_eq]; exact nI_le (b := 524288) z (by decide))), rfl, rfl⟩)
end
section
/-! the desk: its list of types, the lookups -/
theorem in_X4_isFull_4 : ∀ w ∈ u_ws RX4 TX4 1, w ∈ wsX4_isFull := by decide +kernel
set_option maxHeartbeats 4000000 in
set_option maxRecDepth 100000 in
theorem c_isFull (l : Launch) (g : GG) (h : Nat → Option va_E) (x kl ka : Nat) (ty : List Nat) (hd : h x = some (oDk kl)) (hL : AL g h kl ka ty) : Con l yX4_isFull wsX4_isFull 1 30 0 0 [.ref x] g h (fun v h' => v = some (.int (if 300 ≤ ty.length then 1 else 0)) ∧ h = h') := by
  have hn9 := AL_len hL
  obtain ⟨⟨mc, hk0⟩, -, -⟩ := id hL
  refine m_start (cc := cX4_isFull) (maxL := 1) (ret := (some .boolean)) (by decide) rfl (Nat.le_of_ble_eq_true rfl) ?_
  intro p e s m below meth c A ls hx hb hr hml hts hown hlocks hin hw hl
  have hl : lv_has ls 1 [(0, .ref x)] := hl
  have hown : s.vm.findClass RX4 = some m.cls := hown
  refine lv_aload_n hx hb dX4_isFull_0 rfl (lv_at hl 0 rfl) ?_
  refine w_get (ci := 4) (C := RX4) (T := TX4) (N := 1) (ref := "LayoutDesk") hx hb hts in_X4_isFull_4 hown hw hd rfl 0 (by decide) (hts (.fieldLink RX4 10 "LayoutDesk" "known" "Ljava/util/ArrayList;") (by decide +kernel)) (fun _ h9 => h9) rfl dX4_isFull_1 ?_
  refine w_call (va_runV (As := []) (rest := []) ⟨hx, hb, hml, hown, hts⟩ (c_sizeL l g h kl ka ty hL s.heap.size) (cwV 0 hts gX4_isFull_Jx4a65c_size_8abf5 rfl rfl rfl (by decide +kernel) ⟨Nat.le_of_ble_eq_true rfl, Nat.le_of_ble_eq_true rfl⟩) ⟨pr_blind, w_recv hw hk0 rfl, pr_of hw⟩ rfl rfl hl.1 rfl (lv_room (Nat.le_of_ble_eq_true rfl)) dX4_isFull_4 ⟨Nat.le_of_ble_eq_true rfl, Nat.le_of_ble_eq_true rfl⟩) hw (fun v h' H locs hp hw => ?_)
  obtain ⟨rfl, rfl⟩ := hp
  refine W.eq (g2 := F0 m 7 ls [.int (nI ty.length)]) rfl ?_
  refine lv_sipush (v := 300) hx hb dX4_isFull_7 (by decide) ?_
  refine lv_icmp_lt (tgt := 17) hx hb dX4_isFull_10 (by decide) (fun c10 => ?_) (fun c10 => ?_)
  · refine lv_iconst (v := 0) hx hb dX4_isFull_17 (by decide) ?_
    exact r_bool hx hb hr hlocks hw rfl dX4_isFull_18 (Nat.le_of_ble_eq_true rfl) (Nat.le_of_ble_eq_true rfl) (⟨by rw [if_neg (fun z => (nI_nlt (b := 300) z (by omega)) c10)], rfl⟩)
  · refine lv_iconst (v := 1) hx hb dX4_isFull_13 (by decide) ?_
    refine lv_goto (tgt := 18) hx hb dX4_isFull_14 (by decide) ?_
    exact r_bool hx hb hr hlocks hw rfl dX4_isFull_18 (Nat.le_of_ble_eq_true rfl) (Nat.le_of_ble_eq_true rfl) (⟨by rw [if_pos (Nat.le_of_not_lt (fun z => c10 (nI_lt (b := 300) z (by decide))))], rfl⟩)
theorem in_X4_enter_4 : ∀ w ∈ u_ws RX4 TX4 1, w ∈ wsX4_enter := by decide +kernel
set_option maxHeartbeats 4000000 in
set_option maxRecDepth 100000 in
theorem c_enter (l : Launch) (g : GG) (h : Nat → Option va_E) (x kl ka : Nat) (ty : List Nat) (hd : h x = some (oDk kl)) (hL : AL g h kl ka ty) (y : Nat) (hy0 : isE h y) (hn : ty.length ≤ 530) : Con l yX4_enter wsX4_enter 7 171 1 800 [.ref x, .ref y] g h (fun v h' => ∃ ka' : Nat, v = some (.int (nI ty.length)) ∧ (ka' = ka ∨ h ka' = none) ∧ AL g h' kl ka' (ty ++ [y]) ∧ ∀ q, q ≠ kl → q ≠ ka' → h' q = h q) := by
  obtain ⟨⟨mc, hk0⟩, -, -⟩ := id hL
  refine m_start (cc := cX4_enter) (maxL := 2) (ret := (some .int)) (by decide) rfl (Nat.le_of_ble_eq_true rfl) ?_
  intro p e s m below meth c A ls hx hb hr hml hts hown hlocks hin hw hl
  have hl : lv_has ls 2 [(0, .ref x), (1, .ref y)] := hl
  have hown : s.vm.findClass RX4 = some m.cls := hown
  refine lv_aload_n hx hb dX4_enter_0 rfl (lv_at hl 0 rfl) ?_
  refine w_get (ci := 4) (C := RX4) (T := TX4) (N := 1) (ref := "LayoutDesk") hx hb hts in_X4_enter_4 hown hw hd rfl 0 (by decide) (hts (.fieldLink RX4 10 "LayoutDesk" "known" "Ljava/util/ArrayList;") (by decide +kernel)) (fun _ h9 => h9) rfl dX4_enter_1 ?_
  refine lv_aload_n hx hb dX4_enter_4 rfl (lv_at hl 1 rfl) ?_
  refine w_call (va_runV (As := [.ref y]) (rest := []) ⟨hx, hb, hml, hown, hts⟩ (c_AL_add l g h kl ka y ty hL hy0 hn s.heap.size) (cwV 1 hts gX4_enter_Jx4a65c_add_9ea2d rfl rfl rfl (by decide +kernel) ⟨Nat.le_of_ble_eq_true rfl, Nat.le_of_ble_eq_true rfl⟩) ⟨pr_blind, w_recv hw hk0 rfl, pr_of hw⟩ rfl rfl hl.1 rfl (lv_room (Nat.le_of_ble_eq_true rfl)) dX4_enter_5 ⟨Nat.le_of_ble_eq_true rfl, Nat.le_of_ble_eq_true rfl⟩) hw (fun v h' H locs hp hw => ?_)
  obtain ⟨ka', rfl, q1, q2, q3⟩ := hp
  refine W.eq (g2 := F0 m 8 ls [.int 1]) rfl ?_
  have hr' : h ka' = none ∨ ∃ z, h ka' = some (.inl z) := by
    rcases q1 with q1 | q1
    · subst q1; exact AL_arr hL
    · exact Or.inl q1
  have hD' : h' x = some (oDk kl) := (q3 x (ne_e hd hk0 (ne_c (by decide))) (hr'.elim (fun z => ne_n hd z) (fun z => ne_e hd z.choose_spec ne_rl))).trans hd
  obtain ⟨mc2, hk2⟩ := q2.1
  refine lv_pop hx hb dX4_enter_8 rfl ?_
  refine lv_aload_n hx hb dX4_enter_9 rfl (lv_at hl 0 rfl) ?_
  refine w_get (ci := 4) (C := RX4) (T := TX4) (N := 1) (ref := "LayoutDesk") hx hb hts in_X4_enter_4 hown hw hD' rfl 0 (by decide) (hts (.fieldLink RX4 10 "LayoutDesk" "known" "Ljava/util/ArrayList;") (by decide +kernel)) (fun _ h9 => h9) rfl dX4_enter_10 ?_
  refine w_call (va_runV (As := []) (rest := []) ⟨hx, hb, hml, hown, hts⟩ (c_sizeL l g h' kl ka' (ty ++ [y]) q2 H.size) (cwV 0 hts gX4_enter_Jx4a65c_size_8abf5 rfl rfl rfl (by decide +kernel) ⟨Nat.le_of_ble_eq_true rfl, Nat.le_of_ble_eq_true rfl⟩) ⟨pr_blind, w_recv hw hk2 rfl, pr_of hw⟩ rfl rfl hl.1 rfl (lv_room (Nat.le_of_ble_eq_true rfl)) dX4_enter_13 ⟨Nat.le_of_ble_eq_true rfl, Nat.le_of_ble_eq_true rfl⟩) hw (fun v k' H locs hp hw => ?_)
  obtain ⟨rfl, rfl⟩ := hp
  refine W.eq (g2 := F0 m 16 ls [.int (nI (ty ++ [y]).length)]) rfl ?_
  refine lv_iconst (v := 1) hx hb dX4_enter_16 (by decide) ?_
  refine lv_isub hx hb dX4_enter_17 ?_
  exact r_int hx hb hr hlocks hw dX4_enter_18 (Nat.le_of_ble_eq_true rfl) (Nat.le_of_ble_eq_true rfl) (⟨ka', by rw [List.length_append, List.length_singleton, nI_pred], q1, q2, q3⟩)
theorem in_X4_typeAt_4 : ∀ w ∈ u_ws RX4 TX4 1, w ∈ wsX4_typeAt := by decide +kernel
set_option maxHeartbeats 4000000 in
set_option maxRecDepth 100000 in
theorem c_typeAt_N (l : Launch) (g : GG) (h : Nat → Option va_E) (x kl ka : Nat) (ty : List Nat) (hd : h x = some (oDk kl)) (hL : AL g h kl ka ty) (t : Int32) (ht : lk ty t = none) : Con l yX4_typeAt wsX4_typeAt 3 70 0 0 [.ref x, .int t] g h (fun v h' => v = some .null ∧ h = h') := by
  have hn9 := AL_len hL
  obtain ⟨⟨mc, hk0⟩, -, -⟩ := id hL
  refine m_start (cc := cX4_typeAt) (maxL := 2) (ret := (some (.object "LayoutDesk$Type"))) (by decide) rfl (Nat.le_of_ble_eq_true rfl) ?_
  intro p e s m below meth c A ls hx hb hr hml hts hown hlocks hin hw hl
  have hl : lv_has ls 2 [(0, .ref x), (1, .int t)] := hl
  have hown : s.vm.findClass RX4 = some m.cls := hown
  refine lv_iload_n hx hb dX4_typeAt_0 rfl (lv_at hl 1 rfl) ?_
  refine lv_if_lt (tgt := 15) hx hb dX4_typeAt_1 (by decide) (fun c1 => ?_) (fun c1 => ?_)
  · refine lv_null hx hb dX4_typeAt_15 ?_
    refine lv_goto (tgt := 30) hx hb dX4_typeAt_16 (by decide) ?_
    exact r_ref hx hb hr (Or.inl ⟨_, rfl⟩) (Or.inl rfl) hlocks hw dX4_typeAt_30 (Nat.le_of_ble_eq_true rfl) (Nat.le_of_ble_eq_true rfl) (⟨rfl, rfl⟩)
  · refine lv_iload_n hx hb dX4_typeAt_4 rfl (lv_at hl 1 rfl) ?_
    refine lv_aload_n hx hb dX4_typeAt_5 rfl (lv_at hl 0 rfl) ?_
    refine w_get (ci := 4) (C := RX4) (T := TX4) (N := 1) (ref := "LayoutDesk") hx hb hts in_X4_typeAt_4 hown hw hd rfl 0 (by decide) (hts (.fieldLink RX4 10 "LayoutDesk" "known" "Ljava/util/ArrayList;") (by decide +kernel)) (fun _ h9 => h9) rfl dX4_typeAt_6 ?_
    refine w_call (va_runV (As := []) (rest := [.int t]) ⟨hx, hb, hml, hown, hts⟩ (c_sizeL l g h kl ka ty hL s.heap.size) (cwV 0 hts gX4_typeAt_Jx4a65c_size_8abf5 rfl rfl rfl (by decide +kernel) ⟨Nat.le_of_ble_eq_true rfl, Nat.le_of_ble_eq_true rfl⟩) ⟨pr_blind, w_recv hw hk0 rfl, pr_of hw⟩ rfl rfl hl.1 rfl (lv_room (Nat.le_of_ble_eq_true rfl)) dX4_typeAt_9 ⟨Nat.le_of_ble_eq_true rfl, Nat.le_of_ble_eq_true rfl⟩) hw (fun v h' H locs hp hw => ?_)
    obtain ⟨rfl, rfl⟩ := hp
    refine W.eq (g2 := F0 m 12 ls [.int (nI ty.length), .int t]) rfl ?_
    refine lv_icmp_lt (tgt := 19) hx hb dX4_typeAt_12 (by decide) (fun c12 => ?_) (fun c12 => ?_)
    · obtain ⟨a9, ha9⟩ := lk_some c1 c12 (by omega)
      rw [ht] at ha9
      cases ha9
    · refine lv_null hx hb dX4_typeAt_15 ?_
      refine lv_goto (tgt := 30) hx hb dX4_typeAt_16 (by decide) ?_
      exact r_ref hx hb hr (Or.inl ⟨_, rfl⟩) (Or.inl rfl) hlocks hw dX4_typeAt_30 (Nat.le_of_ble_eq_true rfl) (Nat.le_of_ble_eq_true rfl) (⟨rfl, rfl⟩)
set_option maxHeartbeats 4000000 in
set_option maxRecDepth 100000 in
theorem c_typeAt_S (l : Launch) (g : GG) (h : Nat → Option va_E) (x kl ka : Nat) (ty : List Nat) (hd : h x = some (oDk kl)) (hL : AL g h kl ka ty) (t : Int32) (a : Nat) (ht : lk ty t = some a) (hT : isTy h a) : Con l yX4_typeAt wsX4_typeAt 3 70 0 0 [.ref x, .int t] g h (fun v h' => v = some (.ref a) ∧ h = h') := by
  have hn9 := AL_len hL
  obtain ⟨⟨mc, hk0⟩, -, -⟩ := id hL
  refine m_start (cc := cX4_typeAt) (maxL := 2) (ret := (some (.object "LayoutDesk$Type"))) (by decide) rfl (Nat.le_of_ble_eq_true rfl) ?_
  intro p e s m below meth c A ls hx hb hr hml hts hown hlocks hin hw hl
  have hl : lv_has ls 2 [(0, .ref x), (1, .int t)] := hl
  have hown : s.vm.findClass RX4 = some m.cls := hown
  refine lv_iload_n hx hb dX4_typeAt_0 rfl (lv_at hl 1 rfl) ?_
  refine lv_if_lt (tgt := 15) hx hb dX4_typeAt_1 (by decide) (fun c1 => ?_) (fun c1 => ?_)
  · exact absurd c1 (lk_ofS ht).1
  · refine lv_iload_n hx hb dX4_typeAt_4 rfl (lv_at hl 1 rfl) ?_
    refine lv_aload_n hx hb dX4_typeAt_5 rfl (lv_at hl 0 rfl) ?_
    refine w_get (ci := 4) (C := RX4) (T := TX4) (N := 1) (ref := "LayoutDesk") hx hb hts in_X4_typeAt_4 hown hw hd rfl 0 (by decide) (hts (.fieldLink RX4 10 "LayoutDesk" "known" "Ljava/util/ArrayList;") (by decide +kernel)) (fun _ h9 => h9) rfl dX4_typeAt_6 ?_
    refine w_call (va_runV (As := []) (rest := [.int t]) ⟨hx, hb, hml, hown, hts⟩ (c_sizeL l g h kl ka ty hL s.heap.size) (cwV 0 hts gX4_typeAt_Jx4a65c_size_8abf5 rfl rfl rfl (by decide +kernel) ⟨Nat.le_of_ble_eq_true rfl, Nat.le_of_ble_eq_true rfl⟩) ⟨pr_blind, w_recv hw hk0 rfl, pr_of hw⟩ rfl rfl hl.1 rfl (lv_room (Nat.le_of_ble_eq_true rfl)) dX4_typeAt_9 ⟨Nat.le_of_ble_eq_true rfl, Nat.le_of_ble_eq_true rfl⟩) hw (fun v h' H locs hp hw => ?_)
    obtain ⟨rfl, rfl⟩ := hp
    refine W.eq (g2 := F0 m 12 ls [.int (nI ty.length), .int t]) rfl ?_
    refine lv_icmp_lt (tgt := 19) hx hb dX4_typeAt_12 (by decide) (fun c12 => ?_) (fun c12 => ?_)
    · refine lv_aload_n hx hb dX4_typeAt_19 rfl (lv_at hl 0 rfl) ?_
      refine w_get (ci := 4) (C := RX4) (T := TX4) (N := 1) (ref := "LayoutDesk") hx hb hts in_X4_typeAt_4 hown hw hd rfl 0 (by decide) (hts (.fieldLink RX4 10 "LayoutDesk" "known" "Ljava/util/ArrayList;") (by decide +kernel)) (fun _ h9 => h9) rfl dX4_typeAt_20 ?_
      refine lv_iload_n hx hb dX4_typeAt_23 rfl (lv_at hl 1 rfl) ?_
      refine w_call (va_runV (As := [.int t]) (rest := []) ⟨hx, hb, hml, hown, hts⟩ (c_getL l g h kl ka ty hL t a ht H.size) (cwV 1 hts gX4_typeAt_Jx4a65c_get_915e3 rfl rfl rfl (by decide +kernel) ⟨Nat.le_of_ble_eq_true rfl, Nat.le_of_ble_eq_true rfl⟩) ⟨pr_blind, w_recv hw hk0 rfl, pr_of hw⟩ rfl rfl hl.1 rfl (lv_room (Nat.le_of_ble_eq_true rfl)) dX4_typeAt_24 ⟨Nat.le_of_ble_eq_true rfl, Nat.le_of_ble_eq_true rfl⟩) hw (fun v h' H locs hp hw => ?_)
      obtain ⟨rfl, rfl⟩ := hp
      refine W.eq (g2 := F0 m 27 ls [.ref a]) rfl ?_
      refine w_castT hx hb hown (hts (.classLink RX4 53 "LayoutDesk$Type") (by decide +kernel)) hw hT dX4_typeAt_27 ?_
      exact r_ref hx hb hr (Or.inl ⟨_, rfl⟩) (Or.inr ⟨_, rfl⟩) hlocks hw dX4_typeAt_30 (Nat.le_of_ble_eq_true rfl) (Nat.le_of_ble_eq_true rfl) (⟨rfl, rfl⟩)
    · exact absurd (lk_lt ht (by omega)).1 c12
set_option maxHeartbeats 4000000 in
set_option maxRecDepth 100000 in
theorem c_recordAt_N1 (l : Launch) (g : GG) (h : Nat → Option va_E) (x kl ka : Nat) (ty : List Nat) (hd : h x = some (oDk kl)) (hL : AL g h kl ka ty) (t : Int32) (ht : lk ty t = none) : Con l yX4_recordAt wsX4_recordAt 4 100 0 0 [.ref x, .int t] g h (fun v h' => v = some .null ∧ h = h') := by
  refine m_start (cc := cX4_recordAt) (maxL := 4) (ret := (some (.object "LayoutDesk$Compound"))) (by decide) rfl (Nat.le_of_ble_eq_true rfl) ?_
  intro p e s m below meth c A ls hx hb hr hml hts hown hlocks hin hw hl
  have hl : lv_has ls 4 [(0, .ref x), (1, .int t)] := hl
  have hown : s.vm.findClass RX4 = some m.cls := hown
  refine lv_aload_n hx hb dX4_recordAt_0 rfl (lv_at hl 0 rfl) ?_
  refine lv_iload_n hx hb dX4_recordAt_1 rfl (lv_at hl 1 rfl) ?_
  refine w_call (va_runV (As := [.int t]) (rest := []) ⟨hx, hb, hml, hown, hts⟩ (c_typeAt_N l g h x kl ka ty hd hL t ht s.heap.size) (cwV 1 hts gX4_recordAt_X4_typeAt rfl rfl rfl (by decide +kernel) ⟨Nat.le_of_ble_eq_true rfl, Nat.le_of_ble_eq_true rfl⟩) ⟨pr_blind, w_recv hw hd rfl, pr_of hw⟩ rfl rfl hl.1 rfl (lv_room (Nat.le_of_ble_eq_true rfl)) dX4_recordAt_2 ⟨Nat.le_of_ble_eq_true rfl, Nat.le_of_ble_eq_true rfl⟩) hw (fun v h' H locs hp hw => ?_)
  obtain ⟨rfl, rfl⟩ := hp
  refine W.eq (g2 := F0 m 5 ls [.null]) rfl ?_
  refine lv_astore_nN (lv' := [(3, .null), (0, .ref x), (1, .int t)]) hx hb dX4_recordAt_5 rfl hl (by decide) rfl (fun ls hl => ?_)
  refine lv_aload_nN hx hb dX4_recordAt_6 rfl (lv_at hl 0 rfl) ?_
  refine lv_instN hx hb dX4_recordAt_7 ?_
  refine lv_if_eq (tgt := 22) hx hb dX4_recordAt_10 (by decide) (fun c10 => ?_) (fun c10 => ?_)
  · refine lv_null hx hb dX4_recordAt_22 ?_
    exact r_ref hx hb hr (Or.inl ⟨_, rfl⟩) (Or.inl rfl) hlocks hw dX4_recordAt_23 (Nat.le_of_ble_eq_true rfl) (Nat.le_of_ble_eq_true rfl) (⟨rfl, rfl⟩)
  · exact absurd rfl c10
set_option maxHeartbeats 4000000 in
set_option maxRecDepth 100000 in
theorem c_recordAt_N2 (l : Launch) (g : GG) (h : Nat → Option va_E) (x kl ka : Nat) (ty : List Nat) (hd : h x = some (oDk kl)) (hL : AL g h kl ka ty) (t : Int32) (a : Nat) (b0 b1 b2 b3 b4 : Int32) (ht : lk ty t = some a) (ha : h a = some (oSi b0 b1 b2 b3 b4)) : Con l yX4_recordAt wsX4_recordAt 4 100 0 0 [.ref x, .int t] g h (fun v h' => v = some .null ∧ h = h') := by
  have hT : isTy h a := Or.inr ⟨_, _, _, _, _, ha⟩
  refine m_start (cc := cX4_recordAt) (maxL := 4) (ret := (some (.object "LayoutDesk$Compound"))) (by decide) rfl (Nat.le_of_ble_eq_true rfl) ?_
  intro p e s m below meth c A ls hx hb hr hml hts hown hlocks hin hw hl
  have hl : lv_has ls 4 [(0, .ref x), (1, .int t)] := hl
  have hown : s.vm.findClass RX4 = some m.cls := hown
  refine lv_aload_n hx hb dX4_recordAt_0 rfl (lv_at hl 0 rfl) ?_
  refine lv_iload_n hx hb dX4_recordAt_1 rfl (lv_at hl 1 rfl) ?_
  refine w_call (va_runV (As := [.int t]) (rest := []) ⟨hx, hb, hml, hown, hts⟩ (c_typeAt_S l g h x kl ka ty hd hL t a ht hT s.heap.size) (cwV 1 hts gX4_recordAt_X4_typeAt rfl rfl rfl (by decide +kernel) ⟨Nat.le_of_ble_eq_true rfl, Nat.le_of_ble_eq_true rfl⟩) ⟨pr_blind, w_recv hw hd rfl, pr_of hw⟩ rfl rfl hl.1 rfl (lv_room (Nat.le_of_ble_eq_true rfl)) dX4_recordAt_2 ⟨Nat.le_of_ble_eq_true rfl, Nat.le_of_ble_eq_true rfl⟩) hw (fun v h' H locs hp hw => ?_)
  obtain ⟨rfl, rfl⟩ := hp
  refine W.eq (g2 := F0 m 5 ls [.ref a]) rfl ?_
  refine lv_astore_n (lv' := [(3, .ref a), (0, .ref x), (1, .int t)]) hx hb dX4_recordAt_5 rfl hl (by decide) rfl (fun ls hl => ?_)
  refine lv_aload_n hx hb dX4_recordAt_6 rfl (lv_at hl 0 rfl) ?_
  refine va_instNo (C := RX2) hx hb hown (hts (.classLink RX4 63 "LayoutDesk$Compound") (by decide +kernel)) (w_nc hw (by decide +kernel)) (w_recv hw ha rfl) dX4_recordAt_7 ?_
  refine lv_if_eq (tgt := 22) hx hb dX4_recordAt_10 (by decide) (fun c10 => ?_) (fun c10 => ?_)
  · refine lv_null hx hb dX4_recordAt_22 ?_
    exact r_ref hx hb hr (Or.inl ⟨_, rfl⟩) (Or.inl rfl) hlocks hw dX4_recordAt_23 (Nat.le_of_ble_eq_true rfl) (Nat.le_of_ble_eq_true rfl) (⟨rfl, rfl⟩)
  · exact absurd rfl c10
set_option maxHeartbeats 4000000 in
set_option maxRecDepth 100000 in
theorem c_recordAt_S (l : Launch) (g : GG) (h : Nat → Option va_E) (x kl ka : Nat) (ty : List Nat) (hd : h x = some (oDk kl)) (hL : AL g h kl ka ty) (t : Int32) (a ml : Nat) (by_ al ov op re up fb : Int32) (ht : lk ty t = some a) (ha : h a = some (oCo by_ al ov ml op re up fb)) : Con l yX4_recordAt wsX4_recordAt 4 100 0 0 [.ref x, .int t] g h (fun v h' => v = some (.ref a) ∧ h = h') := by
  have hT : isTy h a := Or.inl ⟨_, _, _, _, _, _, _, _, ha⟩
  refine m_start (cc := cX4_recordAt) (maxL := 4) (ret := (some (.object "LayoutDesk$Compound"))) (by decide) rfl (Nat.le_of_ble_eq_true rfl) ?_
  intro p e s m below meth c A ls hx hb hr hml hts hown hlocks hin hw hl
  have hl : lv_has ls 4 [(0, .ref x), (1, .int t)] := hl
  have hown : s.vm.findClass RX4 = some m.cls := hown
  refine lv_aload_n hx hb dX4_recordAt_0 rfl (lv_at hl 0 rfl) ?_
  refine lv_iload_n hx hb dX4_recordAt_1 rfl (lv_at hl 1 rfl) ?_
  refine w_call (va_runV (As := [.int t]) (rest := []) ⟨hx, hb, hml, hown, hts⟩ (c_typeAt_S l g h x kl ka ty hd hL t a ht hT s.heap.size) (cwV 1 hts gX4_recordAt_X4_typeAt rfl rfl rfl (by decide +kernel) ⟨Nat.le_of_ble_eq_true rfl, Nat.le_of_ble_eq_true rfl⟩) ⟨pr_blind, w_recv hw hd rfl, pr_of hw⟩ rfl rfl hl.1 rfl (lv_room (Nat.le_of_ble_eq_true rfl)) dX4_recordAt_2 ⟨Nat.le_of_ble_eq_true rfl, Nat.le_of_ble_eq_true rfl⟩) hw (fun v h' H locs hp hw => ?_)
  obtain ⟨rfl, rfl⟩ := hp
  refine W.eq (g2 := F0 m 5 ls [.ref a]) rfl ?_
  refine lv_astore_n (lv' := [(3, .ref a), (0, .ref x), (1, .int t)]) hx hb dX4_recordAt_5 rfl hl (by decide) rfl (fun ls hl => ?_)
  refine lv_aload_n hx hb dX4_recordAt_6 rfl (lv_at hl 0 rfl) ?_
  refine va_instY (C := RX0) hx hb hown (hts (.classLink RX4 63 "LayoutDesk$Compound") (by decide +kernel)) (w_nwN hw (by decide +kernel)) (w_recv hw ha rfl) dX4_recordAt_7 ?_
  refine lv_if_eq (tgt := 22) hx hb dX4_recordAt_10 (by decide) (fun c10 => ?_) (fun c10 => ?_)
  · exact absurd c10 (by decide)
  · refine lv_aload_n hx hb dX4_recordAt_13 rfl (lv_at hl 0 rfl) ?_
    refine va_castY (C := RX0) hx hb hown (hts (.classLink RX4 63 "LayoutDesk$Compound") (by decide +kernel)) (w_nwN hw (by decide +kernel)) (w_recv hw ha rfl) dX4_recordAt_14 ?_
    refine lv_astore_n (lv' := [(2, .ref a), (3, .ref a), (0, .ref x), (1, .int t)]) hx hb dX4_recordAt_17 rfl hl (by decide) rfl (fun ls hl => ?_)
    refine lv_aload_n hx hb dX4_recordAt_18 rfl (lv_at hl 0 rfl) ?_
    refine lv_goto (tgt := 23) hx hb dX4_recordAt_19 (by decide) ?_
    exact r_ref hx hb hr (Or.inl ⟨_, rfl⟩) (Or.inr ⟨_, rfl⟩) hlocks hw dX4_recordAt_23 (Nat.le_of_ble_eq_true rfl) (Nat.le_of_ble_eq_true rfl) (⟨rfl, rfl⟩)
/-- no record at t -/
def noRec (h : Nat → Option va_E) (ty : List Nat) (t : Int32) : Prop := lk ty t = none ∨ ∃ (a : Nat) (b0 b1 b2 b3 b4 : Int32), lk ty t = some a ∧ h a = some (oSi b0 b1 b2 b3 b4)
theorem c_recordAt_N (l : Launch) (g : GG) (h : Nat → Option va_E) (x kl ka : Nat) (ty : List Nat) (hd : h x = some (oDk kl)) (hL : AL g h kl ka ty) (t : Int32) (ht : noRec h ty t) : Con l yX4_recordAt wsX4_recordAt 4 100 0 0 [.ref x, .int t] g h (fun v h' => v = some .null ∧ h = h') := by
  rcases ht with ht | ⟨a, b0, b1, b2, b3, b4, h1, h2⟩
  · exact c_recordAt_N1 l g h x kl ka ty hd hL t ht
  · exact c_recordAt_N2 l g h x kl ka ty hd hL t a b0 b1 b2 b3 b4 h1 h2
/-- no open record at t -/
def noOpen (h : Nat → Option va_E) (ty : List Nat) (t : Int32) : Prop := noRec h ty t ∨ ∃ (a ml : Nat) (by_ al ov re up fb : Int32), lk ty t = some a ∧ h a = some (oCo by_ al ov ml 0 re up fb)
set_option maxHeartbeats 4000000 in
set_option maxRecDepth 100000 in
theorem c_open_N1 (l : Launch) (g : GG) (h : Nat → Option va_E) (x kl ka : Nat) (ty : List Nat) (hd : h x = some (oDk kl)) (hL : AL g h kl ka ty) (t : Int32) (ht : noRec h ty t) : Con l yX4_openRecordAt wsX4_openRecordAt 5 130 0 0 [.ref x, .int t] g h (fun v h' => v = some .null ∧ h = h') := by
  refine m_start (cc := cX4_openRecordAt) (maxL := 3) (ret := (some (.object "LayoutDesk$Compound"))) (by decide) rfl (Nat.le_of_ble_eq_true rfl) ?_
  intro p e s m below meth c A ls hx hb hr hml hts hown hlocks hin hw hl
  have hl : lv_has ls 3 [(0, .ref x), (1, .int t)] := hl
  have hown : s.vm.findClass RX4 = some m.cls := hown
  refine lv_aload_n hx hb dX4_openRecordAt_0 rfl (lv_at hl 0 rfl) ?_
  refine lv_iload_n hx hb dX4_openRecordAt_1 rfl (lv_at hl 1 rfl) ?_
  refine w_call (va_runV (As := [.int t]) (rest := []) ⟨hx, hb, hml, hown, hts⟩ (c_recordAt_N l g h x kl ka ty hd hL t ht s.heap.size) (cwV 1 hts gX4_openRecordAt_X4_recordAt rfl rfl rfl (by decide +kernel) ⟨Nat.le_of_ble_eq_true rfl, Nat.le_of_ble_eq_true rfl⟩) ⟨pr_blind, w_recv hw hd rfl, pr_of hw⟩ rfl rfl hl.1 rfl (lv_room (Nat.le_of_ble_eq_true rfl)) dX4_openRecordAt_2 ⟨Nat.le_of_ble_eq_true rfl, Nat.le_of_ble_eq_true rfl⟩) hw (fun v h' H locs hp hw => ?_)
  obtain ⟨rfl, rfl⟩ := hp
  refine W.eq (g2 := F0 m 5 ls [.null]) rfl ?_
  refine lv_astore_nN (lv' := [(2, .null), (0, .ref x), (1, .int t)]) hx hb dX4_openRecordAt_5 rfl hl (by decide) rfl (fun ls hl => ?_)
  refine lv_aload_nN hx hb dX4_openRecordAt_6 rfl (lv_at hl 0 rfl) ?_
  refine lv_ifnullN (tgt := 21) hx hb dX4_openRecordAt_7 (by decide) ?_
  refine lv_null hx hb dX4_openRecordAt_21 ?_
  exact r_ref hx hb hr (Or.inl ⟨_, rfl⟩) (Or.inl rfl) hlocks hw dX4_openRecordAt_22 (Nat.le_of_ble_eq_true rfl) (Nat.le_of_ble_eq_true rfl) (⟨rfl, rfl⟩)
theorem in_X4_openRecordAt_1 : ∀ w ∈ u_ws RX0 TX0 8, w ∈ wsX4_openRecordAt := by decide +kernel
set_option maxHeartbeats 4000000 in
set_option maxRecDepth 100000 in
theorem c_open_N2 (l : Launch) (g : GG) (h : Nat → Option va_E) (x kl ka : Nat) (ty : List Nat) (hd : h x = some (oDk kl)) (hL : AL g h kl ka ty) (t : Int32) (a ml : Nat) (by_ al ov op re up fb : Int32) (ht : lk ty t = some a) (ha : h a = some (oCo by_ al ov ml op re up fb)) (ho : op = 0) : Con l yX4_openRecordAt wsX4_openRecordAt 5 130 0 0 [.ref x, .int t] g h (fun v h' => v = some .null ∧ h = h') := by
  refine m_start (cc := cX4_openRecordAt) (maxL := 3) (ret := (some (.object "LayoutDesk$Compound"))) (by decide) rfl (Nat.le_of_ble_eq_true rfl) ?_
  intro p e s m below meth c A ls hx hb hr hml hts hown hlocks hin hw hl
  have hl : lv_has ls 3 [(0, .ref x), (1, .int t)] := hl
  have hown : s.vm.findClass RX4 = some m.cls := hown
  refine lv_aload_n hx hb dX4_openRecordAt_0 rfl (lv_at hl 0 rfl) ?_
  refine lv_iload_n hx hb dX4_openRecordAt_1 rfl (lv_at hl 1 rfl) ?_
  refine w_call (va_runV (As := [.int t]) (rest := []) ⟨hx, hb, hml, hown, hts⟩ (c_recordAt_S l g h x kl ka ty hd hL t a ml by_ al ov op re up fb ht ha s.heap.size) (cwV 1 hts gX4_openRecordAt_X4_recordAt rfl rfl rfl (by decide +kernel) ⟨Nat.le_of_ble_eq_true rfl, Nat.le_of_ble_eq_true rfl⟩) ⟨pr_blind, w_recv hw hd rfl, pr_of hw⟩ rfl rfl hl.1 rfl (lv_room (Nat.le_of_ble_eq_true rfl)) dX4_openRecordAt_2 ⟨Nat.le_of_ble_eq_true rfl, Nat.le_of_ble_eq_true rfl⟩) hw (fun v h' H locs hp hw => ?_)
  obtain ⟨rfl, rfl⟩ := hp
  refine W.eq (g2 := F0 m 5 ls [.ref a]) rfl ?_
  refine lv_astore_n (lv' := [(2, .ref a), (0, .ref x), (1, .int t)]) hx hb dX4_openRecordAt_5 rfl hl (by decide) rfl (fun ls hl => ?_)
  refine lv_aload_n hx hb dX4_openRecordAt_6 rfl (lv_at hl 0 rfl) ?_
  refine lv_ifnull hx hb dX4_openRecordAt_7 ?_
  refine lv_aload_n hx hb dX4_openRecordAt_10 rfl (lv_at hl 0 rfl) ?_
  refine w_getN (ci := 1) (C := RX0) (T := TX0) (N := 8) (ref := "LayoutDesk$Compound") hx hb hts in_X4_openRecordAt_1 hown hw ha rfl 4 (by decide) (w_nw hw (w := .fieldLinkNest "LayoutDesk" 124 "LayoutDesk$Compound" "open" "Z" "LayoutDesk") (by decide +kernel)) (fun _ h9 => h9) rfl dX4_openRecordAt_11 ?_
  refine lv_if_eq (tgt := 21) hx hb dX4_openRecordAt_14 (by decide) (fun c14 => ?_) (fun c14 => ?_)
  · refine lv_null hx hb dX4_openRecordAt_21 ?_
    exact r_ref hx hb hr (Or.inl ⟨_, rfl⟩) (Or.inl rfl) hlocks hw dX4_openRecordAt_22 (Nat.le_of_ble_eq_true rfl) (Nat.le_of_ble_eq_true rfl) (⟨rfl, rfl⟩)
  · exact absurd ho c14
set_option maxHeartbeats 4000000 in
set_option maxRecDepth 100000 in
theorem c_open_S (l : Launch) (g : GG) (h : Nat → Option va_E) (x kl ka : Nat) (ty : List Nat) (hd : h x = some (oDk kl)) (hL : AL g h kl ka ty) (t : Int32) (a ml : Nat) (by_ al ov op re up fb : Int32) (ht : lk ty t = some a) (ha : h a = some (oCo by_ al ov ml op re up fb)) (ho : op = 1) : Con l yX4_openRecordAt wsX4_openRecordAt 5 130 0 0 [.ref x, .int t] g h (fun v h' => v = some (.ref a) ∧ h = h') := by
  refine m_start (cc := cX4_openRecordAt) (maxL := 3) (ret := (some (.object "LayoutDesk$Compound"))) (by decide) rfl (Nat.le_of_ble_eq_true rfl) ?_
  intro p e s m below meth c A ls hx hb hr hml hts hown hlocks hin hw hl
  have hl : lv_has ls 3 [(0, .ref x), (1, .int t)] := hl
  have hown : s.vm.findClass RX4 = some m.cls := hown
  refine lv_aload_n hx hb dX4_openRecordAt_0 rfl (lv_at hl 0 rfl) ?_
  refine lv_iload_n hx hb dX4_openRecordAt_1 rfl (lv_at hl 1 rfl) ?_
  refine w_call (va_runV (As := [.int t]) (rest := []) ⟨hx, hb, hml, hown, hts⟩ (c_recordAt_S l g h x kl ka ty hd hL t a ml by_ al ov op re up fb ht ha s.heap.size) (cwV 1 hts gX4_openRecordAt_X4_recordAt rfl rfl rfl (by decide +kernel) ⟨Nat.le_of_ble_eq_true rfl, Nat.le_of_ble_eq_true rfl⟩) ⟨pr_blind, w_recv hw hd rfl, pr_of hw⟩ rfl rfl hl.1 rfl (lv_room (Nat.le_of_ble_eq_true rfl)) dX4_openRecordAt_2 ⟨Nat.le_of_ble_eq_true rfl, Nat.le_of_ble_eq_true rfl⟩) hw (fun v h' H locs hp hw => ?_)
  obtain ⟨rfl, rfl⟩ := hp
  refine W.eq (g2 := F0 m 5 ls [.ref a]) rfl ?_
  refine lv_astore_n (lv' := [(2, .ref a), (0, .ref x), (1, .int t)]) hx hb dX4_openRecordAt_5 rfl hl (by decide) rfl (fun ls hl => ?_)
  refine lv_aload_n hx hb dX4_openRecordAt_6 rfl (lv_at hl 0 rfl) ?_
  refine lv_ifnull hx hb dX4_openRecordAt_7 ?_
  refine lv_aload_n hx hb dX4_openRecordAt_10 rfl (lv_at hl 0 rfl) ?_
  refine w_getN (ci := 1) (C := RX0) (T := TX0) (N := 8) (ref := "LayoutDesk$Compound") hx hb hts in_X4_openRecordAt_1 hown hw ha rfl 4 (by decide) (w_nw hw (w := .fieldLinkNest "LayoutDesk" 124 "LayoutDesk$Compound" "open" "Z" "LayoutDesk") (by decide +kernel)) (fun _ h9 => h9) rfl dX4_openRecordAt_11 ?_
  refine lv_if_eq (tgt := 21) hx hb dX4_openRecordAt_14 (by decide) (fun c14 => ?_) (fun c14 => ?_)
  · exact absurd (ho.symm.trans c14) (by decide)
  · refine lv_aload_n hx hb dX4_openRecordAt_17 rfl (lv_at hl 0 rfl) ?_
    refine lv_goto (tgt := 22) hx hb dX4_openRecordAt_18 (by decide) ?_
    exact r_ref hx hb hr (Or.inl ⟨_, rfl⟩) (Or.inr ⟨_, rfl⟩) hlocks hw dX4_openRecordAt_22 (Nat.le_of_ble_eq_true rfl) (Nat.le_of_ble_eq_true rfl) (⟨rfl, rfl⟩)
theorem c_open_N (l : Launch) (g : GG) (h : Nat → Option va_E) (x kl ka : Nat) (ty : List Nat) (hd : h x = some (oDk kl)) (hL : AL g h kl ka ty) (t : Int32) (ht : noOpen h ty t) : Con l yX4_openRecordAt wsX4_openRecordAt 5 130 0 0 [.ref x, .int t] g h (fun v h' => v = some .null ∧ h = h') := by
  rcases ht with ht | ⟨a, ml, by_, al, ov, re, up, fb, h1, h2⟩
  · exact c_open_N1 l g h x kl ka ty hd hL t ht
  · exact c_open_N2 l g h x kl ka ty hd hL t a ml by_ al ov 0 re up fb h1 h2 rfl
theorem in_X4_find_4 : ∀ w ∈ u_ws RX4 TX4 1, w ∈ wsX4_find := by decide +kernel
set_option maxHeartbeats 4000000 in
set_option maxRecDepth 100000 in
theorem find_loop {p : Program} {e : Env} {s : State} {m : MethodId} {below : List Frame} {meth : Method} {c : Code} {A : Nat → Prop} (l : Launch) (g : GG) (h : Nat → Option va_E) (x kl ka : Nat) (ty : List Nat) (hd : h x = some (oDk kl)) (hL : AL g h kl ka ty) (k2 b2 n2 : Int32) (hT : ∀ a ∈ ty, isTy h a) (hx : p.tables.exec = Jvm.exec) (hb : c.code = cX4_find) (hr : meth.sig.returnType = (some .int)) (hml : c.maxLocals = 7) (hts : ∀ w ∈ wsX4_find, w.before ([.ref x, .int k2, .int b2, .int n2] : List Value).toArray s = true) (hown : s.vm.findClass RX4 = some m.cls) (hlocks : meth.locks = false) :
    ∀ (n i : Nat), i + n = ty.length → (∀ j a : Nat, j < i → ty[j]? = some a → ¬ mt h k2 b2 n2 a) → ∀ (H : Heap) (locs : List Loc) (ls : Array Slot), wd g A s h H locs → lv_has ls 7 [(4, .int (nI i)), (0, .ref x), (1, .int k2), (2, .int b2), (3, .int n2)] → W p l e { frames := 3, cells := 0, slots := 0, locals := 70 } s m ([.ref x, .int k2, .int b2, .int n2] : List Value).toArray below meth c H locs 0 0 (MQ below (cQ g A (fun v h' => h = h' ∧ ((∃ i, i < ty.length ∧ v = some (.int (nI i)) ∧ (∃ a, ty[i]? = some a ∧ mt h k2 b2 n2 a) ∧ ∀ j, j < i → ∀ a, ty[j]? = some a → ¬ mt h k2 b2 n2 a) ∨ (v = some (.int (-1)) ∧ ∀ j a : Nat, ty[j]? = some a → ¬ mt h k2 b2 n2 a)))) ([.ref x, .int k2, .int b2, .int n2] : List Value).toArray s 0 0 A) (F0 m 3 ls []) := by
  have hn9 := AL_len hL
  obtain ⟨⟨mc, hk0⟩, -, -⟩ := id hL
  intro n
  induction n with
  | zero =>
    intro i hi hnone H locs ls hw hl
    refine lv_iload hx hb dX4_find_3 (lv_at hl 0 rfl) ?_
    refine lv_aload_n hx hb dX4_find_5 rfl (lv_at hl 1 rfl) ?_
    refine w_get (ci := 4) (C := RX4) (T := TX4) (N := 1) (ref := "LayoutDesk") hx hb hts in_X4_find_4 hown hw hd rfl 0 (by decide) (hts (.fieldLink RX4 10 "LayoutDesk" "known" "Ljava/util/ArrayList;") (by decide +kernel)) (fun _ h9 => h9) rfl dX4_find_6 ?_
    refine w_call (va_runV (As := []) (rest := [.int (nI i)]) ⟨hx, hb, hml, hown, hts⟩ (c_sizeL l g h kl ka ty hL H.size) (cwV 0 hts gX4_find_Jx4a65c_size_8abf5 rfl rfl rfl (by decide +kernel) ⟨Nat.le_of_ble_eq_true rfl, Nat.le_of_ble_eq_true rfl⟩) ⟨pr_blind, w_recv hw hk0 rfl, pr_of hw⟩ rfl rfl hl.1 rfl (lv_room (Nat.le_of_ble_eq_true rfl)) dX4_find_9 ⟨Nat.le_of_ble_eq_true rfl, Nat.le_of_ble_eq_true rfl⟩) hw (fun v h' H locs hp hw => ?_)
    obtain ⟨rfl, rfl⟩ := hp
    refine W.eq (g2 := F0 m 12 ls [.int (nI ty.length), .int (nI i)]) rfl ?_
    refine lv_icmp_ge (tgt := 61) hx hb dX4_find_12 (by decide) (fun c12 => ?_) (fun c12 => ?_)
    · refine lv_iconst (v := (-1)) hx hb dX4_find_61 (by decide) ?_
      exact r_int hx hb hr hlocks hw dX4_find_62 (Nat.le_of_ble_eq_true rfl) (Nat.le_of_ble_eq_true rfl) (⟨rfl, Or.inr ⟨rfl, fun j a ha => hnone j a (by have := (List.getElem?_eq_some_iff.mp ha).1; omega) ha⟩⟩)
    · exact absurd (nI_le (by omega) (by omega)) c12
  | succ n ih =>
    intro i hi hnone H locs ls hw hl
    refine lv_iload hx hb dX4_find_3 (lv_at hl 0 rfl) ?_
    refine lv_aload_n hx hb dX4_find_5 rfl (lv_at hl 1 rfl) ?_
    refine w_get (ci := 4) (C := RX4) (T := TX4) (N := 1) (ref := "LayoutDesk") hx hb hts in_X4_find_4 hown hw hd rfl 0 (by decide) (hts (.fieldLink RX4 10 "LayoutDesk" "known" "Ljava/util/ArrayList;") (by decide +kernel)) (fun _ h9 => h9) rfl dX4_find_6 ?_
    refine w_call (va_runV (As := []) (rest := [.int (nI i)]) ⟨hx, hb, hml, hown, hts⟩ (c_sizeL l g h kl ka ty hL H.size) (cwV 0 hts gX4_find_Jx4a65c_size_8abf5 rfl rfl rfl (by decide +kernel) ⟨Nat.le_of_ble_eq_true rfl, Nat.le_of_ble_eq_true rfl⟩) ⟨pr_blind, w_recv hw hk0 rfl, pr_of hw⟩ rfl rfl hl.1 rfl (lv_room (Nat.le_of_ble_eq_true rfl)) dX4_find_9 ⟨Nat.le_of_ble_eq_true rfl, Nat.le_of_ble_eq_true rfl⟩) hw (fun v h' H locs hp hw => ?_)
    obtain ⟨rfl, rfl⟩ := hp
    refine W.eq (g2 := F0 m 12 ls [.int (nI ty.length), .int (nI i)]) rfl ?_
    refine lv_icmp_ge (tgt := 61) hx hb dX4_find_12 (by decide) (fun c12 => ?_) (fun c12 => ?_)
    · exact absurd ((nI_leI (by omega) (by omega)).mp c12) (by omega)
    · obtain ⟨a, ha9⟩ : ∃ a, ty[i]? = some a := ⟨ty[i], List.getElem?_eq_getElem (by omega)⟩
      refine lv_aload_n hx hb dX4_find_15 rfl (lv_at hl 1 rfl) ?_
      refine w_get (ci := 4) (C := RX4) (T := TX4) (N := 1) (ref := "LayoutDesk") hx hb hts in_X4_find_4 hown hw hd rfl 0 (by decide) (hts (.fieldLink RX4 10 "LayoutDesk" "known" "Ljava/util/ArrayList;") (by decide +kernel)) (fun _ h9 => h9) rfl dX4_find_16 ?_
      refine lv_iload hx hb dX4_find_19 (lv_at hl 0 rfl) ?_
      refine w_call (va_runV (As := [.int (nI i)]) (rest := []) ⟨hx, hb, hml, hown, hts⟩ (c_getL l g h kl ka ty hL (nI i) a ((lk_nI (by omega)).trans ha9) H.size) (cwV 1 hts gX4_find_Jx4a65c_get_915e3 rfl rfl rfl (by decide +kernel) ⟨Nat.le_of_ble_eq_true rfl, Nat.le_of_ble_eq_true rfl⟩) ⟨pr_blind, w_recv hw hk0 rfl, pr_of hw⟩ rfl rfl hl.1 rfl (lv_room (Nat.le_of_ble_eq_true rfl)) dX4_find_21 ⟨Nat.le_of_ble_eq_true rfl, Nat.le_of_ble_eq_true rfl⟩) hw (fun v h' H locs hp hw => ?_)
      obtain ⟨rfl, rfl⟩ := hp
      refine W.eq (g2 := F0 m 24 ls [.ref a]) rfl ?_
      refine lv_astore (lv' := [(6, .ref a), (4, .int (nI i)), (0, .ref x), (1, .int k2), (2, .int b2), (3, .int n2)]) hx hb dX4_find_24 hl (by decide) rfl (fun ls hl => ?_)
      refine lv_aload hx hb dX4_find_26 (lv_at hl 0 rfl) ?_
      rcases hT a (List.mem_of_getElem? ha9) with ⟨c0, c1, c2, c3, c4, c5, c6, c7, ha⟩ | ⟨b0, b1, ki, ba, le, ha⟩
      · have hno : ¬ mt h k2 b2 n2 a := mt_co ha
        refine va_instNo (C := RX0) hx hb hown (hts (.classLink RX4 20 "LayoutDesk$Simple") (by decide +kernel)) (w_nc hw (by decide +kernel)) (w_recv hw ha rfl) dX4_find_28 ?_
        refine lv_if_eq (tgt := 55) hx hb dX4_find_31 (by decide) (fun c31 => ?_) (fun c31 => ?_)
        · obtain ⟨z55, ez55⟩ : ∃ y : Int32, y = (nI i) + 1 := ⟨_, rfl⟩
          refine lv_iinc (v := z55) (lv' := [(4, .int z55), (6, .ref a), (0, .ref x), (1, .int k2), (2, .int b2), (3, .int n2)]) hx hb dX4_find_55 hl (k := 1) rfl (by rw [ez55]; rfl) (by decide) rfl (fun ls hl => ?_)
          refine lv_goto (tgt := 3) hx hb dX4_find_58 (by decide) ?_
          have hnext : ∀ j a : Nat, j < i + 1 → ty[j]? = some a → ¬ mt h k2 b2 n2 a := by
            intro j a2 hj ha2
            rcases Nat.lt_or_ge j i with z | z
            · exact hnone j a2 z ha2
            · have e9 : j = i := by omega
              subst e9
              rw [ha9] at ha2
              cases ha2
              exact hno
          have ez : z55 = nI (i + 1) := ez55.trans (nI_1 i)
          subst ez
          exact ih (i + 1) (by omega) hnext _ _ ls hw (lv_sub hl [0, 2, 3, 4, 5] rfl)
        · exact absurd rfl c31
      · refine va_instY (C := RX2) hx hb hown (hts (.classLink RX4 20 "LayoutDesk$Simple") (by decide +kernel)) (w_nwN hw (by decide +kernel)) (w_recv hw ha rfl) dX4_find_28 ?_
        refine lv_if_eq (tgt := 55) hx hb dX4_find_31 (by decide) (fun c31 => ?_) (fun c31 => ?_)
        · exact absurd c31 (by decide)
        · refine lv_aload hx hb dX4_find_34 (lv_at hl 0 rfl) ?_
          refine va_castY (C := RX2) hx hb hown (hts (.classLink RX4 20 "LayoutDesk$Simple") (by decide +kernel)) (w_nwN hw (by decide +kernel)) (w_recv hw ha rfl) dX4_find_36 ?_
          refine lv_astore (lv' := [(5, .ref a), (6, .ref a), (4, .int (nI i)), (0, .ref x), (1, .int k2), (2, .int b2), (3, .int n2)]) hx hb dX4_find_39 hl (by decide) rfl (fun ls hl => ?_)
          refine lv_aload hx hb dX4_find_41 (lv_at hl 0 rfl) ?_
          refine lv_iload_n hx hb dX4_find_43 rfl (lv_at hl 4 rfl) ?_
          refine lv_iload_n hx hb dX4_find_44 rfl (lv_at hl 5 rfl) ?_
          refine lv_iload_n hx hb dX4_find_45 rfl (lv_at hl 6 rfl) ?_
          refine w_call (va_runV (As := [.int k2, .int b2, .int n2]) (rest := []) ⟨hx, hb, hml, hown, hts⟩ (c_isMadeFrom l g h a b0 b1 ki ba le k2 b2 n2 ha H.size) (cwV 3 hts gX4_find_X2_isMadeFrom rfl rfl rfl (by decide +kernel) ⟨Nat.le_of_ble_eq_true rfl, Nat.le_of_ble_eq_true rfl⟩) ⟨pr_blind, w_recv hw ha rfl, pr_of hw⟩ rfl rfl hl.1 rfl (lv_room (Nat.le_of_ble_eq_true rfl)) dX4_find_46 ⟨Nat.le_of_ble_eq_true rfl, Nat.le_of_ble_eq_true rfl⟩) hw (fun v h' H locs hp hw => ?_)
          obtain ⟨rfl, rfl⟩ := hp
          refine W.eq (g2 := F0 m 49 ls [.int (if ki = k2 ∧ ba = b2 ∧ le = n2 then 1 else 0)]) rfl ?_
          refine lv_if_eq (tgt := 55) hx hb dX4_find_49 (by decide) (fun c49 => ?_) (fun c49 => ?_)
          · have hno : ¬ mt h k2 b2 n2 a := mt_si ha (fun z => by rw [if_pos z] at c49; exact absurd c49 (by decide))
            obtain ⟨z55, ez55⟩ : ∃ y : Int32, y = (nI i) + 1 := ⟨_, rfl⟩
            refine lv_iinc (v := z55) (lv' := [(4, .int z55), (5, .ref a), (6, .ref a), (0, .ref x), (1, .int k2), (2, .int b2), (3, .int n2)]) hx hb dX4_find_55 hl (k := 2) rfl (by rw [ez55]; rfl) (by decide) rfl (fun ls hl => ?_)
            refine lv_goto (tgt := 3) hx hb dX4_find_58 (by decide) ?_
            have hnext : ∀ j a : Nat, j < i + 1 → ty[j]? = some a → ¬ mt h k2 b2 n2 a := by
              intro j a2 hj ha2
              rcases Nat.lt_or_ge j i with z | z
              · exact hnone j a2 z ha2
              · have e9 : j = i := by omega
                subst e9
                rw [ha9] at ha2
                cases ha2
                exact hno
            have ez : z55 = nI (i + 1) := ez55.trans (nI_1 i)
            subst ez
            exact ih (i + 1) (by omega) hnext _ _ ls hw (lv_sub hl [0, 3, 4, 5, 6] rfl)
          · have hyes : mt h k2 b2 n2 a := by
              by_cases z : ki = k2 ∧ ba = b2 ∧ le = n2
              · obtain ⟨z1, z2, z3⟩ := z
                subst z1 z2 z3
                exact ⟨_, _, ha⟩
              · rw [if_neg z] at c49
                exact absurd rfl c49
            refine lv_iload hx hb dX4_find_52 (lv_at hl 2 rfl) ?_
            exact r_int hx hb hr hlocks hw dX4_find_54 (Nat.le_of_ble_eq_true rfl) (Nat.le_of_ble_eq_true rfl) (⟨rfl, Or.inl ⟨i, by omega, rfl, ⟨a, ha9, hyes⟩, fun j hj a ha => hnone j a hj ha⟩⟩)
set_option maxHeartbeats 4000000 in
set_option maxRecDepth 100000 in
theorem c_find (l : Launch) (g : GG) (h : Nat → Option va_E) (x kl ka : Nat) (ty : List Nat) (hd : h x = some (oDk kl)) (hL : AL g h kl ka ty) (k2 b2 n2 : Int32) (hT : ∀ a ∈ ty, isTy h a) : Con l yX4_find wsX4_find 3 70 0 0 [.ref x, .int k2, .int b2, .int n2] g h (fun v h' => h = h' ∧ ((∃ i, i < ty.length ∧ v = some (.int (nI i)) ∧ (∃ a, ty[i]? = some a ∧ mt h k2 b2 n2 a) ∧ ∀ j, j < i → ∀ a, ty[j]? = some a → ¬ mt h k2 b2 n2 a) ∨ (v = some (.int (-1)) ∧ ∀ j a : Nat, ty[j]? = some a → ¬ mt h k2 b2 n2 a))) := by
  refine m_start (cc := cX4_find) (maxL := 7) (ret := (some .int)) (by decide) rfl (Nat.le_of_ble_eq_true rfl) ?_
  intro p e s m below meth c A ls hx hb hr hml hts hown hlocks hin hw hl
  have hl : lv_has ls 7 [(0, .ref x), (1, .int k2), (2, .int b2), (3, .int n2)] := hl
  have hown : s.vm.findClass RX4 = some m.cls := hown
  refine lv_iconst (v := 0) hx hb dX4_find_0 (by decide) ?_
  refine lv_istore (lv' := [(4, .int 0), (0, .ref x), (1, .int k2), (2, .int b2), (3, .int n2)]) hx hb dX4_find_1 hl (by decide) rfl (fun ls hl => ?_)
  exact find_loop l g h x kl ka ty hd hL k2 b2 n2 hT hx hb hr hml hts hown hlocks ty.length 0 (by omega) (fun j a hj => absurd hj (Nat.not_lt_zero j)) _ _ ls hw (lv_sub hl [0, 1, 2, 3, 4] rfl)
end
section
/-! THE DESK AS MATHEMATICS: a list of types; a record's layout is a fold over what was added to it -/
abbrev AdS : Type := Option Nat × Nat × Bool × Nat × Nat
abbrev TyS : Type := Nat × Nat × Nat × Nat × Nat × List AdS × Bool
abbrev LyS : Type := Nat × Nat × Option (Nat × Nat) × List (Nat × Nat × Nat × Nat)
abbrev tK (T : TyS) : Nat := T.1
abbrev tTo (T : TyS) : Nat := T.2.1
abbrev tLn (T : TyS) : Nat := T.2.2.1
abbrev tSz (T : TyS) : Nat := T.2.2.2.1
abbrev tAl (T : TyS) : Nat := T.2.2.2.2.1
abbrev tAd (T : TyS) : List AdS := T.2.2.2.2.2.1
abbrev tFi (T : TyS) : Bool := T.2.2.2.2.2.2
/-- the unit of the next bit-field of w bits: its place, its lowest bit -/
def lyU (un : Bool) (re : Nat) (u : Option (Nat × Nat)) (w : Nat) : Nat × Nat := match u with
  | some (p, k) => if un = true ∨ 32 < k + w then (if un then 0 else rup re 4, 0) else (p, k)
  | none => (if un then 0 else rup re 4, 0)
def lyS (un : Bool) (L : LyS) (a : AdS) : LyS := match a.1 with
  | none => (L.1, L.2.1, none, L.2.2.2)
  | some t => if a.2.1 = 0 then (max L.1 ((if un then 0 else rup L.1 a.2.2.2.2) + a.2.2.2.1), max L.2.1 a.2.2.2.2, none, L.2.2.2 ++ [((if un then 0 else rup L.1 a.2.2.2.2), t, 0, 0)])
    else (max L.1 ((lyU un L.1 L.2.2.1 a.2.1).1 + 4), max L.2.1 4, some ((lyU un L.1 L.2.2.1 a.2.1).1, (lyU un L.1 L.2.2.1 a.2.1).2 + a.2.1), if a.2.2.1 then L.2.2.2 ++ [((lyU un L.1 L.2.2.1 a.2.1).1, t, (lyU un L.1 L.2.2.1 a.2.1).2, a.2.1)] else L.2.2.2)
def lay (un : Bool) (as : List AdS) : LyS := as.foldl (lyS un) (0, 0, none, [])
theorem lay_snoc (un : Bool) (as : List AdS) (a : AdS) : lay un (as ++ [a]) = lyS un (lay un as) a := by simp [lay, List.foldl_append]
def ly (T : TyS) : LyS := lay (tK T == 4) (tAd T)
/-- the type with one more added -/
def tPush (T : TyS) (a : AdS) : TyS := (T.1, T.2.1, T.2.2.1, T.2.2.2.1, (lyS (tK T == 4) (ly T) a).2.1, tAd T ++ [a], tFi T)
theorem ly_push (T : TyS) (a : AdS) : ly (tPush T a) = lyS (tK T == 4) (ly T) a := lay_snoc _ _ _
def tEnd (T : TyS) (b : Nat) : TyS := (T.1, T.2.1, T.2.2.1, b, T.2.2.2.2.1, T.2.2.2.2.2.1, true)
def fnd (S : List TyS) (k to_ ln : Nat) : Option Nat := S.findIdx? (fun T => decide (tK T = k ∧ tTo T = to_ ∧ tLn T = ln))
/-- an open record at r -/
def lkO (S : List TyS) (r : Int32) : Option TyS := match lk S r with
  | none => none
  | some T => if 3 ≤ tK T ∧ tFi T = false then some T else none
def fPtr (S : List TyS) (t : Int32) : Int32 × List TyS := match lk S t with
  | none => (-1, S)
  | some _ => match fnd S 1 t.toNatClampNeg 0 with
    | some k => (nI k, S)
    | none => if 300 ≤ S.length then (-2, S) else (nI S.length, S ++ [(1, t.toNatClampNeg, 0, 4, 4, [], false)])
def fArr (S : List TyS) (t n : Int32) : Int32 × List TyS := match lk S t with
  | none => (-1, S)
  | some T => if n < 1 ∨ 524288 < n then (-1, S) else if tSz T = 0 then (-2, S) else if 524288 < tSz T * n.toNatClampNeg then (-3, S) else
    match fnd S 2 t.toNatClampNeg n.toNatClampNeg with
    | some k => (nI k, S)
    | none => if 300 ≤ S.length then (-4, S) else (nI S.length, S ++ [(2, t.toNatClampNeg, n.toNatClampNeg, tSz T * n.toNatClampNeg, tAl T, [], false)])
def fRec (S : List TyS) (k : Int32) : Int32 × List TyS := if k ≠ 0 ∧ k ≠ 1 then (-1, S) else if 300 ≤ S.length then (-2, S) else (nI S.length, S ++ [(3 + k.toNatClampNeg, 0, 0, 0, 0, [], false)])
def fFld (S : List TyS) (r t : Int32) : Int32 × List TyS := match lkO S r, lk S t with
  | some R, some T => if tSz T = 0 then (-2, S) else if 100 ≤ (ly R).2.2.2.length then (-3, S) else
      if 524288 < (lyS (tK R == 4) (ly R) (some t.toNatClampNeg, 0, true, tSz T, tAl T)).1 then (-4, S) else (nI (ly R).2.2.2.length, S.set r.toNatClampNeg (tPush R (some t.toNatClampNeg, 0, true, tSz T, tAl T)))
  | _, _ => (-1, S)
def fBit (S : List TyS) (r t w n : Int32) : Int32 × List TyS := match lkO S r with
  | none => (-1, S)
  | some R => if ¬ (t = 5 ∨ t = 6) ∨ w < 1 ∨ 32 < w then (-2, S) else if n ≠ 0 ∧ 100 ≤ (ly R).2.2.2.length then (-3, S) else
      if 524288 < (lyS (tK R == 4) (ly R) (some t.toNatClampNeg, w.toNatClampNeg, decide (n ≠ 0), 0, 0)).1 then (-4, S) else (if n ≠ 0 then nI (ly R).2.2.2.length else 100, S.set r.toNatClampNeg (tPush R (some t.toNatClampNeg, w.toNatClampNeg, decide (n ≠ 0), 0, 0)))
def fSep (S : List TyS) (r : Int32) : Int32 × List TyS := match lkO S r with
  | none => (0, S)
  | some R => (1, S.set r.toNatClampNeg (tPush R (none, 0, false, 0, 0)))
def fFin (S : List TyS) (r : Int32) : Int32 × List TyS := match lkO S r with
  | none => (-1, S)
  | some R => if (ly R).2.2.2 = [] then (-2, S) else if 524288 < rup (ly R).1 (ly R).2.1 then (-3, S) else (nI (rup (ly R).1 (ly R).2.1), S.set r.toNatClampNeg (tEnd R (rup (ly R).1 (ly R).2.1)))
def fSiz (S : List TyS) (t : Int32) : Int32 := match lk S t with
  | none => -1
  | some T => nI (tSz T)
def fAli (S : List TyS) (t : Int32) : Int32 := match lk S t with
  | none => -1
  | some T => nI (tAl T)
def fMbs (S : List TyS) (r : Int32) : Int32 := match lk S r with
  | none => -1
  | some T => if 3 ≤ tK T then nI (ly T).2.2.2.length else -1
def fMbr (S : List TyS) (r k w : Int32) : Int32 := match lk S r with
  | none => -1
  | some T => if 3 ≤ tK T then match lk (ly T).2.2.2 k with
      | none => -1
      | some m => if w = 0 then nI m.1 else if w = 1 then nI m.2.1 else if w = 2 then nI m.2.2.1 else if w = 3 then nI m.2.2.2 else -1
    else -1
/-- what holds of one type, after at most N calls -/
def wfT (N : Nat) (T : TyS) : Prop := tK T ≤ 4 ∧ tTo T < 300 ∧ tLn T ≤ 524288 ∧ tSz T ≤ 524288 ∧ tAl T ≤ 4 ∧ (tAd T).length ≤ N ∧ (tK T < 3 → tAd T = []) ∧
  (3 ≤ tK T → tAl T = (ly T).2.1 ∧ (ly T).1 ≤ 524288 ∧ (ly T).2.2.2.length ≤ 100 ∧ ∀ p k, (ly T).2.2.1 = some (p, k) → k ≤ 32 ∧ 1 ≤ k ∧ p + 4 ≤ (ly T).1 ∧ 4 ≤ (ly T).2.1)
/-- what was added speaks of types that are there -/
def adOK (S : List TyS) (a : AdS) : Prop := a.2.1 ≤ 32 ∧ ∀ t, a.1 = some t → t < 300 ∧ (a.2.1 = 0 → ∃ T, S[t]? = some T ∧ tSz T = a.2.2.2.1 ∧ tAl T = a.2.2.2.2 ∧ tSz T ≠ 0)
def wfS (N : Nat) (S : List TyS) : Prop := 11 ≤ S.length ∧ S.length ≤ 300 ∧ ∀ k T, S[k]? = some T → wfT N T ∧ (tSz T ≠ 0 ↔ (0 < k ∧ (tK T < 3 ∨ tFi T = true))) ∧ ∀ a ∈ tAd T, adOK S a
/-! the cells of lists in a world that changes elsewhere -/
def ext (h h' : Nat → Option va_E) : Prop := ∀ q e, h q = some e → h' q = some e
theorem ext_new {h : Nat → Option va_E} {q : Nat} {e : va_E} (hq : h q = none) : ext h (wu h q e) := fun z e' hz => (wu_n (ne_n hz hq)).trans hz
theorem ext_rf (h : Nat → Option va_E) : ext h h := fun _ _ z => z
theorem ext_tr {h h1 h2 : Nat → Option va_E} (a : ext h h1) (b : ext h1 h2) : ext h h2 := fun q e z => b q e (a q e z)
theorem ext_re {h : Nat → Option va_E} {q : Nat} {e : va_E} {h0 : Nat → Option va_E} (h1 : ext h0 h) (hq : h0 q = none) : ext h0 (wu h q e) := fun z e' hz => (wu_n (ne_n hz hq)).trans (h1 z e' hz)
/-- lists, arrays and objects stay what they are, though objects may change within their class -/
def kp (g : GG) (h h' : Nat → Option va_E) : Prop := (∀ q e, h q = some e → ((∃ x, e = .inl x) ∨ ∃ fs, e = .inr (0, fs)) → h' q = some e) ∧ (∀ q, isE h q → isE h' q) ∧ h' (gZ g) = none
theorem kp_ext {g : GG} {h h' : Nat → Option va_E} (he : ext h h') (hz : h' (gZ g) = none) : kp g h h' := ⟨fun q e a _ => he q e a, fun q ⟨ci, fs, a, b, c⟩ => ⟨ci, fs, he _ _ a, b, c⟩, hz⟩
theorem kp_obj {g : GG} {h h' : Nat → Option va_E} {a ci cj : Nat} {fs gs : List Value} (ha : h a = some (.inr (ci, fs))) (h1 : 1 ≤ ci) (ha' : h' a = some (.inr (cj, gs))) (h2 : 1 ≤ cj) (h3 : cj < 8) (hf : ∀ q, q ≠ a → h' q = h q) (hz : h' (gZ g) = none) : kp g h h' := by
  refine ⟨fun q e hq hk => ?_, fun q hq => ?_, hz⟩
  · rw [hf q]
    · exact hq
    · rcases hk with ⟨x, rfl⟩ | ⟨fs', rfl⟩
      · exact ne_e hq ha ne_lr
      · exact ne_e hq ha (ne_c (by omega))
  · by_cases c : q = a
    · subst c
      exact ⟨cj, gs, ha', h2, h3⟩
    · obtain ⟨ck, hs, z1, z2, z3⟩ := hq
      exact ⟨ck, hs, (hf q c).trans z1, z2, z3⟩
theorem AL_kp {g : GG} {h h' : Nat → Option va_E} {a arr : Nat} {xs : List Nat} (hk : kp g h h') (hL : AL g h a arr xs) : AL g h' a arr xs := by
  obtain ⟨⟨mc, h1⟩, h2, h3⟩ := hL
  refine ⟨⟨mc, hk.1 _ _ h1 (Or.inr ⟨_, rfl⟩)⟩, fun x hx => hk.2.1 x (h2 x hx), ?_⟩
  rcases h3 with ⟨cap, f, z1, z2⟩ | ⟨z1, z2, z3⟩
  · exact Or.inl ⟨cap, f, hk.1 _ _ z1 (Or.inl ⟨_, rfl⟩), z2⟩
  · exact Or.inr ⟨z1, hk.2.2, z3⟩
theorem AL_none {g : GG} {h : Nat → Option va_E} {a arr : Nat} {xs : List Nat} (hL : AL g h a arr xs) (hn : h arr = none) : arr = gZ g := by
  obtain ⟨-, -, h3⟩ := hL
  rcases h3 with ⟨cap, f, z1, z2⟩ | ⟨z1, -⟩
  · rw [hn] at z1; cases z1
  · exact z1
/-- behind an add to the list kl: another list -/
theorem AL_frame {g : GG} {h h' : Nat → Option va_E} {kl ka ka' b br : Nat} {xs ys : List Nat} (hL : AL g h kl ka xs) (hb : AL g h b br ys) (h1 : b ≠ kl) (h2 : br = ka → br = gZ g) (h3 : ka' = ka ∨ h ka' = none) (h4 : ∀ q, q ≠ kl → q ≠ ka' → h' q = h q) (hz0 : h (gZ g) = none) (hz : h' (gZ g) = none) : AL g h' b br ys := by
  have hr : h ka' = none ∨ ∃ z, h ka' = some (.inl z) := by
    rcases h3 with h3 | h3
    · subst h3; exact AL_arr hL
    · exact Or.inl h3
  obtain ⟨⟨mc, k0⟩, -, -⟩ := id hL
  obtain ⟨⟨mb, b0⟩, bE, bA⟩ := hb
  refine ⟨⟨mb, ?_⟩, fun x hx => isE_frame (bE x hx) h4 k0 hr, ?_⟩
  · rw [h4 b h1 (hr.elim (fun z => ne_n b0 z) (fun z => ne_e b0 z.choose_spec ne_rl))]
    exact b0
  · rcases bA with ⟨cap, f, z1, z2⟩ | ⟨z1, z2, z3⟩
    · refine Or.inl ⟨cap, f, ?_, z2⟩
      rw [h4 br (ne_e z1 k0 ne_lr)]
      · exact z1
      · rcases h3 with h3 | h3
        · subst h3
          intro e
          rw [h2 e, hz0] at z1
          cases z1
        · exact ne_n z1 h3
    · exact Or.inr ⟨z1, hz, z3⟩
/-- a list of things, some of which own a list -/
def REG (g : GG) (h : Nat → Option va_E) (kl ka : Nat) (ty : List Nat) (ml ma : Nat → Nat) (mb : Nat → List Nat) (has : Nat → Prop) : Prop :=
  AL g h kl ka ty ∧ ty.Nodup ∧ (∀ k, k < ty.length → has k → AL g h (ml k) (ma k) (mb k) ∧ ml k ≠ kl ∧ (ma k = ka → ma k = gZ g)) ∧
  ∀ j k, j < ty.length → k < ty.length → has j → has k → j ≠ k → ml j ≠ ml k ∧ (ma j = ma k → ma j = gZ g)
theorem REG_kp {g : GG} {h h' : Nat → Option va_E} {kl ka : Nat} {ty : List Nat} {ml ma : Nat → Nat} {mb : Nat → List Nat} {has has' : Nat → Prop} (hk : kp g h h') (hh : ∀ k, k < ty.length → has' k → has k) (hR : REG g h kl ka ty ml ma mb has) : REG g h' kl ka ty ml ma mb has' :=
  ⟨AL_kp hk hR.1, hR.2.1, fun k h1 h2 => ⟨AL_kp hk (hR.2.2.1 k h1 (hh k h1 h2)).1, (hR.2.2.1 k h1 (hh k h1 h2)).2⟩, fun j k h1 h2 h3 h4 h5 => hR.2.2.2 j k h1 h2 (hh j h1 h3) (hh k h2 h4) h5⟩
/-- a thing more -/
theorem REG_app {g : GG} {h h' : Nat → Option va_E} {kl ka ka' y : Nat} {ty : List Nat} {ml ma : Nat → Nat} {mb : Nat → List Nat} {has has' : Nat → Prop} (q : Nat) (hR : REG g h kl ka ty ml ma mb has) (hz0 : h (gZ g) = none) (hz : h' (gZ g) = none) (hy : y ∉ ty) (h3 : ka' = ka ∨ h ka' = none) (hA : AL g h' kl ka' (ty ++ [y])) (h4 : ∀ q, q ≠ kl → q ≠ ka' → h' q = h q)
    (hh : ∀ k, k < ty.length → has' k → has k) (hq : has' ty.length → AL g h q (gZ g) [] ∧ q ≠ kl ∧ ∀ k, k < ty.length → has k → q ≠ ml k) : REG g h' kl ka' (ty ++ [y]) (va_up ml ty.length q) (va_up ma ty.length (gZ g)) (va_up mb ty.length []) has' := by
  obtain ⟨r1, r2, r3, r4⟩ := hR
  refine ⟨hA, ?_, ?_, ?_⟩
  · rw [List.nodup_append]
    refine ⟨r2, by simp, ?_⟩
    intro a ha b hb e
    rw [List.mem_singleton] at hb
    subst hb
    subst e
    exact hy ha
  · intro k hk hhas
    rw [List.length_append, List.length_singleton] at hk
    by_cases c : k = ty.length
    · subst c
      rw [va_up_self, va_up_self, va_up_self]
      obtain ⟨q1, q2, q3⟩ := hq hhas
      exact ⟨AL_frame r1 q1 q2 (fun _ => rfl) h3 h4 hz0 hz, q2, fun _ => rfl⟩
    · rw [va_up_ne _ _ c, va_up_ne _ _ c, va_up_ne _ _ c]
      have hk' : k < ty.length := by omega
      obtain ⟨a1, a2, a3⟩ := r3 k hk' (hh k hk' hhas)
      refine ⟨AL_frame r1 a1 a2 a3 h3 h4 hz0 hz, a2, fun e => ?_⟩
      rcases h3 with z | z
      · exact a3 (e.trans z)
      · exact AL_none a1 (by rw [e]; exact z)
  · intro j k hj hk hhj hhk hjk
    rw [List.length_append, List.length_singleton] at hj hk
    by_cases c : j = ty.length
    · subst c
      have c2 : k ≠ ty.length := fun e => hjk e.symm
      rw [va_up_self, va_up_self, va_up_ne _ _ c2, va_up_ne _ _ c2]
      exact ⟨(hq hhj).2.2 k (by omega) (hh k (by omega) hhk), fun _ => rfl⟩
    · by_cases c2 : k = ty.length
      · subst c2
        rw [va_up_self, va_up_self, va_up_ne _ _ c, va_up_ne _ _ c]
        exact ⟨((hq hhk).2.2 j (by omega) (hh j (by omega) hhj)).symm, fun e => e⟩
      · rw [va_up_ne _ _ c, va_up_ne _ _ c, va_up_ne _ _ c2, va_up_ne _ _ c2]
        exact r4 j k (by omega) (by omega) (hh j (by omega) hhj) (hh k (by omega) hhk) hjk
/-- an item more in the list of one thing -/
theorem REG_item {g : GG} {h h' : Nat → Option va_E} {kl ka m' r : Nat} {ty : List Nat} {ml ma : Nat → Nat} {mb : Nat → List Nat} {has : Nat → Prop} {zs : List Nat} (hR : REG g h kl ka ty ml ma mb has) (hr : r < ty.length) (hhas : has r) (h3 : m' = ma r ∨ h m' = none) (hA : AL g h' (ml r) m' zs) (h4 : ∀ q, q ≠ ml r → q ≠ m' → h' q = h q) (hz0 : h (gZ g) = none) (hz : h' (gZ g) = none) : REG g h' kl ka ty ml (va_up ma r m') (va_up mb r zs) has := by
  obtain ⟨r1, r2, r3, r4⟩ := hR
  obtain ⟨a1, a2, a3⟩ := r3 r hr hhas
  refine ⟨AL_frame a1 r1 a2.symm (fun e => e.trans (a3 e.symm)) h3 h4 hz0 hz, r2, ?_, ?_⟩
  · intro k hk hh
    by_cases c : k = r
    · subst c
      rw [va_up_self, va_up_self]
      refine ⟨hA, a2, fun e => ?_⟩
      rcases h3 with z | z
      · exact z.trans (a3 (z.symm.trans e))
      · exact e.trans (AL_none r1 (by rw [← e]; exact z))
    · rw [va_up_ne _ _ c, va_up_ne _ _ c]
      obtain ⟨b1, b2, b3⟩ := r3 k hk hh
      exact ⟨AL_frame a1 b1 (r4 k r hk hr hh hhas c).1 (r4 k r hk hr hh hhas c).2 h3 h4 hz0 hz, b2, b3⟩
  · intro j k hj hk hhj hhk hjk
    by_cases c : j = r
    · subst c
      have c2 : k ≠ j := fun e => hjk e.symm
      rw [va_up_self, va_up_ne _ _ c2]
      refine ⟨(r4 j k hj hk hhj hhk hjk).1, fun e => ?_⟩
      rcases h3 with z | z
      · exact z.trans ((r4 j k hj hk hhj hhk hjk).2 (z.symm.trans e))
      · exact e.trans (AL_none (r3 k hk hhk).1 (by rw [← e]; exact z))
    · by_cases c2 : k = r
      · subst c2
        rw [va_up_self, va_up_ne _ _ c]
        refine ⟨(r4 j k hj hk hhj hhk hjk).1, fun e => ?_⟩
        rcases h3 with z | z
        · exact (r4 j k hj hk hhj hhk hjk).2 (e.trans z)
        · exact AL_none (r3 j hj hhj).1 (by rw [e]; exact z)
      · rw [va_up_ne _ _ c, va_up_ne _ _ c2]
        exact r4 j k hj hk hhj hhk hjk
/-! the desk's cells -/
def uOK (un : Bool) (u : Option (Nat × Nat)) (up fb : Int32) : Prop := (un = true ∧ fb = 0) ∨ (un = false ∧ u = none ∧ fb = 0) ∨ ∃ p k, un = false ∧ u = some (p, k) ∧ up = nI p ∧ fb = nI (32 - k)
def cX (h : Nat → Option va_E) (a : Nat) (T : TyS) (ml : Nat) (mb : List Nat) : Prop :=
  (tK T < 3 ∧ h a = some (oSi (nI (tSz T)) (nI (tAl T)) (nI (tK T)) (if tK T = 0 then -1 else nI (tTo T)) (nI (tLn T)))) ∨
  (3 ≤ tK T ∧ (∃ up fb : Int32, h a = some (oCo (nI (tSz T)) (nI (tAl T)) (if tK T = 4 then 1 else 0) ml (if tFi T = true then 0 else 1) (nI (ly T).1) up fb) ∧ uOK (tK T == 4) (ly T).2.2.1 up fb) ∧ mb.length = (ly T).2.2.2.length ∧ ∀ (j y : Nat) (m : Nat × Nat × Nat × Nat), mb[j]? = some y → (ly T).2.2.2[j]? = some m → h y = some (oMb (nI m.1) (nI m.2.1) (nI m.2.2.1) (nI m.2.2.2)))
theorem cX_keep {h h' : Nat → Option va_E} {a : Nat} {T : TyS} {ml : Nat} {mb : List Nat} (hc : cX h a T ml mb) (h1 : h' a = h a) (h2 : ∀ y pl t lo wi, h y = some (oMb pl t lo wi) → h' y = h y) : cX h' a T ml mb := by
  rcases hc with ⟨z1, z2⟩ | ⟨z1, ⟨up, fb, z2, z3⟩, z4, z5⟩
  · exact Or.inl ⟨z1, h1.trans z2⟩
  · exact Or.inr ⟨z1, ⟨up, fb, h1.trans z2, z3⟩, z4, fun j y m hj hm => (h2 y _ _ _ _ (z5 j y m hj hm)).trans (z5 j y m hj hm)⟩
theorem cX_ty {h : Nat → Option va_E} {a : Nat} {T : TyS} {ml : Nat} {mb : List Nat} (hc : cX h a T ml mb) : isTy h a := by
  rcases hc with ⟨z1, z2⟩ | ⟨z1, ⟨up, fb, z2, z3⟩, z4, z5⟩
  · exact Or.inr ⟨_, _, _, _, _, z2⟩
  · exact Or.inl ⟨_, _, _, _, _, _, _, _, z2⟩
def recd (S : List TyS) (k : Nat) : Prop := ∃ T, S[k]? = some T ∧ 3 ≤ tK T
def DR0 (g : GG) (h : Nat → Option va_E) (x : Nat) (S : List TyS) (kl ka : Nat) (ty : List Nat) (ml ma : Nat → Nat) (mb : Nat → List Nat) : Prop :=
  h x = some (oDk kl) ∧ h (gZ g) = none ∧ REG g h kl ka ty ml ma mb (recd S) ∧ ty.length = S.length ∧ ∀ k T a, S[k]? = some T → ty[k]? = some a → cX h a T (ml k) (mb k)
def DR (g : GG) (h : Nat → Option va_E) (x : Nat) (S : List TyS) : Prop := ∃ (kl ka : Nat) (ty : List Nat) (ml ma : Nat → Nat) (mb : Nat → List Nat), DR0 g h x S kl ka ty ml ma mb
theorem DR_ext {g : GG} {h h' : Nat → Option va_E} {x : Nat} {S : List TyS} {kl ka : Nat} {ty : List Nat} {ml ma : Nat → Nat} {mb : Nat → List Nat} (hR : DR0 g h x S kl ka ty ml ma mb) (he : ext h h') (hz : h' (gZ g) = none) : DR0 g h' x S kl ka ty ml ma mb := by
  obtain ⟨r1, r2, r3, r4, r5⟩ := hR
  refine ⟨he _ _ r1, hz, REG_kp (kp_ext he hz) (fun _ _ z => z) r3, r4, fun k T a h1 h2 => ?_⟩
  have hc := r5 k T a h1 h2
  refine cX_keep hc ?_ (fun y pl t lo wi hy => (he _ _ hy).trans hy.symm)
  rcases cX_ty hc with ⟨b0, b1, b2, b3, b4, b5, b6, b7, z⟩ | ⟨b0, b1, b2, b3, b4, z⟩
  · exact (he _ _ z).trans z.symm
  · exact (he _ _ z).trans z.symm
/-- every type's cell is one -/
theorem DR_ty {g : GG} {h : Nat → Option va_E} {x : Nat} {S : List TyS} {kl ka : Nat} {ty : List Nat} {ml ma : Nat → Nat} {mb : Nat → List Nat} (hR : DR0 g h x S kl ka ty ml ma mb) : ∀ a ∈ ty, isTy h a := by
  intro a ha
  obtain ⟨k, hk⟩ := List.mem_iff_getElem?.mp ha
  have hl := (List.getElem?_eq_some_iff.mp hk).1
  obtain ⟨r1, r2, r3, r4, r5⟩ := hR
  have hs : S[k]? = some S[k] := List.getElem?_eq_getElem (by omega)
  exact cX_ty (r5 k _ a hs hk)
theorem DR_lk {g : GG} {h : Nat → Option va_E} {x : Nat} {S : List TyS} {kl ka : Nat} {ty : List Nat} {ml ma : Nat → Nat} {mb : Nat → List Nat} (hR : DR0 g h x S kl ka ty ml ma mb) {t : Int32} {T : TyS} (ht : lk S t = some T) : ∃ a, lk ty t = some a ∧ ty[t.toNatClampNeg]? = some a ∧ S[t.toNatClampNeg]? = some T ∧ cX h a T (ml t.toNatClampNeg) (mb t.toNatClampNeg) := by
  obtain ⟨h0, h1⟩ := lk_ofS ht
  have hl := (List.getElem?_eq_some_iff.mp h1).1
  obtain ⟨r1, r2, r3, r4, r5⟩ := hR
  have hk : ty[t.toNatClampNeg]? = some (ty[t.toNatClampNeg]'(by omega)) := List.getElem?_eq_getElem (by omega)
  refine ⟨_, ?_, hk, h1, r5 _ T _ h1 hk⟩
  unfold lk
  rw [if_neg h0]
  exact hk
theorem DR_lkN {g : GG} {h : Nat → Option va_E} {x : Nat} {S : List TyS} {kl ka : Nat} {ty : List Nat} {ml ma : Nat → Nat} {mb : Nat → List Nat} (hR : DR0 g h x S kl ka ty ml ma mb) {t : Int32} (ht : lk S t = none) : lk ty t = none := by
  unfold lk at ht ⊢
  by_cases c : t < 0
  · rw [if_pos c]
  · rw [if_neg c] at ht ⊢
    rw [List.getElem?_eq_none_iff] at ht ⊢
    rw [hR.2.2.2.1]
    exact ht
/-- a type more: it stands at y, its list at q -/
theorem DR_app {g : GG} {h h' : Nat → Option va_E} {x : Nat} {S : List TyS} {kl ka ka' y : Nat} {ty : List Nat} {ml ma : Nat → Nat} {mb : Nat → List Nat} {T : TyS} (q : Nat) (hR : DR0 g h x S kl ka ty ml ma mb) (hz : h' (gZ g) = none) (hy : y ∉ ty) (hc : cX h y T q []) (hq : 3 ≤ tK T → AL g h q (gZ g) [] ∧ q ≠ kl ∧ ∀ k, k < ty.length → recd S k → q ≠ ml k)
    (h3 : ka' = ka ∨ h ka' = none) (hA : AL g h' kl ka' (ty ++ [y])) (h4 : ∀ q, q ≠ kl → q ≠ ka' → h' q = h q) : DR0 g h' x (S ++ [T]) kl ka' (ty ++ [y]) (va_up ml S.length q) (va_up ma S.length (gZ g)) (va_up mb S.length []) := by
  obtain ⟨r1, r2, r3, r4, r5⟩ := hR
  obtain ⟨⟨mc, k0⟩, -, -⟩ := id r3.1
  have hr : h ka' = none ∨ ∃ z, h ka' = some (.inl z) := by
    rcases h3 with h3 | h3
    · subst h3; exact AL_arr r3.1
    · exact Or.inl h3
  have keep : ∀ z ci fs, h z = some (.inr (ci, fs)) → ci ≠ 0 → h' z = h z := fun z ci fs hz0 hci => h4 z (ne_e hz0 k0 (ne_c hci)) (hr.elim (fun w => ne_n hz0 w) (fun w => ne_e hz0 w.choose_spec ne_rl))
  have keepT : ∀ a, isTy h a → h' a = h a := by
    intro a ha
    rcases ha with ⟨b0, b1, b2, b3, b4, b5, b6, b7, z⟩ | ⟨b0, b1, b2, b3, b4, z⟩
    · exact keep a _ _ z (by decide)
    · exact keep a _ _ z (by decide)
  refine ⟨(keep x _ _ r1 (by decide)).trans r1, hz, ?_, by rw [List.length_append, List.length_append, r4]; rfl, ?_⟩
  · rw [← r4]
    refine REG_app q r3 r2 hz hy h3 hA h4 ?_ ?_
    · rintro k hk ⟨T', hT, hT3⟩
      rw [List.getElem?_append_left (by omega)] at hT
      exact ⟨T', hT, hT3⟩
    · rintro ⟨T', hT, hT3⟩
      rw [r4, List.getElem?_append_right (Nat.le_refl _), Nat.sub_self] at hT
      cases hT
      exact hq hT3
  · intro k T' a h1 h2
    by_cases c : k < S.length
    · rw [List.getElem?_append_left c] at h1
      rw [List.getElem?_append_left (by omega)] at h2
      rw [va_up_ne _ _ (by omega), va_up_ne _ _ (by omega)]
      have hcx := r5 k T' a h1 h2
      exact cX_keep hcx (keepT a (cX_ty hcx)) (fun y pl t lo wi hy => keep y _ _ hy (by decide))
    · rw [List.getElem?_append_right (by omega)] at h1
      rw [List.getElem?_append_right (by omega)] at h2
      have e1 : k = S.length := by
        have := (List.getElem?_eq_some_iff.mp h1).1
        simp at this
        omega
      subst e1
      rw [Nat.sub_self] at h1
      rw [r4, Nat.sub_self] at h2
      cases h1
      cases h2
      rw [va_up_self, va_up_self]
      exact cX_keep hc (keepT y (cX_ty hc)) (fun y pl t lo wi hy => keep y _ _ hy (by decide))
/-- a record's cell is written -/
theorem DR_set {g : GG} {h h' : Nat → Option va_E} {x : Nat} {S : List TyS} {kl ka : Nat} {ty : List Nat} {ml ma : Nat → Nat} {mb : Nat → List Nat} {r a : Nat} {T T' : TyS} {fs gs : List Value} (hR : DR0 g h x S kl ka ty ml ma mb) (hz : h' (gZ g) = none) (hS : S[r]? = some T) (ha : ty[r]? = some a) (hT : 3 ≤ tK T) (h1 : h a = some (.inr (1, fs))) (h2 : h' a = some (.inr (1, gs))) (hf : ∀ q, q ≠ a → h' q = h q) (hc : cX h' a T' (ml r) (mb r)) : DR0 g h' x (S.set r T') kl ka ty ml ma mb := by
  obtain ⟨r1, r2, r3, r4, r5⟩ := hR
  have hrl : r < S.length := (List.getElem?_eq_some_iff.mp hS).1
  refine ⟨(hf x (ne_e r1 h1 (ne_c (by decide)))).trans r1, hz, REG_kp (kp_obj h1 (by decide) h2 (by decide) (by decide) hf hz) ?_ r3, by rw [List.length_set]; exact r4, ?_⟩
  · rintro k hk ⟨T2, e1, e2⟩
    by_cases c : r = k
    · subst c
      exact ⟨T, hS, hT⟩
    · rw [List.getElem?_set_ne c] at e1
      exact ⟨T2, e1, e2⟩
  · intro k T2 b e1 e2
    by_cases c : r = k
    · subst c
      rw [List.getElem?_set_self hrl] at e1
      cases e1
      rw [ha] at e2
      cases e2
      exact hc
    · rw [List.getElem?_set_ne c] at e1
      have hne : b ≠ a := fun e => by
        subst e
        exact c ((List.getElem?_inj (by omega) r3.2.1).mp (ha.trans e2.symm))
      exact cX_keep (r5 k T2 b e1 e2) (hf b hne) (fun y pl t lo wi hy => hf y (ne_e hy h1 (ne_c (by decide))))
/-- a record's cell is written, and it has a member more -/
theorem DR_add {g : GG} {h h' : Nat → Option va_E} {x : Nat} {S : List TyS} {kl ka : Nat} {ty : List Nat} {ml ma : Nat → Nat} {mb : Nat → List Nat} {r a y m' : Nat} {T T' : TyS} {fs gs : List Value} (hR : DR0 g h x S kl ka ty ml ma mb) (hz : h' (gZ g) = none) (hS : S[r]? = some T) (ha : ty[r]? = some a) (hT : 3 ≤ tK T) (h1 : h a = some (.inr (1, fs))) (h2 : h' a = some (.inr (1, gs))) (hy : h y = none) (hy' : isE h' y) (h3 : m' = ma r ∨ h m' = none) (hA : AL g h' (ml r) m' (mb r ++ [y])) (hf : ∀ q, q ≠ a → q ≠ y → q ≠ ml r → q ≠ m' → h' q = h q) (hc : cX h' a T' (ml r) (mb r ++ [y])) : DR0 g h' x (S.set r T') kl ka ty ml (va_up ma r m') (va_up mb r (mb r ++ [y])) := by
  obtain ⟨r1, r2, r3, r4, r5⟩ := hR
  have hrl : r < S.length := (List.getElem?_eq_some_iff.mp hS).1
  obtain ⟨cy, ys, y1, y2, y3⟩ := hy'
  have hrec : recd S r := ⟨T, hS, hT⟩
  obtain ⟨m1, m2, m3⟩ := r3.2.2.1 r (by omega) hrec
  obtain ⟨⟨mc, k0⟩, -, -⟩ := id m1
  have hr : h m' = none ∨ ∃ z, h m' = some (.inl z) := by
    rcases h3 with h3 | h3
    · rw [h3]; exact AL_arr m1
    · exact Or.inl h3
  have nya : y ≠ a := (ne_n h1 hy).symm
  have nyz : y ≠ gZ g := ne_n y1 hz
  have naz : a ≠ gZ g := ne_n h1 r2
  have nym : y ≠ m' := (AL_arr hA).elim (fun z => ne_n y1 z) (fun z => ne_e y1 z.choose_spec ne_rl)
  have nam : a ≠ m' := (AL_arr hA).elim (fun z => ne_n h2 z) (fun z => ne_e h2 z.choose_spec ne_rl)
  have keep : ∀ z ci gs, h z = some (.inr (ci, gs)) → ci ≠ 0 → z ≠ a → h' z = h z := fun z ci gs hz0 hci hza => hf z hza (ne_n hz0 hy) (ne_e hz0 k0 (ne_c hci)) (hr.elim (fun w => ne_n hz0 w) (fun w => ne_e hz0 w.choose_spec ne_rl))
  have hya : wu h a (.inr (1, gs)) y = none := (wu_n nya).trans hy
  have kp1 : kp g h (wu h a (.inr (1, gs))) := kp_obj h1 (by decide) (wu_s _ _ _) (by decide) (by decide) (fun q hq => wu_n hq) ((wu_n naz.symm).trans r2)
  have hz1 : wu (wu h a (.inr (1, gs))) y (.inr (cy, ys)) (gZ g) = none := (wu_n nyz.symm).trans ((wu_n naz.symm).trans r2)
  have kp2 : kp g (wu h a (.inr (1, gs))) (wu (wu h a (.inr (1, gs))) y (.inr (cy, ys))) := kp_ext (ext_new hya) hz1
  have hR1 : REG g (wu (wu h a (.inr (1, gs))) y (.inr (cy, ys))) kl ka ty ml ma mb (recd (S.set r T')) := by
    refine REG_kp kp2 (fun _ _ z => z) (REG_kp kp1 ?_ r3)
    rintro k hk ⟨T2, e1, e2⟩
    by_cases c : r = k
    · subst c
      exact hrec
    · rw [List.getElem?_set_ne c] at e1
      exact ⟨T2, e1, e2⟩
  have hfr : ∀ q, q ≠ ml r → q ≠ m' → h' q = wu (wu h a (.inr (1, gs))) y (.inr (cy, ys)) q := by
    intro q e1 e2
    by_cases c1 : q = y
    · subst c1
      rw [wu_s]
      exact y1
    · rw [wu_n c1]
      by_cases c2 : q = a
      · subst c2
        rw [wu_s]
        exact h2
      · rw [wu_n c2]
        exact hf q c2 c1 e1 e2
  have h3' : m' = ma r ∨ wu (wu h a (.inr (1, gs))) y (.inr (cy, ys)) m' = none := by
    rcases h3 with h3 | h3
    · exact Or.inl h3
    · exact Or.inr ((wu_n nym.symm).trans ((wu_n nam.symm).trans h3))
  have hTT : 3 ≤ tK T' := by
    rcases hc with ⟨z1, z2⟩ | ⟨z1, -⟩
    · rw [h2] at z2
      cases z2
    · exact z1
  refine ⟨(keep x _ _ r1 (by decide) (ne_e r1 h1 (ne_c (by decide)))).trans r1, hz, REG_item hR1 (by omega) ⟨T', List.getElem?_set_self hrl, hTT⟩ h3' hA hfr hz1 hz, by rw [List.length_set]; exact r4, ?_⟩
  intro k T2 b e1 e2
  by_cases c : r = k
  · subst c
    rw [List.getElem?_set_self hrl] at e1
    cases e1
    rw [ha] at e2
    cases e2
    rw [va_up_self]
    exact hc
  · rw [List.getElem?_set_ne c] at e1
    have hne : b ≠ a := fun e => by
      subst e
      exact c ((List.getElem?_inj (by omega) r3.2.1).mp (ha.trans e2.symm))
    have hcb := r5 k T2 b e1 e2
    rw [va_up_ne _ _ (fun e => c e.symm)]
    refine cX_keep hcb ?_ (fun y pl t lo wi hy => keep y _ _ hy (by decide) (ne_e hy h1 (ne_c (by decide))))
    rcases cX_ty hcb with ⟨b0, b1, b2, b3, b4, b5, b6, b7, z⟩ | ⟨b0, b1, b2, b3, b4, z⟩
    · exact keep b _ _ z (by decide) hne
    · exact keep b _ _ z (by decide) hne
end
section
/-! finding a type; switches -/
theorem sw4 {w : Int32} (h0 : ¬ w = 0) (h1 : ¬ w = 1) (h2 : ¬ w = 2) (h3 : ¬ w = 3) : w.toInt < 0 ∨ 3 < w.toInt := by
  have a0 := lv_neT h0 (show (0 : Int32).toInt = 0 by decide)
  have a1 := lv_neT h1 (show (1 : Int32).toInt = 1 by decide)
  have a2 := lv_neT h2 (show (2 : Int32).toInt = 2 by decide)
  have a3 := lv_neT h3 (show (3 : Int32).toInt = 3 by decide)
  omega
theorem mt_iff {h : Nat → Option va_E} {a : Nat} {T : TyS} {ml : Nat} {mb : List Nat} {N k to_ ln : Nat} (hc : cX h a T ml mb) (hw : wfT N T) (hk : k = 1 ∨ k = 2) (h1 : to_ < 2 ^ 31) (h2 : ln < 2 ^ 31) : mt h (nI k) (nI to_) (nI ln) a ↔ (tK T = k ∧ tTo T = to_ ∧ tLn T = ln) := by
  obtain ⟨w1, w2, w3, -⟩ := hw
  constructor
  · rintro ⟨b0, b1, hz⟩
    rcases hc with ⟨z1, z2⟩ | ⟨z1, ⟨up, fb, z2, z3⟩, -⟩
    · have e := Option.some.inj (hz.symm.trans z2)
      simp only [Sum.inr.injEq, Prod.mk.injEq, List.cons.injEq, Value.int.injEq, and_true, true_and] at e
      obtain ⟨-, -, e1, e2, e3⟩ := e
      have k1 : k = tK T := (nI_eq (by omega) (by omega)).mp e1
      rw [if_neg (by omega)] at e2
      exact ⟨k1.symm, ((nI_eq h1 (by omega)).mp e2).symm, ((nI_eq h2 (by omega)).mp e3).symm⟩
    · rw [hz] at z2
      cases z2
  · rintro ⟨e1, e2, e3⟩
    rcases hc with ⟨z1, z2⟩ | ⟨z1, -⟩
    · refine ⟨nI (tSz T), nI (tAl T), ?_⟩
      rw [z2, if_neg (by omega), e1, e2, e3]
    · omega
theorem DR_fndS {g : GG} {h : Nat → Option va_E} {x : Nat} {S : List TyS} {kl ka : Nat} {ty : List Nat} {ml ma : Nat → Nat} {mb : Nat → List Nat} {N k to_ ln i : Nat} (hR : DR0 g h x S kl ka ty ml ma mb) (hS : wfS N S) (hk : k = 1 ∨ k = 2) (h1 : to_ < 2 ^ 31) (h2 : ln < 2 ^ 31) (hi : i < ty.length) (hm : ∃ a, ty[i]? = some a ∧ mt h (nI k) (nI to_) (nI ln) a) (hn : ∀ j, j < i → ∀ a, ty[j]? = some a → ¬ mt h (nI k) (nI to_) (nI ln) a) : fnd S k to_ ln = some i := by
  obtain ⟨r1, r2, r3, r4, r5⟩ := hR
  unfold fnd
  rw [List.findIdx?_eq_some_iff_getElem]
  refine ⟨by omega, ?_, ?_⟩
  · obtain ⟨a, e1, e2⟩ := hm
    have hs : S[i]? = some (S[i]'(by omega)) := List.getElem?_eq_getElem (by omega)
    exact decide_eq_true ((mt_iff (r5 i _ a hs e1) (hS.2.2 i _ hs).1 hk h1 h2).mp e2)
  · intro j hj
    have hs : S[j]? = some (S[j]'(by omega)) := List.getElem?_eq_getElem (by omega)
    have ht : ty[j]? = some (ty[j]'(by omega)) := List.getElem?_eq_getElem (by omega)
    intro z
    exact hn j hj _ ht ((mt_iff (r5 j _ _ hs ht) (hS.2.2 j _ hs).1 hk h1 h2).mpr (of_decide_eq_true z))
theorem DR_fndN {g : GG} {h : Nat → Option va_E} {x : Nat} {S : List TyS} {kl ka : Nat} {ty : List Nat} {ml ma : Nat → Nat} {mb : Nat → List Nat} {N k to_ ln : Nat} (hR : DR0 g h x S kl ka ty ml ma mb) (hS : wfS N S) (hk : k = 1 ∨ k = 2) (h1 : to_ < 2 ^ 31) (h2 : ln < 2 ^ 31) (hn : ∀ j a : Nat, ty[j]? = some a → ¬ mt h (nI k) (nI to_) (nI ln) a) : fnd S k to_ ln = none := by
  obtain ⟨r1, r2, r3, r4, r5⟩ := hR
  unfold fnd
  rw [List.findIdx?_eq_none_iff]
  intro T hT
  obtain ⟨j, hs⟩ := List.mem_iff_getElem?.mp hT
  have hl := (List.getElem?_eq_some_iff.mp hs).1
  have ht : ty[j]? = some (ty[j]'(by omega)) := List.getElem?_eq_getElem (by omega)
  exact decide_eq_false (fun z => hn j _ ht ((mt_iff (r5 j _ _ hs ht) (hS.2.2 j _ hs).1 hk h1 h2).mpr z))
theorem ty_fresh {h : Nat → Option va_E} {ty : List Nat} {y : Nat} (hT : ∀ a ∈ ty, isTy h a) (hy : h y = none) : y ∉ ty := fun z => by
  rcases hT y z with ⟨b0, b1, b2, b3, b4, b5, b6, b7, e⟩ | ⟨b0, b1, b2, b3, b4, e⟩
  · rw [hy] at e; cases e
  · rw [hy] at e; cases e
end
section
/-! the desk: its public methods that read; pointer -/
theorem in_X4_types_4 : ∀ w ∈ u_ws RX4 TX4 1, w ∈ wsX4_types := by decide +kernel
set_option maxHeartbeats 4000000 in
set_option maxRecDepth 100000 in
theorem d_types (l : Launch) (g : GG) (h : Nat → Option va_E) (x : Nat) (S : List TyS) (N : Nat) (hR : DR g h x S) (hS : wfS N S) : Con l yX4_types wsX4_types 1 30 0 0 [.ref x] g h (fun v h' => v = some (.int (nI S.length)) ∧ DR g h' x S) := by
  obtain ⟨kl, ka, ty, ml, ma, mb, hR0⟩ := hR
  obtain ⟨hd, hz9, hG, hlen, -⟩ := id hR0
  have hL := hG.1
  have hn9 := AL_len hL
  obtain ⟨⟨mck, hk0⟩, -, -⟩ := id hL
  refine m_start (cc := cX4_types) (maxL := 1) (ret := (some .int)) (by decide) rfl (Nat.le_of_ble_eq_true rfl) ?_
  intro p e s m below meth c A ls hx hb hr hml hts hown hlocks hin hw hl
  have hl : lv_has ls 1 [(0, .ref x)] := hl
  have hown : s.vm.findClass RX4 = some m.cls := hown
  refine lv_aload_n hx hb dX4_types_0 rfl (lv_at hl 0 rfl) ?_
  refine w_get (ci := 4) (C := RX4) (T := TX4) (N := 1) (ref := "LayoutDesk") hx hb hts in_X4_types_4 hown hw hd rfl 0 (by decide) (hts (.fieldLink RX4 10 "LayoutDesk" "known" "Ljava/util/ArrayList;") (by decide +kernel)) (fun _ h9 => h9) rfl dX4_types_1 ?_
  refine w_call (va_runV (As := []) (rest := []) ⟨hx, hb, hml, hown, hts⟩ (c_sizeL l g h kl ka ty hL s.heap.size) (cwV 0 hts gX4_types_Jx4a65c_size_8abf5 rfl rfl rfl (by decide +kernel) ⟨Nat.le_of_ble_eq_true rfl, Nat.le_of_ble_eq_true rfl⟩) ⟨pr_blind, w_recv hw hk0 rfl, pr_of hw⟩ rfl rfl hl.1 rfl (lv_room (Nat.le_of_ble_eq_true rfl)) dX4_types_4 ⟨Nat.le_of_ble_eq_true rfl, Nat.le_of_ble_eq_true rfl⟩) hw (fun v h' H locs hp hw => ?_)
  obtain ⟨rfl, rfl⟩ := hp
  refine W.eq (g2 := F0 m 7 ls [.int (nI ty.length)]) rfl ?_
  exact r_int hx hb hr hlocks hw dX4_types_7 (Nat.le_of_ble_eq_true rfl) (Nat.le_of_ble_eq_true rfl) (⟨by rw [hlen], ⟨kl, ka, ty, ml, ma, mb, hR0⟩⟩)
set_option maxHeartbeats 4000000 in
set_option maxRecDepth 100000 in
theorem d_size_N (l : Launch) (g : GG) (h : Nat → Option va_E) (x : Nat) (S : List TyS) (N : Nat) (hR : DR g h x S) (hS : wfS N S) (t : Int32) (ht : lk S t = none) : Con l yX4_size wsX4_size 4 100 0 0 [.ref x, .int t] g h (fun v h' => v = some (.int (fSiz S t)) ∧ DR g h' x S) := by
  obtain ⟨kl, ka, ty, ml, ma, mb, hR0⟩ := hR
  obtain ⟨hd, hz9, hG, hlen, -⟩ := id hR0
  have hL := hG.1
  have hn9 := AL_len hL
  obtain ⟨⟨mck, hk0⟩, -, -⟩ := id hL
  have htn := DR_lkN hR0 ht
  refine m_start (cc := cX4_size) (maxL := 3) (ret := (some .int)) (by decide) rfl (Nat.le_of_ble_eq_true rfl) ?_
  intro p e s m below meth c A ls hx hb hr hml hts hown hlocks hin hw hl
  have hl : lv_has ls 3 [(0, .ref x), (1, .int t)] := hl
  have hown : s.vm.findClass RX4 = some m.cls := hown
  refine lv_aload_n hx hb dX4_size_0 rfl (lv_at hl 0 rfl) ?_
  refine lv_iload_n hx hb dX4_size_1 rfl (lv_at hl 1 rfl) ?_
  refine w_call (va_runV (As := [.int t]) (rest := []) ⟨hx, hb, hml, hown, hts⟩ (c_typeAt_N l g h x kl ka ty hd hL t htn s.heap.size) (cwV 1 hts gX4_size_X4_typeAt rfl rfl rfl (by decide +kernel) ⟨Nat.le_of_ble_eq_true rfl, Nat.le_of_ble_eq_true rfl⟩) ⟨pr_blind, w_recv hw hd rfl, pr_of hw⟩ rfl rfl hl.1 rfl (lv_room (Nat.le_of_ble_eq_true rfl)) dX4_size_2 ⟨Nat.le_of_ble_eq_true rfl, Nat.le_of_ble_eq_true rfl⟩) hw (fun v h' H locs hp hw => ?_)
  obtain ⟨rfl, rfl⟩ := hp
  refine W.eq (g2 := F0 m 5 ls [.null]) rfl ?_
  refine lv_astore_nN (lv' := [(2, .null), (0, .ref x), (1, .int t)]) hx hb dX4_size_5 rfl hl (by decide) rfl (fun ls hl => ?_)
  refine lv_aload_nN hx hb dX4_size_6 rfl (lv_at hl 0 rfl) ?_
  refine lv_ifnonnullN hx hb dX4_size_7 ?_
  refine lv_iconst (v := (-1)) hx hb dX4_size_10 (by decide) ?_
  refine lv_goto (tgt := 18) hx hb dX4_size_11 (by decide) ?_
  exact r_int hx hb hr hlocks hw dX4_size_18 (Nat.le_of_ble_eq_true rfl) (Nat.le_of_ble_eq_true rfl) (⟨by simp [fSiz, ht], ⟨kl, ka, ty, ml, ma, mb, hR0⟩⟩)
theorem in_X4_size_3 : ∀ w ∈ u_ws RX2 TX2 5, w ∈ wsX4_size := by decide +kernel
set_option maxHeartbeats 4000000 in
set_option maxRecDepth 100000 in
theorem d_size_S (l : Launch) (g : GG) (h : Nat → Option va_E) (x : Nat) (S : List TyS) (N : Nat) (hR : DR g h x S) (hS : wfS N S) (t : Int32) (T : TyS) (ht : lk S t = some T) (hk : tK T < 3) : Con l yX4_size wsX4_size 4 100 0 0 [.ref x, .int t] g h (fun v h' => v = some (.int (fSiz S t)) ∧ DR g h' x S) := by
  obtain ⟨kl, ka, ty, ml, ma, mb, hR0⟩ := hR
  obtain ⟨hd, hz9, hG, hlen, -⟩ := id hR0
  have hL := hG.1
  have hn9 := AL_len hL
  obtain ⟨⟨mck, hk0⟩, -, -⟩ := id hL
  obtain ⟨a, ha1, ha2, ha3, hc⟩ := DR_lk hR0 ht
  have ha : h a = some (oSi (nI (tSz T)) (nI (tAl T)) (nI (tK T)) (if tK T = 0 then -1 else nI (tTo T)) (nI (tLn T))) := by
    rcases hc with ⟨z1, z2⟩ | ⟨z1, -⟩
    · exact z2
    · exact absurd hk (by omega)
  have hT : isTy h a := cX_ty hc
  refine m_start (cc := cX4_size) (maxL := 3) (ret := (some .int)) (by decide) rfl (Nat.le_of_ble_eq_true rfl) ?_
  intro p e s m below meth c A ls hx hb hr hml hts hown hlocks hin hw hl
  have hl : lv_has ls 3 [(0, .ref x), (1, .int t)] := hl
  have hown : s.vm.findClass RX4 = some m.cls := hown
  refine lv_aload_n hx hb dX4_size_0 rfl (lv_at hl 0 rfl) ?_
  refine lv_iload_n hx hb dX4_size_1 rfl (lv_at hl 1 rfl) ?_
  refine w_call (va_runV (As := [.int t]) (rest := []) ⟨hx, hb, hml, hown, hts⟩ (c_typeAt_S l g h x kl ka ty hd hL t a ha1 hT s.heap.size) (cwV 1 hts gX4_size_X4_typeAt rfl rfl rfl (by decide +kernel) ⟨Nat.le_of_ble_eq_true rfl, Nat.le_of_ble_eq_true rfl⟩) ⟨pr_blind, w_recv hw hd rfl, pr_of hw⟩ rfl rfl hl.1 rfl (lv_room (Nat.le_of_ble_eq_true rfl)) dX4_size_2 ⟨Nat.le_of_ble_eq_true rfl, Nat.le_of_ble_eq_true rfl⟩) hw (fun v h' H locs hp hw => ?_)
  obtain ⟨rfl, rfl⟩ := hp
  refine W.eq (g2 := F0 m 5 ls [.ref a]) rfl ?_
  refine lv_astore_n (lv' := [(2, .ref a), (0, .ref x), (1, .int t)]) hx hb dX4_size_5 rfl hl (by decide) rfl (fun ls hl => ?_)
  refine lv_aload_n hx hb dX4_size_6 rfl (lv_at hl 0 rfl) ?_
  refine lv_ifnonnull (tgt := 14) hx hb dX4_size_7 (by decide) ?_
  refine lv_aload_n hx hb dX4_size_14 rfl (lv_at hl 0 rfl) ?_
  refine w_get (ci := 3) (C := RX2) (T := TX2) (N := 5) (ref := "LayoutDesk$Type") hx hb hts in_X4_size_3 hown hw ha rfl 0 (by decide) (hts (.fieldLink RX4 52 "LayoutDesk$Type" "bytes" "I") (by decide +kernel)) (fun _ h9 => h9) rfl dX4_size_15 ?_
  exact r_int hx hb hr hlocks hw dX4_size_18 (Nat.le_of_ble_eq_true rfl) (Nat.le_of_ble_eq_true rfl) (⟨by simp [fSiz, ht], ⟨kl, ka, ty, ml, ma, mb, hR0⟩⟩)
theorem in_X4_size_1 : ∀ w ∈ u_ws RX0 TX0 8, w ∈ wsX4_size := by decide +kernel
set_option maxHeartbeats 4000000 in
set_option maxRecDepth 100000 in
theorem d_size_C (l : Launch) (g : GG) (h : Nat → Option va_E) (x : Nat) (S : List TyS) (N : Nat) (hR : DR g h x S) (hS : wfS N S) (t : Int32) (T : TyS) (ht : lk S t = some T) (hk : 3 ≤ tK T) : Con l yX4_size wsX4_size 4 100 0 0 [.ref x, .int t] g h (fun v h' => v = some (.int (fSiz S t)) ∧ DR g h' x S) := by
  obtain ⟨kl, ka, ty, ml, ma, mb, hR0⟩ := hR
  obtain ⟨hd, hz9, hG, hlen, -⟩ := id hR0
  have hL := hG.1
  have hn9 := AL_len hL
  obtain ⟨⟨mck, hk0⟩, -, -⟩ := id hL
  obtain ⟨a, ha1, ha2, ha3, hc⟩ := DR_lk hR0 ht
  obtain ⟨⟨up, fb, ha, huo⟩, hml9, hmm⟩ : (∃ up fb : Int32, h a = some (oCo (nI (tSz T)) (nI (tAl T)) (if tK T = 4 then 1 else 0) (ml t.toNatClampNeg) (if tFi T = true then 0 else 1) (nI (ly T).1) up fb) ∧ uOK (tK T == 4) (ly T).2.2.1 up fb) ∧ (mb t.toNatClampNeg).length = (ly T).2.2.2.length ∧ ∀ (j y : Nat) (m : Nat × Nat × Nat × Nat), (mb t.toNatClampNeg)[j]? = some y → (ly T).2.2.2[j]? = some m → h y = some (oMb (nI m.1) (nI m.2.1) (nI m.2.2.1) (nI m.2.2.2)) := by
    rcases hc with ⟨z1, -⟩ | ⟨z1, z2⟩
    · exact absurd hk (by omega)
    · exact z2
  have hT : isTy h a := Or.inl ⟨_, _, _, _, _, _, _, _, ha⟩
  obtain ⟨hM, hmk, -⟩ := hG.2.2.1 t.toNatClampNeg (by have := (List.getElem?_eq_some_iff.mp ha2).1; omega) ⟨T, ha3, hk⟩
  obtain ⟨⟨mcm, hm0⟩, -, -⟩ := id hM
  refine m_start (cc := cX4_size) (maxL := 3) (ret := (some .int)) (by decide) rfl (Nat.le_of_ble_eq_true rfl) ?_
  intro p e s m below meth c A ls hx hb hr hml hts hown hlocks hin hw hl
  have hl : lv_has ls 3 [(0, .ref x), (1, .int t)] := hl
  have hown : s.vm.findClass RX4 = some m.cls := hown
  refine lv_aload_n hx hb dX4_size_0 rfl (lv_at hl 0 rfl) ?_
  refine lv_iload_n hx hb dX4_size_1 rfl (lv_at hl 1 rfl) ?_
  refine w_call (va_runV (As := [.int t]) (rest := []) ⟨hx, hb, hml, hown, hts⟩ (c_typeAt_S l g h x kl ka ty hd hL t a ha1 hT s.heap.size) (cwV 1 hts gX4_size_X4_typeAt rfl rfl rfl (by decide +kernel) ⟨Nat.le_of_ble_eq_true rfl, Nat.le_of_ble_eq_true rfl⟩) ⟨pr_blind, w_recv hw hd rfl, pr_of hw⟩ rfl rfl hl.1 rfl (lv_room (Nat.le_of_ble_eq_true rfl)) dX4_size_2 ⟨Nat.le_of_ble_eq_true rfl, Nat.le_of_ble_eq_true rfl⟩) hw (fun v h' H locs hp hw => ?_)
  obtain ⟨rfl, rfl⟩ := hp
  refine W.eq (g2 := F0 m 5 ls [.ref a]) rfl ?_
  refine lv_astore_n (lv' := [(2, .ref a), (0, .ref x), (1, .int t)]) hx hb dX4_size_5 rfl hl (by decide) rfl (fun ls hl => ?_)
  refine lv_aload_n hx hb dX4_size_6 rfl (lv_at hl 0 rfl) ?_
  refine lv_ifnonnull (tgt := 14) hx hb dX4_size_7 (by decide) ?_
  refine lv_aload_n hx hb dX4_size_14 rfl (lv_at hl 0 rfl) ?_
  refine w_get (ci := 1) (C := RX0) (T := TX0) (N := 8) (ref := "LayoutDesk$Type") hx hb hts in_X4_size_1 hown hw ha rfl 0 (by decide) (hts (.fieldLink RX4 52 "LayoutDesk$Type" "bytes" "I") (by decide +kernel)) (fun _ h9 => h9) rfl dX4_size_15 ?_
  exact r_int hx hb hr hlocks hw dX4_size_18 (Nat.le_of_ble_eq_true rfl) (Nat.le_of_ble_eq_true rfl) (⟨by simp [fSiz, ht], ⟨kl, ka, ty, ml, ma, mb, hR0⟩⟩)
theorem d_size (l : Launch) (g : GG) (h : Nat → Option va_E) (x : Nat) (S : List TyS) (N : Nat) (hR : DR g h x S) (hS : wfS N S) (t : Int32) : Con l yX4_size wsX4_size 4 100 0 0 [.ref x, .int t] g h (fun v h' => v = some (.int (fSiz S t)) ∧ DR g h' x S) := by
  cases ht : lk S t with
  | none => exact d_size_N l g h x S N hR hS t ht
  | some T =>
    rcases Nat.lt_or_ge (tK T) 3 with hk | hk
    · exact d_size_S l g h x S N hR hS t T ht hk
    · exact d_size_C l g h x S N hR hS t T ht hk
set_option maxHeartbeats 4000000 in
set_option maxRecDepth 100000 in
theorem d_align_N (l : Launch) (g : GG) (h : Nat → Option va_E) (x : Nat) (S : List TyS) (N : Nat) (hR : DR g h x S) (hS : wfS N S) (t : Int32) (ht : lk S t = none) : Con l yX4_align wsX4_align 4 100 0 0 [.ref x, .int t] g h (fun v h' => v = some (.int (fAli S t)) ∧ DR g h' x S) := by
  obtain ⟨kl, ka, ty, ml, ma, mb, hR0⟩ := hR
  obtain ⟨hd, hz9, hG, hlen, -⟩ := id hR0
  have hL := hG.1
  have hn9 := AL_len hL
  obtain ⟨⟨mck, hk0⟩, -, -⟩ := id hL
  have htn := DR_lkN hR0 ht
  refine m_start (cc := cX4_align) (maxL := 3) (ret := (some .int)) (by decide) rfl (Nat.le_of_ble_eq_true rfl) ?_
  intro p e s m below meth c A ls hx hb hr hml hts hown hlocks hin hw hl
  have hl : lv_has ls 3 [(0, .ref x), (1, .int t)] := hl
  have hown : s.vm.findClass RX4 = some m.cls := hown
  refine lv_aload_n hx hb dX4_align_0 rfl (lv_at hl 0 rfl) ?_
  refine lv_iload_n hx hb dX4_align_1 rfl (lv_at hl 1 rfl) ?_
  refine w_call (va_runV (As := [.int t]) (rest := []) ⟨hx, hb, hml, hown, hts⟩ (c_typeAt_N l g h x kl ka ty hd hL t htn s.heap.size) (cwV 1 hts gX4_align_X4_typeAt rfl rfl rfl (by decide +kernel) ⟨Nat.le_of_ble_eq_true rfl, Nat.le_of_ble_eq_true rfl⟩) ⟨pr_blind, w_recv hw hd rfl, pr_of hw⟩ rfl rfl hl.1 rfl (lv_room (Nat.le_of_ble_eq_true rfl)) dX4_align_2 ⟨Nat.le_of_ble_eq_true rfl, Nat.le_of_ble_eq_true rfl⟩) hw (fun v h' H locs hp hw => ?_)
  obtain ⟨rfl, rfl⟩ := hp
  refine W.eq (g2 := F0 m 5 ls [.null]) rfl ?_
  refine lv_astore_nN (lv' := [(2, .null), (0, .ref x), (1, .int t)]) hx hb dX4_align_5 rfl hl (by decide) rfl (fun ls hl => ?_)
  refine lv_aload_nN hx hb dX4_align_6 rfl (lv_at hl 0 rfl) ?_
  refine lv_ifnonnullN hx hb dX4_align_7 ?_
  refine lv_iconst (v := (-1)) hx hb dX4_align_10 (by decide) ?_
  refine lv_goto (tgt := 18) hx hb dX4_align_11 (by decide) ?_
  exact r_int hx hb hr hlocks hw dX4_align_18 (Nat.le_of_ble_eq_true rfl) (Nat.le_of_ble_eq_true rfl) (⟨by simp [fAli, ht], ⟨kl, ka, ty, ml, ma, mb, hR0⟩⟩)
theorem in_X4_align_3 : ∀ w ∈ u_ws RX2 TX2 5, w ∈ wsX4_align := by decide +kernel
set_option maxHeartbeats 4000000 in
set_option maxRecDepth 100000 in
theorem d_align_S (l : Launch) (g : GG) (h : Nat → Option va_E) (x : Nat) (S : List TyS) (N : Nat) (hR : DR g h x S) (hS : wfS N S) (t : Int32) (T : TyS) (ht : lk S t = some T) (hk : tK T < 3) : Con l yX4_align wsX4_align 4 100 0 0 [.ref x, .int t] g h (fun v h' => v = some (.int (fAli S t)) ∧ DR g h' x S) := by
  obtain ⟨kl, ka, ty, ml, ma, mb, hR0⟩ := hR
  obtain ⟨hd, hz9, hG, hlen, -⟩ := id hR0
  have hL := hG.1
  have hn9 := AL_len hL
  obtain ⟨⟨mck, hk0⟩, -, -⟩ := id hL
  obtain ⟨a, ha1, ha2, ha3, hc⟩ := DR_lk hR0 ht
  have ha : h a = some (oSi (nI (tSz T)) (nI (tAl T)) (nI (tK T)) (if tK T = 0 then -1 else nI (tTo T)) (nI (tLn T))) := by
    rcases hc with ⟨z1, z2⟩ | ⟨z1, -⟩
    · exact z2
    · exact absurd hk (by omega)
  have hT : isTy h a := cX_ty hc
  refine m_start (cc := cX4_align) (maxL := 3) (ret := (some .int)) (by decide) rfl (Nat.le_of_ble_eq_true rfl) ?_
  intro p e s m below meth c A ls hx hb hr hml hts hown hlocks hin hw hl
  have hl : lv_has ls 3 [(0, .ref x), (1, .int t)] := hl
  have hown : s.vm.findClass RX4 = some m.cls := hown
  refine lv_aload_n hx hb dX4_align_0 rfl (lv_at hl 0 rfl) ?_
  refine lv_iload_n hx hb dX4_align_1 rfl (lv_at hl 1 rfl) ?_
  refine w_call (va_runV (As := [.int t]) (rest := []) ⟨hx, hb, hml, hown, hts⟩ (c_typeAt_S l g h x kl ka ty hd hL t a ha1 hT s.heap.size) (cwV 1 hts gX4_align_X4_typeAt rfl rfl rfl (by decide +kernel) ⟨Nat.le_of_ble_eq_true rfl, Nat.le_of_ble_eq_true rfl⟩) ⟨pr_blind, w_recv hw hd rfl, pr_of hw⟩ rfl rfl hl.1 rfl (lv_room (Nat.le_of_ble_eq_true rfl)) dX4_align_2 ⟨Nat.le_of_ble_eq_true rfl, Nat.le_of_ble_eq_true rfl⟩) hw (fun v h' H locs hp hw => ?_)
  obtain ⟨rfl, rfl⟩ := hp
  refine W.eq (g2 := F0 m 5 ls [.ref a]) rfl ?_
  refine lv_astore_n (lv' := [(2, .ref a), (0, .ref x), (1, .int t)]) hx hb dX4_align_5 rfl hl (by decide) rfl (fun ls hl => ?_)
  refine lv_aload_n hx hb dX4_align_6 rfl (lv_at hl 0 rfl) ?_
  refine lv_ifnonnull (tgt := 14) hx hb dX4_align_7 (by decide) ?_
  refine lv_aload_n hx hb dX4_align_14 rfl (lv_at hl 0 rfl) ?_
  refine w_get (ci := 3) (C := RX2) (T := TX2) (N := 5) (ref := "LayoutDesk$Type") hx hb hts in_X4_align_3 hown hw ha rfl 1 (by decide) (hts (.fieldLink RX4 60 "LayoutDesk$Type" "alignment" "I") (by decide +kernel)) (fun _ h9 => h9) rfl dX4_align_15 ?_
  exact r_int hx hb hr hlocks hw dX4_align_18 (Nat.le_of_ble_eq_true rfl) (Nat.le_of_ble_eq_true rfl) (⟨by simp [fAli, ht], ⟨kl, ka, ty, ml, ma, mb, hR0⟩⟩)
theorem in_X4_align_1 : ∀ w ∈ u_ws RX0 TX0 8, w ∈ wsX4_align := by decide +kernel
set_option maxHeartbeats 4000000 in
set_option maxRecDepth 100000 in
theorem d_align_C (l : Launch) (g : GG) (h : Nat → Option va_E) (x : Nat) (S : List TyS) (N : Nat) (hR : DR g h x S) (hS : wfS N S) (t : Int32) (T : TyS) (ht : lk S t = some T) (hk : 3 ≤ tK T) : Con l yX4_align wsX4_align 4 100 0 0 [.ref x, .int t] g h (fun v h' => v = some (.int (fAli S t)) ∧ DR g h' x S) := by
  obtain ⟨kl, ka, ty, ml, ma, mb, hR0⟩ := hR
  obtain ⟨hd, hz9, hG, hlen, -⟩ := id hR0
  have hL := hG.1
  have hn9 := AL_len hL
  obtain ⟨⟨mck, hk0⟩, -, -⟩ := id hL
  obtain ⟨a, ha1, ha2, ha3, hc⟩ := DR_lk hR0 ht
  obtain ⟨⟨up, fb, ha, huo⟩, hml9, hmm⟩ : (∃ up fb : Int32, h a = some (oCo (nI (tSz T)) (nI (tAl T)) (if tK T = 4 then 1 else 0) (ml t.toNatClampNeg) (if tFi T = true then 0 else 1) (nI (ly T).1) up fb) ∧ uOK (tK T == 4) (ly T).2.2.1 up fb) ∧ (mb t.toNatClampNeg).length = (ly T).2.2.2.length ∧ ∀ (j y : Nat) (m : Nat × Nat × Nat × Nat), (mb t.toNatClampNeg)[j]? = some y → (ly T).2.2.2[j]? = some m → h y = some (oMb (nI m.1) (nI m.2.1) (nI m.2.2.1) (nI m.2.2.2)) := by
    rcases hc with ⟨z1, -⟩ | ⟨z1, z2⟩
    · exact absurd hk (by omega)
    · exact z2
  have hT : isTy h a := Or.inl ⟨_, _, _, _, _, _, _, _, ha⟩
  obtain ⟨hM, hmk, -⟩ := hG.2.2.1 t.toNatClampNeg (by have := (List.getElem?_eq_some_iff.mp ha2).1; omega) ⟨T, ha3, hk⟩
  obtain ⟨⟨mcm, hm0⟩, -, -⟩ := id hM
  refine m_start (cc := cX4_align) (maxL := 3) (ret := (some .int)) (by decide) rfl (Nat.le_of_ble_eq_true rfl) ?_
  intro p e s m below meth c A ls hx hb hr hml hts hown hlocks hin hw hl
  have hl : lv_has ls 3 [(0, .ref x), (1, .int t)] := hl
  have hown : s.vm.findClass RX4 = some m.cls := hown
  refine lv_aload_n hx hb dX4_align_0 rfl (lv_at hl 0 rfl) ?_
  refine lv_iload_n hx hb dX4_align_1 rfl (lv_at hl 1 rfl) ?_
  refine w_call (va_runV (As := [.int t]) (rest := []) ⟨hx, hb, hml, hown, hts⟩ (c_typeAt_S l g h x kl ka ty hd hL t a ha1 hT s.heap.size) (cwV 1 hts gX4_align_X4_typeAt rfl rfl rfl (by decide +kernel) ⟨Nat.le_of_ble_eq_true rfl, Nat.le_of_ble_eq_true rfl⟩) ⟨pr_blind, w_recv hw hd rfl, pr_of hw⟩ rfl rfl hl.1 rfl (lv_room (Nat.le_of_ble_eq_true rfl)) dX4_align_2 ⟨Nat.le_of_ble_eq_true rfl, Nat.le_of_ble_eq_true rfl⟩) hw (fun v h' H locs hp hw => ?_)
  obtain ⟨rfl, rfl⟩ := hp
  refine W.eq (g2 := F0 m 5 ls [.ref a]) rfl ?_
  refine lv_astore_n (lv' := [(2, .ref a), (0, .ref x), (1, .int t)]) hx hb dX4_align_5 rfl hl (by decide) rfl (fun ls hl => ?_)
  refine lv_aload_n hx hb dX4_align_6 rfl (lv_at hl 0 rfl) ?_
  refine lv_ifnonnull (tgt := 14) hx hb dX4_align_7 (by decide) ?_
  refine lv_aload_n hx hb dX4_align_14 rfl (lv_at hl 0 rfl) ?_
  refine w_get (ci := 1) (C := RX0) (T := TX0) (N := 8) (ref := "LayoutDesk$Type") hx hb hts in_X4_align_1 hown hw ha rfl 1 (by decide) (hts (.fieldLink RX4 60 "LayoutDesk$Type" "alignment" "I") (by decide +kernel)) (fun _ h9 => h9) rfl dX4_align_15 ?_
  exact r_int hx hb hr hlocks hw dX4_align_18 (Nat.le_of_ble_eq_true rfl) (Nat.le_of_ble_eq_true rfl) (⟨by simp [fAli, ht], ⟨kl, ka, ty, ml, ma, mb, hR0⟩⟩)
theorem d_align (l : Launch) (g : GG) (h : Nat → Option va_E) (x : Nat) (S : List TyS) (N : Nat) (hR : DR g h x S) (hS : wfS N S) (t : Int32) : Con l yX4_align wsX4_align 4 100 0 0 [.ref x, .int t] g h (fun v h' => v = some (.int (fAli S t)) ∧ DR g h' x S) := by
  cases ht : lk S t with
  | none => exact d_align_N l g h x S N hR hS t ht
  | some T =>
    rcases Nat.lt_or_ge (tK T) 3 with hk | hk
    · exact d_align_S l g h x S N hR hS t T ht hk
    · exact d_align_C l g h x S N hR hS t T ht hk
set_option maxHeartbeats 4000000 in
set_option maxRecDepth 100000 in
theorem d_members_N (l : Launch) (g : GG) (h : Nat → Option va_E) (x : Nat) (S : List TyS) (N : Nat) (hR : DR g h x S) (hS : wfS N S) (r : Int32) (ht : lk S r = none) : Con l yX4_members wsX4_members 5 130 0 0 [.ref x, .int r] g h (fun v h' => v = some (.int (fMbs S r)) ∧ DR g h' x S) := by
  obtain ⟨kl, ka, ty, ml, ma, mb, hR0⟩ := hR
  obtain ⟨hd, hz9, hG, hlen, -⟩ := id hR0
  have hL := hG.1
  have hn9 := AL_len hL
  obtain ⟨⟨mck, hk0⟩, -, -⟩ := id hL
  have htn := DR_lkN hR0 ht
  refine m_start (cc := cX4_members) (maxL := 3) (ret := (some .int)) (by decide) rfl (Nat.le_of_ble_eq_true rfl) ?_
  intro p e s m below meth c A ls hx hb hr hml hts hown hlocks hin hw hl
  have hl : lv_has ls 3 [(0, .ref x), (1, .int r)] := hl
  have hown : s.vm.findClass RX4 = some m.cls := hown
  refine lv_aload_n hx hb dX4_members_0 rfl (lv_at hl 0 rfl) ?_
  refine lv_iload_n hx hb dX4_members_1 rfl (lv_at hl 1 rfl) ?_
  refine w_call (va_runV (As := [.int r]) (rest := []) ⟨hx, hb, hml, hown, hts⟩ (c_recordAt_N l g h x kl ka ty hd hL r (Or.inl htn) s.heap.size) (cwV 1 hts gX4_members_X4_recordAt rfl rfl rfl (by decide +kernel) ⟨Nat.le_of_ble_eq_true rfl, Nat.le_of_ble_eq_true rfl⟩) ⟨pr_blind, w_recv hw hd rfl, pr_of hw⟩ rfl rfl hl.1 rfl (lv_room (Nat.le_of_ble_eq_true rfl)) dX4_members_2 ⟨Nat.le_of_ble_eq_true rfl, Nat.le_of_ble_eq_true rfl⟩) hw (fun v h' H locs hp hw => ?_)
  obtain ⟨rfl, rfl⟩ := hp
  refine W.eq (g2 := F0 m 5 ls [.null]) rfl ?_
  refine lv_astore_nN (lv' := [(2, .null), (0, .ref x), (1, .int r)]) hx hb dX4_members_5 rfl hl (by decide) rfl (fun ls hl => ?_)
  refine lv_aload_nN hx hb dX4_members_6 rfl (lv_at hl 0 rfl) ?_
  refine lv_ifnonnullN hx hb dX4_members_7 ?_
  refine lv_iconst (v := (-1)) hx hb dX4_members_10 (by decide) ?_
  refine lv_goto (tgt := 21) hx hb dX4_members_11 (by decide) ?_
  exact r_int hx hb hr hlocks hw dX4_members_21 (Nat.le_of_ble_eq_true rfl) (Nat.le_of_ble_eq_true rfl) (⟨by simp [fMbs, ht], ⟨kl, ka, ty, ml, ma, mb, hR0⟩⟩)
set_option maxHeartbeats 4000000 in
set_option maxRecDepth 100000 in
theorem d_members_S (l : Launch) (g : GG) (h : Nat → Option va_E) (x : Nat) (S : List TyS) (N : Nat) (hR : DR g h x S) (hS : wfS N S) (r : Int32) (T : TyS) (ht : lk S r = some T) (hk : tK T < 3) : Con l yX4_members wsX4_members 5 130 0 0 [.ref x, .int r] g h (fun v h' => v = some (.int (fMbs S r)) ∧ DR g h' x S) := by
  obtain ⟨kl, ka, ty, ml, ma, mb, hR0⟩ := hR
  obtain ⟨hd, hz9, hG, hlen, -⟩ := id hR0
  have hL := hG.1
  have hn9 := AL_len hL
  obtain ⟨⟨mck, hk0⟩, -, -⟩ := id hL
  obtain ⟨a, ha1, ha2, ha3, hc⟩ := DR_lk hR0 ht
  have ha : h a = some (oSi (nI (tSz T)) (nI (tAl T)) (nI (tK T)) (if tK T = 0 then -1 else nI (tTo T)) (nI (tLn T))) := by
    rcases hc with ⟨z1, z2⟩ | ⟨z1, -⟩
    · exact z2
    · exact absurd hk (by omega)
  have hT : isTy h a := cX_ty hc
  refine m_start (cc := cX4_members) (maxL := 3) (ret := (some .int)) (by decide) rfl (Nat.le_of_ble_eq_true rfl) ?_
  intro p e s m below meth c A ls hx hb hr hml hts hown hlocks hin hw hl
  have hl : lv_has ls 3 [(0, .ref x), (1, .int r)] := hl
  have hown : s.vm.findClass RX4 = some m.cls := hown
  refine lv_aload_n hx hb dX4_members_0 rfl (lv_at hl 0 rfl) ?_
  refine lv_iload_n hx hb dX4_members_1 rfl (lv_at hl 1 rfl) ?_
  refine w_call (va_runV (As := [.int r]) (rest := []) ⟨hx, hb, hml, hown, hts⟩ (c_recordAt_N l g h x kl ka ty hd hL r (Or.inr ⟨a, _, _, _, _, _, ha1, ha⟩) s.heap.size) (cwV 1 hts gX4_members_X4_recordAt rfl rfl rfl (by decide +kernel) ⟨Nat.le_of_ble_eq_true rfl, Nat.le_of_ble_eq_true rfl⟩) ⟨pr_blind, w_recv hw hd rfl, pr_of hw⟩ rfl rfl hl.1 rfl (lv_room (Nat.le_of_ble_eq_true rfl)) dX4_members_2 ⟨Nat.le_of_ble_eq_true rfl, Nat.le_of_ble_eq_true rfl⟩) hw (fun v h' H locs hp hw => ?_)
  obtain ⟨rfl, rfl⟩ := hp
  refine W.eq (g2 := F0 m 5 ls [.null]) rfl ?_
  refine lv_astore_nN (lv' := [(2, .null), (0, .ref x), (1, .int r)]) hx hb dX4_members_5 rfl hl (by decide) rfl (fun ls hl => ?_)
  refine lv_aload_nN hx hb dX4_members_6 rfl (lv_at hl 0 rfl) ?_
  refine lv_ifnonnullN hx hb dX4_members_7 ?_
  refine lv_iconst (v := (-1)) hx hb dX4_members_10 (by decide) ?_
  refine lv_goto (tgt := 21) hx hb dX4_members_11 (by decide) ?_
  exact r_int hx hb hr hlocks hw dX4_members_21 (Nat.le_of_ble_eq_true rfl) (Nat.le_of_ble_eq_true rfl) (⟨by simp [fMbs, ht, show ¬ 3 ≤ tK T by omega], ⟨kl, ka, ty, ml, ma, mb, hR0⟩⟩)
theorem in_X4_members_1 : ∀ w ∈ u_ws RX0 TX0 8, w ∈ wsX4_members := by decide +kernel
set_option maxHeartbeats 4000000 in
set_option maxRecDepth 100000 in
theorem d_members_C (l : Launch) (g : GG) (h : Nat → Option va_E) (x : Nat) (S : List TyS) (N : Nat) (hR : DR g h x S) (hS : wfS N S) (r : Int32) (T : TyS) (ht : lk S r = some T) (hk : 3 ≤ tK T) : Con l yX4_members wsX4_members 5 130 0 0 [.ref x, .int r] g h (fun v h' => v = some (.int (fMbs S r)) ∧ DR g h' x S) := by
  obtain ⟨kl, ka, ty, ml, ma, mb, hR0⟩ := hR
  obtain ⟨hd, hz9, hG, hlen, -⟩ := id hR0
  have hL := hG.1
  have hn9 := AL_len hL
  obtain ⟨⟨mck, hk0⟩, -, -⟩ := id hL
  obtain ⟨a, ha1, ha2, ha3, hc⟩ := DR_lk hR0 ht
  obtain ⟨⟨up, fb, ha, huo⟩, hml9, hmm⟩ : (∃ up fb : Int32, h a = some (oCo (nI (tSz T)) (nI (tAl T)) (if tK T = 4 then 1 else 0) (ml r.toNatClampNeg) (if tFi T = true then 0 else 1) (nI (ly T).1) up fb) ∧ uOK (tK T == 4) (ly T).2.2.1 up fb) ∧ (mb r.toNatClampNeg).length = (ly T).2.2.2.length ∧ ∀ (j y : Nat) (m : Nat × Nat × Nat × Nat), (mb r.toNatClampNeg)[j]? = some y → (ly T).2.2.2[j]? = some m → h y = some (oMb (nI m.1) (nI m.2.1) (nI m.2.2.1) (nI m.2.2.2)) := by
    rcases hc with ⟨z1, -⟩ | ⟨z1, z2⟩
    · exact absurd hk (by omega)
    · exact z2
  have hT : isTy h a := Or.inl ⟨_, _, _, _, _, _, _, _, ha⟩
  obtain ⟨hM, hmk, -⟩ := hG.2.2.1 r.toNatClampNeg (by have := (List.getElem?_eq_some_iff.mp ha2).1; omega) ⟨T, ha3, hk⟩
  obtain ⟨⟨mcm, hm0⟩, -, -⟩ := id hM
  refine m_start (cc := cX4_members) (maxL := 3) (ret := (some .int)) (by decide) rfl (Nat.le_of_ble_eq_true rfl) ?_
  intro p e s m below meth c A ls hx hb hr hml hts hown hlocks hin hw hl
  have hl : lv_has ls 3 [(0, .ref x), (1, .int r)] := hl
  have hown : s.vm.findClass RX4 = some m.cls := hown
  refine lv_aload_n hx hb dX4_members_0 rfl (lv_at hl 0 rfl) ?_
  refine lv_iload_n hx hb dX4_members_1 rfl (lv_at hl 1 rfl) ?_
  refine w_call (va_runV (As := [.int r]) (rest := []) ⟨hx, hb, hml, hown, hts⟩ (c_recordAt_S l g h x kl ka ty hd hL r a (ml r.toNatClampNeg) (nI (tSz T)) (nI (tAl T)) (if tK T = 4 then 1 else 0) (if tFi T = true then 0 else 1) (nI (ly T).1) up fb ha1 ha s.heap.size) (cwV 1 hts gX4_members_X4_recordAt rfl rfl rfl (by decide +kernel) ⟨Nat.le_of_ble_eq_true rfl, Nat.le_of_ble_eq_true rfl⟩) ⟨pr_blind, w_recv hw hd rfl, pr_of hw⟩ rfl rfl hl.1 rfl (lv_room (Nat.le_of_ble_eq_true rfl)) dX4_members_2 ⟨Nat.le_of_ble_eq_true rfl, Nat.le_of_ble_eq_true rfl⟩) hw (fun v h' H locs hp hw => ?_)
  obtain ⟨rfl, rfl⟩ := hp
  refine W.eq (g2 := F0 m 5 ls [.ref a]) rfl ?_
  refine lv_astore_n (lv' := [(2, .ref a), (0, .ref x), (1, .int r)]) hx hb dX4_members_5 rfl hl (by decide) rfl (fun ls hl => ?_)
  refine lv_aload_n hx hb dX4_members_6 rfl (lv_at hl 0 rfl) ?_
  refine lv_ifnonnull (tgt := 14) hx hb dX4_members_7 (by decide) ?_
  refine lv_aload_n hx hb dX4_members_14 rfl (lv_at hl 0 rfl) ?_
  refine w_getN (ci := 1) (C := RX0) (T := TX0) (N := 8) (ref := "LayoutDesk$Compound") hx hb hts in_X4_members_1 hown hw ha rfl 3 (by decide) (w_nw hw (w := .fieldLinkNest "LayoutDesk" 110 "LayoutDesk$Compound" "members" "Ljava/util/ArrayList;" "LayoutDesk") (by decide +kernel)) (fun _ h9 => h9) rfl dX4_members_15 ?_
  refine w_call (va_runV (As := []) (rest := []) ⟨hx, hb, hml, hown, hts⟩ (c_sizeL l g h (ml r.toNatClampNeg) (ma r.toNatClampNeg) (mb r.toNatClampNeg) hM H.size) (cwV 0 hts gX4_members_Jx4a65c_size_8abf5 rfl rfl rfl (by decide +kernel) ⟨Nat.le_of_ble_eq_true rfl, Nat.le_of_ble_eq_true rfl⟩) ⟨pr_blind, w_recv hw hm0 rfl, pr_of hw⟩ rfl rfl hl.1 rfl (lv_room (Nat.le_of_ble_eq_true rfl)) dX4_members_18 ⟨Nat.le_of_ble_eq_true rfl, Nat.le_of_ble_eq_true rfl⟩) hw (fun v h' H locs hp hw => ?_)
  obtain ⟨rfl, rfl⟩ := hp
  refine W.eq (g2 := F0 m 21 ls [.int (nI (mb r.toNatClampNeg).length)]) rfl ?_
  exact r_int hx hb hr hlocks hw dX4_members_21 (Nat.le_of_ble_eq_true rfl) (Nat.le_of_ble_eq_true rfl) (⟨by simp [fMbs, ht, hk, hml9], ⟨kl, ka, ty, ml, ma, mb, hR0⟩⟩)
theorem d_members (l : Launch) (g : GG) (h : Nat → Option va_E) (x : Nat) (S : List TyS) (N : Nat) (hR : DR g h x S) (hS : wfS N S) (r : Int32) : Con l yX4_members wsX4_members 5 130 0 0 [.ref x, .int r] g h (fun v h' => v = some (.int (fMbs S r)) ∧ DR g h' x S) := by
  cases ht : lk S r with
  | none => exact d_members_N l g h x S N hR hS r ht
  | some T =>
    rcases Nat.lt_or_ge (tK T) 3 with hk | hk
    · exact d_members_S l g h x S N hR hS r T ht hk
    · exact d_members_C l g h x S N hR hS r T ht hk
set_option maxHeartbeats 4000000 in
set_option maxRecDepth 100000 in
theorem d_member_N (l : Launch) (g : GG) (h : Nat → Option va_E) (x : Nat) (S : List TyS) (N : Nat) (hR : DR g h x S) (hS : wfS N S) (r k wh : Int32) (ht : lk S r = none) : Con l yX4_member wsX4_member 5 130 0 0 [.ref x, .int r, .int k, .int wh] g h (fun v h' => v = some (.int (fMbr S r k wh)) ∧ DR g h' x S) := by
  obtain ⟨kl, ka, ty, ml, ma, mb, hR0⟩ := hR
  obtain ⟨hd, hz9, hG, hlen, -⟩ := id hR0
  have hL := hG.1
  have hn9 := AL_len hL
  obtain ⟨⟨mck, hk0⟩, -, -⟩ := id hL
  have htn := DR_lkN hR0 ht
  refine m_start (cc := cX4_member) (maxL := 6) (ret := (some .int)) (by decide) rfl (Nat.le_of_ble_eq_true rfl) ?_
  intro p e s m below meth c A ls hx hb hr hml hts hown hlocks hin hw hl
  have hl : lv_has ls 6 [(0, .ref x), (1, .int r), (2, .int k), (3, .int wh)] := hl
  have hown : s.vm.findClass RX4 = some m.cls := hown
  refine lv_aload_n hx hb dX4_member_0 rfl (lv_at hl 0 rfl) ?_
  refine lv_iload_n hx hb dX4_member_1 rfl (lv_at hl 1 rfl) ?_
  refine w_call (va_runV (As := [.int r]) (rest := []) ⟨hx, hb, hml, hown, hts⟩ (c_recordAt_N l g h x kl ka ty hd hL r (Or.inl htn) s.heap.size) (cwV 1 hts gX4_member_X4_recordAt rfl rfl rfl (by decide +kernel) ⟨Nat.le_of_ble_eq_true rfl, Nat.le_of_ble_eq_true rfl⟩) ⟨pr_blind, w_recv hw hd rfl, pr_of hw⟩ rfl rfl hl.1 rfl (lv_room (Nat.le_of_ble_eq_true rfl)) dX4_member_2 ⟨Nat.le_of_ble_eq_true rfl, Nat.le_of_ble_eq_true rfl⟩) hw (fun v h' H locs hp hw => ?_)
  obtain ⟨rfl, rfl⟩ := hp
  refine W.eq (g2 := F0 m 5 ls [.null]) rfl ?_
  refine lv_astoreN (lv' := [(4, .null), (0, .ref x), (1, .int r), (2, .int k), (3, .int wh)]) hx hb dX4_member_5 hl (by decide) rfl (fun ls hl => ?_)
  refine lv_aloadN hx hb dX4_member_7 (lv_at hl 0 rfl) ?_
  refine lv_ifnullN (tgt := 28) hx hb dX4_member_9 (by decide) ?_
  refine lv_iconst (v := (-1)) hx hb dX4_member_28 (by decide) ?_
  exact r_int hx hb hr hlocks hw dX4_member_29 (Nat.le_of_ble_eq_true rfl) (Nat.le_of_ble_eq_true rfl) (⟨by simp [fMbr, ht], ⟨kl, ka, ty, ml, ma, mb, hR0⟩⟩)
set_option maxHeartbeats 4000000 in
set_option maxRecDepth 100000 in
theorem d_member_S (l : Launch) (g : GG) (h : Nat → Option va_E) (x : Nat) (S : List TyS) (N : Nat) (hR : DR g h x S) (hS : wfS N S) (r k wh : Int32) (T : TyS) (ht : lk S r = some T) (hk : tK T < 3) : Con l yX4_member wsX4_member 5 130 0 0 [.ref x, .int r, .int k, .int wh] g h (fun v h' => v = some (.int (fMbr S r k wh)) ∧ DR g h' x S) := by
  obtain ⟨kl, ka, ty, ml, ma, mb, hR0⟩ := hR
  obtain ⟨hd, hz9, hG, hlen, -⟩ := id hR0
  have hL := hG.1
  have hn9 := AL_len hL
  obtain ⟨⟨mck, hk0⟩, -, -⟩ := id hL
  obtain ⟨a, ha1, ha2, ha3, hc⟩ := DR_lk hR0 ht
  have ha : h a = some (oSi (nI (tSz T)) (nI (tAl T)) (nI (tK T)) (if tK T = 0 then -1 else nI (tTo T)) (nI (tLn T))) := by
    rcases hc with ⟨z1, z2⟩ | ⟨z1, -⟩
    · exact z2
    · exact absurd hk (by omega)
  have hT : isTy h a := cX_ty hc
  refine m_start (cc := cX4_member) (maxL := 6) (ret := (some .int)) (by decide) rfl (Nat.le_of_ble_eq_true rfl) ?_
  intro p e s m below meth c A ls hx hb hr hml hts hown hlocks hin hw hl
  have hl : lv_has ls 6 [(0, .ref x), (1, .int r), (2, .int k), (3, .int wh)] := hl
  have hown : s.vm.findClass RX4 = some m.cls := hown
  refine lv_aload_n hx hb dX4_member_0 rfl (lv_at hl 0 rfl) ?_
  refine lv_iload_n hx hb dX4_member_1 rfl (lv_at hl 1 rfl) ?_
  refine w_call (va_runV (As := [.int r]) (rest := []) ⟨hx, hb, hml, hown, hts⟩ (c_recordAt_N l g h x kl ka ty hd hL r (Or.inr ⟨a, _, _, _, _, _, ha1, ha⟩) s.heap.size) (cwV 1 hts gX4_member_X4_recordAt rfl rfl rfl (by decide +kernel) ⟨Nat.le_of_ble_eq_true rfl, Nat.le_of_ble_eq_true rfl⟩) ⟨pr_blind, w_recv hw hd rfl, pr_of hw⟩ rfl rfl hl.1 rfl (lv_room (Nat.le_of_ble_eq_true rfl)) dX4_member_2 ⟨Nat.le_of_ble_eq_true rfl, Nat.le_of_ble_eq_true rfl⟩) hw (fun v h' H locs hp hw => ?_)
  obtain ⟨rfl, rfl⟩ := hp
  refine W.eq (g2 := F0 m 5 ls [.null]) rfl ?_
  refine lv_astoreN (lv' := [(4, .null), (0, .ref x), (1, .int r), (2, .int k), (3, .int wh)]) hx hb dX4_member_5 hl (by decide) rfl (fun ls hl => ?_)
  refine lv_aloadN hx hb dX4_member_7 (lv_at hl 0 rfl) ?_
  refine lv_ifnullN (tgt := 28) hx hb dX4_member_9 (by decide) ?_
  refine lv_iconst (v := (-1)) hx hb dX4_member_28 (by decide) ?_
  exact r_int hx hb hr hlocks hw dX4_member_29 (Nat.le_of_ble_eq_true rfl) (Nat.le_of_ble_eq_true rfl) (⟨by simp [fMbr, ht, show ¬ 3 ≤ tK T by omega], ⟨kl, ka, ty, ml, ma, mb, hR0⟩⟩)
theorem in_X4_member_1 : ∀ w ∈ u_ws RX0 TX0 8, w ∈ wsX4_member := by decide +kernel
theorem in_X4_member_2 : ∀ w ∈ u_ws RX1 TX1 4, w ∈ wsX4_member := by decide +kernel
set_option maxHeartbeats 4000000 in
set_option maxRecDepth 100000 in
theorem d_member_C (l : Launch) (g : GG) (h : Nat → Option va_E) (x : Nat) (S : List TyS) (N : Nat) (hR : DR g h x S) (hS : wfS N S) (r k wh : Int32) (T : TyS) (ht : lk S r = some T) (hk : 3 ≤ tK T) : Con l yX4_member wsX4_member 5 130 0 0 [.ref x, .int r, .int k, .int wh] g h (fun v h' => v = some (.int (fMbr S r k wh)) ∧ DR g h' x S) := by
  obtain ⟨kl, ka, ty, ml, ma, mb, hR0⟩ := hR
  obtain ⟨hd, hz9, hG, hlen, -⟩ := id hR0
  have hL := hG.1
  have hn9 := AL_len hL
  obtain ⟨⟨mck, hk0⟩, -, -⟩ := id hL
  obtain ⟨a, ha1, ha2, ha3, hc⟩ := DR_lk hR0 ht
  obtain ⟨⟨up, fb, ha, huo⟩, hml9, hmm⟩ : (∃ up fb : Int32, h a = some (oCo (nI (tSz T)) (nI (tAl T)) (if tK T = 4 then 1 else 0) (ml r.toNatClampNeg) (if tFi T = true then 0 else 1) (nI (ly T).1) up fb) ∧ uOK (tK T == 4) (ly T).2.2.1 up fb) ∧ (mb r.toNatClampNeg).length = (ly T).2.2.2.length ∧ ∀ (j y : Nat) (m : Nat × Nat × Nat × Nat), (mb r.toNatClampNeg)[j]? = some y → (ly T).2.2.2[j]? = some m → h y = some (oMb (nI m.1) (nI m.2.1) (nI m.2.2.1) (nI m.2.2.2)) := by
    rcases hc with ⟨z1, -⟩ | ⟨z1, z2⟩
    · exact absurd hk (by omega)
    · exact z2
  have hT : isTy h a := Or.inl ⟨_, _, _, _, _, _, _, _, ha⟩
  obtain ⟨hM, hmk, -⟩ := hG.2.2.1 r.toNatClampNeg (by have := (List.getElem?_eq_some_iff.mp ha2).1; omega) ⟨T, ha3, hk⟩
  obtain ⟨⟨mcm, hm0⟩, -, -⟩ := id hM
  refine m_start (cc := cX4_member) (maxL := 6) (ret := (some .int)) (by decide) rfl (Nat.le_of_ble_eq_true rfl) ?_
  intro p e s m below meth c A ls hx hb hr hml hts hown hlocks hin hw hl
  have hl : lv_has ls 6 [(0, .ref x), (1, .int r), (2, .int k), (3, .int wh)] := hl
  have hown : s.vm.findClass RX4 = some m.cls := hown
  refine lv_aload_n hx hb dX4_member_0 rfl (lv_at hl 0 rfl) ?_
  refine lv_iload_n hx hb dX4_member_1 rfl (lv_at hl 1 rfl) ?_
  refine w_call (va_runV (As := [.int r]) (rest := []) ⟨hx, hb, hml, hown, hts⟩ (c_recordAt_S l g h x kl ka ty hd hL r a (ml r.toNatClampNeg) (nI (tSz T)) (nI (tAl T)) (if tK T = 4 then 1 else 0) (if tFi T = true then 0 else 1) (nI (ly T).1) up fb ha1 ha s.heap.size) (cwV 1 hts gX4_member_X4_recordAt rfl rfl rfl (by decide +kernel) ⟨Nat.le_of_ble_eq_true rfl, Nat.le_of_ble_eq_true rfl⟩) ⟨pr_blind, w_recv hw hd rfl, pr_of hw⟩ rfl rfl hl.1 rfl (lv_room (Nat.le_of_ble_eq_true rfl)) dX4_member_2 ⟨Nat.le_of_ble_eq_true rfl, Nat.le_of_ble_eq_true rfl⟩) hw (fun v h' H locs hp hw => ?_)
  obtain ⟨rfl, rfl⟩ := hp
  refine W.eq (g2 := F0 m 5 ls [.ref a]) rfl ?_
  refine lv_astore (lv' := [(4, .ref a), (0, .ref x), (1, .int r), (2, .int k), (3, .int wh)]) hx hb dX4_member_5 hl (by decide) rfl (fun ls hl => ?_)
  refine lv_aload hx hb dX4_member_7 (lv_at hl 0 rfl) ?_
  refine lv_ifnull hx hb dX4_member_9 ?_
  refine lv_iload_n hx hb dX4_member_12 rfl (lv_at hl 3 rfl) ?_
  refine lv_if_lt (tgt := 28) hx hb dX4_member_13 (by decide) (fun c13 => ?_) (fun c13 => ?_)
  · refine lv_iconst (v := (-1)) hx hb dX4_member_28 (by decide) ?_
    exact r_int hx hb hr hlocks hw dX4_member_29 (Nat.le_of_ble_eq_true rfl) (Nat.le_of_ble_eq_true rfl) (⟨by simp [fMbr, ht, hk, lk_neg c13], ⟨kl, ka, ty, ml, ma, mb, hR0⟩⟩)
  · refine lv_iload_n hx hb dX4_member_16 rfl (lv_at hl 3 rfl) ?_
    refine lv_aload hx hb dX4_member_17 (lv_at hl 0 rfl) ?_
    refine w_getN (ci := 1) (C := RX0) (T := TX0) (N := 8) (ref := "LayoutDesk$Compound") hx hb hts in_X4_member_1 hown hw ha rfl 3 (by decide) (w_nw hw (w := .fieldLinkNest "LayoutDesk" 110 "LayoutDesk$Compound" "members" "Ljava/util/ArrayList;" "LayoutDesk") (by decide +kernel)) (fun _ h9 => h9) rfl dX4_member_19 ?_
    refine w_call (va_runV (As := []) (rest := [.int k]) ⟨hx, hb, hml, hown, hts⟩ (c_sizeL l g h (ml r.toNatClampNeg) (ma r.toNatClampNeg) (mb r.toNatClampNeg) hM H.size) (cwV 0 hts gX4_member_Jx4a65c_size_8abf5 rfl rfl rfl (by decide +kernel) ⟨Nat.le_of_ble_eq_true rfl, Nat.le_of_ble_eq_true rfl⟩) ⟨pr_blind, w_recv hw hm0 rfl, pr_of hw⟩ rfl rfl hl.1 rfl (lv_room (Nat.le_of_ble_eq_true rfl)) dX4_member_22 ⟨Nat.le_of_ble_eq_true rfl, Nat.le_of_ble_eq_true rfl⟩) hw (fun v h' H locs hp hw => ?_)
    obtain ⟨rfl, rfl⟩ := hp
    refine W.eq (g2 := F0 m 25 ls [.int (nI (mb r.toNatClampNeg).length), .int k]) rfl ?_
    refine lv_icmp_lt (tgt := 30) hx hb dX4_member_25 (by decide) (fun c25 => ?_) (fun c25 => ?_)
    · obtain ⟨y, hy⟩ := lk_some c13 c25 (by have := AL_len hM; omega)
      obtain ⟨mm, hmm1⟩ : ∃ mm, (ly T).2.2.2[k.toNatClampNeg]? = some mm := ⟨_, List.getElem?_eq_getElem (by have := (lk_lt hy (by have := AL_len hM; omega)).2.2; omega)⟩
      have hmv := hmm k.toNatClampNeg y mm (lk_ofS hy).2 hmm1
      have hlk : lk (ly T).2.2.2 k = some mm := by unfold lk; rw [if_neg c13]; exact hmm1
      refine lv_aload hx hb dX4_member_30 (lv_at hl 0 rfl) ?_
      refine w_getN (ci := 1) (C := RX0) (T := TX0) (N := 8) (ref := "LayoutDesk$Compound") hx hb hts in_X4_member_1 hown hw ha rfl 3 (by decide) (w_nw hw (w := .fieldLinkNest "LayoutDesk" 110 "LayoutDesk$Compound" "members" "Ljava/util/ArrayList;" "LayoutDesk") (by decide +kernel)) (fun _ h9 => h9) rfl dX4_member_32 ?_
      refine lv_iload_n hx hb dX4_member_35 rfl (lv_at hl 3 rfl) ?_
      refine w_call (va_runV (As := [.int k]) (rest := []) ⟨hx, hb, hml, hown, hts⟩ (c_getL l g h (ml r.toNatClampNeg) (ma r.toNatClampNeg) (mb r.toNatClampNeg) hM k y hy H.size) (cwV 1 hts gX4_member_Jx4a65c_get_915e3 rfl rfl rfl (by decide +kernel) ⟨Nat.le_of_ble_eq_true rfl, Nat.le_of_ble_eq_true rfl⟩) ⟨pr_blind, w_recv hw hm0 rfl, pr_of hw⟩ rfl rfl hl.1 rfl (lv_room (Nat.le_of_ble_eq_true rfl)) dX4_member_36 ⟨Nat.le_of_ble_eq_true rfl, Nat.le_of_ble_eq_true rfl⟩) hw (fun v h' H locs hp hw => ?_)
      obtain ⟨rfl, rfl⟩ := hp
      refine W.eq (g2 := F0 m 39 ls [.ref y]) rfl ?_
      refine va_castY (C := RX1) hx hb hown (hts (.classLink RX4 86 "LayoutDesk$Member") (by decide +kernel)) (w_nwN hw (by decide +kernel)) (w_recv hw hmv rfl) dX4_member_39 ?_
      refine lv_astore (lv' := [(5, .ref y), (4, .ref a), (0, .ref x), (1, .int r), (2, .int k), (3, .int wh)]) hx hb dX4_member_42 hl (by decide) rfl (fun ls hl => ?_)
      refine lv_iload_n hx hb dX4_member_44 rfl (lv_at hl 5 rfl) ?_
      by_cases w0 : wh = 0
      · refine lv_tableIn (tgt := 76) hx hb dX4_member_45 (by rw [w0]; decide) (by rw [w0]; decide) (by rw [w0]; rfl) (by decide) ?_
        refine lv_aload hx hb dX4_member_76 (lv_at hl 0 rfl) ?_
        refine w_getN (ci := 2) (C := RX1) (T := TX1) (N := 4) (ref := "LayoutDesk$Member") hx hb hts in_X4_member_2 hown hw hmv rfl 0 (by decide) (w_nw hw (w := .fieldLinkNest "LayoutDesk" 139 "LayoutDesk$Member" "place" "I" "LayoutDesk") (by decide +kernel)) (fun _ h9 => h9) rfl dX4_member_78 ?_
        exact r_int hx hb hr hlocks hw dX4_member_81 (Nat.le_of_ble_eq_true rfl) (Nat.le_of_ble_eq_true rfl) (⟨by simp [fMbr, ht, hk, hlk, w0], ⟨kl, ka, ty, ml, ma, mb, hR0⟩⟩)
      by_cases w1 : wh = 1
      · refine lv_tableIn (tgt := 82) hx hb dX4_member_45 (by rw [w1]; decide) (by rw [w1]; decide) (by rw [w1]; rfl) (by decide) ?_
        refine lv_aload hx hb dX4_member_82 (lv_at hl 0 rfl) ?_
        refine w_getN (ci := 2) (C := RX1) (T := TX1) (N := 4) (ref := "LayoutDesk$Member") hx hb hts in_X4_member_2 hown hw hmv rfl 1 (by decide) (w_nw hw (w := .fieldLinkNest "LayoutDesk" 142 "LayoutDesk$Member" "type" "I" "LayoutDesk") (by decide +kernel)) (fun _ h9 => h9) rfl dX4_member_84 ?_
        exact r_int hx hb hr hlocks hw dX4_member_87 (Nat.le_of_ble_eq_true rfl) (Nat.le_of_ble_eq_true rfl) (⟨by simp [fMbr, ht, hk, hlk, w0, w1], ⟨kl, ka, ty, ml, ma, mb, hR0⟩⟩)
      by_cases w2 : wh = 2
      · refine lv_tableIn (tgt := 88) hx hb dX4_member_45 (by rw [w2]; decide) (by rw [w2]; decide) (by rw [w2]; rfl) (by decide) ?_
        refine lv_aload hx hb dX4_member_88 (lv_at hl 0 rfl) ?_
        refine w_getN (ci := 2) (C := RX1) (T := TX1) (N := 4) (ref := "LayoutDesk$Member") hx hb hts in_X4_member_2 hown hw hmv rfl 2 (by decide) (w_nw hw (w := .fieldLinkNest "LayoutDesk" 145 "LayoutDesk$Member" "lowestBit" "I" "LayoutDesk") (by decide +kernel)) (fun _ h9 => h9) rfl dX4_member_90 ?_
        exact r_int hx hb hr hlocks hw dX4_member_93 (Nat.le_of_ble_eq_true rfl) (Nat.le_of_ble_eq_true rfl) (⟨by simp [fMbr, ht, hk, hlk, w0, w1, w2], ⟨kl, ka, ty, ml, ma, mb, hR0⟩⟩)
      by_cases w3 : wh = 3
      · refine lv_tableIn (tgt := 94) hx hb dX4_member_45 (by rw [w3]; decide) (by rw [w3]; decide) (by rw [w3]; rfl) (by decide) ?_
        refine lv_aload hx hb dX4_member_94 (lv_at hl 0 rfl) ?_
        refine w_getN (ci := 2) (C := RX1) (T := TX1) (N := 4) (ref := "LayoutDesk$Member") hx hb hts in_X4_member_2 hown hw hmv rfl 3 (by decide) (w_nw hw (w := .fieldLinkNest "LayoutDesk" 148 "LayoutDesk$Member" "width" "I" "LayoutDesk") (by decide +kernel)) (fun _ h9 => h9) rfl dX4_member_96 ?_
        exact r_int hx hb hr hlocks hw dX4_member_99 (Nat.le_of_ble_eq_true rfl) (Nat.le_of_ble_eq_true rfl) (⟨by simp [fMbr, ht, hk, hlk, w0, w1, w2, w3], ⟨kl, ka, ty, ml, ma, mb, hR0⟩⟩)
      refine lv_tableOut (tgt := 100) hx hb dX4_member_45 (sw4 w0 w1 w2 w3) (by decide) ?_
      refine lv_iconst (v := (-1)) hx hb dX4_member_100 (by decide) ?_
      exact r_int hx hb hr hlocks hw dX4_member_101 (Nat.le_of_ble_eq_true rfl) (Nat.le_of_ble_eq_true rfl) (⟨by simp [fMbr, ht, hk, hlk, w0, w1, w2, w3], ⟨kl, ka, ty, ml, ma, mb, hR0⟩⟩)
    · refine lv_iconst (v := (-1)) hx hb dX4_member_28 (by decide) ?_
      exact r_int hx hb hr hlocks hw dX4_member_29 (Nat.le_of_ble_eq_true rfl) (Nat.le_of_ble_eq_true rfl) (⟨by simp [fMbr, ht, hk, lk_ge c13 (show ¬ k < nI (ly T).2.2.2.length by rw [← hml9]; exact c25) (by have := AL_len hM; omega)], ⟨kl, ka, ty, ml, ma, mb, hR0⟩⟩)
theorem d_member (l : Launch) (g : GG) (h : Nat → Option va_E) (x : Nat) (S : List TyS) (N : Nat) (hR : DR g h x S) (hS : wfS N S) (r k wh : Int32) : Con l yX4_member wsX4_member 5 130 0 0 [.ref x, .int r, .int k, .int wh] g h (fun v h' => v = some (.int (fMbr S r k wh)) ∧ DR g h' x S) := by
  cases ht : lk S r with
  | none => exact d_member_N l g h x S N hR hS r k wh ht
  | some T =>
    rcases Nat.lt_or_ge (tK T) 3 with hk | hk
    · exact d_member_S l g h x S N hR hS r k wh T ht hk
    · exact d_member_C l g h x S N hR hS r k wh T ht hk
end
section
/-! pure rows for the methods that write -/
theorem arr_n {n : Int32} (h1 : ¬ n < 1) (h2 : n ≤ 524288) : n = nI n.toNatClampNeg ∧ 1 ≤ n.toNatClampNeg ∧ n.toNatClampNeg ≤ 524288 := by
  have h0 : ¬ n < 0 := fun z => h1 (Int32.lt_trans z (by decide))
  obtain ⟨j, hj, e⟩ := nI_of2 (M := 524288) (n := 524288) (by decide) h0 h2
  have ej : n.toNatClampNeg = j := by rw [e]; exact nI_clamp (by omega)
  refine ⟨by rw [ej]; exact e, ?_, by omega⟩
  rw [ej]
  rcases Nat.eq_zero_or_pos j with z | z
  · subst z
    rw [e] at h1
    exact absurd (by decide : nI 0 < 1) h1
  · exact z
theorem mul_le {a b : Nat} {x : Int64} (ha : a ≤ 524288) (hb : b ≤ 524288) (ex : x = (nI a).toInt64 * (nI b).toInt64) : x = lN (a * b) ∧ (lg_cmp x 524288 ≤ 0 ↔ a * b ≤ 524288) := by
  have e1 : x = lN (a * b) := by rw [ex, nI_l (by omega), nI_l (by omega), lN_mul]
  refine ⟨e1, ?_⟩
  rw [lg_cmp_le, e1]
  have hm : a * b ≤ 524288 * 524288 := Nat.mul_le_mul ha hb
  exact pk_lLE (a := a * b) (b := 524288) (by omega) (by decide)
theorem lkO_some {S : List TyS} {r : Int32} {T : TyS} (h : lkO S r = some T) : lk S r = some T ∧ 3 ≤ tK T ∧ tFi T = false := by
  unfold lkO at h
  cases hl : lk S r with
  | none => rw [hl] at h; cases h
  | some T' =>
    rw [hl] at h
    by_cases c : 3 ≤ tK T' ∧ tFi T' = false
    · simp only [if_pos c] at h
      cases h
      exact ⟨rfl, c.1, c.2⟩
    · simp only [if_neg c] at h
      cases h
theorem DR_noOpen {g : GG} {h : Nat → Option va_E} {x : Nat} {S : List TyS} {kl ka : Nat} {ty : List Nat} {ml ma : Nat → Nat} {mb : Nat → List Nat} (hR : DR0 g h x S kl ka ty ml ma mb) {r : Int32} (hr : lkO S r = none) : noOpen h ty r := by
  cases hl : lk S r with
  | none => exact Or.inl (Or.inl (DR_lkN hR hl))
  | some T =>
    obtain ⟨a, ha1, ha2, ha3, hc⟩ := DR_lk hR hl
    rcases hc with ⟨z1, z2⟩ | ⟨z1, ⟨up, fb, z2, z3⟩, -⟩
    · exact Or.inl (Or.inr ⟨a, _, _, _, _, _, ha1, z2⟩)
    · refine Or.inr ⟨a, ml r.toNatClampNeg, nI (tSz T), nI (tAl T), (if tK T = 4 then 1 else 0), nI (ly T).1, up, fb, ha1, ?_⟩
      unfold lkO at hr
      rw [hl] at hr
      have hf : tFi T = true := by
        cases hh : tFi T with
        | true => rfl
        | false => simp [z1, hh] at hr
      rw [z2, hf]
      rfl
/-- the cell of a record that has one more that is no member -/
theorem cX_rec {h : Nat → Option va_E} {a : Nat} {T' : TyS} {ml : Nat} {mb : List Nat} {up fb : Int32} (hk : 3 ≤ tK T') (ha : h a = some (oCo (nI (tSz T')) (nI (tAl T')) (if tK T' = 4 then 1 else 0) ml (if tFi T' = true then 0 else 1) (nI (ly T').1) up fb)) (hu : uOK (tK T' == 4) (ly T').2.2.1 up fb) (hl : mb.length = (ly T').2.2.2.length) (hm : ∀ (j y : Nat) (m : Nat × Nat × Nat × Nat), mb[j]? = some y → (ly T').2.2.2[j]? = some m → h y = some (oMb (nI m.1) (nI m.2.1) (nI m.2.2.1) (nI m.2.2.2))) : cX h a T' ml mb :=
  Or.inr ⟨hk, ⟨up, fb, ha, hu⟩, hl, hm⟩
theorem uOK_0 (un : Bool) (up : Int32) : uOK un none up 0 := by
  cases un
  · exact Or.inr (Or.inl ⟨rfl, rfl, rfl⟩)
  · exact Or.inl ⟨rfl, rfl⟩
end
section
/-! the desk: pointer, array, record, separate, finish -/
set_option maxHeartbeats 4000000 in
set_option maxRecDepth 100000 in
theorem d_pointer_N (l : Launch) (g : GG) (h : Nat → Option va_E) (x : Nat) (S : List TyS) (N : Nat) (hR : DR g h x S) (hS : wfS N S) (t : Int32) (ht : lk S t = none) : Con l yX4_pointer wsX4_pointer 8 192 2 805 [.ref x, .int t] g h (fun v h' => v = some (.int (fPtr S t).1) ∧ DR g h' x (fPtr S t).2) := by
  obtain ⟨kl, ka, ty, ml, ma, mb, hR0⟩ := hR
  obtain ⟨hd, hz9, hG, hlen, -⟩ := id hR0
  have hL := hG.1
  have hn9 := AL_len hL
  obtain ⟨⟨mck, hk0⟩, -, -⟩ := id hL
  have htn := DR_lkN hR0 ht
  refine m_start (cc := cX4_pointer) (maxL := 3) (ret := (some .int)) (by decide) rfl (Nat.le_of_ble_eq_true rfl) ?_
  intro p e s m below meth c A ls hx hb hr hml hts hown hlocks hin hw hl
  have hl : lv_has ls 3 [(0, .ref x), (1, .int t)] := hl
  have hown : s.vm.findClass RX4 = some m.cls := hown
  refine lv_aload_n hx hb dX4_pointer_0 rfl (lv_at hl 0 rfl) ?_
  refine lv_iload_n hx hb dX4_pointer_1 rfl (lv_at hl 1 rfl) ?_
  refine w_call (va_runV (As := [.int t]) (rest := []) ⟨hx, hb, hml, hown, hts⟩ (c_typeAt_N l g h x kl ka ty hd hL t htn s.heap.size) (cwV 1 hts gX4_pointer_X4_typeAt rfl rfl rfl (by decide +kernel) ⟨Nat.le_of_ble_eq_true rfl, Nat.le_of_ble_eq_true rfl⟩) ⟨pr_blind, w_recv hw hd rfl, pr_of hw⟩ rfl rfl hl.1 rfl (lv_room (Nat.le_of_ble_eq_true rfl)) dX4_pointer_2 ⟨Nat.le_of_ble_eq_true rfl, Nat.le_of_ble_eq_true rfl⟩) hw (fun v h' H locs hp hw => ?_)
  obtain ⟨rfl, rfl⟩ := hp
  refine W.eq (g2 := F0 m 5 ls [.null]) rfl ?_
  refine lv_ifnonnullN hx hb dX4_pointer_5 ?_
  refine lv_iconst (v := (-1)) hx hb dX4_pointer_8 (by decide) ?_
  have e9 : fPtr S t = (-1, S) := by simp [fPtr, ht]
  exact r_int hx hb hr hlocks hw dX4_pointer_9 (Nat.le_of_ble_eq_true rfl) (Nat.le_of_ble_eq_true rfl) (⟨by rw [e9], by rw [e9]; exact ⟨kl, ka, ty, ml, ma, mb, hR0⟩⟩)
theorem in_X4_pointer_3 : ∀ w ∈ u_ws RX2 TX2 5, w ∈ wsX4_pointer := by decide +kernel
set_option maxHeartbeats 4000000 in
set_option maxRecDepth 100000 in
theorem d_pointer_S (l : Launch) (g : GG) (h : Nat → Option va_E) (x : Nat) (S : List TyS) (N : Nat) (hR : DR g h x S) (hS : wfS N S) (t : Int32) (T : TyS) (ht : lk S t = some T) (hk : tK T < 3) : Con l yX4_pointer wsX4_pointer 8 192 2 805 [.ref x, .int t] g h (fun v h' => v = some (.int (fPtr S t).1) ∧ DR g h' x (fPtr S t).2) := by
  obtain ⟨kl, ka, ty, ml, ma, mb, hR0⟩ := hR
  obtain ⟨hd, hz9, hG, hlen, -⟩ := id hR0
  have hL := hG.1
  have hn9 := AL_len hL
  obtain ⟨⟨mck, hk0⟩, -, -⟩ := id hL
  obtain ⟨a, ha1, ha2, ha3, hc⟩ := DR_lk hR0 ht
  have ha : h a = some (oSi (nI (tSz T)) (nI (tAl T)) (nI (tK T)) (if tK T = 0 then -1 else nI (tTo T)) (nI (tLn T))) := by
    rcases hc with ⟨z1, z2⟩ | ⟨z1, -⟩
    · exact z2
    · exact absurd hk (by omega)
  have hT : isTy h a := cX_ty hc
  refine m_start (cc := cX4_pointer) (maxL := 3) (ret := (some .int)) (by decide) rfl (Nat.le_of_ble_eq_true rfl) ?_
  intro p e s m below meth c A ls hx hb hr hml hts hown hlocks hin hw hl
  have hl : lv_has ls 3 [(0, .ref x), (1, .int t)] := hl
  have hown : s.vm.findClass RX4 = some m.cls := hown
  refine lv_aload_n hx hb dX4_pointer_0 rfl (lv_at hl 0 rfl) ?_
  refine lv_iload_n hx hb dX4_pointer_1 rfl (lv_at hl 1 rfl) ?_
  refine w_call (va_runV (As := [.int t]) (rest := []) ⟨hx, hb, hml, hown, hts⟩ (c_typeAt_S l g h x kl ka ty hd hL t a ha1 hT s.heap.size) (cwV 1 hts gX4_pointer_X4_typeAt rfl rfl rfl (by decide +kernel) ⟨Nat.le_of_ble_eq_true rfl, Nat.le_of_ble_eq_true rfl⟩) ⟨pr_blind, w_recv hw hd rfl, pr_of hw⟩ rfl rfl hl.1 rfl (lv_room (Nat.le_of_ble_eq_true rfl)) dX4_pointer_2 ⟨Nat.le_of_ble_eq_true rfl, Nat.le_of_ble_eq_true rfl⟩) hw (fun v h' H locs hp hw => ?_)
  obtain ⟨rfl, rfl⟩ := hp
  refine W.eq (g2 := F0 m 5 ls [.ref a]) rfl ?_
  refine lv_ifnonnull (tgt := 10) hx hb dX4_pointer_5 (by decide) ?_
  refine lv_aload_n hx hb dX4_pointer_10 rfl (lv_at hl 0 rfl) ?_
  refine lv_iconst (v := 1) hx hb dX4_pointer_11 (by decide) ?_
  refine lv_iload_n hx hb dX4_pointer_12 rfl (lv_at hl 1 rfl) ?_
  refine lv_iconst (v := 0) hx hb dX4_pointer_13 (by decide) ?_
  refine w_call (va_runV (As := [.int 1, .int t, .int 0]) (rest := []) ⟨hx, hb, hml, hown, hts⟩ (c_find l g h x kl ka ty hd hL 1 t 0 (DR_ty hR0) H.size) (cwV 3 hts gX4_pointer_X4_find rfl rfl rfl (by decide +kernel) ⟨Nat.le_of_ble_eq_true rfl, Nat.le_of_ble_eq_true rfl⟩) ⟨pr_blind, w_recv hw hd rfl, pr_of hw⟩ rfl rfl hl.1 rfl (lv_room (Nat.le_of_ble_eq_true rfl)) dX4_pointer_14 ⟨Nat.le_of_ble_eq_true rfl, Nat.le_of_ble_eq_true rfl⟩) hw (fun v h' H locs hp hw => ?_)
  have et : t = nI t.toNatClampNeg := (lk_lt ht (by have := hS.2.1; omega)).2.1
  obtain ⟨rfl, ⟨i9, hi9, rfl, hi2, hi3⟩ | ⟨rfl, hno9⟩⟩ := hp
  · refine W.eq (g2 := F0 m 17 ls [.int (nI i9)]) rfl ?_
    have hf9 : fnd S 1 t.toNatClampNeg 0 = some i9 := DR_fndS hR0 hS (Or.inl rfl) (by have := lk_lt ht (by have := hS.2.1; omega); have := hS.2.1; omega) (by decide) hi9 (by rw [← et]; exact hi2) (by rw [← et]; exact hi3)
    refine lv_istore_n (lv' := [(2, .int (nI i9)), (0, .ref x), (1, .int t)]) hx hb dX4_pointer_17 rfl hl (by decide) rfl (fun ls hl => ?_)
    refine lv_iload_n hx hb dX4_pointer_18 rfl (lv_at hl 0 rfl) ?_
    refine lv_iconst (v := (-1)) hx hb dX4_pointer_19 (by decide) ?_
    refine lv_icmp_eq (tgt := 25) hx hb dX4_pointer_20 (by decide) (fun c20 => ?_) (fun c20 => ?_)
    · exact absurd c20 (fun z => by have := nI_pos (n := i9) (by omega); rw [z] at this; exact this (by decide))
    · refine lv_iload_n hx hb dX4_pointer_23 rfl (lv_at hl 0 rfl) ?_
      have e9 : fPtr S t = (nI i9, S) := by simp [fPtr, ht, hf9]
      exact r_int hx hb hr hlocks hw dX4_pointer_24 (Nat.le_of_ble_eq_true rfl) (Nat.le_of_ble_eq_true rfl) (⟨by rw [e9], by rw [e9]; exact ⟨kl, ka, ty, ml, ma, mb, hR0⟩⟩)
  · refine W.eq (g2 := F0 m 17 ls [.int (-1)]) rfl ?_
    have hf9 : fnd S 1 t.toNatClampNeg 0 = none := DR_fndN hR0 hS (Or.inl rfl) (by have := lk_lt ht (by have := hS.2.1; omega); have := hS.2.1; omega) (by decide) (by rw [← et]; exact hno9)
    refine lv_istore_n (lv' := [(2, .int (-1)), (0, .ref x), (1, .int t)]) hx hb dX4_pointer_17 rfl hl (by decide) rfl (fun ls hl => ?_)
    refine lv_iload_n hx hb dX4_pointer_18 rfl (lv_at hl 0 rfl) ?_
    refine lv_iconst (v := (-1)) hx hb dX4_pointer_19 (by decide) ?_
    refine lv_icmp_eq (tgt := 25) hx hb dX4_pointer_20 (by decide) (fun c20 => ?_) (fun c20 => ?_)
    · refine lv_aload_n hx hb dX4_pointer_25 rfl (lv_at hl 1 rfl) ?_
      refine w_call (va_runV (As := []) (rest := []) ⟨hx, hb, hml, hown, hts⟩ (c_isFull l g h x kl ka ty hd hL H.size) (cwV 0 hts gX4_pointer_X4_isFull rfl rfl rfl (by decide +kernel) ⟨Nat.le_of_ble_eq_true rfl, Nat.le_of_ble_eq_true rfl⟩) ⟨pr_blind, w_recv hw hd rfl, pr_of hw⟩ rfl rfl hl.1 rfl (lv_room (Nat.le_of_ble_eq_true rfl)) dX4_pointer_26 ⟨Nat.le_of_ble_eq_true rfl, Nat.le_of_ble_eq_true rfl⟩) hw (fun v h' H locs hp hw => ?_)
      obtain ⟨rfl, rfl⟩ := hp
      refine W.eq (g2 := F0 m 29 ls [.int (if 300 ≤ ty.length then 1 else 0)]) rfl ?_
      refine lv_if_eq (tgt := 35) hx hb dX4_pointer_29 (by decide) (fun c29 => ?_) (fun c29 => ?_)
      · have hnf : ¬ 300 ≤ S.length := fun z => by rw [← hlen] at z; rw [if_pos z] at c29; exact absurd c29 (by decide)
        refine lv_aload_n hx hb dX4_pointer_35 rfl (lv_at hl 1 rfl) ?_
        refine w_new (ci := 3) (C := RX2) (T := TX2) (N := 5) (fs := [.int 0, .int 0, .int 0, .int 0, .int 0]) hx hb hts in_X4_pointer_3 tyX2 tyX2_ok hown (hts (.classLink RX4 20 RX2) (by decide +kernel)) (hts (.instantiable RX2 5) (by decide +kernel)) (hts (.initialized RX2) (by decide +kernel)) hw rfl (fun j hj => by rcases (show j = 0 ∨ j = 1 ∨ j = 2 ∨ j = 3 ∨ j = 4 by omega) with rfl | rfl | rfl | rfl | rfl <;> rfl) (Nat.le_of_ble_eq_true rfl) (Nat.le_of_ble_eq_true rfl) dX4_pointer_36 (fun q H hq hw => ?_)
        refine lv_dup hx hb dX4_pointer_39 rfl ?_
        refine lv_iconst (v := 1) hx hb dX4_pointer_40 (by decide) ?_
        refine lv_iload_n hx hb dX4_pointer_41 rfl (lv_at hl 2 rfl) ?_
        refine lv_iconst (v := 0) hx hb dX4_pointer_42 (by decide) ?_
        refine lv_iconst (v := 4) hx hb dX4_pointer_43 (by decide) ?_
        refine lv_iconst (v := 4) hx hb dX4_pointer_44 (by decide) ?_
        refine w_call (va_runI (As := [.int 1, .int t, .int 0, .int 4, .int 4]) (rest := [.ref q, .ref x]) ⟨hx, hb, hml, hown, hts⟩ (c_Simple_init l g (wu h q (.inr (3, [.int 0, .int 0, .int 0, .int 0, .int 0]))) q 0 0 0 0 0 1 t 0 4 4 (wu_s _ _ _) H.size) (cwI 5 hts gX4_pointer_X2_init rfl rfl rfl (hts (.initialized RX2) (by decide +kernel)) (hts (.methodLink RX4 28 yX2_init) (by decide +kernel)) (hts (.instanceMethod yX2_init) (by decide +kernel)) rfl (by decide +kernel) ⟨Nat.le_of_ble_eq_true rfl, Nat.le_of_ble_eq_true rfl⟩) ⟨pr_blind, pr_of hw⟩ rfl rfl hl.1 rfl (lv_room (Nat.le_of_ble_eq_true rfl)) dX4_pointer_45 ⟨Nat.le_of_ble_eq_true rfl, Nat.le_of_ble_eq_true rfl⟩) hw (fun v h' H locs hp hw => ?_)
        obtain ⟨rfl, rfl⟩ := hp
        refine W.eq (g2 := F0 m 48 ls [.ref q, .ref x]) rfl ?_
        have hR1 : DR0 g (wu (wu h q (.inr (3, [.int 0, .int 0, .int 0, .int 0, .int 0]))) q (.inr (3, [.int 4, .int 4, .int 1, .int t, .int 0]))) x S kl ka ty ml ma mb := DR_ext hR0 (ext_re (ext_new hq) hq) (w_z hw)
        refine w_call (va_runV (As := [.ref q]) (rest := []) ⟨hx, hb, hml, hown, hts⟩ (c_enter l g (wu (wu h q (.inr (3, [.int 0, .int 0, .int 0, .int 0, .int 0]))) q (.inr (3, [.int 4, .int 4, .int 1, .int t, .int 0]))) x kl ka ty hR1.1 hR1.2.2.1.1 q ⟨3, _, wu_s _ _ _, by decide, by decide⟩ (by omega) H.size) (cwV 1 hts gX4_pointer_X4_enter rfl rfl rfl (by decide +kernel) ⟨Nat.le_of_ble_eq_true rfl, Nat.le_of_ble_eq_true rfl⟩) ⟨pr_blind, w_recv hw hR1.1 rfl, pr_of hw⟩ rfl rfl hl.1 rfl (lv_room (Nat.le_of_ble_eq_true rfl)) dX4_pointer_48 ⟨Nat.le_of_ble_eq_true rfl, Nat.le_of_ble_eq_true rfl⟩) hw (fun v h' H locs hp hw => ?_)
        obtain ⟨ka', rfl, q1, q2, q3⟩ := hp
        refine W.eq (g2 := F0 m 51 ls [.int (nI ty.length)]) rfl ?_
        have e9 : fPtr S t = (nI S.length, S ++ [(1, t.toNatClampNeg, 0, 4, 4, [], false)]) := by simp [fPtr, ht, hf9, hnf]
        have hc9 : cX (wu (wu h q (.inr (3, [.int 0, .int 0, .int 0, .int 0, .int 0]))) q (.inr (3, [.int 4, .int 4, .int 1, .int t, .int 0]))) q (1, t.toNatClampNeg, 0, 4, 4, [], false) 0 [] := Or.inl ⟨show 1 < 3 by decide, by
          show wu _ _ _ _ = some (oSi (nI 4) (nI 4) (nI 1) (nI t.toNatClampNeg) (nI 0))
          rw [wu_s, ← et]
          rfl⟩
        exact r_int hx hb hr hlocks hw dX4_pointer_51 (Nat.le_of_ble_eq_true rfl) (Nat.le_of_ble_eq_true rfl) (⟨by rw [e9, hlen], by rw [e9]; exact ⟨_, _, _, _, _, _, DR_app 0 hR1 (w_z hw) (ty_fresh (DR_ty hR0) hq) hc9 (fun z => absurd (show 3 ≤ 1 from z) (by decide)) q1 q2 q3⟩⟩)
      · have hfu : 300 ≤ S.length := by
          rw [← hlen]
          by_cases z : 300 ≤ ty.length
          · exact z
          · rw [if_neg z] at c29
            exact absurd rfl c29
        refine lv_bipush (v := (-2)) hx hb dX4_pointer_32 (by decide) ?_
        have e9 : fPtr S t = (-2, S) := by simp [fPtr, ht, hf9, hfu]
        exact r_int hx hb hr hlocks hw dX4_pointer_34 (Nat.le_of_ble_eq_true rfl) (Nat.le_of_ble_eq_true rfl) (⟨by rw [e9], by rw [e9]; exact ⟨kl, ka, ty, ml, ma, mb, hR0⟩⟩)
    · exact absurd rfl c20
set_option maxHeartbeats 4000000 in
set_option maxRecDepth 100000 in
theorem d_pointer_C (l : Launch) (g : GG) (h : Nat → Option va_E) (x : Nat) (S : List TyS) (N : Nat) (hR : DR g h x S) (hS : wfS N S) (t : Int32) (T : TyS) (ht : lk S t = some T) (hk : 3 ≤ tK T) : Con l yX4_pointer wsX4_pointer 8 192 2 805 [.ref x, .int t] g h (fun v h' => v = some (.int (fPtr S t).1) ∧ DR g h' x (fPtr S t).2) := by
  obtain ⟨kl, ka, ty, ml, ma, mb, hR0⟩ := hR
  obtain ⟨hd, hz9, hG, hlen, -⟩ := id hR0
  have hL := hG.1
  have hn9 := AL_len hL
  obtain ⟨⟨mck, hk0⟩, -, -⟩ := id hL
  obtain ⟨a, ha1, ha2, ha3, hc⟩ := DR_lk hR0 ht
  obtain ⟨⟨up, fb, ha, huo⟩, hml9, hmm⟩ : (∃ up fb : Int32, h a = some (oCo (nI (tSz T)) (nI (tAl T)) (if tK T = 4 then 1 else 0) (ml t.toNatClampNeg) (if tFi T = true then 0 else 1) (nI (ly T).1) up fb) ∧ uOK (tK T == 4) (ly T).2.2.1 up fb) ∧ (mb t.toNatClampNeg).length = (ly T).2.2.2.length ∧ ∀ (j y : Nat) (m : Nat × Nat × Nat × Nat), (mb t.toNatClampNeg)[j]? = some y → (ly T).2.2.2[j]? = some m → h y = some (oMb (nI m.1) (nI m.2.1) (nI m.2.2.1) (nI m.2.2.2)) := by
    rcases hc with ⟨z1, -⟩ | ⟨z1, z2⟩
    · exact absurd hk (by omega)
    · exact z2
  have hT : isTy h a := Or.inl ⟨_, _, _, _, _, _, _, _, ha⟩
  obtain ⟨hM, hmk, -⟩ := hG.2.2.1 t.toNatClampNeg (by have := (List.getElem?_eq_some_iff.mp ha2).1; omega) ⟨T, ha3, hk⟩
  obtain ⟨⟨mcm, hm0⟩, -, -⟩ := id hM
  refine m_start (cc := cX4_pointer) (maxL := 3) (ret := (some .int)) (by decide) rfl (Nat.le_of_ble_eq_true rfl) ?_
  intro p e s m below meth c A ls hx hb hr hml hts hown hlocks hin hw hl
  have hl : lv_has ls 3 [(0, .ref x), (1, .int t)] := hl
  have hown : s.vm.findClass RX4 = some m.cls := hown
  refine lv_aload_n hx hb dX4_pointer_0 rfl (lv_at hl 0 rfl) ?_
  refine lv_iload_n hx hb dX4_pointer_1 rfl (lv_at hl 1 rfl) ?_
  refine w_call (va_runV (As := [.int t]) (rest := []) ⟨hx, hb, hml, hown, hts⟩ (c_typeAt_S l g h x kl ka ty hd hL t a ha1 hT s.heap.size) (cwV 1 hts gX4_pointer_X4_typeAt rfl rfl rfl (by decide +kernel) ⟨Nat.le_of_ble_eq_true rfl, Nat.le_of_ble_eq_true rfl⟩) ⟨pr_blind, w_recv hw hd rfl, pr_of hw⟩ rfl rfl hl.1 rfl (lv_room (Nat.le_of_ble_eq_true rfl)) dX4_pointer_2 ⟨Nat.le_of_ble_eq_true rfl, Nat.le_of_ble_eq_true rfl⟩) hw (fun v h' H locs hp hw => ?_)
  obtain ⟨rfl, rfl⟩ := hp
  refine W.eq (g2 := F0 m 5 ls [.ref a]) rfl ?_
  refine lv_ifnonnull (tgt := 10) hx hb dX4_pointer_5 (by decide) ?_
  refine lv_aload_n hx hb dX4_pointer_10 rfl (lv_at hl 0 rfl) ?_
  refine lv_iconst (v := 1) hx hb dX4_pointer_11 (by decide) ?_
  refine lv_iload_n hx hb dX4_pointer_12 rfl (lv_at hl 1 rfl) ?_
  refine lv_iconst (v := 0) hx hb dX4_pointer_13 (by decide) ?_
  refine w_call (va_runV (As := [.int 1, .int t, .int 0]) (rest := []) ⟨hx, hb, hml, hown, hts⟩ (c_find l g h x kl ka ty hd hL 1 t 0 (DR_ty hR0) H.size) (cwV 3 hts gX4_pointer_X4_find rfl rfl rfl (by decide +kernel) ⟨Nat.le_of_ble_eq_true rfl, Nat.le_of_ble_eq_true rfl⟩) ⟨pr_blind, w_recv hw hd rfl, pr_of hw⟩ rfl rfl hl.1 rfl (lv_room (Nat.le_of_ble_eq_true rfl)) dX4_pointer_14 ⟨Nat.le_of_ble_eq_true rfl, Nat.le_of_ble_eq_true rfl⟩) hw (fun v h' H locs hp hw => ?_)
  have et : t = nI t.toNatClampNeg := (lk_lt ht (by have := hS.2.1; omega)).2.1
  obtain ⟨rfl, ⟨i9, hi9, rfl, hi2, hi3⟩ | ⟨rfl, hno9⟩⟩ := hp
  · refine W.eq (g2 := F0 m 17 ls [.int (nI i9)]) rfl ?_
    have hf9 : fnd S 1 t.toNatClampNeg 0 = some i9 := DR_fndS hR0 hS (Or.inl rfl) (by have := lk_lt ht (by have := hS.2.1; omega); have := hS.2.1; omega) (by decide) hi9 (by rw [← et]; exact hi2) (by rw [← et]; exact hi3)
    refine lv_istore_n (lv' := [(2, .int (nI i9)), (0, .ref x), (1, .int t)]) hx hb dX4_pointer_17 rfl hl (by decide) rfl (fun ls hl => ?_)
    refine lv_iload_n hx hb dX4_pointer_18 rfl (lv_at hl 0 rfl) ?_
    refine lv_iconst (v := (-1)) hx hb dX4_pointer_19 (by decide) ?_
    refine lv_icmp_eq (tgt := 25) hx hb dX4_pointer_20 (by decide) (fun c20 => ?_) (fun c20 => ?_)
    · exact absurd c20 (fun z => by have := nI_pos (n := i9) (by omega); rw [z] at this; exact this (by decide))
    · refine lv_iload_n hx hb dX4_pointer_23 rfl (lv_at hl 0 rfl) ?_
      have e9 : fPtr S t = (nI i9, S) := by simp [fPtr, ht, hf9]
      exact r_int hx hb hr hlocks hw dX4_pointer_24 (Nat.le_of_ble_eq_true rfl) (Nat.le_of_ble_eq_true rfl) (⟨by rw [e9], by rw [e9]; exact ⟨kl, ka, ty, ml, ma, mb, hR0⟩⟩)
  · refine W.eq (g2 := F0 m 17 ls [.int (-1)]) rfl ?_
    have hf9 : fnd S 1 t.toNatClampNeg 0 = none := DR_fndN hR0 hS (Or.inl rfl) (by have := lk_lt ht (by have := hS.2.1; omega); have := hS.2.1; omega) (by decide) (by rw [← et]; exact hno9)
    refine lv_istore_n (lv' := [(2, .int (-1)), (0, .ref x), (1, .int t)]) hx hb dX4_pointer_17 rfl hl (by decide) rfl (fun ls hl => ?_)
    refine lv_iload_n hx hb dX4_pointer_18 rfl (lv_at hl 0 rfl) ?_
    refine lv_iconst (v := (-1)) hx hb dX4_pointer_19 (by decide) ?_
    refine lv_icmp_eq (tgt := 25) hx hb dX4_pointer_20 (by decide) (fun c20 => ?_) (fun c20 => ?_)
    · refine lv_aload_n hx hb dX4_pointer_25 rfl (lv_at hl 1 rfl) ?_
      refine w_call (va_runV (As := []) (rest := []) ⟨hx, hb, hml, hown, hts⟩ (c_isFull l g h x kl ka ty hd hL H.size) (cwV 0 hts gX4_pointer_X4_isFull rfl rfl rfl (by decide +kernel) ⟨Nat.le_of_ble_eq_true rfl, Nat.le_of_ble_eq_true rfl⟩) ⟨pr_blind, w_recv hw hd rfl, pr_of hw⟩ rfl rfl hl.1 rfl (lv_room (Nat.le_of_ble_eq_true rfl)) dX4_pointer_26 ⟨Nat.le_of_ble_eq_true rfl, Nat.le_of_ble_eq_true rfl⟩) hw (fun v h' H locs hp hw => ?_)
      obtain ⟨rfl, rfl⟩ := hp
      refine W.eq (g2 := F0 m 29 ls [.int (if 300 ≤ ty.length then 1 else 0)]) rfl ?_
      refine lv_if_eq (tgt := 35) hx hb dX4_pointer_29 (by decide) (fun c29 => ?_) (fun c29 => ?_)
      · have hnf : ¬ 300 ≤ S.length := fun z => by rw [← hlen] at z; rw [if_pos z] at c29; exact absurd c29 (by decide)
        refine lv_aload_n hx hb dX4_pointer_35 rfl (lv_at hl 1 rfl) ?_
        refine w_new (ci := 3) (C := RX2) (T := TX2) (N := 5) (fs := [.int 0, .int 0, .int 0, .int 0, .int 0]) hx hb hts in_X4_pointer_3 tyX2 tyX2_ok hown (hts (.classLink RX4 20 RX2) (by decide +kernel)) (hts (.instantiable RX2 5) (by decide +kernel)) (hts (.initialized RX2) (by decide +kernel)) hw rfl (fun j hj => by rcases (show j = 0 ∨ j = 1 ∨ j = 2 ∨ j = 3 ∨ j = 4 by omega) with rfl | rfl | rfl | rfl | rfl <;> rfl) (Nat.le_of_ble_eq_true rfl) (Nat.le_of_ble_eq_true rfl) dX4_pointer_36 (fun q H hq hw => ?_)
        refine lv_dup hx hb dX4_pointer_39 rfl ?_
        refine lv_iconst (v := 1) hx hb dX4_pointer_40 (by decide) ?_
        refine lv_iload_n hx hb dX4_pointer_41 rfl (lv_at hl 2 rfl) ?_
        refine lv_iconst (v := 0) hx hb dX4_pointer_42 (by decide) ?_
        refine lv_iconst (v := 4) hx hb dX4_pointer_43 (by decide) ?_
        refine lv_iconst (v := 4) hx hb dX4_pointer_44 (by decide) ?_
        refine w_call (va_runI (As := [.int 1, .int t, .int 0, .int 4, .int 4]) (rest := [.ref q, .ref x]) ⟨hx, hb, hml, hown, hts⟩ (c_Simple_init l g (wu h q (.inr (3, [.int 0, .int 0, .int 0, .int 0, .int 0]))) q 0 0 0 0 0 1 t 0 4 4 (wu_s _ _ _) H.size) (cwI 5 hts gX4_pointer_X2_init rfl rfl rfl (hts (.initialized RX2) (by decide +kernel)) (hts (.methodLink RX4 28 yX2_init) (by decide +kernel)) (hts (.instanceMethod yX2_init) (by decide +kernel)) rfl (by decide +kernel) ⟨Nat.le_of_ble_eq_true rfl, Nat.le_of_ble_eq_true rfl⟩) ⟨pr_blind, pr_of hw⟩ rfl rfl hl.1 rfl (lv_room (Nat.le_of_ble_eq_true rfl)) dX4_pointer_45 ⟨Nat.le_of_ble_eq_true rfl, Nat.le_of_ble_eq_true rfl⟩) hw (fun v h' H locs hp hw => ?_)
        obtain ⟨rfl, rfl⟩ := hp
        refine W.eq (g2 := F0 m 48 ls [.ref q, .ref x]) rfl ?_
        have hR1 : DR0 g (wu (wu h q (.inr (3, [.int 0, .int 0, .int 0, .int 0, .int 0]))) q (.inr (3, [.int 4, .int 4, .int 1, .int t, .int 0]))) x S kl ka ty ml ma mb := DR_ext hR0 (ext_re (ext_new hq) hq) (w_z hw)
        refine w_call (va_runV (As := [.ref q]) (rest := []) ⟨hx, hb, hml, hown, hts⟩ (c_enter l g (wu (wu h q (.inr (3, [.int 0, .int 0, .int 0, .int 0, .int 0]))) q (.inr (3, [.int 4, .int 4, .int 1, .int t, .int 0]))) x kl ka ty hR1.1 hR1.2.2.1.1 q ⟨3, _, wu_s _ _ _, by decide, by decide⟩ (by omega) H.size) (cwV 1 hts gX4_pointer_X4_enter rfl rfl rfl (by decide +kernel) ⟨Nat.le_of_ble_eq_true rfl, Nat.le_of_ble_eq_true rfl⟩) ⟨pr_blind, w_recv hw hR1.1 rfl, pr_of hw⟩ rfl rfl hl.1 rfl (lv_room (Nat.le_of_ble_eq_true rfl)) dX4_pointer_48 ⟨Nat.le_of_ble_eq_true rfl, Nat.le_of_ble_eq_true rfl⟩) hw (fun v h' H locs hp hw => ?_)
        obtain ⟨ka', rfl, q1, q2, q3⟩ := hp
        refine W.eq (g2 := F0 m 51 ls [.int (nI ty.length)]) rfl ?_
        have e9 : fPtr S t = (nI S.length, S ++ [(1, t.toNatClampNeg, 0, 4, 4, [], false)]) := by simp [fPtr, ht, hf9, hnf]
        have hc9 : cX (wu (wu h q (.inr (3, [.int 0, .int 0, .int 0, .int 0, .int 0]))) q (.inr (3, [.int 4, .int 4, .int 1, .int t, .int 0]))) q (1, t.toNatClampNeg, 0, 4, 4, [], false) 0 [] := Or.inl ⟨show 1 < 3 by decide, by
          show wu _ _ _ _ = some (oSi (nI 4) (nI 4) (nI 1) (nI t.toNatClampNeg) (nI 0))
          rw [wu_s, ← et]
          rfl⟩
        exact r_int hx hb hr hlocks hw dX4_pointer_51 (Nat.le_of_ble_eq_true rfl) (Nat.le_of_ble_eq_true rfl) (⟨by rw [e9, hlen], by rw [e9]; exact ⟨_, _, _, _, _, _, DR_app 0 hR1 (w_z hw) (ty_fresh (DR_ty hR0) hq) hc9 (fun z => absurd (show 3 ≤ 1 from z) (by decide)) q1 q2 q3⟩⟩)
      · have hfu : 300 ≤ S.length := by
          rw [← hlen]
          by_cases z : 300 ≤ ty.length
          · exact z
          · rw [if_neg z] at c29
            exact absurd rfl c29
        refine lv_bipush (v := (-2)) hx hb dX4_pointer_32 (by decide) ?_
        have e9 : fPtr S t = (-2, S) := by simp [fPtr, ht, hf9, hfu]
        exact r_int hx hb hr hlocks hw dX4_pointer_34 (Nat.le_of_ble_eq_true rfl) (Nat.le_of_ble_eq_true rfl) (⟨by rw [e9], by rw [e9]; exact ⟨kl, ka, ty, ml, ma, mb, hR0⟩⟩)
    · exact absurd rfl c20
theorem d_pointer (l : Launch) (g : GG) (h : Nat → Option va_E) (x : Nat) (S : List TyS) (N : Nat) (hR : DR g h x S) (hS : wfS N S) (t : Int32) : Con l yX4_pointer wsX4_pointer 8 192 2 805 [.ref x, .int t] g h (fun v h' => v = some (.int (fPtr S t).1) ∧ DR g h' x (fPtr S t).2) := by
  cases ht : lk S t with
  | none => exact d_pointer_N l g h x S N hR hS t ht
  | some T =>
    rcases Nat.lt_or_ge (tK T) 3 with hk | hk
    · exact d_pointer_S l g h x S N hR hS t T ht hk
    · exact d_pointer_C l g h x S N hR hS t T ht hk
set_option maxHeartbeats 4000000 in
set_option maxRecDepth 100000 in
theorem d_array_N (l : Launch) (g : GG) (h : Nat → Option va_E) (x : Nat) (S : List TyS) (N : Nat) (hR : DR g h x S) (hS : wfS N S) (t n : Int32) (ht : lk S t = none) : Con l yX4_array wsX4_array 8 192 2 805 [.ref x, .int t, .int n] g h (fun v h' => v = some (.int (fArr S t n).1) ∧ DR g h' x (fArr S t n).2) := by
  obtain ⟨kl, ka, ty, ml, ma, mb, hR0⟩ := hR
  obtain ⟨hd, hz9, hG, hlen, -⟩ := id hR0
  have hL := hG.1
  have hn9 := AL_len hL
  obtain ⟨⟨mck, hk0⟩, -, -⟩ := id hL
  have htn := DR_lkN hR0 ht
  refine m_start (cc := cX4_array) (maxL := 7) (ret := (some .int)) (by decide) rfl (Nat.le_of_ble_eq_true rfl) ?_
  intro p e s m below meth c A ls hx hb hr hml hts hown hlocks hin hw hl
  have hl : lv_has ls 7 [(0, .ref x), (1, .int t), (2, .int n)] := hl
  have hown : s.vm.findClass RX4 = some m.cls := hown
  refine lv_aload_n hx hb dX4_array_0 rfl (lv_at hl 0 rfl) ?_
  refine lv_iload_n hx hb dX4_array_1 rfl (lv_at hl 1 rfl) ?_
  refine w_call (va_runV (As := [.int t]) (rest := []) ⟨hx, hb, hml, hown, hts⟩ (c_typeAt_N l g h x kl ka ty hd hL t htn s.heap.size) (cwV 1 hts gX4_array_X4_typeAt rfl rfl rfl (by decide +kernel) ⟨Nat.le_of_ble_eq_true rfl, Nat.le_of_ble_eq_true rfl⟩) ⟨pr_blind, w_recv hw hd rfl, pr_of hw⟩ rfl rfl hl.1 rfl (lv_room (Nat.le_of_ble_eq_true rfl)) dX4_array_2 ⟨Nat.le_of_ble_eq_true rfl, Nat.le_of_ble_eq_true rfl⟩) hw (fun v h' H locs hp hw => ?_)
  obtain ⟨rfl, rfl⟩ := hp
  refine W.eq (g2 := F0 m 5 ls [.null]) rfl ?_
  refine lv_astore_nN (lv' := [(3, .null), (0, .ref x), (1, .int t), (2, .int n)]) hx hb dX4_array_5 rfl hl (by decide) rfl (fun ls hl => ?_)
  refine lv_aload_nN hx hb dX4_array_6 rfl (lv_at hl 0 rfl) ?_
  refine lv_ifnullN (tgt := 21) hx hb dX4_array_7 (by decide) ?_
  refine lv_iconst (v := (-1)) hx hb dX4_array_21 (by decide) ?_
  have e9 : fArr S t n = (-1, S) := by simp [fArr, ht]
  exact r_int hx hb hr hlocks hw dX4_array_22 (Nat.le_of_ble_eq_true rfl) (Nat.le_of_ble_eq_true rfl) (⟨by rw [e9], by rw [e9]; exact ⟨kl, ka, ty, ml, ma, mb, hR0⟩⟩)
theorem in_X4_array_3 : ∀ w ∈ u_ws RX2 TX2 5, w ∈ wsX4_array := by decide +kernel
set_option maxHeartbeats 4000000 in
set_option maxRecDepth 100000 in
theorem d_array_S (l : Launch) (g : GG) (h : Nat → Option va_E) (x : Nat) (S : List TyS) (N : Nat) (hR : DR g h x S) (hS : wfS N S) (t n : Int32) (T : TyS) (ht : lk S t = some T) (hk : tK T < 3) : Con l yX4_array wsX4_array 8 192 2 805 [.ref x, .int t, .int n] g h (fun v h' => v = some (.int (fArr S t n).1) ∧ DR g h' x (fArr S t n).2) := by
  obtain ⟨kl, ka, ty, ml, ma, mb, hR0⟩ := hR
  obtain ⟨hd, hz9, hG, hlen, -⟩ := id hR0
  have hL := hG.1
  have hn9 := AL_len hL
  obtain ⟨⟨mck, hk0⟩, -, -⟩ := id hL
  obtain ⟨a, ha1, ha2, ha3, hc⟩ := DR_lk hR0 ht
  have ha : h a = some (oSi (nI (tSz T)) (nI (tAl T)) (nI (tK T)) (if tK T = 0 then -1 else nI (tTo T)) (nI (tLn T))) := by
    rcases hc with ⟨z1, z2⟩ | ⟨z1, -⟩
    · exact z2
    · exact absurd hk (by omega)
  have hT : isTy h a := cX_ty hc
  refine m_start (cc := cX4_array) (maxL := 7) (ret := (some .int)) (by decide) rfl (Nat.le_of_ble_eq_true rfl) ?_
  intro p e s m below meth c A ls hx hb hr hml hts hown hlocks hin hw hl
  have hl : lv_has ls 7 [(0, .ref x), (1, .int t), (2, .int n)] := hl
  have hown : s.vm.findClass RX4 = some m.cls := hown
  refine lv_aload_n hx hb dX4_array_0 rfl (lv_at hl 0 rfl) ?_
  refine lv_iload_n hx hb dX4_array_1 rfl (lv_at hl 1 rfl) ?_
  refine w_call (va_runV (As := [.int t]) (rest := []) ⟨hx, hb, hml, hown, hts⟩ (c_typeAt_S l g h x kl ka ty hd hL t a ha1 hT s.heap.size) (cwV 1 hts gX4_array_X4_typeAt rfl rfl rfl (by decide +kernel) ⟨Nat.le_of_ble_eq_true rfl, Nat.le_of_ble_eq_true rfl⟩) ⟨pr_blind, w_recv hw hd rfl, pr_of hw⟩ rfl rfl hl.1 rfl (lv_room (Nat.le_of_ble_eq_true rfl)) dX4_array_2 ⟨Nat.le_of_ble_eq_true rfl, Nat.le_of_ble_eq_true rfl⟩) hw (fun v h' H locs hp hw => ?_)
  obtain ⟨rfl, rfl⟩ := hp
  refine W.eq (g2 := F0 m 5 ls [.ref a]) rfl ?_
  refine lv_astore_n (lv' := [(3, .ref a), (0, .ref x), (1, .int t), (2, .int n)]) hx hb dX4_array_5 rfl hl (by decide) rfl (fun ls hl => ?_)
  refine lv_aload_n hx hb dX4_array_6 rfl (lv_at hl 0 rfl) ?_
  refine lv_ifnull hx hb dX4_array_7 ?_
  refine lv_iload_n hx hb dX4_array_10 rfl (lv_at hl 3 rfl) ?_
  refine lv_iconst (v := 1) hx hb dX4_array_11 (by decide) ?_
  refine lv_icmp_lt (tgt := 21) hx hb dX4_array_12 (by decide) (fun c12 => ?_) (fun c12 => ?_)
  · refine lv_iconst (v := (-1)) hx hb dX4_array_21 (by decide) ?_
    have e9 : fArr S t n = (-1, S) := by simp [fArr, ht, c12]
    exact r_int hx hb hr hlocks hw dX4_array_22 (Nat.le_of_ble_eq_true rfl) (Nat.le_of_ble_eq_true rfl) (⟨by rw [e9], by rw [e9]; exact ⟨kl, ka, ty, ml, ma, mb, hR0⟩⟩)
  · refine lv_iload_n hx hb dX4_array_15 rfl (lv_at hl 3 rfl) ?_
    refine lv_ldc (v := 524288) hx hb hown (hts (.constant RX4 51 (524288)) (by decide +kernel)) dX4_array_16 ?_
    refine lv_icmp_le (tgt := 23) hx hb dX4_array_18 (by decide) (fun c18 => ?_) (fun c18 => ?_)
    · obtain ⟨en, hn1, hn2⟩ := arr_n c12 c18
      refine lv_aload_n hx hb dX4_array_23 rfl (lv_at hl 0 rfl) ?_
      refine w_get (ci := 3) (C := RX2) (T := TX2) (N := 5) (ref := "LayoutDesk$Type") hx hb hts in_X4_array_3 hown hw ha rfl 0 (by decide) (hts (.fieldLink RX4 52 "LayoutDesk$Type" "bytes" "I") (by decide +kernel)) (fun _ h9 => h9) rfl dX4_array_24 ?_
      refine lv_if_ne (tgt := 33) hx hb dX4_array_27 (by decide) (fun c27 => ?_) (fun c27 => ?_)
      · refine lv_aload_n hx hb dX4_array_33 rfl (lv_at hl 0 rfl) ?_
        refine w_get (ci := 3) (C := RX2) (T := TX2) (N := 5) (ref := "LayoutDesk$Type") hx hb hts in_X4_array_3 hown hw ha rfl 0 (by decide) (hts (.fieldLink RX4 52 "LayoutDesk$Type" "bytes" "I") (by decide +kernel)) (fun _ h9 => h9) rfl dX4_array_34 ?_
        refine lv_i2l (v := (nI (tSz T)).toInt64) hx hb dX4_array_37 rfl ?_
        refine lv_iload_n hx hb dX4_array_38 rfl (lv_at hl 3 rfl) ?_
        refine lv_i2l (v := n.toInt64) hx hb dX4_array_39 rfl ?_
        refine lv_lmul hx hb dX4_array_40 ?_
        refine lv_topl (fun b8 eb8 => ?_)
        have hb8 := mul_le (hS.2.2 _ _ ha3).1.2.2.2.1 hn2 (eb8.trans (by rw [← en]))
        refine lv_lstore (lv' := [(4, .long b8), (3, .ref a), (0, .ref x), (1, .int t), (2, .int n)]) hx hb dX4_array_41 hl (by decide) rfl (fun ls hl => ?_)
        refine lv_lload hx hb dX4_array_43 (lv_at hl 0 rfl) ?_
        refine lv_ldc2 (v := 524288) hx hb hown (hts (.constantLong RX4 58 (524288)) (by decide +kernel)) dX4_array_45 ?_
        refine W.lcmp hx hb dX4_array_48 ?_
        refine lv_if_le (tgt := 55) hx hb dX4_array_49 (by decide) (fun c49 => ?_) (fun c49 => ?_)
        · refine lv_aload_n hx hb dX4_array_55 rfl (lv_at hl 2 rfl) ?_
          refine lv_iconst (v := 2) hx hb dX4_array_56 (by decide) ?_
          refine lv_iload_n hx hb dX4_array_57 rfl (lv_at hl 3 rfl) ?_
          refine lv_iload_n hx hb dX4_array_58 rfl (lv_at hl 4 rfl) ?_
          refine w_call (va_runV (As := [.int 2, .int t, .int n]) (rest := []) ⟨hx, hb, hml, hown, hts⟩ (c_find l g h x kl ka ty hd hL 2 t n (DR_ty hR0) H.size) (cwV 3 hts gX4_array_X4_find rfl rfl rfl (by decide +kernel) ⟨Nat.le_of_ble_eq_true rfl, Nat.le_of_ble_eq_true rfl⟩) ⟨pr_blind, w_recv hw hd rfl, pr_of hw⟩ rfl rfl hl.1 rfl (lv_room (Nat.le_of_ble_eq_true rfl)) dX4_array_59 ⟨Nat.le_of_ble_eq_true rfl, Nat.le_of_ble_eq_true rfl⟩) hw (fun v h' H locs hp hw => ?_)
          have et : t = nI t.toNatClampNeg := (lk_lt ht (by have := hS.2.1; omega)).2.1
          obtain ⟨rfl, ⟨i9, hi9, rfl, hi2, hi3⟩ | ⟨rfl, hno9⟩⟩ := hp
          · refine W.eq (g2 := F0 m 62 ls [.int (nI i9)]) rfl ?_
            have hf9 : fnd S 2 t.toNatClampNeg n.toNatClampNeg = some i9 := DR_fndS hR0 hS (Or.inr rfl) (by have := lk_lt ht (by have := hS.2.1; omega); have := hS.2.1; omega) (by omega) hi9 (by rw [← et, ← en]; exact hi2) (by rw [← et, ← en]; exact hi3)
            refine lv_istore (lv' := [(6, .int (nI i9)), (4, .long b8), (3, .ref a), (0, .ref x), (1, .int t), (2, .int n)]) hx hb dX4_array_62 hl (by decide) rfl (fun ls hl => ?_)
            refine lv_iload hx hb dX4_array_64 (lv_at hl 0 rfl) ?_
            refine lv_iconst (v := (-1)) hx hb dX4_array_66 (by decide) ?_
            refine lv_icmp_eq (tgt := 73) hx hb dX4_array_67 (by decide) (fun c67 => ?_) (fun c67 => ?_)
            · exact absurd c67 (fun z => by have := nI_pos (n := i9) (by omega); rw [z] at this; exact this (by decide))
            · refine lv_iload hx hb dX4_array_70 (lv_at hl 0 rfl) ?_
              have e9 : fArr S t n = (nI i9, S) := by simp [fArr, ht, (show ¬ (n < 1 ∨ 524288 < n) from fun z => z.elim c12 (fun z => Int32.not_lt.mpr c18 z)), show ¬ tSz T = 0 from fun z => c27 (by rw [z]; exact nI_0), show ¬ 524288 < tSz T * n.toNatClampNeg from Nat.not_lt.mpr (hb8.2.mp c49), hf9]
              exact r_int hx hb hr hlocks hw dX4_array_72 (Nat.le_of_ble_eq_true rfl) (Nat.le_of_ble_eq_true rfl) (⟨by rw [e9], by rw [e9]; exact ⟨kl, ka, ty, ml, ma, mb, hR0⟩⟩)
          · refine W.eq (g2 := F0 m 62 ls [.int (-1)]) rfl ?_
            have hf9 : fnd S 2 t.toNatClampNeg n.toNatClampNeg = none := DR_fndN hR0 hS (Or.inr rfl) (by have := lk_lt ht (by have := hS.2.1; omega); have := hS.2.1; omega) (by omega) (by rw [← et, ← en]; exact hno9)
            refine lv_istore (lv' := [(6, .int (-1)), (4, .long b8), (3, .ref a), (0, .ref x), (1, .int t), (2, .int n)]) hx hb dX4_array_62 hl (by decide) rfl (fun ls hl => ?_)
            refine lv_iload hx hb dX4_array_64 (lv_at hl 0 rfl) ?_
            refine lv_iconst (v := (-1)) hx hb dX4_array_66 (by decide) ?_
            refine lv_icmp_eq (tgt := 73) hx hb dX4_array_67 (by decide) (fun c67 => ?_) (fun c67 => ?_)
            · refine lv_aload_n hx hb dX4_array_73 rfl (lv_at hl 3 rfl) ?_
              refine w_call (va_runV (As := []) (rest := []) ⟨hx, hb, hml, hown, hts⟩ (c_isFull l g h x kl ka ty hd hL H.size) (cwV 0 hts gX4_array_X4_isFull rfl rfl rfl (by decide +kernel) ⟨Nat.le_of_ble_eq_true rfl, Nat.le_of_ble_eq_true rfl⟩) ⟨pr_blind, w_recv hw hd rfl, pr_of hw⟩ rfl rfl hl.1 rfl (lv_room (Nat.le_of_ble_eq_true rfl)) dX4_array_74 ⟨Nat.le_of_ble_eq_true rfl, Nat.le_of_ble_eq_true rfl⟩) hw (fun v h' H locs hp hw => ?_)
              obtain ⟨rfl, rfl⟩ := hp
              refine W.eq (g2 := F0 m 77 ls [.int (if 300 ≤ ty.length then 1 else 0)]) rfl ?_
              refine lv_if_eq (tgt := 83) hx hb dX4_array_77 (by decide) (fun c77 => ?_) (fun c77 => ?_)
              · have hnf : ¬ 300 ≤ S.length := fun z => by rw [← hlen] at z; rw [if_pos z] at c77; exact absurd c77 (by decide)
                refine lv_aload_n hx hb dX4_array_83 rfl (lv_at hl 3 rfl) ?_
                refine w_new (ci := 3) (C := RX2) (T := TX2) (N := 5) (fs := [.int 0, .int 0, .int 0, .int 0, .int 0]) hx hb hts in_X4_array_3 tyX2 tyX2_ok hown (hts (.classLink RX4 20 RX2) (by decide +kernel)) (hts (.instantiable RX2 5) (by decide +kernel)) (hts (.initialized RX2) (by decide +kernel)) hw rfl (fun j hj => by rcases (show j = 0 ∨ j = 1 ∨ j = 2 ∨ j = 3 ∨ j = 4 by omega) with rfl | rfl | rfl | rfl | rfl <;> rfl) (Nat.le_of_ble_eq_true rfl) (Nat.le_of_ble_eq_true rfl) dX4_array_84 (fun q H hq hw => ?_)
                refine lv_dup hx hb dX4_array_87 rfl ?_
                refine lv_iconst (v := 2) hx hb dX4_array_88 (by decide) ?_
                refine lv_iload_n hx hb dX4_array_89 rfl (lv_at hl 4 rfl) ?_
                refine lv_iload_n hx hb dX4_array_90 rfl (lv_at hl 5 rfl) ?_
                refine lv_lload hx hb dX4_array_91 (lv_at hl 1 rfl) ?_
                refine lv_l2i (v := b8.toInt32) hx hb dX4_array_93 rfl ?_
                refine lv_aload_n hx hb dX4_array_94 rfl (lv_at hl 2 rfl) ?_
                refine w_get (ci := 3) (C := RX2) (T := TX2) (N := 5) (ref := "LayoutDesk$Type") hx hb hts in_X4_array_3 hown hw ((wu_n (ne_n ha hq)).trans ha) rfl 1 (by decide) (hts (.fieldLink RX4 60 "LayoutDesk$Type" "alignment" "I") (by decide +kernel)) (fun _ h9 => h9) rfl dX4_array_95 ?_
                refine w_call (va_runI (As := [.int 2, .int t, .int n, .int b8.toInt32, .int (nI (tAl T))]) (rest := [.ref q, .ref x]) ⟨hx, hb, hml, hown, hts⟩ (c_Simple_init l g (wu h q (.inr (3, [.int 0, .int 0, .int 0, .int 0, .int 0]))) q 0 0 0 0 0 2 t n b8.toInt32 (nI (tAl T)) (wu_s _ _ _) H.size) (cwI 5 hts gX4_array_X2_init rfl rfl rfl (hts (.initialized RX2) (by decide +kernel)) (hts (.methodLink RX4 28 yX2_init) (by decide +kernel)) (hts (.instanceMethod yX2_init) (by decide +kernel)) rfl (by decide +kernel) ⟨Nat.le_of_ble_eq_true rfl, Nat.le_of_ble_eq_true rfl⟩) ⟨pr_blind, pr_of hw⟩ rfl rfl hl.1 rfl (lv_room (Nat.le_of_ble_eq_true rfl)) dX4_array_98 ⟨Nat.le_of_ble_eq_true rfl, Nat.le_of_ble_eq_true rfl⟩) hw (fun v h' H locs hp hw => ?_)
                obtain ⟨rfl, rfl⟩ := hp
                refine W.eq (g2 := F0 m 101 ls [.ref q, .ref x]) rfl ?_
                have hR1 : DR0 g (wu (wu h q (.inr (3, [.int 0, .int 0, .int 0, .int 0, .int 0]))) q (.inr (3, [.int b8.toInt32, .int (nI (tAl T)), .int 2, .int t, .int n]))) x S kl ka ty ml ma mb := DR_ext hR0 (ext_re (ext_new hq) hq) (w_z hw)
                refine w_call (va_runV (As := [.ref q]) (rest := []) ⟨hx, hb, hml, hown, hts⟩ (c_enter l g (wu (wu h q (.inr (3, [.int 0, .int 0, .int 0, .int 0, .int 0]))) q (.inr (3, [.int b8.toInt32, .int (nI (tAl T)), .int 2, .int t, .int n]))) x kl ka ty hR1.1 hR1.2.2.1.1 q ⟨3, _, wu_s _ _ _, by decide, by decide⟩ (by omega) H.size) (cwV 1 hts gX4_array_X4_enter rfl rfl rfl (by decide +kernel) ⟨Nat.le_of_ble_eq_true rfl, Nat.le_of_ble_eq_true rfl⟩) ⟨pr_blind, w_recv hw hR1.1 rfl, pr_of hw⟩ rfl rfl hl.1 rfl (lv_room (Nat.le_of_ble_eq_true rfl)) dX4_array_101 ⟨Nat.le_of_ble_eq_true rfl, Nat.le_of_ble_eq_true rfl⟩) hw (fun v h' H locs hp hw => ?_)
                obtain ⟨ka', rfl, q1, q2, q3⟩ := hp
                refine W.eq (g2 := F0 m 104 ls [.int (nI ty.length)]) rfl ?_
                have e9 : fArr S t n = (nI S.length, S ++ [(2, t.toNatClampNeg, n.toNatClampNeg, tSz T * n.toNatClampNeg, tAl T, [], false)]) := by simp [fArr, ht, (show ¬ (n < 1 ∨ 524288 < n) from fun z => z.elim c12 (fun z => Int32.not_lt.mpr c18 z)), show ¬ tSz T = 0 from fun z => c27 (by rw [z]; exact nI_0), show ¬ 524288 < tSz T * n.toNatClampNeg from Nat.not_lt.mpr (hb8.2.mp c49), hf9, hnf]
                have hc9 : cX (wu (wu h q (.inr (3, [.int 0, .int 0, .int 0, .int 0, .int 0]))) q (.inr (3, [.int b8.toInt32, .int (nI (tAl T)), .int 2, .int t, .int n]))) q (2, t.toNatClampNeg, n.toNatClampNeg, tSz T * n.toNatClampNeg, tAl T, [], false) 0 [] := Or.inl ⟨show 2 < 3 by decide, by
                  show wu _ _ _ _ = some (oSi (nI (tSz T * n.toNatClampNeg)) (nI (tAl T)) (nI 2) (nI t.toNatClampNeg) (nI n.toNatClampNeg))
                  rw [wu_s, ← et, ← en, hb8.1, lN_i]
                  rfl⟩
                exact r_int hx hb hr hlocks hw dX4_array_104 (Nat.le_of_ble_eq_true rfl) (Nat.le_of_ble_eq_true rfl) (⟨by rw [e9, hlen], by rw [e9]; exact ⟨_, _, _, _, _, _, DR_app 0 hR1 (w_z hw) (ty_fresh (DR_ty hR0) hq) hc9 (fun z => absurd (show 3 ≤ 2 from z) (by decide)) q1 q2 q3⟩⟩)
              · have hfu : 300 ≤ S.length := by
                  rw [← hlen]
                  by_cases z : 300 ≤ ty.length
                  · exact z
                  · rw [if_neg z] at c77
                    exact absurd rfl c77
                refine lv_bipush (v := (-4)) hx hb dX4_array_80 (by decide) ?_
                have e9 : fArr S t n = (-4, S) := by simp [fArr, ht, (show ¬ (n < 1 ∨ 524288 < n) from fun z => z.elim c12 (fun z => Int32.not_lt.mpr c18 z)), show ¬ tSz T = 0 from fun z => c27 (by rw [z]; exact nI_0), show ¬ 524288 < tSz T * n.toNatClampNeg from Nat.not_lt.mpr (hb8.2.mp c49), hf9, hfu]
                exact r_int hx hb hr hlocks hw dX4_array_82 (Nat.le_of_ble_eq_true rfl) (Nat.le_of_ble_eq_true rfl) (⟨by rw [e9], by rw [e9]; exact ⟨kl, ka, ty, ml, ma, mb, hR0⟩⟩)
            · exact absurd rfl c67
        · refine lv_bipush (v := (-3)) hx hb dX4_array_52 (by decide) ?_
          have e9 : fArr S t n = (-3, S) := by simp [fArr, ht, (show ¬ (n < 1 ∨ 524288 < n) from fun z => z.elim c12 (fun z => Int32.not_lt.mpr c18 z)), show ¬ tSz T = 0 from fun z => c27 (by rw [z]; exact nI_0), show 524288 < tSz T * n.toNatClampNeg from Nat.lt_of_not_le (fun z => c49 (hb8.2.mpr z))]
          exact r_int hx hb hr hlocks hw dX4_array_54 (Nat.le_of_ble_eq_true rfl) (Nat.le_of_ble_eq_true rfl) (⟨by rw [e9], by rw [e9]; exact ⟨kl, ka, ty, ml, ma, mb, hR0⟩⟩)
      · refine lv_bipush (v := (-2)) hx hb dX4_array_30 (by decide) ?_
        have e9 : fArr S t n = (-2, S) := by simp [fArr, ht, (show ¬ (n < 1 ∨ 524288 < n) from fun z => z.elim c12 (fun z => Int32.not_lt.mpr c18 z)), show tSz T = 0 from (nI_eq (b := 0) (by have := (hS.2.2 _ _ ha3).1.2.2.2.1; omega) (by decide)).mp (c27.trans nI_0.symm)]
        exact r_int hx hb hr hlocks hw dX4_array_32 (Nat.le_of_ble_eq_true rfl) (Nat.le_of_ble_eq_true rfl) (⟨by rw [e9], by rw [e9]; exact ⟨kl, ka, ty, ml, ma, mb, hR0⟩⟩)
    · refine lv_iconst (v := (-1)) hx hb dX4_array_21 (by decide) ?_
      have e9 : fArr S t n = (-1, S) := by simp [fArr, ht, Int32.not_le.mp c18]
      exact r_int hx hb hr hlocks hw dX4_array_22 (Nat.le_of_ble_eq_true rfl) (Nat.le_of_ble_eq_true rfl) (⟨by rw [e9], by rw [e9]; exact ⟨kl, ka, ty, ml, ma, mb, hR0⟩⟩)
theorem in_X4_array_1 : ∀ w ∈ u_ws RX0 TX0 8, w ∈ wsX4_array := by decide +kernel
set_option maxHeartbeats 4000000 in
set_option maxRecDepth 100000 in
theorem d_array_C (l : Launch) (g : GG) (h : Nat → Option va_E) (x : Nat) (S : List TyS) (N : Nat) (hR : DR g h x S) (hS : wfS N S) (t n : Int32) (T : TyS) (ht : lk S t = some T) (hk : 3 ≤ tK T) : Con l yX4_array wsX4_array 8 192 2 805 [.ref x, .int t, .int n] g h (fun v h' => v = some (.int (fArr S t n).1) ∧ DR g h' x (fArr S t n).2) := by
  obtain ⟨kl, ka, ty, ml, ma, mb, hR0⟩ := hR
  obtain ⟨hd, hz9, hG, hlen, -⟩ := id hR0
  have hL := hG.1
  have hn9 := AL_len hL
  obtain ⟨⟨mck, hk0⟩, -, -⟩ := id hL
  obtain ⟨a, ha1, ha2, ha3, hc⟩ := DR_lk hR0 ht
  obtain ⟨⟨up, fb, ha, huo⟩, hml9, hmm⟩ : (∃ up fb : Int32, h a = some (oCo (nI (tSz T)) (nI (tAl T)) (if tK T = 4 then 1 else 0) (ml t.toNatClampNeg) (if tFi T = true then 0 else 1) (nI (ly T).1) up fb) ∧ uOK (tK T == 4) (ly T).2.2.1 up fb) ∧ (mb t.toNatClampNeg).length = (ly T).2.2.2.length ∧ ∀ (j y : Nat) (m : Nat × Nat × Nat × Nat), (mb t.toNatClampNeg)[j]? = some y → (ly T).2.2.2[j]? = some m → h y = some (oMb (nI m.1) (nI m.2.1) (nI m.2.2.1) (nI m.2.2.2)) := by
    rcases hc with ⟨z1, -⟩ | ⟨z1, z2⟩
    · exact absurd hk (by omega)
    · exact z2
  have hT : isTy h a := Or.inl ⟨_, _, _, _, _, _, _, _, ha⟩
  obtain ⟨hM, hmk, -⟩ := hG.2.2.1 t.toNatClampNeg (by have := (List.getElem?_eq_some_iff.mp ha2).1; omega) ⟨T, ha3, hk⟩
  obtain ⟨⟨mcm, hm0⟩, -, -⟩ := id hM
  refine m_start (cc := cX4_array) (maxL := 7) (ret := (some .int)) (by decide) rfl (Nat.le_of_ble_eq_true rfl) ?_
  intro p e s m below meth c A ls hx hb hr hml hts hown hlocks hin hw hl
  have hl : lv_has ls 7 [(0, .ref x), (1, .int t), (2, .int n)] := hl
  have hown : s.vm.findClass RX4 = some m.cls := hown
  refine lv_aload_n hx hb dX4_array_0 rfl (lv_at hl 0 rfl) ?_
  refine lv_iload_n hx hb dX4_array_1 rfl (lv_at hl 1 rfl) ?_
  refine w_call (va_runV (As := [.int t]) (rest := []) ⟨hx, hb, hml, hown, hts⟩ (c_typeAt_S l g h x kl ka ty hd hL t a ha1 hT s.heap.size) (cwV 1 hts gX4_array_X4_typeAt rfl rfl rfl (by decide +kernel) ⟨Nat.le_of_ble_eq_true rfl, Nat.le_of_ble_eq_true rfl⟩) ⟨pr_blind, w_recv hw hd rfl, pr_of hw⟩ rfl rfl hl.1 rfl (lv_room (Nat.le_of_ble_eq_true rfl)) dX4_array_2 ⟨Nat.le_of_ble_eq_true rfl, Nat.le_of_ble_eq_true rfl⟩) hw (fun v h' H locs hp hw => ?_)
  obtain ⟨rfl, rfl⟩ := hp
  refine W.eq (g2 := F0 m 5 ls [.ref a]) rfl ?_
  refine lv_astore_n (lv' := [(3, .ref a), (0, .ref x), (1, .int t), (2, .int n)]) hx hb dX4_array_5 rfl hl (by decide) rfl (fun ls hl => ?_)
  refine lv_aload_n hx hb dX4_array_6 rfl (lv_at hl 0 rfl) ?_
  refine lv_ifnull hx hb dX4_array_7 ?_
  refine lv_iload_n hx hb dX4_array_10 rfl (lv_at hl 3 rfl) ?_
  refine lv_iconst (v := 1) hx hb dX4_array_11 (by decide) ?_
  refine lv_icmp_lt (tgt := 21) hx hb dX4_array_12 (by decide) (fun c12 => ?_) (fun c12 => ?_)
  · refine lv_iconst (v := (-1)) hx hb dX4_array_21 (by decide) ?_
    have e9 : fArr S t n = (-1, S) := by simp [fArr, ht, c12]
    exact r_int hx hb hr hlocks hw dX4_array_22 (Nat.le_of_ble_eq_true rfl) (Nat.le_of_ble_eq_true rfl) (⟨by rw [e9], by rw [e9]; exact ⟨kl, ka, ty, ml, ma, mb, hR0⟩⟩)
  · refine lv_iload_n hx hb dX4_array_15 rfl (lv_at hl 3 rfl) ?_
    refine lv_ldc (v := 524288) hx hb hown (hts (.constant RX4 51 (524288)) (by decide +kernel)) dX4_array_16 ?_
    refine lv_icmp_le (tgt := 23) hx hb dX4_array_18 (by decide) (fun c18 => ?_) (fun c18 => ?_)
    · obtain ⟨en, hn1, hn2⟩ := arr_n c12 c18
      refine lv_aload_n hx hb dX4_array_23 rfl (lv_at hl 0 rfl) ?_
      refine w_get (ci := 1) (C := RX0) (T := TX0) (N := 8) (ref := "LayoutDesk$Type") hx hb hts in_X4_array_1 hown hw ha rfl 0 (by decide) (hts (.fieldLink RX4 52 "LayoutDesk$Type" "bytes" "I") (by decide +kernel)) (fun _ h9 => h9) rfl dX4_array_24 ?_
      refine lv_if_ne (tgt := 33) hx hb dX4_array_27 (by decide) (fun c27 => ?_) (fun c27 => ?_)
      · refine lv_aload_n hx hb dX4_array_33 rfl (lv_at hl 0 rfl) ?_
        refine w_get (ci := 1) (C := RX0) (T := TX0) (N := 8) (ref := "LayoutDesk$Type") hx hb hts in_X4_array_1 hown hw ha rfl 0 (by decide) (hts (.fieldLink RX4 52 "LayoutDesk$Type" "bytes" "I") (by decide +kernel)) (fun _ h9 => h9) rfl dX4_array_34 ?_
        refine lv_i2l (v := (nI (tSz T)).toInt64) hx hb dX4_array_37 rfl ?_
        refine lv_iload_n hx hb dX4_array_38 rfl (lv_at hl 3 rfl) ?_
        refine lv_i2l (v := n.toInt64) hx hb dX4_array_39 rfl ?_
        refine lv_lmul hx hb dX4_array_40 ?_
        refine lv_topl (fun b8 eb8 => ?_)
        have hb8 := mul_le (hS.2.2 _ _ ha3).1.2.2.2.1 hn2 (eb8.trans (by rw [← en]))
        refine lv_lstore (lv' := [(4, .long b8), (3, .ref a), (0, .ref x), (1, .int t), (2, .int n)]) hx hb dX4_array_41 hl (by decide) rfl (fun ls hl => ?_)
        refine lv_lload hx hb dX4_array_43 (lv_at hl 0 rfl) ?_
        refine lv_ldc2 (v := 524288) hx hb hown (hts (.constantLong RX4 58 (524288)) (by decide +kernel)) dX4_array_45 ?_
        refine W.lcmp hx hb dX4_array_48 ?_
        refine lv_if_le (tgt := 55) hx hb dX4_array_49 (by decide) (fun c49 => ?_) (fun c49 => ?_)
        · refine lv_aload_n hx hb dX4_array_55 rfl (lv_at hl 2 rfl) ?_
          refine lv_iconst (v := 2) hx hb dX4_array_56 (by decide) ?_
          refine lv_iload_n hx hb dX4_array_57 rfl (lv_at hl 3 rfl) ?_
          refine lv_iload_n hx hb dX4_array_58 rfl (lv_at hl 4 rfl) ?_
          refine w_call (va_runV (As := [.int 2, .int t, .int n]) (rest := []) ⟨hx, hb, hml, hown, hts⟩ (c_find l g h x kl ka ty hd hL 2 t n (DR_ty hR0) H.size) (cwV 3 hts gX4_array_X4_find rfl rfl rfl (by decide +kernel) ⟨Nat.le_of_ble_eq_true rfl, Nat.le_of_ble_eq_true rfl⟩) ⟨pr_blind, w_recv hw hd rfl, pr_of hw⟩ rfl rfl hl.1 rfl (lv_room (Nat.le_of_ble_eq_true rfl)) dX4_array_59 ⟨Nat.le_of_ble_eq_true rfl, Nat.le_of_ble_eq_true rfl⟩) hw (fun v h' H locs hp hw => ?_)
          have et : t = nI t.toNatClampNeg := (lk_lt ht (by have := hS.2.1; omega)).2.1
          obtain ⟨rfl, ⟨i9, hi9, rfl, hi2, hi3⟩ | ⟨rfl, hno9⟩⟩ := hp
          · refine W.eq (g2 := F0 m 62 ls [.int (nI i9)]) rfl ?_
            have hf9 : fnd S 2 t.toNatClampNeg n.toNatClampNeg = some i9 := DR_fndS hR0 hS (Or.inr rfl) (by have := lk_lt ht (by have := hS.2.1; omega); have := hS.2.1; omega) (by omega) hi9 (by rw [← et, ← en]; exact hi2) (by rw [← et, ← en]; exact hi3)
            refine lv_istore (lv' := [(6, .int (nI i9)), (4, .long b8), (3, .ref a), (0, .ref x), (1, .int t), (2, .int n)]) hx hb dX4_array_62 hl (by decide) rfl (fun ls hl => ?_)
            refine lv_iload hx hb dX4_array_64 (lv_at hl 0 rfl) ?_
            refine lv_iconst (v := (-1)) hx hb dX4_array_66 (by decide) ?_
            refine lv_icmp_eq (tgt := 73) hx hb dX4_array_67 (by decide) (fun c67 => ?_) (fun c67 => ?_)
            · exact absurd c67 (fun z => by have := nI_pos (n := i9) (by omega); rw [z] at this; exact this (by decide))
            · refine lv_iload hx hb dX4_array_70 (lv_at hl 0 rfl) ?_
              have e9 : fArr S t n = (nI i9, S) := by simp [fArr, ht, (show ¬ (n < 1 ∨ 524288 < n) from fun z => z.elim c12 (fun z => Int32.not_lt.mpr c18 z)), show ¬ tSz T = 0 from fun z => c27 (by rw [z]; exact nI_0), show ¬ 524288 < tSz T * n.toNatClampNeg from Nat.not_lt.mpr (hb8.2.mp c49), hf9]
              exact r_int hx hb hr hlocks hw dX4_array_72 (Nat.le_of_ble_eq_true rfl) (Nat.le_of_ble_eq_true rfl) (⟨by rw [e9], by rw [e9]; exact ⟨kl, ka, ty, ml, ma, mb, hR0⟩⟩)
          · refine W.eq (g2 := F0 m 62 ls [.int (-1)]) rfl ?_
            have hf9 : fnd S 2 t.toNatClampNeg n.toNatClampNeg = none := DR_fndN hR0 hS (Or.inr rfl) (by have := lk_lt ht (by have := hS.2.1; omega); have := hS.2.1; omega) (by omega) (by rw [← et, ← en]; exact hno9)
            refine lv_istore (lv' := [(6, .int (-1)), (4, .long b8), (3, .ref a), (0, .ref x), (1, .int t), (2, .int n)]) hx hb dX4_array_62 hl (by decide) rfl (fun ls hl => ?_)
            refine lv_iload hx hb dX4_array_64 (lv_at hl 0 rfl) ?_
            refine lv_iconst (v := (-1)) hx hb dX4_array_66 (by decide) ?_
            refine lv_icmp_eq (tgt := 73) hx hb dX4_array_67 (by decide) (fun c67 => ?_) (fun c67 => ?_)
            · refine lv_aload_n hx hb dX4_array_73 rfl (lv_at hl 3 rfl) ?_
              refine w_call (va_runV (As := []) (rest := []) ⟨hx, hb, hml, hown, hts⟩ (c_isFull l g h x kl ka ty hd hL H.size) (cwV 0 hts gX4_array_X4_isFull rfl rfl rfl (by decide +kernel) ⟨Nat.le_of_ble_eq_true rfl, Nat.le_of_ble_eq_true rfl⟩) ⟨pr_blind, w_recv hw hd rfl, pr_of hw⟩ rfl rfl hl.1 rfl (lv_room (Nat.le_of_ble_eq_true rfl)) dX4_array_74 ⟨Nat.le_of_ble_eq_true rfl, Nat.le_of_ble_eq_true rfl⟩) hw (fun v h' H locs hp hw => ?_)
              obtain ⟨rfl, rfl⟩ := hp
              refine W.eq (g2 := F0 m 77 ls [.int (if 300 ≤ ty.length then 1 else 0)]) rfl ?_
              refine lv_if_eq (tgt := 83) hx hb dX4_array_77 (by decide) (fun c77 => ?_) (fun c77 => ?_)
              · have hnf : ¬ 300 ≤ S.length := fun z => by rw [← hlen] at z; rw [if_pos z] at c77; exact absurd c77 (by decide)
                refine lv_aload_n hx hb dX4_array_83 rfl (lv_at hl 3 rfl) ?_
                refine w_new (ci := 3) (C := RX2) (T := TX2) (N := 5) (fs := [.int 0, .int 0, .int 0, .int 0, .int 0]) hx hb hts in_X4_array_3 tyX2 tyX2_ok hown (hts (.classLink RX4 20 RX2) (by decide +kernel)) (hts (.instantiable RX2 5) (by decide +kernel)) (hts (.initialized RX2) (by decide +kernel)) hw rfl (fun j hj => by rcases (show j = 0 ∨ j = 1 ∨ j = 2 ∨ j = 3 ∨ j = 4 by omega) with rfl | rfl | rfl | rfl | rfl <;> rfl) (Nat.le_of_ble_eq_true rfl) (Nat.le_of_ble_eq_true rfl) dX4_array_84 (fun q H hq hw => ?_)
                refine lv_dup hx hb dX4_array_87 rfl ?_
                refine lv_iconst (v := 2) hx hb dX4_array_88 (by decide) ?_
                refine lv_iload_n hx hb dX4_array_89 rfl (lv_at hl 4 rfl) ?_
                refine lv_iload_n hx hb dX4_array_90 rfl (lv_at hl 5 rfl) ?_
                refine lv_lload hx hb dX4_array_91 (lv_at hl 1 rfl) ?_
                refine lv_l2i (v := b8.toInt32) hx hb dX4_array_93 rfl ?_
                refine lv_aload_n hx hb dX4_array_94 rfl (lv_at hl 2 rfl) ?_
                refine w_get (ci := 1) (C := RX0) (T := TX0) (N := 8) (ref := "LayoutDesk$Type") hx hb hts in_X4_array_1 hown hw ((wu_n (ne_n ha hq)).trans ha) rfl 1 (by decide) (hts (.fieldLink RX4 60 "LayoutDesk$Type" "alignment" "I") (by decide +kernel)) (fun _ h9 => h9) rfl dX4_array_95 ?_
                refine w_call (va_runI (As := [.int 2, .int t, .int n, .int b8.toInt32, .int (nI (tAl T))]) (rest := [.ref q, .ref x]) ⟨hx, hb, hml, hown, hts⟩ (c_Simple_init l g (wu h q (.inr (3, [.int 0, .int 0, .int 0, .int 0, .int 0]))) q 0 0 0 0 0 2 t n b8.toInt32 (nI (tAl T)) (wu_s _ _ _) H.size) (cwI 5 hts gX4_array_X2_init rfl rfl rfl (hts (.initialized RX2) (by decide +kernel)) (hts (.methodLink RX4 28 yX2_init) (by decide +kernel)) (hts (.instanceMethod yX2_init) (by decide +kernel)) rfl (by decide +kernel) ⟨Nat.le_of_ble_eq_true rfl, Nat.le_of_ble_eq_true rfl⟩) ⟨pr_blind, pr_of hw⟩ rfl rfl hl.1 rfl (lv_room (Nat.le_of_ble_eq_true rfl)) dX4_array_98 ⟨Nat.le_of_ble_eq_true rfl, Nat.le_of_ble_eq_true rfl⟩) hw (fun v h' H locs hp hw => ?_)
                obtain ⟨rfl, rfl⟩ := hp
                refine W.eq (g2 := F0 m 101 ls [.ref q, .ref x]) rfl ?_
                have hR1 : DR0 g (wu (wu h q (.inr (3, [.int 0, .int 0, .int 0, .int 0, .int 0]))) q (.inr (3, [.int b8.toInt32, .int (nI (tAl T)), .int 2, .int t, .int n]))) x S kl ka ty ml ma mb := DR_ext hR0 (ext_re (ext_new hq) hq) (w_z hw)
                refine w_call (va_runV (As := [.ref q]) (rest := []) ⟨hx, hb, hml, hown, hts⟩ (c_enter l g (wu (wu h q (.inr (3, [.int 0, .int 0, .int 0, .int 0, .int 0]))) q (.inr (3, [.int b8.toInt32, .int (nI (tAl T)), .int 2, .int t, .int n]))) x kl ka ty hR1.1 hR1.2.2.1.1 q ⟨3, _, wu_s _ _ _, by decide, by decide⟩ (by omega) H.size) (cwV 1 hts gX4_array_X4_enter rfl rfl rfl (by decide +kernel) ⟨Nat.le_of_ble_eq_true rfl, Nat.le_of_ble_eq_true rfl⟩) ⟨pr_blind, w_recv hw hR1.1 rfl, pr_of hw⟩ rfl rfl hl.1 rfl (lv_room (Nat.le_of_ble_eq_true rfl)) dX4_array_101 ⟨Nat.le_of_ble_eq_true rfl, Nat.le_of_ble_eq_true rfl⟩) hw (fun v h' H locs hp hw => ?_)
                obtain ⟨ka', rfl, q1, q2, q3⟩ := hp
                refine W.eq (g2 := F0 m 104 ls [.int (nI ty.length)]) rfl ?_
                have e9 : fArr S t n = (nI S.length, S ++ [(2, t.toNatClampNeg, n.toNatClampNeg, tSz T * n.toNatClampNeg, tAl T, [], false)]) := by simp [fArr, ht, (show ¬ (n < 1 ∨ 524288 < n) from fun z => z.elim c12 (fun z => Int32.not_lt.mpr c18 z)), show ¬ tSz T = 0 from fun z => c27 (by rw [z]; exact nI_0), show ¬ 524288 < tSz T * n.toNatClampNeg from Nat.not_lt.mpr (hb8.2.mp c49), hf9, hnf]
                have hc9 : cX (wu (wu h q (.inr (3, [.int 0, .int 0, .int 0, .int 0, .int 0]))) q (.inr (3, [.int b8.toInt32, .int (nI (tAl T)), .int 2, .int t, .int n]))) q (2, t.toNatClampNeg, n.toNatClampNeg, tSz T * n.toNatClampNeg, tAl T, [], false) 0 [] := Or.inl ⟨show 2 < 3 by decide, by
                  show wu _ _ _ _ = some (oSi (nI (tSz T * n.toNatClampNeg)) (nI (tAl T)) (nI 2) (nI t.toNatClampNeg) (nI n.toNatClampNeg))
                  rw [wu_s, ← et, ← en, hb8.1, lN_i]
                  rfl⟩
                exact r_int hx hb hr hlocks hw dX4_array_104 (Nat.le_of_ble_eq_true rfl) (Nat.le_of_ble_eq_true rfl) (⟨by rw [e9, hlen], by rw [e9]; exact ⟨_, _, _, _, _, _, DR_app 0 hR1 (w_z hw) (ty_fresh (DR_ty hR0) hq) hc9 (fun z => absurd (show 3 ≤ 2 from z) (by decide)) q1 q2 q3⟩⟩)
              · have hfu : 300 ≤ S.length := by
                  rw [← hlen]
                  by_cases z : 300 ≤ ty.length
                  · exact z
                  · rw [if_neg z] at c77
                    exact absurd rfl c77
                refine lv_bipush (v := (-4)) hx hb dX4_array_80 (by decide) ?_
                have e9 : fArr S t n = (-4, S) := by simp [fArr, ht, (show ¬ (n < 1 ∨ 524288 < n) from fun z => z.elim c12 (fun z => Int32.not_lt.mpr c18 z)), show ¬ tSz T = 0 from fun z => c27 (by rw [z]; exact nI_0), show ¬ 524288 < tSz T * n.toNatClampNeg from Nat.not_lt.mpr (hb8.2.mp c49), hf9, hfu]
                exact r_int hx hb hr hlocks hw dX4_array_82 (Nat.le_of_ble_eq_true rfl) (Nat.le_of_ble_eq_true rfl) (⟨by rw [e9], by rw [e9]; exact ⟨kl, ka, ty, ml, ma, mb, hR0⟩⟩)
            · exact absurd rfl c67
        · refine lv_bipush (v := (-3)) hx hb dX4_array_52 (by decide) ?_
          have e9 : fArr S t n = (-3, S) := by simp [fArr, ht, (show ¬ (n < 1 ∨ 524288 < n) from fun z => z.elim c12 (fun z => Int32.not_lt.mpr c18 z)), show ¬ tSz T = 0 from fun z => c27 (by rw [z]; exact nI_0), show 524288 < tSz T * n.toNatClampNeg from Nat.lt_of_not_le (fun z => c49 (hb8.2.mpr z))]
          exact r_int hx hb hr hlocks hw dX4_array_54 (Nat.le_of_ble_eq_true rfl) (Nat.le_of_ble_eq_true rfl) (⟨by rw [e9], by rw [e9]; exact ⟨kl, ka, ty, ml, ma, mb, hR0⟩⟩)
      · refine lv_bipush (v := (-2)) hx hb dX4_array_30 (by decide) ?_
        have e9 : fArr S t n = (-2, S) := by simp [fArr, ht, (show ¬ (n < 1 ∨ 524288 < n) from fun z => z.elim c12 (fun z => Int32.not_lt.mpr c18 z)), show tSz T = 0 from (nI_eq (b := 0) (by have := (hS.2.2 _ _ ha3).1.2.2.2.1; omega) (by decide)).mp (c27.trans nI_0.symm)]
        exact r_int hx hb hr hlocks hw dX4_array_32 (Nat.le_of_ble_eq_true rfl) (Nat.le_of_ble_eq_true rfl) (⟨by rw [e9], by rw [e9]; exact ⟨kl, ka, ty, ml, ma, mb, hR0⟩⟩)
    · refine lv_iconst (v := (-1)) hx hb dX4_array_21 (by decide) ?_
      have e9 : fArr S t n = (-1, S) := by simp [fArr, ht, Int32.not_le.mp c18]
      exact r_int hx hb hr hlocks hw dX4_array_22 (Nat.le_of_ble_eq_true rfl) (Nat.le_of_ble_eq_true rfl) (⟨by rw [e9], by rw [e9]; exact ⟨kl, ka, ty, ml, ma, mb, hR0⟩⟩)
theorem d_array (l : Launch) (g : GG) (h : Nat → Option va_E) (x : Nat) (S : List TyS) (N : Nat) (hR : DR g h x S) (hS : wfS N S) (t n : Int32) : Con l yX4_array wsX4_array 8 192 2 805 [.ref x, .int t, .int n] g h (fun v h' => v = some (.int (fArr S t n).1) ∧ DR g h' x (fArr S t n).2) := by
  cases ht : lk S t with
  | none => exact d_array_N l g h x S N hR hS t n ht
  | some T =>
    rcases Nat.lt_or_ge (tK T) 3 with hk | hk
    · exact d_array_S l g h x S N hR hS t n T ht hk
    · exact d_array_C l g h x S N hR hS t n T ht hk
theorem in_X4_record_1 : ∀ w ∈ u_ws RX0 TX0 8, w ∈ wsX4_record := by decide +kernel
set_option maxHeartbeats 4000000 in
set_option maxRecDepth 100000 in
theorem d_record (l : Launch) (g : GG) (h : Nat → Option va_E) (x : Nat) (S : List TyS) (N : Nat) (hR : DR g h x S) (hS : wfS N S) (k : Int32) : Con l yX4_record wsX4_record 8 192 3 811 [.ref x, .int k] g h (fun v h' => v = some (.int (fRec S k).1) ∧ DR g h' x (fRec S k).2) := by
  obtain ⟨kl, ka, ty, ml, ma, mb, hR0⟩ := hR
  obtain ⟨hd, hz9, hG, hlen, -⟩ := id hR0
  have hL := hG.1
  have hn9 := AL_len hL
  obtain ⟨⟨mck, hk0⟩, -, -⟩ := id hL
  refine m_start (cc := cX4_record) (maxL := 2) (ret := (some .int)) (by decide) rfl (Nat.le_of_ble_eq_true rfl) ?_
  intro p e s m below meth c A ls hx hb hr hml hts hown hlocks hin hw hl
  have hl : lv_has ls 2 [(0, .ref x), (1, .int k)] := hl
  have hown : s.vm.findClass RX4 = some m.cls := hown
  refine lv_iload_n hx hb dX4_record_0 rfl (lv_at hl 1 rfl) ?_
  refine lv_if_eq (tgt := 11) hx hb dX4_record_1 (by decide) (fun c1 => ?_) (fun c1 => ?_)
  · refine lv_aload_n hx hb dX4_record_11 rfl (lv_at hl 0 rfl) ?_
    refine w_call (va_runV (As := []) (rest := []) ⟨hx, hb, hml, hown, hts⟩ (c_isFull l g h x kl ka ty hd hL s.heap.size) (cwV 0 hts gX4_record_X4_isFull rfl rfl rfl (by decide +kernel) ⟨Nat.le_of_ble_eq_true rfl, Nat.le_of_ble_eq_true rfl⟩) ⟨pr_blind, w_recv hw hd rfl, pr_of hw⟩ rfl rfl hl.1 rfl (lv_room (Nat.le_of_ble_eq_true rfl)) dX4_record_12 ⟨Nat.le_of_ble_eq_true rfl, Nat.le_of_ble_eq_true rfl⟩) hw (fun v h' H locs hp hw => ?_)
    obtain ⟨rfl, rfl⟩ := hp
    refine W.eq (g2 := F0 m 15 ls [.int (if 300 ≤ ty.length then 1 else 0)]) rfl ?_
    refine lv_if_eq (tgt := 21) hx hb dX4_record_15 (by decide) (fun c15 => ?_) (fun c15 => ?_)
    · have hnf : ¬ 300 ≤ S.length := fun z => by rw [← hlen] at z; rw [if_pos z] at c15; exact absurd c15 (by decide)
      refine lv_aload_n hx hb dX4_record_21 rfl (lv_at hl 0 rfl) ?_
      refine w_new (ci := 1) (C := RX0) (T := TX0) (N := 8) (fs := [.int 0, .int 0, .int 0, .null, .int 0, .int 0, .int 0, .int 0]) hx hb hts in_X4_record_1 tyX0 tyX0_ok hown (hts (.classLink RX4 63 RX0) (by decide +kernel)) (hts (.instantiable RX0 8) (by decide +kernel)) (hts (.initialized RX0) (by decide +kernel)) hw rfl (fun j hj => by rcases (show j = 0 ∨ j = 1 ∨ j = 2 ∨ j = 3 ∨ j = 4 ∨ j = 5 ∨ j = 6 ∨ j = 7 by omega) with rfl | rfl | rfl | rfl | rfl | rfl | rfl | rfl <;> rfl) (Nat.le_of_ble_eq_true rfl) (Nat.le_of_ble_eq_true rfl) dX4_record_22 (fun q H hq hw => ?_)
      refine lv_dup hx hb dX4_record_25 rfl ?_
      refine lv_iload_n hx hb dX4_record_26 rfl (lv_at hl 1 rfl) ?_
      refine lv_iconst (v := 1) hx hb dX4_record_27 (by decide) ?_
      refine lv_icmp_ne (tgt := 35) hx hb dX4_record_28 (by decide) (fun c28 => ?_) (fun c28 => ?_)
      · refine lv_iconst (v := 0) hx hb dX4_record_35 (by decide) ?_
        refine w_call (va_runI (As := [.int 0]) (rest := [.ref q, .ref x]) ⟨hx, hb, hml, hown, hts⟩ (c_Comp_init l g (wu h q (.inr (1, [.int 0, .int 0, .int 0, .null, .int 0, .int 0, .int 0, .int 0]))) q 0 (by decide) (wu_s _ _ _) H.size) (cwI 1 hts gX4_record_X0_init rfl rfl rfl (hts (.initialized RX0) (by decide +kernel)) (hts (.methodLink RX4 65 yX0_init) (by decide +kernel)) (hts (.instanceMethod yX0_init) (by decide +kernel)) rfl (by decide +kernel) ⟨Nat.le_of_ble_eq_true rfl, Nat.le_of_ble_eq_true rfl⟩) ⟨pr_blind, pr_of hw⟩ rfl rfl hl.1 rfl (lv_room (Nat.le_of_ble_eq_true rfl)) dX4_record_36 ⟨Nat.le_of_ble_eq_true rfl, Nat.le_of_ble_eq_true rfl⟩) hw (fun v k' H locs hp hw => ?_)
        obtain ⟨ql, rfl, w1, w2, w3, w4⟩ := hp
        refine W.eq (g2 := F0 m 39 ls [.ref q, .ref x]) rfl ?_
        have nqq : ql ≠ q := fun z => by rw [z, wu_s] at w1; cases w1
        have hql : h ql = none := (wu_n nqq).symm.trans w1
        have hex : ext h k' := fun z e9 hz => (w4 z (ne_n hz hq) (ne_n hz hql)).trans ((wu_n (ne_n hz hq)).trans hz)
        have hR1 : DR0 g k' x S kl ka ty ml ma mb := DR_ext hR0 hex (w_z hw)
        have hALq : AL g k' ql (gZ g) [] := ⟨⟨0, w3⟩, fun z hz => (by cases hz), Or.inr ⟨rfl, w_z hw, rfl⟩⟩
        have hc9 : cX k' q (3, 0, 0, 0, 0, [], false) ql [] := Or.inr ⟨by decide, ⟨0, 0, w2, Or.inr (Or.inl ⟨rfl, rfl, rfl⟩)⟩, rfl, fun j y m hj => (by cases hj)⟩
        refine w_call (va_runV (As := [.ref q]) (rest := []) ⟨hx, hb, hml, hown, hts⟩ (c_enter l g k' x kl ka ty hR1.1 hR1.2.2.1.1 q ⟨1, _, w2, by decide, by decide⟩ (by omega) H.size) (cwV 1 hts gX4_record_X4_enter rfl rfl rfl (by decide +kernel) ⟨Nat.le_of_ble_eq_true rfl, Nat.le_of_ble_eq_true rfl⟩) ⟨pr_blind, w_recv hw hR1.1 rfl, pr_of hw⟩ rfl rfl hl.1 rfl (lv_room (Nat.le_of_ble_eq_true rfl)) dX4_record_39 ⟨Nat.le_of_ble_eq_true rfl, Nat.le_of_ble_eq_true rfl⟩) hw (fun v h' H locs hp hw => ?_)
        obtain ⟨ka', rfl, q1, q2, q3⟩ := hp
        refine W.eq (g2 := F0 m 42 ls [.int (nI ty.length)]) rfl ?_
        subst c1
        have e9 : fRec S 0 = (nI S.length, S ++ [(3, 0, 0, 0, 0, [], false)]) := by
          unfold fRec
          rw [if_neg (by decide), if_neg hnf]
          rfl
        exact r_int hx hb hr hlocks hw dX4_record_42 (Nat.le_of_ble_eq_true rfl) (Nat.le_of_ble_eq_true rfl) (⟨by rw [e9, hlen], by rw [e9]; exact ⟨_, _, _, _, _, _, DR_app ql hR1 (w_z hw) (ty_fresh (DR_ty hR0) hq) hc9 (fun _ => ⟨hALq, (ne_n hk0 hql).symm, fun k9 hk9 hr9 => by obtain ⟨⟨m9, z9⟩, -, -⟩ := (hG.2.2.1 k9 hk9 hr9).1; exact (ne_n z9 hql).symm⟩) q1 q2 q3⟩⟩)
      · exact absurd (c1.symm.trans c28) (by decide)
    · have hfu : 300 ≤ S.length := by
        rw [← hlen]
        by_cases z : 300 ≤ ty.length
        · exact z
        · rw [if_neg z] at c15
          exact absurd rfl c15
      refine lv_bipush (v := (-2)) hx hb dX4_record_18 (by decide) ?_
      subst c1
      have e9 : fRec S 0 = (-2, S) := by
        unfold fRec
        rw [if_neg (by decide), if_pos hfu]
      exact r_int hx hb hr hlocks hw dX4_record_20 (Nat.le_of_ble_eq_true rfl) (Nat.le_of_ble_eq_true rfl) (⟨by rw [e9], by rw [e9]; exact ⟨kl, ka, ty, ml, ma, mb, hR0⟩⟩)
  · refine lv_iload_n hx hb dX4_record_4 rfl (lv_at hl 1 rfl) ?_
    refine lv_iconst (v := 1) hx hb dX4_record_5 (by decide) ?_
    refine lv_icmp_eq (tgt := 11) hx hb dX4_record_6 (by decide) (fun c6 => ?_) (fun c6 => ?_)
    · refine lv_aload_n hx hb dX4_record_11 rfl (lv_at hl 0 rfl) ?_
      refine w_call (va_runV (As := []) (rest := []) ⟨hx, hb, hml, hown, hts⟩ (c_isFull l g h x kl ka ty hd hL s.heap.size) (cwV 0 hts gX4_record_X4_isFull rfl rfl rfl (by decide +kernel) ⟨Nat.le_of_ble_eq_true rfl, Nat.le_of_ble_eq_true rfl⟩) ⟨pr_blind, w_recv hw hd rfl, pr_of hw⟩ rfl rfl hl.1 rfl (lv_room (Nat.le_of_ble_eq_true rfl)) dX4_record_12 ⟨Nat.le_of_ble_eq_true rfl, Nat.le_of_ble_eq_true rfl⟩) hw (fun v h' H locs hp hw => ?_)
      obtain ⟨rfl, rfl⟩ := hp
      refine W.eq (g2 := F0 m 15 ls [.int (if 300 ≤ ty.length then 1 else 0)]) rfl ?_
      refine lv_if_eq (tgt := 21) hx hb dX4_record_15 (by decide) (fun c15 => ?_) (fun c15 => ?_)
      · have hnf : ¬ 300 ≤ S.length := fun z => by rw [← hlen] at z; rw [if_pos z] at c15; exact absurd c15 (by decide)
        refine lv_aload_n hx hb dX4_record_21 rfl (lv_at hl 0 rfl) ?_
        refine w_new (ci := 1) (C := RX0) (T := TX0) (N := 8) (fs := [.int 0, .int 0, .int 0, .null, .int 0, .int 0, .int 0, .int 0]) hx hb hts in_X4_record_1 tyX0 tyX0_ok hown (hts (.classLink RX4 63 RX0) (by decide +kernel)) (hts (.instantiable RX0 8) (by decide +kernel)) (hts (.initialized RX0) (by decide +kernel)) hw rfl (fun j hj => by rcases (show j = 0 ∨ j = 1 ∨ j = 2 ∨ j = 3 ∨ j = 4 ∨ j = 5 ∨ j = 6 ∨ j = 7 by omega) with rfl | rfl | rfl | rfl | rfl | rfl | rfl | rfl <;> rfl) (Nat.le_of_ble_eq_true rfl) (Nat.le_of_ble_eq_true rfl) dX4_record_22 (fun q H hq hw => ?_)
        refine lv_dup hx hb dX4_record_25 rfl ?_
        refine lv_iload_n hx hb dX4_record_26 rfl (lv_at hl 1 rfl) ?_
        refine lv_iconst (v := 1) hx hb dX4_record_27 (by decide) ?_
        refine lv_icmp_ne (tgt := 35) hx hb dX4_record_28 (by decide) (fun c28 => ?_) (fun c28 => ?_)
        · exact absurd c6 c28
        · refine lv_iconst (v := 1) hx hb dX4_record_31 (by decide) ?_
          refine lv_goto (tgt := 36) hx hb dX4_record_32 (by decide) ?_
          refine w_call (va_runI (As := [.int 1]) (rest := [.ref q, .ref x]) ⟨hx, hb, hml, hown, hts⟩ (c_Comp_init l g (wu h q (.inr (1, [.int 0, .int 0, .int 0, .null, .int 0, .int 0, .int 0, .int 0]))) q 1 (by decide) (wu_s _ _ _) H.size) (cwI 1 hts gX4_record_X0_init rfl rfl rfl (hts (.initialized RX0) (by decide +kernel)) (hts (.methodLink RX4 65 yX0_init) (by decide +kernel)) (hts (.instanceMethod yX0_init) (by decide +kernel)) rfl (by decide +kernel) ⟨Nat.le_of_ble_eq_true rfl, Nat.le_of_ble_eq_true rfl⟩) ⟨pr_blind, pr_of hw⟩ rfl rfl hl.1 rfl (lv_room (Nat.le_of_ble_eq_true rfl)) dX4_record_36 ⟨Nat.le_of_ble_eq_true rfl, Nat.le_of_ble_eq_true rfl⟩) hw (fun v k' H locs hp hw => ?_)
          obtain ⟨ql, rfl, w1, w2, w3, w4⟩ := hp
          refine W.eq (g2 := F0 m 39 ls [.ref q, .ref x]) rfl ?_
          have nqq : ql ≠ q := fun z => by rw [z, wu_s] at w1; cases w1
          have hql : h ql = none := (wu_n nqq).symm.trans w1
          have hex : ext h k' := fun z e9 hz => (w4 z (ne_n hz hq) (ne_n hz hql)).trans ((wu_n (ne_n hz hq)).trans hz)
          have hR1 : DR0 g k' x S kl ka ty ml ma mb := DR_ext hR0 hex (w_z hw)
          have hALq : AL g k' ql (gZ g) [] := ⟨⟨0, w3⟩, fun z hz => (by cases hz), Or.inr ⟨rfl, w_z hw, rfl⟩⟩
          have hc9 : cX k' q (4, 0, 0, 0, 0, [], false) ql [] := Or.inr ⟨by decide, ⟨0, 0, w2, Or.inl ⟨rfl, rfl⟩⟩, rfl, fun j y m hj => (by cases hj)⟩
          refine w_call (va_runV (As := [.ref q]) (rest := []) ⟨hx, hb, hml, hown, hts⟩ (c_enter l g k' x kl ka ty hR1.1 hR1.2.2.1.1 q ⟨1, _, w2, by decide, by decide⟩ (by omega) H.size) (cwV 1 hts gX4_record_X4_enter rfl rfl rfl (by decide +kernel) ⟨Nat.le_of_ble_eq_true rfl, Nat.le_of_ble_eq_true rfl⟩) ⟨pr_blind, w_recv hw hR1.1 rfl, pr_of hw⟩ rfl rfl hl.1 rfl (lv_room (Nat.le_of_ble_eq_true rfl)) dX4_record_39 ⟨Nat.le_of_ble_eq_true rfl, Nat.le_of_ble_eq_true rfl⟩) hw (fun v h' H locs hp hw => ?_)
          obtain ⟨ka', rfl, q1, q2, q3⟩ := hp
          refine W.eq (g2 := F0 m 42 ls [.int (nI ty.length)]) rfl ?_
          subst c6
          have e9 : fRec S 1 = (nI S.length, S ++ [(4, 0, 0, 0, 0, [], false)]) := by
            unfold fRec
            rw [if_neg (by decide), if_neg hnf]
            rfl
          exact r_int hx hb hr hlocks hw dX4_record_42 (Nat.le_of_ble_eq_true rfl) (Nat.le_of_ble_eq_true rfl) (⟨by rw [e9, hlen], by rw [e9]; exact ⟨_, _, _, _, _, _, DR_app ql hR1 (w_z hw) (ty_fresh (DR_ty hR0) hq) hc9 (fun _ => ⟨hALq, (ne_n hk0 hql).symm, fun k9 hk9 hr9 => by obtain ⟨⟨m9, z9⟩, -, -⟩ := (hG.2.2.1 k9 hk9 hr9).1; exact (ne_n z9 hql).symm⟩) q1 q2 q3⟩⟩)
      · have hfu : 300 ≤ S.length := by
          rw [← hlen]
          by_cases z : 300 ≤ ty.length
          · exact z
          · rw [if_neg z] at c15
            exact absurd rfl c15
        refine lv_bipush (v := (-2)) hx hb dX4_record_18 (by decide) ?_
        subst c6
        have e9 : fRec S 1 = (-2, S) := by
          unfold fRec
          rw [if_neg (by decide), if_pos hfu]
        exact r_int hx hb hr hlocks hw dX4_record_20 (Nat.le_of_ble_eq_true rfl) (Nat.le_of_ble_eq_true rfl) (⟨by rw [e9], by rw [e9]; exact ⟨kl, ka, ty, ml, ma, mb, hR0⟩⟩)
    · refine lv_iconst (v := (-1)) hx hb dX4_record_9 (by decide) ?_
      have e9 : fRec S k = (-1, S) := by simp [fRec, c1, c6]
      exact r_int hx hb hr hlocks hw dX4_record_10 (Nat.le_of_ble_eq_true rfl) (Nat.le_of_ble_eq_true rfl) (⟨by rw [e9], by rw [e9]; exact ⟨kl, ka, ty, ml, ma, mb, hR0⟩⟩)
end
section
/-! a member more; bit-fields -/
theorem kp_mem {g : GG} {h W : Nat → Option va_E} {a q : Nat} {fs gs : List Value} (ha : h a = some (.inr (1, fs))) (hWa : W a = some (.inr (1, gs))) (hq : h q = none) (hWf : ∀ z, z ≠ a → z ≠ q → W z = h z) (hz : W (gZ g) = none) : kp g h W := by
  refine ⟨fun z e hz0 hk => ?_, fun z hE => ?_, hz⟩
  · rw [hWf z ?_ (ne_n hz0 hq)]
    · exact hz0
    · rcases hk with ⟨y, rfl⟩ | ⟨ys, rfl⟩
      · exact ne_e hz0 ha ne_lr
      · exact ne_e hz0 ha (ne_c (by decide))
  · obtain ⟨ci, ys, e1, e2, e3⟩ := hE
    by_cases c : z = a
    · subst c
      exact ⟨1, gs, hWa, by decide, by decide⟩
    · exact ⟨ci, ys, (hWf z c (ne_n e1 hq)).trans e1, e2, e3⟩
theorem DR_mem {g : GG} {h W h' : Nat → Option va_E} {x : Nat} {S : List TyS} {kl ka : Nat} {ty : List Nat} {ml ma : Nat → Nat} {mb : Nat → List Nat} {r a q m' : Nat} {T T' : TyS} {fs : List Value} {up fb : Int32} {mm : Nat × Nat × Nat × Nat} (hR : DR0 g h x S kl ka ty ml ma mb) (hS : S[r]? = some T) (ha2 : ty[r]? = some a) (hk : 3 ≤ tK T) (ha : h a = some (.inr (1, fs))) (hq : h q = none)
    (hWa : W a = some (oCo (nI (tSz T')) (nI (tAl T')) (if tK T' = 4 then 1 else 0) (ml r) (if tFi T' = true then 0 else 1) (nI (ly T').1) up fb)) (hWq : W q = some (oMb (nI mm.1) (nI mm.2.1) (nI mm.2.2.1) (nI mm.2.2.2))) (hWf : ∀ z, z ≠ a → z ≠ q → W z = h z) (hM : AL g W (ml r) (ma r) (mb r)) (hz : h' (gZ g) = none) (q1 : m' = ma r ∨ W m' = none) (q2 : AL g h' (ml r) m' (mb r ++ [q])) (q3 : ∀ z, z ≠ ml r → z ≠ m' → h' z = W z) (hk' : 3 ≤ tK T') (hu : uOK (tK T' == 4) (ly T').2.2.1 up fb)
    (hold : ∀ (j y : Nat) (m : Nat × Nat × Nat × Nat), (mb r)[j]? = some y → (ly T).2.2.2[j]? = some m → h y = some (oMb (nI m.1) (nI m.2.1) (nI m.2.2.1) (nI m.2.2.2))) (hlen : (mb r).length = (ly T).2.2.2.length) (hmem : (ly T').2.2.2 = (ly T).2.2.2 ++ [mm]) : DR g h' x (S.set r T') := by
  obtain ⟨⟨mc, k0⟩, -, -⟩ := id hM
  have hr : W m' = none ∨ ∃ z, W m' = some (.inl z) := by
    rcases q1 with q1 | q1
    · rw [q1]; exact AL_arr hM
    · exact Or.inl q1
  have keep : ∀ z ci gs, W z = some (.inr (ci, gs)) → ci ≠ 0 → h' z = W z := fun z ci gs e1 e2 => q3 z (ne_e e1 k0 (ne_c e2)) (hr.elim (fun w => ne_n e1 w) (fun w => ne_e e1 w.choose_spec ne_rl))
  have hqa : q ≠ a := (ne_n ha hq).symm
  have ha' := (keep a _ _ hWa (by decide)).trans hWa
  have hq' := (keep q _ _ hWq (by decide)).trans hWq
  have h3 : m' = ma r ∨ h m' = none := by
    rcases q1 with q1 | q1
    · exact Or.inl q1
    · have n1 : m' ≠ a := fun e => by rw [e, hWa] at q1; cases q1
      have n2 : m' ≠ q := fun e => by rw [e, hWq] at q1; cases q1
      exact Or.inr ((hWf m' n1 n2).symm.trans q1)
  refine ⟨_, _, _, _, _, _, DR_add hR hz hS ha2 hk ha ha' hq ⟨2, _, hq', by decide, by decide⟩ h3 q2 (fun z e1 e2 e3 e4 => (q3 z e3 e4).trans (hWf z e1 e2)) (cX_rec hk' ha' hu ?_ ?_)⟩
  · rw [hmem, List.length_append, List.length_append, hlen]
    rfl
  · intro j y m hj hm
    rw [hmem] at hm
    rcases Nat.lt_or_ge j (mb r).length with c | c
    · rw [List.getElem?_append_left c] at hj
      rw [List.getElem?_append_left (by omega)] at hm
      have e1 := hold j y m hj hm
      have ey : W y = h y := hWf y (ne_e e1 ha (ne_c (by decide))) (ne_n e1 hq)
      exact (keep y _ _ (ey.trans e1) (by decide)).trans (ey.trans e1)
    · rw [List.getElem?_append_right c] at hj
      rw [List.getElem?_append_right (by omega)] at hm
      have e0 : j - (mb r).length = 0 := by
        have := (List.getElem?_eq_some_iff.mp hj).1
        simp at this
        omega
      rw [e0] at hj
      rw [← hlen, e0] at hm
      cases hj
      cases hm
      exact hq'
theorem ly_fld (T : TyS) (t sz al : Nat) : ly (tPush T (some t, 0, true, sz, al)) = (max (ly T).1 ((if (tK T == 4) = true then 0 else rup (ly T).1 al) + sz), max (ly T).2.1 al, none, (ly T).2.2.2 ++ [((if (tK T == 4) = true then 0 else rup (ly T).1 al), t, 0, 0)]) := (ly_push _ _).trans rfl
theorem lyS_bit {un : Bool} {L : LyS} {t w P K : Nat} {b : Bool} (hw : w ≠ 0) (hU : lyU un L.1 L.2.2.1 w = (P, K)) : lyS un L (some t, w, b, 0, 0) = (max L.1 (P + 4), max L.2.1 4, some (P, K + w), if b = true then L.2.2.2 ++ [(P, t, K, w)] else L.2.2.2) := by
  unfold lyS
  simp only [if_neg hw, hU]
theorem bitsA {un : Bool} {u : Option (Nat × Nat)} {up fb : Int32} {re w : Nat} (h1 : 1 ≤ w) (h2 : w ≤ 32) (hu : uOK un u up fb) (hk : ∀ p k, u = some (p, k) → k ≤ 32) (hf : nI w ≤ fb) : ∃ p k, un = false ∧ u = some (p, k) ∧ up = nI p ∧ fb = nI (32 - k) ∧ k + w ≤ 32 ∧ lyU un re u w = (p, k) := by
  rcases hu with ⟨-, e⟩ | ⟨-, -, e⟩ | ⟨p, k, e1, e2, e3, e4⟩
  · rw [e] at hf
    exact absurd hf (nI_nle (by omega) (by omega))
  · rw [e] at hf
    exact absurd hf (nI_nle (by omega) (by omega))
  · have hkk := hk p k e2
    rw [e4] at hf
    have hle := (nI_leI (by omega) (by omega)).mp hf
    refine ⟨p, k, e1, e2, e3, e4, by omega, ?_⟩
    rw [e2, e1]
    unfold lyU
    simp only
    rw [if_neg]
    rintro (z | z)
    · cases z
    · omega
theorem bitsB {un : Bool} {u : Option (Nat × Nat)} {up fb : Int32} {re w : Nat} (h1 : 1 ≤ w) (h2 : w ≤ 32) (hu : uOK un u up fb) (hk : ∀ p k, u = some (p, k) → k ≤ 32) (hf : ¬ nI w ≤ fb) : lyU un re u w = ((if un = true then 0 else rup re 4), 0) := by
  unfold lyU
  rcases hu with ⟨e1, -⟩ | ⟨e1, e2, -⟩ | ⟨p, k, e1, e2, e3, e4⟩
  · subst e1
    cases u with
    | none => rfl
    | some q => simp
  · subst e2
    rfl
  · have hkk := hk p k e2
    subst e2
    simp only
    rw [if_pos (Or.inr ?_)]
    rcases Nat.lt_or_ge 32 (k + w) with z | z
    · exact z
    · exact absurd (by rw [e4]; exact nI_le (by omega) (by omega)) hf
theorem ov_if (T : TyS) (x y : Int32) : (if (if tK T = 4 then (1 : Int32) else 0) = 0 then x else y) = if (tK T == 4) = true then y else x := by
  by_cases c : tK T = 4
  · rw [if_pos c, if_neg (by decide), if_pos (by rw [c]; rfl)]
  · rw [if_neg c, if_pos rfl, if_neg (by simpa using c)]
theorem ne_sz {h : Nat → Option va_E} {a b ml ml2 : Nat} {s1 s2 b1 b2 b3 b4 b5 b6 c1 c2 c3 c4 c5 c6 : Int32} (ha : h a = some (oCo s1 b1 b2 ml b3 b4 b5 b6)) (hb : h b = some (oCo s2 c1 c2 ml2 c3 c4 c5 c6)) (hs : s2 ≠ s1) : b ≠ a := fun e => by
  subst e
  rw [ha] at hb
  cases hb
  exact hs rfl
end
section
/-! the desk: separate, finish, field, bits -/
set_option maxHeartbeats 4000000 in
set_option maxRecDepth 100000 in
theorem d_separate_N (l : Launch) (g : GG) (h : Nat → Option va_E) (x : Nat) (S : List TyS) (N : Nat) (hR : DR g h x S) (hS : wfS N S) (r : Int32) (hto : lkO S r = none) : Con l yX4_separate wsX4_separate 6 160 0 0 [.ref x, .int r] g h (fun v h' => v = some (.int (fSep S r).1) ∧ DR g h' x (fSep S r).2) := by
  obtain ⟨kl, ka, ty, ml, ma, mb, hR0⟩ := hR
  obtain ⟨hd, hz9, hG, hlen, -⟩ := id hR0
  have hL := hG.1
  have hn9 := AL_len hL
  obtain ⟨⟨mck, hk0⟩, -, -⟩ := id hL
  have hno := DR_noOpen hR0 hto
  refine m_start (cc := cX4_separate) (maxL := 3) (ret := (some .boolean)) (by decide) rfl (Nat.le_of_ble_eq_true rfl) ?_
  intro p e s m below meth c A ls hx hb hr hml hts hown hlocks hin hw hl
  have hl : lv_has ls 3 [(0, .ref x), (1, .int r)] := hl
  have hown : s.vm.findClass RX4 = some m.cls := hown
  refine lv_aload_n hx hb dX4_separate_0 rfl (lv_at hl 0 rfl) ?_
  refine lv_iload_n hx hb dX4_separate_1 rfl (lv_at hl 1 rfl) ?_
  refine w_call (va_runV (As := [.int r]) (rest := []) ⟨hx, hb, hml, hown, hts⟩ (c_open_N l g h x kl ka ty hd hL r hno s.heap.size) (cwV 1 hts gX4_separate_X4_openRecordAt rfl rfl rfl (by decide +kernel) ⟨Nat.le_of_ble_eq_true rfl, Nat.le_of_ble_eq_true rfl⟩) ⟨pr_blind, w_recv hw hd rfl, pr_of hw⟩ rfl rfl hl.1 rfl (lv_room (Nat.le_of_ble_eq_true rfl)) dX4_separate_2 ⟨Nat.le_of_ble_eq_true rfl, Nat.le_of_ble_eq_true rfl⟩) hw (fun v h' H locs hp hw => ?_)
  obtain ⟨rfl, rfl⟩ := hp
  refine W.eq (g2 := F0 m 5 ls [.null]) rfl ?_
  refine lv_astore_nN (lv' := [(2, .null), (0, .ref x), (1, .int r)]) hx hb dX4_separate_5 rfl hl (by decide) rfl (fun ls hl => ?_)
  refine lv_aload_nN hx hb dX4_separate_6 rfl (lv_at hl 0 rfl) ?_
  refine lv_ifnonnullN hx hb dX4_separate_7 ?_
  refine lv_iconst (v := 0) hx hb dX4_separate_10 (by decide) ?_
  have e9 : fSep S r = (0, S) := by simp [fSep, hto]
  exact r_bool hx hb hr hlocks hw rfl dX4_separate_11 (Nat.le_of_ble_eq_true rfl) (Nat.le_of_ble_eq_true rfl) (⟨by rw [e9], by rw [e9]; exact ⟨kl, ka, ty, ml, ma, mb, hR0⟩⟩)
set_option maxHeartbeats 4000000 in
set_option maxRecDepth 100000 in
theorem d_separate_O (l : Launch) (g : GG) (h : Nat → Option va_E) (x : Nat) (S : List TyS) (N : Nat) (hR : DR g h x S) (hS : wfS N S) (r : Int32) (T : TyS) (hto : lkO S r = some T) : Con l yX4_separate wsX4_separate 6 160 0 0 [.ref x, .int r] g h (fun v h' => v = some (.int (fSep S r).1) ∧ DR g h' x (fSep S r).2) := by
  obtain ⟨ht, hk, hfi⟩ := lkO_some hto
  obtain ⟨kl, ka, ty, ml, ma, mb, hR0⟩ := hR
  obtain ⟨hd, hz9, hG, hlen, -⟩ := id hR0
  have hL := hG.1
  have hn9 := AL_len hL
  obtain ⟨⟨mck, hk0⟩, -, -⟩ := id hL
  obtain ⟨a, ha1, ha2, ha3, hc⟩ := DR_lk hR0 ht
  obtain ⟨⟨up, fb, ha, huo⟩, hml9, hmm⟩ : (∃ up fb : Int32, h a = some (oCo (nI (tSz T)) (nI (tAl T)) (if tK T = 4 then 1 else 0) (ml r.toNatClampNeg) (if tFi T = true then 0 else 1) (nI (ly T).1) up fb) ∧ uOK (tK T == 4) (ly T).2.2.1 up fb) ∧ (mb r.toNatClampNeg).length = (ly T).2.2.2.length ∧ ∀ (j y : Nat) (m : Nat × Nat × Nat × Nat), (mb r.toNatClampNeg)[j]? = some y → (ly T).2.2.2[j]? = some m → h y = some (oMb (nI m.1) (nI m.2.1) (nI m.2.2.1) (nI m.2.2.2)) := by
    rcases hc with ⟨z1, -⟩ | ⟨z1, z2⟩
    · exact absurd hk (by omega)
    · exact z2
  have hT : isTy h a := Or.inl ⟨_, _, _, _, _, _, _, _, ha⟩
  obtain ⟨hM, hmk, -⟩ := hG.2.2.1 r.toNatClampNeg (by have := (List.getElem?_eq_some_iff.mp ha2).1; omega) ⟨T, ha3, hk⟩
  obtain ⟨⟨mcm, hm0⟩, -, -⟩ := id hM
  obtain ⟨hw1, hw2, hw3, hw4, hw5, hw6, hw7, hw8⟩ := (hS.2.2 _ _ ha3).1
  obtain ⟨hf1, hf2, hf3, hf4⟩ := hw8 hk
  refine m_start (cc := cX4_separate) (maxL := 3) (ret := (some .boolean)) (by decide) rfl (Nat.le_of_ble_eq_true rfl) ?_
  intro p e s m below meth c A ls hx hb hr hml hts hown hlocks hin hw hl
  have hl : lv_has ls 3 [(0, .ref x), (1, .int r)] := hl
  have hown : s.vm.findClass RX4 = some m.cls := hown
  refine lv_aload_n hx hb dX4_separate_0 rfl (lv_at hl 0 rfl) ?_
  refine lv_iload_n hx hb dX4_separate_1 rfl (lv_at hl 1 rfl) ?_
  refine w_call (va_runV (As := [.int r]) (rest := []) ⟨hx, hb, hml, hown, hts⟩ (c_open_S l g h x kl ka ty hd hL r a (ml r.toNatClampNeg) (nI (tSz T)) (nI (tAl T)) (if tK T = 4 then 1 else 0) (if tFi T = true then 0 else 1) (nI (ly T).1) up fb ha1 ha (by rw [hfi]; rfl) s.heap.size) (cwV 1 hts gX4_separate_X4_openRecordAt rfl rfl rfl (by decide +kernel) ⟨Nat.le_of_ble_eq_true rfl, Nat.le_of_ble_eq_true rfl⟩) ⟨pr_blind, w_recv hw hd rfl, pr_of hw⟩ rfl rfl hl.1 rfl (lv_room (Nat.le_of_ble_eq_true rfl)) dX4_separate_2 ⟨Nat.le_of_ble_eq_true rfl, Nat.le_of_ble_eq_true rfl⟩) hw (fun v h' H locs hp hw => ?_)
  obtain ⟨rfl, rfl⟩ := hp
  refine W.eq (g2 := F0 m 5 ls [.ref a]) rfl ?_
  refine lv_astore_n (lv' := [(2, .ref a), (0, .ref x), (1, .int r)]) hx hb dX4_separate_5 rfl hl (by decide) rfl (fun ls hl => ?_)
  refine lv_aload_n hx hb dX4_separate_6 rfl (lv_at hl 0 rfl) ?_
  refine lv_ifnonnull (tgt := 12) hx hb dX4_separate_7 (by decide) ?_
  refine lv_aload_n hx hb dX4_separate_12 rfl (lv_at hl 0 rfl) ?_
  refine w_call (va_runV (As := []) (rest := []) ⟨hx, hb, hml, hown, hts⟩ (c_endUnit l g h a (ml r.toNatClampNeg) (nI (tSz T)) (nI (tAl T)) (if tK T = 4 then 1 else 0) (if tFi T = true then 0 else 1) (nI (ly T).1) up fb ha H.size) (cwV 0 hts gX4_separate_X0_endUnit rfl rfl rfl (by decide +kernel) ⟨Nat.le_of_ble_eq_true rfl, Nat.le_of_ble_eq_true rfl⟩) ⟨pr_blind, w_recv hw ha rfl, pr_of hw⟩ rfl rfl hl.1 rfl (lv_room (Nat.le_of_ble_eq_true rfl)) dX4_separate_13 ⟨Nat.le_of_ble_eq_true rfl, Nat.le_of_ble_eq_true rfl⟩) hw (fun v h' H locs hp hw => ?_)
  obtain ⟨rfl, rfl⟩ := hp
  refine W.eq (g2 := F0 m 16 ls []) rfl ?_
  refine lv_iconst (v := 1) hx hb dX4_separate_16 (by decide) ?_
  have e9 : fSep S r = (1, S.set r.toNatClampNeg (tPush T (none, 0, false, 0, 0))) := by simp [fSep, hto]
  have el : ly (tPush T (none, 0, false, 0, 0)) = ((ly T).1, (ly T).2.1, none, (ly T).2.2.2) := (ly_push _ _).trans rfl
  have hc9 := cX_rec (h := (wu h a (.inr (1, [.int (nI (tSz T)), .int (nI (tAl T)), .int (if tK T = 4 then 1 else 0), .ref (ml r.toNatClampNeg), .int (if tFi T = true then 0 else 1), .int (nI (ly T).1), .int up, .int 0])))) (a := a) (T' := (tPush T (none, 0, false, 0, 0))) (ml := ml r.toNatClampNeg) (mb := mb r.toNatClampNeg) (up := up) (fb := 0) hk (by rw [wu_s, el, hf1]; rfl) (by rw [el]; exact uOK_0 _ _) (by rw [el]; exact hml9) (fun j y m hj hm => (wu_n (ne_e (hmm j y m hj (by rw [el] at hm; exact hm)) ha (ne_c (by decide)))).trans (hmm j y m hj (by rw [el] at hm; exact hm)))
  exact r_bool hx hb hr hlocks hw rfl dX4_separate_17 (Nat.le_of_ble_eq_true rfl) (Nat.le_of_ble_eq_true rfl) (⟨by rw [e9], by rw [e9]; exact ⟨_, _, _, _, _, _, DR_set hR0 (w_z hw) ha3 ha2 hk ha (wu_s _ _ _) (fun q hq => wu_n hq) hc9⟩⟩)
theorem d_separate (l : Launch) (g : GG) (h : Nat → Option va_E) (x : Nat) (S : List TyS) (N : Nat) (hR : DR g h x S) (hS : wfS N S) (r : Int32) : Con l yX4_separate wsX4_separate 6 160 0 0 [.ref x, .int r] g h (fun v h' => v = some (.int (fSep S r).1) ∧ DR g h' x (fSep S r).2) := by
  cases hto : lkO S r with
  | none => exact d_separate_N l g h x S N hR hS r hto
  | some T => exact d_separate_O l g h x S N hR hS r T hto
set_option maxHeartbeats 4000000 in
set_option maxRecDepth 100000 in
theorem d_finish_N (l : Launch) (g : GG) (h : Nat → Option va_E) (x : Nat) (S : List TyS) (N : Nat) (hR : DR g h x S) (hS : wfS N S) (r : Int32) (hto : lkO S r = none) : Con l yX4_finish wsX4_finish 6 160 0 0 [.ref x, .int r] g h (fun v h' => v = some (.int (fFin S r).1) ∧ DR g h' x (fFin S r).2) := by
  obtain ⟨kl, ka, ty, ml, ma, mb, hR0⟩ := hR
  obtain ⟨hd, hz9, hG, hlen, -⟩ := id hR0
  have hL := hG.1
  have hn9 := AL_len hL
  obtain ⟨⟨mck, hk0⟩, -, -⟩ := id hL
  have hno := DR_noOpen hR0 hto
  refine m_start (cc := cX4_finish) (maxL := 4) (ret := (some .int)) (by decide) rfl (Nat.le_of_ble_eq_true rfl) ?_
  intro p e s m below meth c A ls hx hb hr hml hts hown hlocks hin hw hl
  have hl : lv_has ls 4 [(0, .ref x), (1, .int r)] := hl
  have hown : s.vm.findClass RX4 = some m.cls := hown
  refine lv_aload_n hx hb dX4_finish_0 rfl (lv_at hl 0 rfl) ?_
  refine lv_iload_n hx hb dX4_finish_1 rfl (lv_at hl 1 rfl) ?_
  refine w_call (va_runV (As := [.int r]) (rest := []) ⟨hx, hb, hml, hown, hts⟩ (c_open_N l g h x kl ka ty hd hL r hno s.heap.size) (cwV 1 hts gX4_finish_X4_openRecordAt rfl rfl rfl (by decide +kernel) ⟨Nat.le_of_ble_eq_true rfl, Nat.le_of_ble_eq_true rfl⟩) ⟨pr_blind, w_recv hw hd rfl, pr_of hw⟩ rfl rfl hl.1 rfl (lv_room (Nat.le_of_ble_eq_true rfl)) dX4_finish_2 ⟨Nat.le_of_ble_eq_true rfl, Nat.le_of_ble_eq_true rfl⟩) hw (fun v h' H locs hp hw => ?_)
  obtain ⟨rfl, rfl⟩ := hp
  refine W.eq (g2 := F0 m 5 ls [.null]) rfl ?_
  refine lv_astore_nN (lv' := [(2, .null), (0, .ref x), (1, .int r)]) hx hb dX4_finish_5 rfl hl (by decide) rfl (fun ls hl => ?_)
  refine lv_aload_nN hx hb dX4_finish_6 rfl (lv_at hl 0 rfl) ?_
  refine lv_ifnonnullN hx hb dX4_finish_7 ?_
  refine lv_iconst (v := (-1)) hx hb dX4_finish_10 (by decide) ?_
  have e9 : fFin S r = (-1, S) := by simp [fFin, hto]
  exact r_int hx hb hr hlocks hw dX4_finish_11 (Nat.le_of_ble_eq_true rfl) (Nat.le_of_ble_eq_true rfl) (⟨by rw [e9], by rw [e9]; exact ⟨kl, ka, ty, ml, ma, mb, hR0⟩⟩)
theorem in_X4_finish_1 : ∀ w ∈ u_ws RX0 TX0 8, w ∈ wsX4_finish := by decide +kernel
set_option maxHeartbeats 4000000 in
set_option maxRecDepth 100000 in
theorem d_finish_O (l : Launch) (g : GG) (h : Nat → Option va_E) (x : Nat) (S : List TyS) (N : Nat) (hR : DR g h x S) (hS : wfS N S) (r : Int32) (T : TyS) (hto : lkO S r = some T) : Con l yX4_finish wsX4_finish 6 160 0 0 [.ref x, .int r] g h (fun v h' => v = some (.int (fFin S r).1) ∧ DR g h' x (fFin S r).2) := by
  obtain ⟨ht, hk, hfi⟩ := lkO_some hto
  obtain ⟨kl, ka, ty, ml, ma, mb, hR0⟩ := hR
  obtain ⟨hd, hz9, hG, hlen, -⟩ := id hR0
  have hL := hG.1
  have hn9 := AL_len hL
  obtain ⟨⟨mck, hk0⟩, -, -⟩ := id hL
  obtain ⟨a, ha1, ha2, ha3, hc⟩ := DR_lk hR0 ht
  obtain ⟨⟨up, fb, ha, huo⟩, hml9, hmm⟩ : (∃ up fb : Int32, h a = some (oCo (nI (tSz T)) (nI (tAl T)) (if tK T = 4 then 1 else 0) (ml r.toNatClampNeg) (if tFi T = true then 0 else 1) (nI (ly T).1) up fb) ∧ uOK (tK T == 4) (ly T).2.2.1 up fb) ∧ (mb r.toNatClampNeg).length = (ly T).2.2.2.length ∧ ∀ (j y : Nat) (m : Nat × Nat × Nat × Nat), (mb r.toNatClampNeg)[j]? = some y → (ly T).2.2.2[j]? = some m → h y = some (oMb (nI m.1) (nI m.2.1) (nI m.2.2.1) (nI m.2.2.2)) := by
    rcases hc with ⟨z1, -⟩ | ⟨z1, z2⟩
    · exact absurd hk (by omega)
    · exact z2
  have hT : isTy h a := Or.inl ⟨_, _, _, _, _, _, _, _, ha⟩
  obtain ⟨hM, hmk, -⟩ := hG.2.2.1 r.toNatClampNeg (by have := (List.getElem?_eq_some_iff.mp ha2).1; omega) ⟨T, ha3, hk⟩
  obtain ⟨⟨mcm, hm0⟩, -, -⟩ := id hM
  obtain ⟨hw1, hw2, hw3, hw4, hw5, hw6, hw7, hw8⟩ := (hS.2.2 _ _ ha3).1
  obtain ⟨hf1, hf2, hf3, hf4⟩ := hw8 hk
  refine m_start (cc := cX4_finish) (maxL := 4) (ret := (some .int)) (by decide) rfl (Nat.le_of_ble_eq_true rfl) ?_
  intro p e s m below meth c A ls hx hb hr hml hts hown hlocks hin hw hl
  have hl : lv_has ls 4 [(0, .ref x), (1, .int r)] := hl
  have hown : s.vm.findClass RX4 = some m.cls := hown
  refine lv_aload_n hx hb dX4_finish_0 rfl (lv_at hl 0 rfl) ?_
  refine lv_iload_n hx hb dX4_finish_1 rfl (lv_at hl 1 rfl) ?_
  refine w_call (va_runV (As := [.int r]) (rest := []) ⟨hx, hb, hml, hown, hts⟩ (c_open_S l g h x kl ka ty hd hL r a (ml r.toNatClampNeg) (nI (tSz T)) (nI (tAl T)) (if tK T = 4 then 1 else 0) (if tFi T = true then 0 else 1) (nI (ly T).1) up fb ha1 ha (by rw [hfi]; rfl) s.heap.size) (cwV 1 hts gX4_finish_X4_openRecordAt rfl rfl rfl (by decide +kernel) ⟨Nat.le_of_ble_eq_true rfl, Nat.le_of_ble_eq_true rfl⟩) ⟨pr_blind, w_recv hw hd rfl, pr_of hw⟩ rfl rfl hl.1 rfl (lv_room (Nat.le_of_ble_eq_true rfl)) dX4_finish_2 ⟨Nat.le_of_ble_eq_true rfl, Nat.le_of_ble_eq_true rfl⟩) hw (fun v h' H locs hp hw => ?_)
  obtain ⟨rfl, rfl⟩ := hp
  refine W.eq (g2 := F0 m 5 ls [.ref a]) rfl ?_
  refine lv_astore_n (lv' := [(2, .ref a), (0, .ref x), (1, .int r)]) hx hb dX4_finish_5 rfl hl (by decide) rfl (fun ls hl => ?_)
  refine lv_aload_n hx hb dX4_finish_6 rfl (lv_at hl 0 rfl) ?_
  refine lv_ifnonnull (tgt := 12) hx hb dX4_finish_7 (by decide) ?_
  refine lv_aload_n hx hb dX4_finish_12 rfl (lv_at hl 0 rfl) ?_
  refine w_getN (ci := 1) (C := RX0) (T := TX0) (N := 8) (ref := "LayoutDesk$Compound") hx hb hts in_X4_finish_1 hown hw ha rfl 3 (by decide) (w_nw hw (w := .fieldLinkNest "LayoutDesk" 110 "LayoutDesk$Compound" "members" "Ljava/util/ArrayList;" "LayoutDesk") (by decide +kernel)) (fun _ h9 => h9) rfl dX4_finish_13 ?_
  refine w_call (va_runV (As := []) (rest := []) ⟨hx, hb, hml, hown, hts⟩ (c_isEmptyL l g h (ml r.toNatClampNeg) (ma r.toNatClampNeg) (mb r.toNatClampNeg) hM H.size) (cwV 0 hts gX4_finish_Jx4a65c_isEmpty_aae02 rfl rfl rfl (by decide +kernel) ⟨Nat.le_of_ble_eq_true rfl, Nat.le_of_ble_eq_true rfl⟩) ⟨pr_blind, w_recv hw hm0 rfl, pr_of hw⟩ rfl rfl hl.1 rfl (lv_room (Nat.le_of_ble_eq_true rfl)) dX4_finish_16 ⟨Nat.le_of_ble_eq_true rfl, Nat.le_of_ble_eq_true rfl⟩) hw (fun v h' H locs hp hw => ?_)
  obtain ⟨rfl, rfl⟩ := hp
  refine W.eq (g2 := F0 m 19 ls [.int (if mb r.toNatClampNeg = [] then 1 else 0)]) rfl ?_
  refine lv_if_eq (tgt := 25) hx hb dX4_finish_19 (by decide) (fun c19 => ?_) (fun c19 => ?_)
  · have hne9 : ¬ (ly T).2.2.2 = [] := fun z => by
      have : mb r.toNatClampNeg = [] := List.eq_nil_of_length_eq_zero (by rw [hml9, z]; rfl)
      rw [if_pos this] at c19
      exact absurd c19 (by decide)
    refine lv_aload_n hx hb dX4_finish_25 rfl (lv_at hl 0 rfl) ?_
    refine w_getN (ci := 1) (C := RX0) (T := TX0) (N := 8) (ref := "LayoutDesk$Compound") hx hb hts in_X4_finish_1 hown hw ha rfl 5 (by decide) (w_nw hw (w := .fieldLinkNest "LayoutDesk" 116 "LayoutDesk$Compound" "reach" "I" "LayoutDesk") (by decide +kernel)) (fun _ h9 => h9) rfl dX4_finish_26 ?_
    refine lv_aload_n hx hb dX4_finish_29 rfl (lv_at hl 0 rfl) ?_
    refine w_get (ci := 1) (C := RX0) (T := TX0) (N := 8) (ref := "LayoutDesk$Compound") hx hb hts in_X4_finish_1 hown hw ha rfl 1 (by decide) (hts (.fieldLink RX4 119 "LayoutDesk$Compound" "alignment" "I") (by decide +kernel)) (u_same (hts (.sameField "LayoutDesk$Compound" "LayoutDesk$Type" "alignment" "I") (by decide +kernel))) rfl dX4_finish_30 ?_
    refine w_call (va_runS (As := [.int (nI (ly T).1), .int (nI (tAl T))]) (rest := []) ⟨hx, hb, hml, hown, hts⟩ (c_roundUp l g h (ly T).1 (tAl T) (by omega) hw5 H.size) (va_cwS 2 hts gX4_finish_X4_roundUp rfl rfl rfl (by decide +kernel) ⟨Nat.le_of_ble_eq_true rfl, Nat.le_of_ble_eq_true rfl⟩) ⟨pr_blind, pr_of hw⟩ rfl rfl hl.1 rfl (lv_room (Nat.le_of_ble_eq_true rfl)) dX4_finish_33 ⟨Nat.le_of_ble_eq_true rfl, Nat.le_of_ble_eq_true rfl⟩) hw (fun v h' H locs hp hw => ?_)
    obtain ⟨rfl, rfl⟩ := hp
    refine W.eq (g2 := F0 m 36 ls [.int (nI (rup (ly T).1 (tAl T)))]) rfl ?_
    have hrb : rup (ly T).1 (tAl T) = rup (ly T).1 (ly T).2.1 := by rw [hf1]
    have hrl := rup_le (ly T).1 (tAl T)
    refine lv_istore_n (lv' := [(3, .int (nI (rup (ly T).1 (tAl T)))), (2, .ref a), (0, .ref x), (1, .int r)]) hx hb dX4_finish_36 rfl hl (by decide) rfl (fun ls hl => ?_)
    refine lv_iload_n hx hb dX4_finish_37 rfl (lv_at hl 0 rfl) ?_
    refine lv_ldc (v := 524288) hx hb hown (hts (.constant RX4 51 (524288)) (by decide +kernel)) dX4_finish_38 ?_
    refine lv_icmp_le (tgt := 46) hx hb dX4_finish_40 (by decide) (fun c40 => ?_) (fun c40 => ?_)
    · refine lv_aload_n hx hb dX4_finish_46 rfl (lv_at hl 1 rfl) ?_
      refine lv_iload_n hx hb dX4_finish_47 rfl (lv_at hl 0 rfl) ?_
      refine w_put (ci := 1) (C := RX0) (T := TX0) (N := 8) (ref := "LayoutDesk$Compound") (ty := .int) (fs' := [.int (nI (rup (ly T).1 (tAl T))), .int (nI (tAl T)), .int (if tK T = 4 then 1 else 0), .ref (ml r.toNatClampNeg), .int (if tFi T = true then 0 else 1), .int (nI (ly T).1), .int up, .int fb]) hx hb hts in_X4_finish_1 tyX0 tyX0_ok nmX0 hown hw ha rfl 0 (by decide) (hts (.fieldLink RX4 123 "LayoutDesk$Compound" "bytes" "I") (by decide +kernel)) (u_same (hts (.sameField "LayoutDesk$Compound" "LayoutDesk$Type" "bytes" "I") (by decide +kernel))) rfl (by decide +kernel) rfl rfl (Nat.le_of_ble_eq_true rfl) rfl dX4_finish_48 (fun H locs hw => ?_)
      refine lv_aload_n hx hb dX4_finish_51 rfl (lv_at hl 1 rfl) ?_
      refine lv_iconst (v := 0) hx hb dX4_finish_52 (by decide) ?_
      refine w_putN (ci := 1) (C := RX0) (T := TX0) (N := 8) (ref := "LayoutDesk$Compound") (ty := .boolean) (fs' := [.int (nI (rup (ly T).1 (tAl T))), .int (nI (tAl T)), .int (if tK T = 4 then 1 else 0), .ref (ml r.toNatClampNeg), .int 0, .int (nI (ly T).1), .int up, .int fb]) hx hb hts in_X4_finish_1 tyX0 tyX0_ok nmX0 hown hw (wu_s _ _ _) rfl 4 (by decide) (w_nw hw (w := .fieldLinkNest "LayoutDesk" 124 "LayoutDesk$Compound" "open" "Z" "LayoutDesk") (by decide +kernel)) (fun _ h9 => h9) rfl (by decide +kernel) rfl rfl (Nat.le_of_ble_eq_true rfl) rfl dX4_finish_53 (fun H locs hw => ?_)
      refine lv_iload_n hx hb dX4_finish_56 rfl (lv_at hl 0 rfl) ?_
      have hle9 : rup (ly T).1 (ly T).2.1 ≤ 524288 := by rw [← hrb]; exact (nI_leI (b := 524288) (by omega) (by decide)).mp c40
      have e9 : fFin S r = (nI (rup (ly T).1 (ly T).2.1), S.set r.toNatClampNeg (tEnd T (rup (ly T).1 (ly T).2.1))) := by simp [fFin, hto, hne9, show ¬ 524288 < rup (ly T).1 (ly T).2.1 from Nat.not_lt.mpr hle9]
      have hc9 := cX_rec (h := (wu (wu h a (.inr (1, [.int (nI (rup (ly T).1 (tAl T))), .int (nI (tAl T)), .int (if tK T = 4 then 1 else 0), .ref (ml r.toNatClampNeg), .int (if tFi T = true then 0 else 1), .int (nI (ly T).1), .int up, .int fb]))) a (.inr (1, [.int (nI (rup (ly T).1 (tAl T))), .int (nI (tAl T)), .int (if tK T = 4 then 1 else 0), .ref (ml r.toNatClampNeg), .int 0, .int (nI (ly T).1), .int up, .int fb])))) (a := a) (T' := (tEnd T (rup (ly T).1 (ly T).2.1))) (ml := ml r.toNatClampNeg) (mb := mb r.toNatClampNeg) (up := up) (fb := fb) hk (by rw [wu_s, hrb]; rfl) huo hml9 (fun j y m hj hm => (wu_n (ne_e (hmm j y m hj hm) ha (ne_c (by decide)))).trans ((wu_n (ne_e (hmm j y m hj hm) ha (ne_c (by decide)))).trans (hmm j y m hj hm)))
      exact r_int hx hb hr hlocks hw dX4_finish_57 (Nat.le_of_ble_eq_true rfl) (Nat.le_of_ble_eq_true rfl) (⟨by rw [e9, hrb], by rw [e9]; exact ⟨_, _, _, _, _, _, DR_set hR0 (w_z hw) ha3 ha2 hk ha (wu_s _ _ _) (fun q hq => (wu_n hq).trans (wu_n hq)) hc9⟩⟩)
    · refine lv_bipush (v := (-3)) hx hb dX4_finish_43 (by decide) ?_
      have e9 : fFin S r = (-3, S) := by simp [fFin, hto, hne9, show 524288 < rup (ly T).1 (ly T).2.1 from by rw [← hrb]; exact Nat.lt_of_not_le (fun z => c40 (nI_le (b := 524288) z (by decide)))]
      exact r_int hx hb hr hlocks hw dX4_finish_45 (Nat.le_of_ble_eq_true rfl) (Nat.le_of_ble_eq_true rfl) (⟨by rw [e9], by rw [e9]; exact ⟨kl, ka, ty, ml, ma, mb, hR0⟩⟩)
  · have hem9 : (ly T).2.2.2 = [] := by
      by_cases z : mb r.toNatClampNeg = []
      · exact List.eq_nil_of_length_eq_zero (by rw [← hml9, z]; rfl)
      · rw [if_neg z] at c19
        exact absurd rfl c19
    refine lv_bipush (v := (-2)) hx hb dX4_finish_22 (by decide) ?_
    have e9 : fFin S r = (-2, S) := by simp [fFin, hto, hem9]
    exact r_int hx hb hr hlocks hw dX4_finish_24 (Nat.le_of_ble_eq_true rfl) (Nat.le_of_ble_eq_true rfl) (⟨by rw [e9], by rw [e9]; exact ⟨kl, ka, ty, ml, ma, mb, hR0⟩⟩)
theorem d_finish (l : Launch) (g : GG) (h : Nat → Option va_E) (x : Nat) (S : List TyS) (N : Nat) (hR : DR g h x S) (hS : wfS N S) (r : Int32) : Con l yX4_finish wsX4_finish 6 160 0 0 [.ref x, .int r] g h (fun v h' => v = some (.int (fFin S r).1) ∧ DR g h' x (fFin S r).2) := by
  cases hto : lkO S r with
  | none => exact d_finish_N l g h x S N hR hS r hto
  | some T => exact d_finish_O l g h x S N hR hS r T hto
end
section
/-! the desk: field -/
set_option maxHeartbeats 4000000 in
set_option maxRecDepth 100000 in
theorem d_field_N1 (l : Launch) (g : GG) (h : Nat → Option va_E) (x : Nat) (S : List TyS) (N : Nat) (hR : DR g h x S) (hS : wfS N S) (r t : Int32) (hto : lkO S r = none) (htt : lk S t = none) : Con l yX4_field wsX4_field 8 192 2 804 [.ref x, .int r, .int t] g h (fun v h' => v = some (.int (fFld S r t).1) ∧ DR g h' x (fFld S r t).2) := by
  obtain ⟨kl, ka, ty, ml, ma, mb, hR0⟩ := hR
  obtain ⟨hd, hz9, hG, hlen, -⟩ := id hR0
  have hL := hG.1
  have hn9 := AL_len hL
  obtain ⟨⟨mck, hk0⟩, -, -⟩ := id hL
  have hno := DR_noOpen hR0 hto
  refine m_start (cc := cX4_field) (maxL := 6) (ret := (some .int)) (by decide) rfl (Nat.le_of_ble_eq_true rfl) ?_
  intro p e s m below meth c A ls hx hb hr hml hts hown hlocks hin hw hl
  have hl : lv_has ls 6 [(0, .ref x), (1, .int r), (2, .int t)] := hl
  have hown : s.vm.findClass RX4 = some m.cls := hown
  refine lv_aload_n hx hb dX4_field_0 rfl (lv_at hl 0 rfl) ?_
  refine lv_iload_n hx hb dX4_field_1 rfl (lv_at hl 1 rfl) ?_
  refine w_call (va_runV (As := [.int r]) (rest := []) ⟨hx, hb, hml, hown, hts⟩ (c_open_N l g h x kl ka ty hd hL r hno s.heap.size) (cwV 1 hts gX4_field_X4_openRecordAt rfl rfl rfl (by decide +kernel) ⟨Nat.le_of_ble_eq_true rfl, Nat.le_of_ble_eq_true rfl⟩) ⟨pr_blind, w_recv hw hd rfl, pr_of hw⟩ rfl rfl hl.1 rfl (lv_room (Nat.le_of_ble_eq_true rfl)) dX4_field_2 ⟨Nat.le_of_ble_eq_true rfl, Nat.le_of_ble_eq_true rfl⟩) hw (fun v h' H locs hp hw => ?_)
  obtain ⟨rfl, rfl⟩ := hp
  refine W.eq (g2 := F0 m 5 ls [.null]) rfl ?_
  refine lv_astore_nN (lv' := [(3, .null), (0, .ref x), (1, .int r), (2, .int t)]) hx hb dX4_field_5 rfl hl (by decide) rfl (fun ls hl => ?_)
  refine lv_aload_n hx hb dX4_field_6 rfl (lv_at hl 1 rfl) ?_
  refine lv_iload_n hx hb dX4_field_7 rfl (lv_at hl 3 rfl) ?_
  refine w_call (va_runV (As := [.int t]) (rest := []) ⟨hx, hb, hml, hown, hts⟩ (c_typeAt_N l g h x kl ka ty hd hL t (DR_lkN hR0 htt) H.size) (cwV 1 hts gX4_field_X4_typeAt rfl rfl rfl (by decide +kernel) ⟨Nat.le_of_ble_eq_true rfl, Nat.le_of_ble_eq_true rfl⟩) ⟨pr_blind, w_recv hw hd rfl, pr_of hw⟩ rfl rfl hl.1 rfl (lv_room (Nat.le_of_ble_eq_true rfl)) dX4_field_8 ⟨Nat.le_of_ble_eq_true rfl, Nat.le_of_ble_eq_true rfl⟩) hw (fun v h' H locs hp hw => ?_)
  obtain ⟨rfl, rfl⟩ := hp
  refine W.eq (g2 := F0 m 11 ls [.null]) rfl ?_
  refine lv_astoreN (lv' := [(4, .null), (3, .null), (0, .ref x), (1, .int r), (2, .int t)]) hx hb dX4_field_11 hl (by decide) rfl (fun ls hl => ?_)
  refine lv_aload_nN hx hb dX4_field_13 rfl (lv_at hl 1 rfl) ?_
  refine lv_ifnullN (tgt := 22) hx hb dX4_field_14 (by decide) ?_
  refine lv_iconst (v := (-1)) hx hb dX4_field_22 (by decide) ?_
  have e9 : fFld S r t = (-1, S) := by simp [fFld, hto]
  exact r_int hx hb hr hlocks hw dX4_field_23 (Nat.le_of_ble_eq_true rfl) (Nat.le_of_ble_eq_true rfl) (⟨by rw [e9], by rw [e9]; exact ⟨kl, ka, ty, ml, ma, mb, hR0⟩⟩)
set_option maxHeartbeats 4000000 in
set_option maxRecDepth 100000 in
theorem d_field_N2 (l : Launch) (g : GG) (h : Nat → Option va_E) (x : Nat) (S : List TyS) (N : Nat) (hR : DR g h x S) (hS : wfS N S) (r t : Int32) (T2 : TyS) (hto : lkO S r = none) (htt : lk S t = some T2) : Con l yX4_field wsX4_field 8 192 2 804 [.ref x, .int r, .int t] g h (fun v h' => v = some (.int (fFld S r t).1) ∧ DR g h' x (fFld S r t).2) := by
  obtain ⟨kl, ka, ty, ml, ma, mb, hR0⟩ := hR
  obtain ⟨hd, hz9, hG, hlen, -⟩ := id hR0
  have hL := hG.1
  have hn9 := AL_len hL
  obtain ⟨⟨mck, hk0⟩, -, -⟩ := id hL
  have hno := DR_noOpen hR0 hto
  obtain ⟨b, hb1, hb2, hb3, hcb⟩ := DR_lk hR0 htt
  refine m_start (cc := cX4_field) (maxL := 6) (ret := (some .int)) (by decide) rfl (Nat.le_of_ble_eq_true rfl) ?_
  intro p e s m below meth c A ls hx hb hr hml hts hown hlocks hin hw hl
  have hl : lv_has ls 6 [(0, .ref x), (1, .int r), (2, .int t)] := hl
  have hown : s.vm.findClass RX4 = some m.cls := hown
  refine lv_aload_n hx hb dX4_field_0 rfl (lv_at hl 0 rfl) ?_
  refine lv_iload_n hx hb dX4_field_1 rfl (lv_at hl 1 rfl) ?_
  refine w_call (va_runV (As := [.int r]) (rest := []) ⟨hx, hb, hml, hown, hts⟩ (c_open_N l g h x kl ka ty hd hL r hno s.heap.size) (cwV 1 hts gX4_field_X4_openRecordAt rfl rfl rfl (by decide +kernel) ⟨Nat.le_of_ble_eq_true rfl, Nat.le_of_ble_eq_true rfl⟩) ⟨pr_blind, w_recv hw hd rfl, pr_of hw⟩ rfl rfl hl.1 rfl (lv_room (Nat.le_of_ble_eq_true rfl)) dX4_field_2 ⟨Nat.le_of_ble_eq_true rfl, Nat.le_of_ble_eq_true rfl⟩) hw (fun v h' H locs hp hw => ?_)
  obtain ⟨rfl, rfl⟩ := hp
  refine W.eq (g2 := F0 m 5 ls [.null]) rfl ?_
  refine lv_astore_nN (lv' := [(3, .null), (0, .ref x), (1, .int r), (2, .int t)]) hx hb dX4_field_5 rfl hl (by decide) rfl (fun ls hl => ?_)
  refine lv_aload_n hx hb dX4_field_6 rfl (lv_at hl 1 rfl) ?_
  refine lv_iload_n hx hb dX4_field_7 rfl (lv_at hl 3 rfl) ?_
  refine w_call (va_runV (As := [.int t]) (rest := []) ⟨hx, hb, hml, hown, hts⟩ (c_typeAt_S l g h x kl ka ty hd hL t b hb1 (cX_ty hcb) H.size) (cwV 1 hts gX4_field_X4_typeAt rfl rfl rfl (by decide +kernel) ⟨Nat.le_of_ble_eq_true rfl, Nat.le_of_ble_eq_true rfl⟩) ⟨pr_blind, w_recv hw hd rfl, pr_of hw⟩ rfl rfl hl.1 rfl (lv_room (Nat.le_of_ble_eq_true rfl)) dX4_field_8 ⟨Nat.le_of_ble_eq_true rfl, Nat.le_of_ble_eq_true rfl⟩) hw (fun v h' H locs hp hw => ?_)
  obtain ⟨rfl, rfl⟩ := hp
  refine W.eq (g2 := F0 m 11 ls [.ref b]) rfl ?_
  refine lv_astore (lv' := [(4, .ref b), (3, .null), (0, .ref x), (1, .int r), (2, .int t)]) hx hb dX4_field_11 hl (by decide) rfl (fun ls hl => ?_)
  refine lv_aload_nN hx hb dX4_field_13 rfl (lv_at hl 1 rfl) ?_
  refine lv_ifnullN (tgt := 22) hx hb dX4_field_14 (by decide) ?_
  refine lv_iconst (v := (-1)) hx hb dX4_field_22 (by decide) ?_
  have e9 : fFld S r t = (-1, S) := by simp [fFld, hto]
  exact r_int hx hb hr hlocks hw dX4_field_23 (Nat.le_of_ble_eq_true rfl) (Nat.le_of_ble_eq_true rfl) (⟨by rw [e9], by rw [e9]; exact ⟨kl, ka, ty, ml, ma, mb, hR0⟩⟩)
set_option maxHeartbeats 4000000 in
set_option maxRecDepth 100000 in
theorem d_field_N3 (l : Launch) (g : GG) (h : Nat → Option va_E) (x : Nat) (S : List TyS) (N : Nat) (hR : DR g h x S) (hS : wfS N S) (r t : Int32) (T : TyS) (hto : lkO S r = some T) (htt : lk S t = none) : Con l yX4_field wsX4_field 8 192 2 804 [.ref x, .int r, .int t] g h (fun v h' => v = some (.int (fFld S r t).1) ∧ DR g h' x (fFld S r t).2) := by
  obtain ⟨ht, hk, hfi⟩ := lkO_some hto
  obtain ⟨kl, ka, ty, ml, ma, mb, hR0⟩ := hR
  obtain ⟨hd, hz9, hG, hlen, -⟩ := id hR0
  have hL := hG.1
  have hn9 := AL_len hL
  obtain ⟨⟨mck, hk0⟩, -, -⟩ := id hL
  obtain ⟨a, ha1, ha2, ha3, hc⟩ := DR_lk hR0 ht
  obtain ⟨⟨up, fb, ha, huo⟩, hml9, hmm⟩ : (∃ up fb : Int32, h a = some (oCo (nI (tSz T)) (nI (tAl T)) (if tK T = 4 then 1 else 0) (ml r.toNatClampNeg) (if tFi T = true then 0 else 1) (nI (ly T).1) up fb) ∧ uOK (tK T == 4) (ly T).2.2.1 up fb) ∧ (mb r.toNatClampNeg).length = (ly T).2.2.2.length ∧ ∀ (j y : Nat) (m : Nat × Nat × Nat × Nat), (mb r.toNatClampNeg)[j]? = some y → (ly T).2.2.2[j]? = some m → h y = some (oMb (nI m.1) (nI m.2.1) (nI m.2.2.1) (nI m.2.2.2)) := by
    rcases hc with ⟨z1, -⟩ | ⟨z1, z2⟩
    · exact absurd hk (by omega)
    · exact z2
  have hT : isTy h a := Or.inl ⟨_, _, _, _, _, _, _, _, ha⟩
  obtain ⟨hM, hmk, -⟩ := hG.2.2.1 r.toNatClampNeg (by have := (List.getElem?_eq_some_iff.mp ha2).1; omega) ⟨T, ha3, hk⟩
  obtain ⟨⟨mcm, hm0⟩, -, -⟩ := id hM
  obtain ⟨hw1, hw2, hw3, hw4, hw5, hw6, hw7, hw8⟩ := (hS.2.2 _ _ ha3).1
  obtain ⟨hf1, hf2, hf3, hf4⟩ := hw8 hk
  refine m_start (cc := cX4_field) (maxL := 6) (ret := (some .int)) (by decide) rfl (Nat.le_of_ble_eq_true rfl) ?_
  intro p e s m below meth c A ls hx hb hr hml hts hown hlocks hin hw hl
  have hl : lv_has ls 6 [(0, .ref x), (1, .int r), (2, .int t)] := hl
  have hown : s.vm.findClass RX4 = some m.cls := hown
  refine lv_aload_n hx hb dX4_field_0 rfl (lv_at hl 0 rfl) ?_
  refine lv_iload_n hx hb dX4_field_1 rfl (lv_at hl 1 rfl) ?_
  refine w_call (va_runV (As := [.int r]) (rest := []) ⟨hx, hb, hml, hown, hts⟩ (c_open_S l g h x kl ka ty hd hL r a (ml r.toNatClampNeg) (nI (tSz T)) (nI (tAl T)) (if tK T = 4 then 1 else 0) (if tFi T = true then 0 else 1) (nI (ly T).1) up fb ha1 ha (by rw [hfi]; rfl) s.heap.size) (cwV 1 hts gX4_field_X4_openRecordAt rfl rfl rfl (by decide +kernel) ⟨Nat.le_of_ble_eq_true rfl, Nat.le_of_ble_eq_true rfl⟩) ⟨pr_blind, w_recv hw hd rfl, pr_of hw⟩ rfl rfl hl.1 rfl (lv_room (Nat.le_of_ble_eq_true rfl)) dX4_field_2 ⟨Nat.le_of_ble_eq_true rfl, Nat.le_of_ble_eq_true rfl⟩) hw (fun v h' H locs hp hw => ?_)
  obtain ⟨rfl, rfl⟩ := hp
  refine W.eq (g2 := F0 m 5 ls [.ref a]) rfl ?_
  refine lv_astore_n (lv' := [(3, .ref a), (0, .ref x), (1, .int r), (2, .int t)]) hx hb dX4_field_5 rfl hl (by decide) rfl (fun ls hl => ?_)
  refine lv_aload_n hx hb dX4_field_6 rfl (lv_at hl 1 rfl) ?_
  refine lv_iload_n hx hb dX4_field_7 rfl (lv_at hl 3 rfl) ?_
  refine w_call (va_runV (As := [.int t]) (rest := []) ⟨hx, hb, hml, hown, hts⟩ (c_typeAt_N l g h x kl ka ty hd hL t (DR_lkN hR0 htt) H.size) (cwV 1 hts gX4_field_X4_typeAt rfl rfl rfl (by decide +kernel) ⟨Nat.le_of_ble_eq_true rfl, Nat.le_of_ble_eq_true rfl⟩) ⟨pr_blind, w_recv hw hd rfl, pr_of hw⟩ rfl rfl hl.1 rfl (lv_room (Nat.le_of_ble_eq_true rfl)) dX4_field_8 ⟨Nat.le_of_ble_eq_true rfl, Nat.le_of_ble_eq_true rfl⟩) hw (fun v h' H locs hp hw => ?_)
  obtain ⟨rfl, rfl⟩ := hp
  refine W.eq (g2 := F0 m 11 ls [.null]) rfl ?_
  refine lv_astoreN (lv' := [(4, .null), (3, .ref a), (0, .ref x), (1, .int r), (2, .int t)]) hx hb dX4_field_11 hl (by decide) rfl (fun ls hl => ?_)
  refine lv_aload_n hx hb dX4_field_13 rfl (lv_at hl 1 rfl) ?_
  refine lv_ifnull hx hb dX4_field_14 ?_
  refine lv_aloadN hx hb dX4_field_17 (lv_at hl 0 rfl) ?_
  refine lv_ifnonnullN hx hb dX4_field_19 ?_
  refine lv_iconst (v := (-1)) hx hb dX4_field_22 (by decide) ?_
  have e9 : fFld S r t = (-1, S) := by simp [fFld, hto, htt]
  exact r_int hx hb hr hlocks hw dX4_field_23 (Nat.le_of_ble_eq_true rfl) (Nat.le_of_ble_eq_true rfl) (⟨by rw [e9], by rw [e9]; exact ⟨kl, ka, ty, ml, ma, mb, hR0⟩⟩)
theorem in_X4_field_2 : ∀ w ∈ u_ws RX1 TX1 4, w ∈ wsX4_field := by decide +kernel
theorem in_X4_field_3 : ∀ w ∈ u_ws RX2 TX2 5, w ∈ wsX4_field := by decide +kernel
set_option maxHeartbeats 4000000 in
set_option maxRecDepth 100000 in
theorem d_field_S (l : Launch) (g : GG) (h : Nat → Option va_E) (x : Nat) (S : List TyS) (N : Nat) (hR : DR g h x S) (hS : wfS N S) (r t : Int32) (T T2 : TyS) (hto : lkO S r = some T) (htt : lk S t = some T2) (hk2 : tK T2 < 3) : Con l yX4_field wsX4_field 8 192 2 804 [.ref x, .int r, .int t] g h (fun v h' => v = some (.int (fFld S r t).1) ∧ DR g h' x (fFld S r t).2) := by
  obtain ⟨ht, hk, hfi⟩ := lkO_some hto
  obtain ⟨kl, ka, ty, ml, ma, mb, hR0⟩ := hR
  obtain ⟨hd, hz9, hG, hlen, -⟩ := id hR0
  have hL := hG.1
  have hn9 := AL_len hL
  obtain ⟨⟨mck, hk0⟩, -, -⟩ := id hL
  obtain ⟨a, ha1, ha2, ha3, hc⟩ := DR_lk hR0 ht
  obtain ⟨⟨up, fb, ha, huo⟩, hml9, hmm⟩ : (∃ up fb : Int32, h a = some (oCo (nI (tSz T)) (nI (tAl T)) (if tK T = 4 then 1 else 0) (ml r.toNatClampNeg) (if tFi T = true then 0 else 1) (nI (ly T).1) up fb) ∧ uOK (tK T == 4) (ly T).2.2.1 up fb) ∧ (mb r.toNatClampNeg).length = (ly T).2.2.2.length ∧ ∀ (j y : Nat) (m : Nat × Nat × Nat × Nat), (mb r.toNatClampNeg)[j]? = some y → (ly T).2.2.2[j]? = some m → h y = some (oMb (nI m.1) (nI m.2.1) (nI m.2.2.1) (nI m.2.2.2)) := by
    rcases hc with ⟨z1, -⟩ | ⟨z1, z2⟩
    · exact absurd hk (by omega)
    · exact z2
  have hT : isTy h a := Or.inl ⟨_, _, _, _, _, _, _, _, ha⟩
  obtain ⟨hM, hmk, -⟩ := hG.2.2.1 r.toNatClampNeg (by have := (List.getElem?_eq_some_iff.mp ha2).1; omega) ⟨T, ha3, hk⟩
  obtain ⟨⟨mcm, hm0⟩, -, -⟩ := id hM
  obtain ⟨hw1, hw2, hw3, hw4, hw5, hw6, hw7, hw8⟩ := (hS.2.2 _ _ ha3).1
  obtain ⟨hf1, hf2, hf3, hf4⟩ := hw8 hk
  obtain ⟨b, hb1, hb2, hb3, hcb⟩ := DR_lk hR0 htt
  obtain ⟨hv1, hv2, hv3, hv4, hv5, -⟩ := (hS.2.2 _ _ hb3).1
  have hsz0 : tSz T = 0 := Classical.byContradiction (fun z => by rcases ((hS.2.2 _ _ ha3).2.1.mp z).2 with z | z; { omega }; { rw [hfi] at z; cases z })
  obtain ⟨pl9, epl⟩ : ∃ p : Nat, p = (if (tK T == 4) = true then 0 else rup (ly T).1 (tAl T2)) := ⟨_, rfl⟩
  have hpl9 : pl9 ≤ 524292 := by { rw [epl]; have := rup_le (ly T).1 (tAl T2); split <;> omega }
  have hplv : (if (if tK T = 4 then (1 : Int32) else 0) = 0 then nI (rup (ly T).1 (tAl T2)) else 0) = nI pl9 := by { rw [ov_if, epl]; split <;> rfl }
  have hb0 : h b = some (oSi (nI (tSz T2)) (nI (tAl T2)) (nI (tK T2)) (if tK T2 = 0 then -1 else nI (tTo T2)) (nI (tLn T2))) := by
    rcases hcb with ⟨z1, z2⟩ | ⟨z1, -⟩
    · exact z2
    · exact absurd hk2 (by omega)
  have nba : b ≠ a := ne_e hb0 ha (ne_c (by decide))
  refine m_start (cc := cX4_field) (maxL := 6) (ret := (some .int)) (by decide) rfl (Nat.le_of_ble_eq_true rfl) ?_
  intro p e s m below meth c A ls hx hb hr hml hts hown hlocks hin hw hl
  have hl : lv_has ls 6 [(0, .ref x), (1, .int r), (2, .int t)] := hl
  have hown : s.vm.findClass RX4 = some m.cls := hown
  refine lv_aload_n hx hb dX4_field_0 rfl (lv_at hl 0 rfl) ?_
  refine lv_iload_n hx hb dX4_field_1 rfl (lv_at hl 1 rfl) ?_
  refine w_call (va_runV (As := [.int r]) (rest := []) ⟨hx, hb, hml, hown, hts⟩ (c_open_S l g h x kl ka ty hd hL r a (ml r.toNatClampNeg) (nI (tSz T)) (nI (tAl T)) (if tK T = 4 then 1 else 0) (if tFi T = true then 0 else 1) (nI (ly T).1) up fb ha1 ha (by rw [hfi]; rfl) s.heap.size) (cwV 1 hts gX4_field_X4_openRecordAt rfl rfl rfl (by decide +kernel) ⟨Nat.le_of_ble_eq_true rfl, Nat.le_of_ble_eq_true rfl⟩) ⟨pr_blind, w_recv hw hd rfl, pr_of hw⟩ rfl rfl hl.1 rfl (lv_room (Nat.le_of_ble_eq_true rfl)) dX4_field_2 ⟨Nat.le_of_ble_eq_true rfl, Nat.le_of_ble_eq_true rfl⟩) hw (fun v h' H locs hp hw => ?_)
  obtain ⟨rfl, rfl⟩ := hp
  refine W.eq (g2 := F0 m 5 ls [.ref a]) rfl ?_
  refine lv_astore_n (lv' := [(3, .ref a), (0, .ref x), (1, .int r), (2, .int t)]) hx hb dX4_field_5 rfl hl (by decide) rfl (fun ls hl => ?_)
  refine lv_aload_n hx hb dX4_field_6 rfl (lv_at hl 1 rfl) ?_
  refine lv_iload_n hx hb dX4_field_7 rfl (lv_at hl 3 rfl) ?_
  refine w_call (va_runV (As := [.int t]) (rest := []) ⟨hx, hb, hml, hown, hts⟩ (c_typeAt_S l g h x kl ka ty hd hL t b hb1 (cX_ty hcb) H.size) (cwV 1 hts gX4_field_X4_typeAt rfl rfl rfl (by decide +kernel) ⟨Nat.le_of_ble_eq_true rfl, Nat.le_of_ble_eq_true rfl⟩) ⟨pr_blind, w_recv hw hd rfl, pr_of hw⟩ rfl rfl hl.1 rfl (lv_room (Nat.le_of_ble_eq_true rfl)) dX4_field_8 ⟨Nat.le_of_ble_eq_true rfl, Nat.le_of_ble_eq_true rfl⟩) hw (fun v h' H locs hp hw => ?_)
  obtain ⟨rfl, rfl⟩ := hp
  refine W.eq (g2 := F0 m 11 ls [.ref b]) rfl ?_
  refine lv_astore (lv' := [(4, .ref b), (3, .ref a), (0, .ref x), (1, .int r), (2, .int t)]) hx hb dX4_field_11 hl (by decide) rfl (fun ls hl => ?_)
  refine lv_aload_n hx hb dX4_field_13 rfl (lv_at hl 1 rfl) ?_
  refine lv_ifnull hx hb dX4_field_14 ?_
  refine lv_aload hx hb dX4_field_17 (lv_at hl 0 rfl) ?_
  refine lv_ifnonnull (tgt := 24) hx hb dX4_field_19 (by decide) ?_
  refine lv_aload hx hb dX4_field_24 (lv_at hl 0 rfl) ?_
  refine w_get (ci := 3) (C := RX2) (T := TX2) (N := 5) (ref := "LayoutDesk$Type") hx hb hts in_X4_field_3 hown hw hb0 rfl 0 (by decide) (hts (.fieldLink RX4 52 "LayoutDesk$Type" "bytes" "I") (by decide +kernel)) (fun _ h9 => h9) rfl dX4_field_26 ?_
  refine lv_if_ne (tgt := 35) hx hb dX4_field_29 (by decide) (fun c29 => ?_) (fun c29 => ?_)
  · have hsz9 : ¬ tSz T2 = 0 := fun z => c29 (by rw [z]; exact nI_0)
    refine lv_aload_n hx hb dX4_field_35 rfl (lv_at hl 1 rfl) ?_
    refine w_call (va_runV (As := []) (rest := []) ⟨hx, hb, hml, hown, hts⟩ (c_hasAll l g h a (ml r.toNatClampNeg) (nI (tSz T)) (nI (tAl T)) (if tK T = 4 then 1 else 0) (if tFi T = true then 0 else 1) (nI (ly T).1) up fb ha (ma r.toNatClampNeg) (mb r.toNatClampNeg) hM H.size) (cwV 0 hts gX4_field_X0_hasAllMembers rfl rfl rfl (by decide +kernel) ⟨Nat.le_of_ble_eq_true rfl, Nat.le_of_ble_eq_true rfl⟩) ⟨pr_blind, w_recv hw ha rfl, pr_of hw⟩ rfl rfl hl.1 rfl (lv_room (Nat.le_of_ble_eq_true rfl)) dX4_field_36 ⟨Nat.le_of_ble_eq_true rfl, Nat.le_of_ble_eq_true rfl⟩) hw (fun v h' H locs hp hw => ?_)
    obtain ⟨rfl, rfl⟩ := hp
    refine W.eq (g2 := F0 m 39 ls [.int (if 100 ≤ (mb r.toNatClampNeg).length then 1 else 0)]) rfl ?_
    refine lv_if_eq (tgt := 45) hx hb dX4_field_39 (by decide) (fun c39 => ?_) (fun c39 => ?_)
    · have hna9 : ¬ 100 ≤ (ly T).2.2.2.length := fun z => by rw [← hml9] at z; rw [if_pos z] at c39; exact absurd c39 (by decide)
      refine lv_aload_n hx hb dX4_field_45 rfl (lv_at hl 1 rfl) ?_
      refine lv_aload hx hb dX4_field_46 (lv_at hl 0 rfl) ?_
      refine w_get (ci := 3) (C := RX2) (T := TX2) (N := 5) (ref := "LayoutDesk$Type") hx hb hts in_X4_field_3 hown hw hb0 rfl 1 (by decide) (hts (.fieldLink RX4 60 "LayoutDesk$Type" "alignment" "I") (by decide +kernel)) (fun _ h9 => h9) rfl dX4_field_48 ?_
      refine w_call (va_runV (As := [.int (nI (tAl T2))]) (rest := []) ⟨hx, hb, hml, hown, hts⟩ (c_placeFor l g h a (ml r.toNatClampNeg) (ly T).1 (tAl T2) (nI (tSz T)) (nI (tAl T)) (if tK T = 4 then 1 else 0) (if tFi T = true then 0 else 1) up fb ha (by omega) hv5 H.size) (cwV 1 hts gX4_field_X0_placeFor rfl rfl rfl (by decide +kernel) ⟨Nat.le_of_ble_eq_true rfl, Nat.le_of_ble_eq_true rfl⟩) ⟨pr_blind, w_recv hw ha rfl, pr_of hw⟩ rfl rfl hl.1 rfl (lv_room (Nat.le_of_ble_eq_true rfl)) dX4_field_51 ⟨Nat.le_of_ble_eq_true rfl, Nat.le_of_ble_eq_true rfl⟩) hw (fun v h' H locs hp hw => ?_)
      obtain ⟨rfl, rfl⟩ := hp
      refine W.eq (g2 := F0 m 54 ls [.int (if (if tK T = 4 then 1 else 0) = 0 then nI (rup (ly T).1 (tAl T2)) else 0)]) rfl ?_
      rw [hplv]
      refine lv_istore (lv' := [(5, .int (nI pl9)), (4, .ref b), (3, .ref a), (0, .ref x), (1, .int r), (2, .int t)]) hx hb dX4_field_54 hl (by decide) rfl (fun ls hl => ?_)
      refine lv_iload hx hb dX4_field_56 (lv_at hl 0 rfl) ?_
      refine lv_aload hx hb dX4_field_58 (lv_at hl 1 rfl) ?_
      refine w_get (ci := 3) (C := RX2) (T := TX2) (N := 5) (ref := "LayoutDesk$Type") hx hb hts in_X4_field_3 hown hw hb0 rfl 0 (by decide) (hts (.fieldLink RX4 52 "LayoutDesk$Type" "bytes" "I") (by decide +kernel)) (fun _ h9 => h9) rfl dX4_field_60 ?_
      refine lv_iadd hx hb dX4_field_63 ?_
      have hsum : nI pl9 + nI (tSz T2) = nI (pl9 + tSz T2) := nI_add _ _
      refine lv_ldc (v := 524288) hx hb hown (hts (.constant RX4 51 (524288)) (by decide +kernel)) dX4_field_64 ?_
      refine lv_icmp_le (tgt := 72) hx hb dX4_field_66 (by decide) (fun c66 => ?_) (fun c66 => ?_)
      · refine lv_aload_n hx hb dX4_field_72 rfl (lv_at hl 2 rfl) ?_
        refine w_call (va_runV (As := []) (rest := []) ⟨hx, hb, hml, hown, hts⟩ (c_endUnit l g h a (ml r.toNatClampNeg) (nI (tSz T)) (nI (tAl T)) (if tK T = 4 then 1 else 0) (if tFi T = true then 0 else 1) (nI (ly T).1) up fb ha H.size) (cwV 0 hts gX4_field_X0_endUnit rfl rfl rfl (by decide +kernel) ⟨Nat.le_of_ble_eq_true rfl, Nat.le_of_ble_eq_true rfl⟩) ⟨pr_blind, w_recv hw ha rfl, pr_of hw⟩ rfl rfl hl.1 rfl (lv_room (Nat.le_of_ble_eq_true rfl)) dX4_field_73 ⟨Nat.le_of_ble_eq_true rfl, Nat.le_of_ble_eq_true rfl⟩) hw (fun v h' H locs hp hw => ?_)
        obtain ⟨rfl, rfl⟩ := hp
        refine W.eq (g2 := F0 m 76 ls []) rfl ?_
        refine lv_aload_n hx hb dX4_field_76 rfl (lv_at hl 2 rfl) ?_
        refine lv_iload hx hb dX4_field_77 (lv_at hl 0 rfl) ?_
        refine lv_aload hx hb dX4_field_79 (lv_at hl 1 rfl) ?_
        refine w_get (ci := 3) (C := RX2) (T := TX2) (N := 5) (ref := "LayoutDesk$Type") hx hb hts in_X4_field_3 hown hw ((wu_n nba).trans hb0) rfl 0 (by decide) (hts (.fieldLink RX4 52 "LayoutDesk$Type" "bytes" "I") (by decide +kernel)) (fun _ h9 => h9) rfl dX4_field_81 ?_
        refine lv_aload hx hb dX4_field_84 (lv_at hl 1 rfl) ?_
        refine w_get (ci := 3) (C := RX2) (T := TX2) (N := 5) (ref := "LayoutDesk$Type") hx hb hts in_X4_field_3 hown hw ((wu_n nba).trans hb0) rfl 1 (by decide) (hts (.fieldLink RX4 60 "LayoutDesk$Type" "alignment" "I") (by decide +kernel)) (fun _ h9 => h9) rfl dX4_field_86 ?_
        refine w_call (va_runV (As := [.int (nI pl9), .int (nI (tSz T2)), .int (nI (tAl T2))]) (rest := []) ⟨hx, hb, hml, hown, hts⟩ (c_occupy l g (wu h a (.inr (1, [.int (nI (tSz T)), .int (nI (tAl T)), .int (if tK T = 4 then 1 else 0), .ref (ml r.toNatClampNeg), .int (if tFi T = true then 0 else 1), .int (nI (ly T).1), .int up, .int 0]))) a (ml r.toNatClampNeg) (tAl T) (ly T).1 pl9 (tSz T2) (tAl T2) (nI (tSz T)) (if tK T = 4 then 1 else 0) (if tFi T = true then 0 else 1) up 0 (wu_s _ _ _) (by omega) (by omega) hw5 hv5 H.size) (cwV 3 hts gX4_field_X0_occupy rfl rfl rfl (by decide +kernel) ⟨Nat.le_of_ble_eq_true rfl, Nat.le_of_ble_eq_true rfl⟩) ⟨pr_blind, w_recv hw (wu_s _ _ _) rfl, pr_of hw⟩ rfl rfl hl.1 rfl (lv_room (Nat.le_of_ble_eq_true rfl)) dX4_field_89 ⟨Nat.le_of_ble_eq_true rfl, Nat.le_of_ble_eq_true rfl⟩) hw (fun v h' H locs hp hw => ?_)
        obtain ⟨rfl, rfl⟩ := hp
        refine W.eq (g2 := F0 m 92 ls []) rfl ?_
        refine lv_aload_n hx hb dX4_field_92 rfl (lv_at hl 2 rfl) ?_
        refine w_new (ci := 2) (C := RX1) (T := TX1) (N := 4) (fs := [.int 0, .int 0, .int 0, .int 0]) hx hb hts in_X4_field_2 tyX1 tyX1_ok hown (hts (.classLink RX4 86 RX1) (by decide +kernel)) (hts (.instantiable RX1 4) (by decide +kernel)) (hts (.initialized RX1) (by decide +kernel)) hw rfl (fun j hj => by rcases (show j = 0 ∨ j = 1 ∨ j = 2 ∨ j = 3 by omega) with rfl | rfl | rfl | rfl <;> rfl) (Nat.le_of_ble_eq_true rfl) (Nat.le_of_ble_eq_true rfl) dX4_field_93 (fun q H hq hw => ?_)
        refine lv_dup hx hb dX4_field_96 rfl ?_
        refine lv_iload hx hb dX4_field_97 (lv_at hl 0 rfl) ?_
        refine lv_iload_n hx hb dX4_field_99 rfl (lv_at hl 5 rfl) ?_
        refine lv_iconst (v := 0) hx hb dX4_field_100 (by decide) ?_
        refine lv_iconst (v := 0) hx hb dX4_field_101 (by decide) ?_
        refine w_call (va_runI (As := [.int (nI pl9), .int t, .int 0, .int 0]) (rest := [.ref q, .ref a]) ⟨hx, hb, hml, hown, hts⟩ (c_Member_init l g (wu (wu (wu h a (.inr (1, [.int (nI (tSz T)), .int (nI (tAl T)), .int (if tK T = 4 then 1 else 0), .ref (ml r.toNatClampNeg), .int (if tFi T = true then 0 else 1), .int (nI (ly T).1), .int up, .int 0]))) a (.inr (1, [.int (nI (tSz T)), .int (nI (max (tAl T) (tAl T2))), .int (if tK T = 4 then 1 else 0), .ref (ml r.toNatClampNeg), .int (if tFi T = true then 0 else 1), .int (nI (max (ly T).1 (pl9 + tSz T2))), .int up, .int 0]))) q (.inr (2, [.int 0, .int 0, .int 0, .int 0]))) q 0 0 0 0 (nI pl9) t 0 0 (wu_s _ _ _) H.size) (cwI 4 hts gX4_field_X1_init rfl rfl rfl (hts (.initialized RX1) (by decide +kernel)) (hts (.methodLink RX4 88 yX1_init) (by decide +kernel)) (hts (.instanceMethod yX1_init) (by decide +kernel)) rfl (by decide +kernel) ⟨Nat.le_of_ble_eq_true rfl, Nat.le_of_ble_eq_true rfl⟩) ⟨pr_blind, pr_of hw⟩ rfl rfl hl.1 rfl (lv_room (Nat.le_of_ble_eq_true rfl)) dX4_field_102 ⟨Nat.le_of_ble_eq_true rfl, Nat.le_of_ble_eq_true rfl⟩) hw (fun v h' H locs hp hw => ?_)
        obtain ⟨rfl, rfl⟩ := hp
        refine W.eq (g2 := F0 m 105 ls [.ref q, .ref a]) rfl ?_
        have hqh : h q = none := by
          have z := hq
          exact ((wu_n (ne_n (wu_s _ _ _) hq).symm).symm.trans ((wu_n (ne_n (wu_s _ _ _) hq).symm).symm.trans hq))
        have hWf : ∀ z, z ≠ a → z ≠ q → (wu (wu (wu (wu h a (.inr (1, [.int (nI (tSz T)), .int (nI (tAl T)), .int (if tK T = 4 then 1 else 0), .ref (ml r.toNatClampNeg), .int (if tFi T = true then 0 else 1), .int (nI (ly T).1), .int up, .int 0]))) a (.inr (1, [.int (nI (tSz T)), .int (nI (max (tAl T) (tAl T2))), .int (if tK T = 4 then 1 else 0), .ref (ml r.toNatClampNeg), .int (if tFi T = true then 0 else 1), .int (nI (max (ly T).1 (pl9 + tSz T2))), .int up, .int 0]))) q (.inr (2, [.int 0, .int 0, .int 0, .int 0]))) q (.inr (2, [.int (nI pl9), .int t, .int 0, .int 0]))) z = h z := fun z z1 z2 => by
          rw [wu_n z2, wu_n z2, wu_n z1, wu_n z1]
        have hMW : AL g (wu (wu (wu (wu h a (.inr (1, [.int (nI (tSz T)), .int (nI (tAl T)), .int (if tK T = 4 then 1 else 0), .ref (ml r.toNatClampNeg), .int (if tFi T = true then 0 else 1), .int (nI (ly T).1), .int up, .int 0]))) a (.inr (1, [.int (nI (tSz T)), .int (nI (max (tAl T) (tAl T2))), .int (if tK T = 4 then 1 else 0), .ref (ml r.toNatClampNeg), .int (if tFi T = true then 0 else 1), .int (nI (max (ly T).1 (pl9 + tSz T2))), .int up, .int 0]))) q (.inr (2, [.int 0, .int 0, .int 0, .int 0]))) q (.inr (2, [.int (nI pl9), .int t, .int 0, .int 0]))) (ml r.toNatClampNeg) (ma r.toNatClampNeg) (mb r.toNatClampNeg) := AL_kp (kp_mem ha ((wu_n (ne_n (wu_s _ _ _) hq)).trans ((wu_n (ne_n (wu_s _ _ _) hq)).trans (wu_s _ _ _))) hqh hWf (w_z hw)) hM
        obtain ⟨⟨mcW, hmW⟩, -, -⟩ := id hMW
        refine w_call (va_runV (As := [.ref q]) (rest := []) ⟨hx, hb, hml, hown, hts⟩ (c_Comp_enter l g (wu (wu (wu (wu h a (.inr (1, [.int (nI (tSz T)), .int (nI (tAl T)), .int (if tK T = 4 then 1 else 0), .ref (ml r.toNatClampNeg), .int (if tFi T = true then 0 else 1), .int (nI (ly T).1), .int up, .int 0]))) a (.inr (1, [.int (nI (tSz T)), .int (nI (max (tAl T) (tAl T2))), .int (if tK T = 4 then 1 else 0), .ref (ml r.toNatClampNeg), .int (if tFi T = true then 0 else 1), .int (nI (max (ly T).1 (pl9 + tSz T2))), .int up, .int 0]))) q (.inr (2, [.int 0, .int 0, .int 0, .int 0]))) q (.inr (2, [.int (nI pl9), .int t, .int 0, .int 0]))) a (ml r.toNatClampNeg) (nI (tSz T)) (nI (max (tAl T) (tAl T2))) (if tK T = 4 then 1 else 0) (if tFi T = true then 0 else 1) (nI (max (ly T).1 (pl9 + tSz T2))) up 0 ((wu_n (ne_n (wu_s _ _ _) hq)).trans ((wu_n (ne_n (wu_s _ _ _) hq)).trans (wu_s _ _ _))) (ma r.toNatClampNeg) q (mb r.toNatClampNeg) hMW ⟨2, _, wu_s _ _ _, by decide, by decide⟩ (by omega) H.size) (cwV 1 hts gX4_field_X0_enter rfl rfl rfl (by decide +kernel) ⟨Nat.le_of_ble_eq_true rfl, Nat.le_of_ble_eq_true rfl⟩) ⟨pr_blind, w_recv hw ((wu_n (ne_n (wu_s _ _ _) hq)).trans ((wu_n (ne_n (wu_s _ _ _) hq)).trans (wu_s _ _ _))) rfl, pr_of hw⟩ rfl rfl hl.1 rfl (lv_room (Nat.le_of_ble_eq_true rfl)) dX4_field_105 ⟨Nat.le_of_ble_eq_true rfl, Nat.le_of_ble_eq_true rfl⟩) hw (fun v h' H locs hp hw => ?_)
        obtain ⟨ma', rfl, q1, q2, q3⟩ := hp
        refine W.eq (g2 := F0 m 108 ls [.int (nI (mb r.toNatClampNeg).length)]) rfl ?_
        have hle9 : pl9 + tSz T2 ≤ 524288 := (nI_leI (a := pl9 + tSz T2) (b := 524288) (by omega) (by decide)).mp (by rw [← hsum]; exact c66)
        have el : ly (tPush T (some t.toNatClampNeg, 0, true, tSz T2, tAl T2)) = (max (ly T).1 (pl9 + tSz T2), max (ly T).2.1 (tAl T2), none, (ly T).2.2.2 ++ [(pl9, t.toNatClampNeg, 0, 0)]) := by rw [epl]; exact ly_fld T t.toNatClampNeg (tSz T2) (tAl T2)
        have el1 : (lyS (tK T == 4) (ly T) (some t.toNatClampNeg, 0, true, tSz T2, tAl T2)).1 = max (ly T).1 (pl9 + tSz T2) := by rw [← ly_push, el]
        have e9 : fFld S r t = (nI (ly T).2.2.2.length, S.set r.toNatClampNeg (tPush T (some t.toNatClampNeg, 0, true, tSz T2, tAl T2))) := by
          simp only [fFld, hto, htt, el1]
          rw [if_neg hsz9, if_neg hna9, if_neg (by omega)]
        have et : t = nI t.toNatClampNeg := (lk_lt htt (by have := hS.2.1; omega)).2.1
        exact r_int hx hb hr hlocks hw dX4_field_108 (Nat.le_of_ble_eq_true rfl) (Nat.le_of_ble_eq_true rfl) (⟨by rw [e9, hml9], by rw [e9]; exact DR_mem (T' := (tPush T (some t.toNatClampNeg, 0, true, tSz T2, tAl T2))) (mm := (pl9, t.toNatClampNeg, 0, 0)) hR0 ha3 ha2 hk ha hqh (((wu_n (ne_n (wu_s _ _ _) hq)).trans ((wu_n (ne_n (wu_s _ _ _) hq)).trans (wu_s _ _ _))).trans (by rw [el, hf1]; rfl)) ((wu_s _ _ _).trans (by rw [← et]; rfl)) hWf hMW (w_z hw) q1 q2 q3 hk (by rw [el]; exact uOK_0 _ _) hmm hml9 (by rw [el])⟩)
      · refine lv_bipush (v := (-4)) hx hb dX4_field_69 (by decide) ?_
        have el1 : (lyS (tK T == 4) (ly T) (some t.toNatClampNeg, 0, true, tSz T2, tAl T2)).1 = max (ly T).1 (pl9 + tSz T2) := by rw [epl]; rfl
        have hgt9 : 524288 < pl9 + tSz T2 := Nat.lt_of_not_le (fun z => c66 (by rw [hsum]; exact nI_le (b := 524288) z (by decide)))
        have e9 : fFld S r t = (-4, S) := by
          simp only [fFld, hto, htt, el1]
          rw [if_neg hsz9, if_neg hna9, if_pos (by omega)]
        exact r_int hx hb hr hlocks hw dX4_field_71 (Nat.le_of_ble_eq_true rfl) (Nat.le_of_ble_eq_true rfl) (⟨by rw [e9], by rw [e9]; exact ⟨kl, ka, ty, ml, ma, mb, hR0⟩⟩)
    · have hal9 : 100 ≤ (ly T).2.2.2.length := by
        rw [← hml9]
        by_cases z : 100 ≤ (mb r.toNatClampNeg).length
        · exact z
        · rw [if_neg z] at c39
          exact absurd rfl c39
      refine lv_bipush (v := (-3)) hx hb dX4_field_42 (by decide) ?_
      have e9 : fFld S r t = (-3, S) := by simp [fFld, hto, htt, hsz9, hal9]
      exact r_int hx hb hr hlocks hw dX4_field_44 (Nat.le_of_ble_eq_true rfl) (Nat.le_of_ble_eq_true rfl) (⟨by rw [e9], by rw [e9]; exact ⟨kl, ka, ty, ml, ma, mb, hR0⟩⟩)
  · refine lv_bipush (v := (-2)) hx hb dX4_field_32 (by decide) ?_
    have e9 : fFld S r t = (-2, S) := by simp [fFld, hto, htt, show tSz T2 = 0 from (nI_eq (b := 0) (by omega) (by decide)).mp (c29.trans nI_0.symm)]
    exact r_int hx hb hr hlocks hw dX4_field_34 (Nat.le_of_ble_eq_true rfl) (Nat.le_of_ble_eq_true rfl) (⟨by rw [e9], by rw [e9]; exact ⟨kl, ka, ty, ml, ma, mb, hR0⟩⟩)
theorem in_X4_field_1 : ∀ w ∈ u_ws RX0 TX0 8, w ∈ wsX4_field := by decide +kernel
set_option maxHeartbeats 4000000 in
set_option maxRecDepth 100000 in
theorem d_field_C (l : Launch) (g : GG) (h : Nat → Option va_E) (x : Nat) (S : List TyS) (N : Nat) (hR : DR g h x S) (hS : wfS N S) (r t : Int32) (T T2 : TyS) (hto : lkO S r = some T) (htt : lk S t = some T2) (hk2 : 3 ≤ tK T2) : Con l yX4_field wsX4_field 8 192 2 804 [.ref x, .int r, .int t] g h (fun v h' => v = some (.int (fFld S r t).1) ∧ DR g h' x (fFld S r t).2) := by
  obtain ⟨ht, hk, hfi⟩ := lkO_some hto
  obtain ⟨kl, ka, ty, ml, ma, mb, hR0⟩ := hR
  obtain ⟨hd, hz9, hG, hlen, -⟩ := id hR0
  have hL := hG.1
  have hn9 := AL_len hL
  obtain ⟨⟨mck, hk0⟩, -, -⟩ := id hL
  obtain ⟨a, ha1, ha2, ha3, hc⟩ := DR_lk hR0 ht
  obtain ⟨⟨up, fb, ha, huo⟩, hml9, hmm⟩ : (∃ up fb : Int32, h a = some (oCo (nI (tSz T)) (nI (tAl T)) (if tK T = 4 then 1 else 0) (ml r.toNatClampNeg) (if tFi T = true then 0 else 1) (nI (ly T).1) up fb) ∧ uOK (tK T == 4) (ly T).2.2.1 up fb) ∧ (mb r.toNatClampNeg).length = (ly T).2.2.2.length ∧ ∀ (j y : Nat) (m : Nat × Nat × Nat × Nat), (mb r.toNatClampNeg)[j]? = some y → (ly T).2.2.2[j]? = some m → h y = some (oMb (nI m.1) (nI m.2.1) (nI m.2.2.1) (nI m.2.2.2)) := by
    rcases hc with ⟨z1, -⟩ | ⟨z1, z2⟩
    · exact absurd hk (by omega)
    · exact z2
  have hT : isTy h a := Or.inl ⟨_, _, _, _, _, _, _, _, ha⟩
  obtain ⟨hM, hmk, -⟩ := hG.2.2.1 r.toNatClampNeg (by have := (List.getElem?_eq_some_iff.mp ha2).1; omega) ⟨T, ha3, hk⟩
  obtain ⟨⟨mcm, hm0⟩, -, -⟩ := id hM
  obtain ⟨hw1, hw2, hw3, hw4, hw5, hw6, hw7, hw8⟩ := (hS.2.2 _ _ ha3).1
  obtain ⟨hf1, hf2, hf3, hf4⟩ := hw8 hk
  obtain ⟨b, hb1, hb2, hb3, hcb⟩ := DR_lk hR0 htt
  obtain ⟨hv1, hv2, hv3, hv4, hv5, -⟩ := (hS.2.2 _ _ hb3).1
  have hsz0 : tSz T = 0 := Classical.byContradiction (fun z => by rcases ((hS.2.2 _ _ ha3).2.1.mp z).2 with z | z; { omega }; { rw [hfi] at z; cases z })
  obtain ⟨pl9, epl⟩ : ∃ p : Nat, p = (if (tK T == 4) = true then 0 else rup (ly T).1 (tAl T2)) := ⟨_, rfl⟩
  have hpl9 : pl9 ≤ 524292 := by { rw [epl]; have := rup_le (ly T).1 (tAl T2); split <;> omega }
  have hplv : (if (if tK T = 4 then (1 : Int32) else 0) = 0 then nI (rup (ly T).1 (tAl T2)) else 0) = nI pl9 := by { rw [ov_if, epl]; split <;> rfl }
  obtain ⟨up2, fb2, hb0, -⟩ : ∃ up fb : Int32, h b = some (oCo (nI (tSz T2)) (nI (tAl T2)) (if tK T2 = 4 then 1 else 0) (ml t.toNatClampNeg) (if tFi T2 = true then 0 else 1) (nI (ly T2).1) up fb) ∧ uOK (tK T2 == 4) (ly T2).2.2.1 up fb := by
    rcases hcb with ⟨z1, -⟩ | ⟨z1, z2, -⟩
    · exact absurd hk2 (by omega)
    · exact z2
  refine m_start (cc := cX4_field) (maxL := 6) (ret := (some .int)) (by decide) rfl (Nat.le_of_ble_eq_true rfl) ?_
  intro p e s m below meth c A ls hx hb hr hml hts hown hlocks hin hw hl
  have hl : lv_has ls 6 [(0, .ref x), (1, .int r), (2, .int t)] := hl
  have hown : s.vm.findClass RX4 = some m.cls := hown
  refine lv_aload_n hx hb dX4_field_0 rfl (lv_at hl 0 rfl) ?_
  refine lv_iload_n hx hb dX4_field_1 rfl (lv_at hl 1 rfl) ?_
  refine w_call (va_runV (As := [.int r]) (rest := []) ⟨hx, hb, hml, hown, hts⟩ (c_open_S l g h x kl ka ty hd hL r a (ml r.toNatClampNeg) (nI (tSz T)) (nI (tAl T)) (if tK T = 4 then 1 else 0) (if tFi T = true then 0 else 1) (nI (ly T).1) up fb ha1 ha (by rw [hfi]; rfl) s.heap.size) (cwV 1 hts gX4_field_X4_openRecordAt rfl rfl rfl (by decide +kernel) ⟨Nat.le_of_ble_eq_true rfl, Nat.le_of_ble_eq_true rfl⟩) ⟨pr_blind, w_recv hw hd rfl, pr_of hw⟩ rfl rfl hl.1 rfl (lv_room (Nat.le_of_ble_eq_true rfl)) dX4_field_2 ⟨Nat.le_of_ble_eq_true rfl, Nat.le_of_ble_eq_true rfl⟩) hw (fun v h' H locs hp hw => ?_)
  obtain ⟨rfl, rfl⟩ := hp
  refine W.eq (g2 := F0 m 5 ls [.ref a]) rfl ?_
  refine lv_astore_n (lv' := [(3, .ref a), (0, .ref x), (1, .int r), (2, .int t)]) hx hb dX4_field_5 rfl hl (by decide) rfl (fun ls hl => ?_)
  refine lv_aload_n hx hb dX4_field_6 rfl (lv_at hl 1 rfl) ?_
  refine lv_iload_n hx hb dX4_field_7 rfl (lv_at hl 3 rfl) ?_
  refine w_call (va_runV (As := [.int t]) (rest := []) ⟨hx, hb, hml, hown, hts⟩ (c_typeAt_S l g h x kl ka ty hd hL t b hb1 (cX_ty hcb) H.size) (cwV 1 hts gX4_field_X4_typeAt rfl rfl rfl (by decide +kernel) ⟨Nat.le_of_ble_eq_true rfl, Nat.le_of_ble_eq_true rfl⟩) ⟨pr_blind, w_recv hw hd rfl, pr_of hw⟩ rfl rfl hl.1 rfl (lv_room (Nat.le_of_ble_eq_true rfl)) dX4_field_8 ⟨Nat.le_of_ble_eq_true rfl, Nat.le_of_ble_eq_true rfl⟩) hw (fun v h' H locs hp hw => ?_)
  obtain ⟨rfl, rfl⟩ := hp
  refine W.eq (g2 := F0 m 11 ls [.ref b]) rfl ?_
  refine lv_astore (lv' := [(4, .ref b), (3, .ref a), (0, .ref x), (1, .int r), (2, .int t)]) hx hb dX4_field_11 hl (by decide) rfl (fun ls hl => ?_)
  refine lv_aload_n hx hb dX4_field_13 rfl (lv_at hl 1 rfl) ?_
  refine lv_ifnull hx hb dX4_field_14 ?_
  refine lv_aload hx hb dX4_field_17 (lv_at hl 0 rfl) ?_
  refine lv_ifnonnull (tgt := 24) hx hb dX4_field_19 (by decide) ?_
  refine lv_aload hx hb dX4_field_24 (lv_at hl 0 rfl) ?_
  refine w_get (ci := 1) (C := RX0) (T := TX0) (N := 8) (ref := "LayoutDesk$Type") hx hb hts in_X4_field_1 hown hw hb0 rfl 0 (by decide) (hts (.fieldLink RX4 52 "LayoutDesk$Type" "bytes" "I") (by decide +kernel)) (fun _ h9 => h9) rfl dX4_field_26 ?_
  refine lv_if_ne (tgt := 35) hx hb dX4_field_29 (by decide) (fun c29 => ?_) (fun c29 => ?_)
  · have hsz9 : ¬ tSz T2 = 0 := fun z => c29 (by rw [z]; exact nI_0)
    have nba : b ≠ a := ne_sz ha hb0 (fun z => hsz9 ((nI_eq (by omega) (by omega)).mp (z.trans (by rw [hsz0]))))
    refine lv_aload_n hx hb dX4_field_35 rfl (lv_at hl 1 rfl) ?_
    refine w_call (va_runV (As := []) (rest := []) ⟨hx, hb, hml, hown, hts⟩ (c_hasAll l g h a (ml r.toNatClampNeg) (nI (tSz T)) (nI (tAl T)) (if tK T = 4 then 1 else 0) (if tFi T = true then 0 else 1) (nI (ly T).1) up fb ha (ma r.toNatClampNeg) (mb r.toNatClampNeg) hM H.size) (cwV 0 hts gX4_field_X0_hasAllMembers rfl rfl rfl (by decide +kernel) ⟨Nat.le_of_ble_eq_true rfl, Nat.le_of_ble_eq_true rfl⟩) ⟨pr_blind, w_recv hw ha rfl, pr_of hw⟩ rfl rfl hl.1 rfl (lv_room (Nat.le_of_ble_eq_true rfl)) dX4_field_36 ⟨Nat.le_of_ble_eq_true rfl, Nat.le_of_ble_eq_true rfl⟩) hw (fun v h' H locs hp hw => ?_)
    obtain ⟨rfl, rfl⟩ := hp
    refine W.eq (g2 := F0 m 39 ls [.int (if 100 ≤ (mb r.toNatClampNeg).length then 1 else 0)]) rfl ?_
    refine lv_if_eq (tgt := 45) hx hb dX4_field_39 (by decide) (fun c39 => ?_) (fun c39 => ?_)
    · have hna9 : ¬ 100 ≤ (ly T).2.2.2.length := fun z => by rw [← hml9] at z; rw [if_pos z] at c39; exact absurd c39 (by decide)
      refine lv_aload_n hx hb dX4_field_45 rfl (lv_at hl 1 rfl) ?_
      refine lv_aload hx hb dX4_field_46 (lv_at hl 0 rfl) ?_
      refine w_get (ci := 1) (C := RX0) (T := TX0) (N := 8) (ref := "LayoutDesk$Type") hx hb hts in_X4_field_1 hown hw hb0 rfl 1 (by decide) (hts (.fieldLink RX4 60 "LayoutDesk$Type" "alignment" "I") (by decide +kernel)) (fun _ h9 => h9) rfl dX4_field_48 ?_
      refine w_call (va_runV (As := [.int (nI (tAl T2))]) (rest := []) ⟨hx, hb, hml, hown, hts⟩ (c_placeFor l g h a (ml r.toNatClampNeg) (ly T).1 (tAl T2) (nI (tSz T)) (nI (tAl T)) (if tK T = 4 then 1 else 0) (if tFi T = true then 0 else 1) up fb ha (by omega) hv5 H.size) (cwV 1 hts gX4_field_X0_placeFor rfl rfl rfl (by decide +kernel) ⟨Nat.le_of_ble_eq_true rfl, Nat.le_of_ble_eq_true rfl⟩) ⟨pr_blind, w_recv hw ha rfl, pr_of hw⟩ rfl rfl hl.1 rfl (lv_room (Nat.le_of_ble_eq_true rfl)) dX4_field_51 ⟨Nat.le_of_ble_eq_true rfl, Nat.le_of_ble_eq_true rfl⟩) hw (fun v h' H locs hp hw => ?_)
      obtain ⟨rfl, rfl⟩ := hp
      refine W.eq (g2 := F0 m 54 ls [.int (if (if tK T = 4 then 1 else 0) = 0 then nI (rup (ly T).1 (tAl T2)) else 0)]) rfl ?_
      rw [hplv]
      refine lv_istore (lv' := [(5, .int (nI pl9)), (4, .ref b), (3, .ref a), (0, .ref x), (1, .int r), (2, .int t)]) hx hb dX4_field_54 hl (by decide) rfl (fun ls hl => ?_)
      refine lv_iload hx hb dX4_field_56 (lv_at hl 0 rfl) ?_
      refine lv_aload hx hb dX4_field_58 (lv_at hl 1 rfl) ?_
      refine w_get (ci := 1) (C := RX0) (T := TX0) (N := 8) (ref := "LayoutDesk$Type") hx hb hts in_X4_field_1 hown hw hb0 rfl 0 (by decide) (hts (.fieldLink RX4 52 "LayoutDesk$Type" "bytes" "I") (by decide +kernel)) (fun _ h9 => h9) rfl dX4_field_60 ?_
      refine lv_iadd hx hb dX4_field_63 ?_
      have hsum : nI pl9 + nI (tSz T2) = nI (pl9 + tSz T2) := nI_add _ _
      refine lv_ldc (v := 524288) hx hb hown (hts (.constant RX4 51 (524288)) (by decide +kernel)) dX4_field_64 ?_
      refine lv_icmp_le (tgt := 72) hx hb dX4_field_66 (by decide) (fun c66 => ?_) (fun c66 => ?_)
      · refine lv_aload_n hx hb dX4_field_72 rfl (lv_at hl 2 rfl) ?_
        refine w_call (va_runV (As := []) (rest := []) ⟨hx, hb, hml, hown, hts⟩ (c_endUnit l g h a (ml r.toNatClampNeg) (nI (tSz T)) (nI (tAl T)) (if tK T = 4 then 1 else 0) (if tFi T = true then 0 else 1) (nI (ly T).1) up fb ha H.size) (cwV 0 hts gX4_field_X0_endUnit rfl rfl rfl (by decide +kernel) ⟨Nat.le_of_ble_eq_true rfl, Nat.le_of_ble_eq_true rfl⟩) ⟨pr_blind, w_recv hw ha rfl, pr_of hw⟩ rfl rfl hl.1 rfl (lv_room (Nat.le_of_ble_eq_true rfl)) dX4_field_73 ⟨Nat.le_of_ble_eq_true rfl, Nat.le_of_ble_eq_true rfl⟩) hw (fun v h' H locs hp hw => ?_)
        obtain ⟨rfl, rfl⟩ := hp
        refine W.eq (g2 := F0 m 76 ls []) rfl ?_
        refine lv_aload_n hx hb dX4_field_76 rfl (lv_at hl 2 rfl) ?_
        refine lv_iload hx hb dX4_field_77 (lv_at hl 0 rfl) ?_
        refine lv_aload hx hb dX4_field_79 (lv_at hl 1 rfl) ?_
        refine w_get (ci := 1) (C := RX0) (T := TX0) (N := 8) (ref := "LayoutDesk$Type") hx hb hts in_X4_field_1 hown hw ((wu_n nba).trans hb0) rfl 0 (by decide) (hts (.fieldLink RX4 52 "LayoutDesk$Type" "bytes" "I") (by decide +kernel)) (fun _ h9 => h9) rfl dX4_field_81 ?_
        refine lv_aload hx hb dX4_field_84 (lv_at hl 1 rfl) ?_
        refine w_get (ci := 1) (C := RX0) (T := TX0) (N := 8) (ref := "LayoutDesk$Type") hx hb hts in_X4_field_1 hown hw ((wu_n nba).trans hb0) rfl 1 (by decide) (hts (.fieldLink RX4 60 "LayoutDesk$Type" "alignment" "I") (by decide +kernel)) (fun _ h9 => h9) rfl dX4_field_86 ?_
        refine w_call (va_runV (As := [.int (nI pl9), .int (nI (tSz T2)), .int (nI (tAl T2))]) (rest := []) ⟨hx, hb, hml, hown, hts⟩ (c_occupy l g (wu h a (.inr (1, [.int (nI (tSz T)), .int (nI (tAl T)), .int (if tK T = 4 then 1 else 0), .ref (ml r.toNatClampNeg), .int (if tFi T = true then 0 else 1), .int (nI (ly T).1), .int up, .int 0]))) a (ml r.toNatClampNeg) (tAl T) (ly T).1 pl9 (tSz T2) (tAl T2) (nI (tSz T)) (if tK T = 4 then 1 else 0) (if tFi T = true then 0 else 1) up 0 (wu_s _ _ _) (by omega) (by omega) hw5 hv5 H.size) (cwV 3 hts gX4_field_X0_occupy rfl rfl rfl (by decide +kernel) ⟨Nat.le_of_ble_eq_true rfl, Nat.le_of_ble_eq_true rfl⟩) ⟨pr_blind, w_recv hw (wu_s _ _ _) rfl, pr_of hw⟩ rfl rfl hl.1 rfl (lv_room (Nat.le_of_ble_eq_true rfl)) dX4_field_89 ⟨Nat.le_of_ble_eq_true rfl, Nat.le_of_ble_eq_true rfl⟩) hw (fun v h' H locs hp hw => ?_)
        obtain ⟨rfl, rfl⟩ := hp
        refine W.eq (g2 := F0 m 92 ls []) rfl ?_
        refine lv_aload_n hx hb dX4_field_92 rfl (lv_at hl 2 rfl) ?_
        refine w_new (ci := 2) (C := RX1) (T := TX1) (N := 4) (fs := [.int 0, .int 0, .int 0, .int 0]) hx hb hts in_X4_field_2 tyX1 tyX1_ok hown (hts (.classLink RX4 86 RX1) (by decide +kernel)) (hts (.instantiable RX1 4) (by decide +kernel)) (hts (.initialized RX1) (by decide +kernel)) hw rfl (fun j hj => by rcases (show j = 0 ∨ j = 1 ∨ j = 2 ∨ j = 3 by omega) with rfl | rfl | rfl | rfl <;> rfl) (Nat.le_of_ble_eq_true rfl) (Nat.le_of_ble_eq_true rfl) dX4_field_93 (fun q H hq hw => ?_)
        refine lv_dup hx hb dX4_field_96 rfl ?_
        refine lv_iload hx hb dX4_field_97 (lv_at hl 0 rfl) ?_
        refine lv_iload_n hx hb dX4_field_99 rfl (lv_at hl 5 rfl) ?_
        refine lv_iconst (v := 0) hx hb dX4_field_100 (by decide) ?_
        refine lv_iconst (v := 0) hx hb dX4_field_101 (by decide) ?_
        refine w_call (va_runI (As := [.int (nI pl9), .int t, .int 0, .int 0]) (rest := [.ref q, .ref a]) ⟨hx, hb, hml, hown, hts⟩ (c_Member_init l g (wu (wu (wu h a (.inr (1, [.int (nI (tSz T)), .int (nI (tAl T)), .int (if tK T = 4 then 1 else 0), .ref (ml r.toNatClampNeg), .int (if tFi T = true then 0 else 1), .int (nI (ly T).1), .int up, .int 0]))) a (.inr (1, [.int (nI (tSz T)), .int (nI (max (tAl T) (tAl T2))), .int (if tK T = 4 then 1 else 0), .ref (ml r.toNatClampNeg), .int (if tFi T = true then 0 else 1), .int (nI (max (ly T).1 (pl9 + tSz T2))), .int up, .int 0]))) q (.inr (2, [.int 0, .int 0, .int 0, .int 0]))) q 0 0 0 0 (nI pl9) t 0 0 (wu_s _ _ _) H.size) (cwI 4 hts gX4_field_X1_init rfl rfl rfl (hts (.initialized RX1) (by decide +kernel)) (hts (.methodLink RX4 88 yX1_init) (by decide +kernel)) (hts (.instanceMethod yX1_init) (by decide +kernel)) rfl (by decide +kernel) ⟨Nat.le_of_ble_eq_true rfl, Nat.le_of_ble_eq_true rfl⟩) ⟨pr_blind, pr_of hw⟩ rfl rfl hl.1 rfl (lv_room (Nat.le_of_ble_eq_true rfl)) dX4_field_102 ⟨Nat.le_of_ble_eq_true rfl, Nat.le_of_ble_eq_true rfl⟩) hw (fun v h' H locs hp hw => ?_)
        obtain ⟨rfl, rfl⟩ := hp
        refine W.eq (g2 := F0 m 105 ls [.ref q, .ref a]) rfl ?_
        have hqh : h q = none := by
          have z := hq
          exact ((wu_n (ne_n (wu_s _ _ _) hq).symm).symm.trans ((wu_n (ne_n (wu_s _ _ _) hq).symm).symm.trans hq))
        have hWf : ∀ z, z ≠ a → z ≠ q → (wu (wu (wu (wu h a (.inr (1, [.int (nI (tSz T)), .int (nI (tAl T)), .int (if tK T = 4 then 1 else 0), .ref (ml r.toNatClampNeg), .int (if tFi T = true then 0 else 1), .int (nI (ly T).1), .int up, .int 0]))) a (.inr (1, [.int (nI (tSz T)), .int (nI (max (tAl T) (tAl T2))), .int (if tK T = 4 then 1 else 0), .ref (ml r.toNatClampNeg), .int (if tFi T = true then 0 else 1), .int (nI (max (ly T).1 (pl9 + tSz T2))), .int up, .int 0]))) q (.inr (2, [.int 0, .int 0, .int 0, .int 0]))) q (.inr (2, [.int (nI pl9), .int t, .int 0, .int 0]))) z = h z := fun z z1 z2 => by
          rw [wu_n z2, wu_n z2, wu_n z1, wu_n z1]
        have hMW : AL g (wu (wu (wu (wu h a (.inr (1, [.int (nI (tSz T)), .int (nI (tAl T)), .int (if tK T = 4 then 1 else 0), .ref (ml r.toNatClampNeg), .int (if tFi T = true then 0 else 1), .int (nI (ly T).1), .int up, .int 0]))) a (.inr (1, [.int (nI (tSz T)), .int (nI (max (tAl T) (tAl T2))), .int (if tK T = 4 then 1 else 0), .ref (ml r.toNatClampNeg), .int (if tFi T = true then 0 else 1), .int (nI (max (ly T).1 (pl9 + tSz T2))), .int up, .int 0]))) q (.inr (2, [.int 0, .int 0, .int 0, .int 0]))) q (.inr (2, [.int (nI pl9), .int t, .int 0, .int 0]))) (ml r.toNatClampNeg) (ma r.toNatClampNeg) (mb r.toNatClampNeg) := AL_kp (kp_mem ha ((wu_n (ne_n (wu_s _ _ _) hq)).trans ((wu_n (ne_n (wu_s _ _ _) hq)).trans (wu_s _ _ _))) hqh hWf (w_z hw)) hM
        obtain ⟨⟨mcW, hmW⟩, -, -⟩ := id hMW
        refine w_call (va_runV (As := [.ref q]) (rest := []) ⟨hx, hb, hml, hown, hts⟩ (c_Comp_enter l g (wu (wu (wu (wu h a (.inr (1, [.int (nI (tSz T)), .int (nI (tAl T)), .int (if tK T = 4 then 1 else 0), .ref (ml r.toNatClampNeg), .int (if tFi T = true then 0 else 1), .int (nI (ly T).1), .int up, .int 0]))) a (.inr (1, [.int (nI (tSz T)), .int (nI (max (tAl T) (tAl T2))), .int (if tK T = 4 then 1 else 0), .ref (ml r.toNatClampNeg), .int (if tFi T = true then 0 else 1), .int (nI (max (ly T).1 (pl9 + tSz T2))), .int up, .int 0]))) q (.inr (2, [.int 0, .int 0, .int 0, .int 0]))) q (.inr (2, [.int (nI pl9), .int t, .int 0, .int 0]))) a (ml r.toNatClampNeg) (nI (tSz T)) (nI (max (tAl T) (tAl T2))) (if tK T = 4 then 1 else 0) (if tFi T = true then 0 else 1) (nI (max (ly T).1 (pl9 + tSz T2))) up 0 ((wu_n (ne_n (wu_s _ _ _) hq)).trans ((wu_n (ne_n (wu_s _ _ _) hq)).trans (wu_s _ _ _))) (ma r.toNatClampNeg) q (mb r.toNatClampNeg) hMW ⟨2, _, wu_s _ _ _, by decide, by decide⟩ (by omega) H.size) (cwV 1 hts gX4_field_X0_enter rfl rfl rfl (by decide +kernel) ⟨Nat.le_of_ble_eq_true rfl, Nat.le_of_ble_eq_true rfl⟩) ⟨pr_blind, w_recv hw ((wu_n (ne_n (wu_s _ _ _) hq)).trans ((wu_n (ne_n (wu_s _ _ _) hq)).trans (wu_s _ _ _))) rfl, pr_of hw⟩ rfl rfl hl.1 rfl (lv_room (Nat.le_of_ble_eq_true rfl)) dX4_field_105 ⟨Nat.le_of_ble_eq_true rfl, Nat.le_of_ble_eq_true rfl⟩) hw (fun v h' H locs hp hw => ?_)
        obtain ⟨ma', rfl, q1, q2, q3⟩ := hp
        refine W.eq (g2 := F0 m 108 ls [.int (nI (mb r.toNatClampNeg).length)]) rfl ?_
        have hle9 : pl9 + tSz T2 ≤ 524288 := (nI_leI (a := pl9 + tSz T2) (b := 524288) (by omega) (by decide)).mp (by rw [← hsum]; exact c66)
        have el : ly (tPush T (some t.toNatClampNeg, 0, true, tSz T2, tAl T2)) = (max (ly T).1 (pl9 + tSz T2), max (ly T).2.1 (tAl T2), none, (ly T).2.2.2 ++ [(pl9, t.toNatClampNeg, 0, 0)]) := by rw [epl]; exact ly_fld T t.toNatClampNeg (tSz T2) (tAl T2)
        have el1 : (lyS (tK T == 4) (ly T) (some t.toNatClampNeg, 0, true, tSz T2, tAl T2)).1 = max (ly T).1 (pl9 + tSz T2) := by rw [← ly_push, el]
        have e9 : fFld S r t = (nI (ly T).2.2.2.length, S.set r.toNatClampNeg (tPush T (some t.toNatClampNeg, 0, true, tSz T2, tAl T2))) := by
          simp only [fFld, hto, htt, el1]
          rw [if_neg hsz9, if_neg hna9, if_neg (by omega)]
        have et : t = nI t.toNatClampNeg := (lk_lt htt (by have := hS.2.1; omega)).2.1
        exact r_int hx hb hr hlocks hw dX4_field_108 (Nat.le_of_ble_eq_true rfl) (Nat.le_of_ble_eq_true rfl) (⟨by rw [e9, hml9], by rw [e9]; exact DR_mem (T' := (tPush T (some t.toNatClampNeg, 0, true, tSz T2, tAl T2))) (mm := (pl9, t.toNatClampNeg, 0, 0)) hR0 ha3 ha2 hk ha hqh (((wu_n (ne_n (wu_s _ _ _) hq)).trans ((wu_n (ne_n (wu_s _ _ _) hq)).trans (wu_s _ _ _))).trans (by rw [el, hf1]; rfl)) ((wu_s _ _ _).trans (by rw [← et]; rfl)) hWf hMW (w_z hw) q1 q2 q3 hk (by rw [el]; exact uOK_0 _ _) hmm hml9 (by rw [el])⟩)
      · refine lv_bipush (v := (-4)) hx hb dX4_field_69 (by decide) ?_
        have el1 : (lyS (tK T == 4) (ly T) (some t.toNatClampNeg, 0, true, tSz T2, tAl T2)).1 = max (ly T).1 (pl9 + tSz T2) := by rw [epl]; rfl
        have hgt9 : 524288 < pl9 + tSz T2 := Nat.lt_of_not_le (fun z => c66 (by rw [hsum]; exact nI_le (b := 524288) z (by decide)))
        have e9 : fFld S r t = (-4, S) := by
          simp only [fFld, hto, htt, el1]
          rw [if_neg hsz9, if_neg hna9, if_pos (by omega)]
        exact r_int hx hb hr hlocks hw dX4_field_71 (Nat.le_of_ble_eq_true rfl) (Nat.le_of_ble_eq_true rfl) (⟨by rw [e9], by rw [e9]; exact ⟨kl, ka, ty, ml, ma, mb, hR0⟩⟩)
    · have hal9 : 100 ≤ (ly T).2.2.2.length := by
        rw [← hml9]
        by_cases z : 100 ≤ (mb r.toNatClampNeg).length
        · exact z
        · rw [if_neg z] at c39
          exact absurd rfl c39
      refine lv_bipush (v := (-3)) hx hb dX4_field_42 (by decide) ?_
      have e9 : fFld S r t = (-3, S) := by simp [fFld, hto, htt, hsz9, hal9]
      exact r_int hx hb hr hlocks hw dX4_field_44 (Nat.le_of_ble_eq_true rfl) (Nat.le_of_ble_eq_true rfl) (⟨by rw [e9], by rw [e9]; exact ⟨kl, ka, ty, ml, ma, mb, hR0⟩⟩)
  · refine lv_bipush (v := (-2)) hx hb dX4_field_32 (by decide) ?_
    have e9 : fFld S r t = (-2, S) := by simp [fFld, hto, htt, show tSz T2 = 0 from (nI_eq (b := 0) (by omega) (by decide)).mp (c29.trans nI_0.symm)]
    exact r_int hx hb hr hlocks hw dX4_field_34 (Nat.le_of_ble_eq_true rfl) (Nat.le_of_ble_eq_true rfl) (⟨by rw [e9], by rw [e9]; exact ⟨kl, ka, ty, ml, ma, mb, hR0⟩⟩)
theorem d_field (l : Launch) (g : GG) (h : Nat → Option va_E) (x : Nat) (S : List TyS) (N : Nat) (hR : DR g h x S) (hS : wfS N S) (r t : Int32) : Con l yX4_field wsX4_field 8 192 2 804 [.ref x, .int r, .int t] g h (fun v h' => v = some (.int (fFld S r t).1) ∧ DR g h' x (fFld S r t).2) := by
  cases hto : lkO S r with
  | none =>
    cases htt : lk S t with
    | none => exact d_field_N1 l g h x S N hR hS r t hto htt
    | some T2 => exact d_field_N2 l g h x S N hR hS r t T2 hto htt
  | some T =>
    cases htt : lk S t with
    | none => exact d_field_N3 l g h x S N hR hS r t T hto htt
    | some T2 =>
      rcases Nat.lt_or_ge (tK T2) 3 with hk | hk
      · exact d_field_S l g h x S N hR hS r t T T2 hto htt hk
      · exact d_field_C l g h x S N hR hS r t T T2 hto htt hk
end
section
theorem bit_w {w : Int32} (h1 : ¬ w < 1) (h2 : w ≤ 32) : w = nI w.toNatClampNeg ∧ 1 ≤ w.toNatClampNeg ∧ w.toNatClampNeg ≤ 32 := by
  obtain ⟨a, b, c⟩ := arr_n h1 (Int32.le_trans h2 (by decide))
  refine ⟨a, b, ?_⟩
  rw [a] at h2
  exact (nI_leI (b := 32) (by omega) (by decide)).mp h2
theorem bit_t {t : Int32} (h : t = 5 ∨ t = 6) : t = nI t.toNatClampNeg ∧ t.toNatClampNeg < 300 ∧ 5 ≤ t.toNatClampNeg := by
  rcases h with rfl | rfl <;> decide
theorem uOK_bit (un : Bool) (P K w : Nat) {up fb : Int32} (hu : up = nI P) (hk : K + w ≤ 32) (hf : fb = if un = true then 0 else nI (32 - K) - nI w) : uOK un (some (P, K + w)) up fb := by
  cases un with
  | true => exact Or.inl ⟨rfl, by rw [hf]; rfl⟩
  | false =>
    refine Or.inr (Or.inr ⟨P, K + w, rfl, rfl, hu, ?_⟩)
    rw [hf]
    show nI (32 - K) - nI w = nI (32 - (K + w))
    rw [pk_sub (by omega)]
    congr 1
    omega
def baseS : List TyS := [(0, 0, 0, 0, 0, [], false), (0, 0, 0, 1, 1, [], false), (0, 0, 0, 1, 1, [], false), (0, 0, 0, 2, 2, [], false), (0, 0, 0, 2, 2, [], false), (0, 0, 0, 4, 4, [], false), (0, 0, 0, 4, 4, [], false), (0, 0, 0, 8, 4, [], false), (0, 0, 0, 8, 4, [], false), (0, 0, 0, 4, 4, [], false), (0, 0, 0, 8, 4, [], false)]
end
section
/-! the desk: bits -/
set_option maxHeartbeats 4000000 in
set_option maxRecDepth 100000 in
theorem d_bits_N (l : Launch) (g : GG) (h : Nat → Option va_E) (x : Nat) (S : List TyS) (N : Nat) (hR : DR g h x S) (hS : wfS N S) (r t w n : Int32) (hto : lkO S r = none) : Con l yX4_bits wsX4_bits 8 192 2 804 [.ref x, .int r, .int t, .int w, .int n] g h (fun v h' => v = some (.int (fBit S r t w n).1) ∧ DR g h' x (fBit S r t w n).2) := by
  obtain ⟨kl, ka, ty, ml, ma, mb, hR0⟩ := hR
  obtain ⟨hd, hz9, hG, hlen, -⟩ := id hR0
  have hL := hG.1
  have hn9 := AL_len hL
  obtain ⟨⟨mck, hk0⟩, -, -⟩ := id hL
  have hno := DR_noOpen hR0 hto
  refine m_start (cc := cX4_bits) (maxL := 7) (ret := (some .int)) (by decide) rfl (Nat.le_of_ble_eq_true rfl) ?_
  intro p e s m below meth c A ls hx hb hr hml hts hown hlocks hin hw hl
  have hl : lv_has ls 7 [(0, .ref x), (1, .int r), (2, .int t), (3, .int w), (4, .int n)] := hl
  have hown : s.vm.findClass RX4 = some m.cls := hown
  refine lv_aload_n hx hb dX4_bits_0 rfl (lv_at hl 0 rfl) ?_
  refine lv_iload_n hx hb dX4_bits_1 rfl (lv_at hl 1 rfl) ?_
  refine w_call (va_runV (As := [.int r]) (rest := []) ⟨hx, hb, hml, hown, hts⟩ (c_open_N l g h x kl ka ty hd hL r hno s.heap.size) (cwV 1 hts gX4_bits_X4_openRecordAt rfl rfl rfl (by decide +kernel) ⟨Nat.le_of_ble_eq_true rfl, Nat.le_of_ble_eq_true rfl⟩) ⟨pr_blind, w_recv hw hd rfl, pr_of hw⟩ rfl rfl hl.1 rfl (lv_room (Nat.le_of_ble_eq_true rfl)) dX4_bits_2 ⟨Nat.le_of_ble_eq_true rfl, Nat.le_of_ble_eq_true rfl⟩) hw (fun v h' H locs hp hw => ?_)
  obtain ⟨rfl, rfl⟩ := hp
  refine W.eq (g2 := F0 m 5 ls [.null]) rfl ?_
  refine lv_astoreN (lv' := [(5, .null), (0, .ref x), (1, .int r), (2, .int t), (3, .int w), (4, .int n)]) hx hb dX4_bits_5 hl (by decide) rfl (fun ls hl => ?_)
  refine lv_aloadN hx hb dX4_bits_7 (lv_at hl 0 rfl) ?_
  refine lv_ifnonnullN hx hb dX4_bits_9 ?_
  refine lv_iconst (v := (-1)) hx hb dX4_bits_12 (by decide) ?_
  have e9 : fBit S r t w n = (-1, S) := by simp [fBit, hto]
  exact r_int hx hb hr hlocks hw dX4_bits_13 (Nat.le_of_ble_eq_true rfl) (Nat.le_of_ble_eq_true rfl) (⟨by rw [e9], by rw [e9]; exact ⟨kl, ka, ty, ml, ma, mb, hR0⟩⟩)
theorem in_X4_bits_1 : ∀ w ∈ u_ws RX0 TX0 8, w ∈ wsX4_bits := by decide +kernel
theorem in_X4_bits_2 : ∀ w ∈ u_ws RX1 TX1 4, w ∈ wsX4_bits := by decide +kernel
set_option maxHeartbeats 4000000 in
set_option maxRecDepth 100000 in
theorem d_bits_O (l : Launch) (g : GG) (h : Nat → Option va_E) (x : Nat) (S : List TyS) (N : Nat) (hR : DR g h x S) (hS : wfS N S) (r t w n : Int32) (T : TyS) (hto : lkO S r = some T) : Con l yX4_bits wsX4_bits 8 192 2 804 [.ref x, .int r, .int t, .int w, .int n] g h (fun v h' => v = some (.int (fBit S r t w n).1) ∧ DR g h' x (fBit S r t w n).2) := by
  obtain ⟨ht, hk, hfi⟩ := lkO_some hto
  obtain ⟨kl, ka, ty, ml, ma, mb, hR0⟩ := hR
  obtain ⟨hd, hz9, hG, hlen, -⟩ := id hR0
  have hL := hG.1
  have hn9 := AL_len hL
  obtain ⟨⟨mck, hk0⟩, -, -⟩ := id hL
  obtain ⟨a, ha1, ha2, ha3, hc⟩ := DR_lk hR0 ht
  obtain ⟨⟨up, fb, ha, huo⟩, hml9, hmm⟩ : (∃ up fb : Int32, h a = some (oCo (nI (tSz T)) (nI (tAl T)) (if tK T = 4 then 1 else 0) (ml r.toNatClampNeg) (if tFi T = true then 0 else 1) (nI (ly T).1) up fb) ∧ uOK (tK T == 4) (ly T).2.2.1 up fb) ∧ (mb r.toNatClampNeg).length = (ly T).2.2.2.length ∧ ∀ (j y : Nat) (m : Nat × Nat × Nat × Nat), (mb r.toNatClampNeg)[j]? = some y → (ly T).2.2.2[j]? = some m → h y = some (oMb (nI m.1) (nI m.2.1) (nI m.2.2.1) (nI m.2.2.2)) := by
    rcases hc with ⟨z1, -⟩ | ⟨z1, z2⟩
    · exact absurd hk (by omega)
    · exact z2
  have hT : isTy h a := Or.inl ⟨_, _, _, _, _, _, _, _, ha⟩
  obtain ⟨hM, hmk, -⟩ := hG.2.2.1 r.toNatClampNeg (by have := (List.getElem?_eq_some_iff.mp ha2).1; omega) ⟨T, ha3, hk⟩
  obtain ⟨⟨mcm, hm0⟩, -, -⟩ := id hM
  obtain ⟨hw1, hw2, hw3, hw4, hw5, hw6, hw7, hw8⟩ := (hS.2.2 _ _ ha3).1
  obtain ⟨hf1, hf2, hf3, hf4⟩ := hw8 hk
  refine m_start (cc := cX4_bits) (maxL := 7) (ret := (some .int)) (by decide) rfl (Nat.le_of_ble_eq_true rfl) ?_
  intro p e s m below meth c A ls hx hb hr hml hts hown hlocks hin hw hl
  have hl : lv_has ls 7 [(0, .ref x), (1, .int r), (2, .int t), (3, .int w), (4, .int n)] := hl
  have hown : s.vm.findClass RX4 = some m.cls := hown
  refine lv_aload_n hx hb dX4_bits_0 rfl (lv_at hl 0 rfl) ?_
  refine lv_iload_n hx hb dX4_bits_1 rfl (lv_at hl 1 rfl) ?_
  refine w_call (va_runV (As := [.int r]) (rest := []) ⟨hx, hb, hml, hown, hts⟩ (c_open_S l g h x kl ka ty hd hL r a (ml r.toNatClampNeg) (nI (tSz T)) (nI (tAl T)) (if tK T = 4 then 1 else 0) (if tFi T = true then 0 else 1) (nI (ly T).1) up fb ha1 ha (by rw [hfi]; rfl) s.heap.size) (cwV 1 hts gX4_bits_X4_openRecordAt rfl rfl rfl (by decide +kernel) ⟨Nat.le_of_ble_eq_true rfl, Nat.le_of_ble_eq_true rfl⟩) ⟨pr_blind, w_recv hw hd rfl, pr_of hw⟩ rfl rfl hl.1 rfl (lv_room (Nat.le_of_ble_eq_true rfl)) dX4_bits_2 ⟨Nat.le_of_ble_eq_true rfl, Nat.le_of_ble_eq_true rfl⟩) hw (fun v h' H locs hp hw => ?_)
  obtain ⟨rfl, rfl⟩ := hp
  refine W.eq (g2 := F0 m 5 ls [.ref a]) rfl ?_
  refine lv_astore (lv' := [(5, .ref a), (0, .ref x), (1, .int r), (2, .int t), (3, .int w), (4, .int n)]) hx hb dX4_bits_5 hl (by decide) rfl (fun ls hl => ?_)
  refine lv_aload hx hb dX4_bits_7 (lv_at hl 0 rfl) ?_
  refine lv_ifnonnull (tgt := 14) hx hb dX4_bits_9 (by decide) ?_
  refine lv_iload_n hx hb dX4_bits_14 rfl (lv_at hl 3 rfl) ?_
  refine w_call (va_runS (As := [.int t]) (rest := []) ⟨hx, hb, hml, hown, hts⟩ (c_isBit l g h t H.size) (va_cwS 1 hts gX4_bits_X4_isBitFieldType rfl rfl rfl (by decide +kernel) ⟨Nat.le_of_ble_eq_true rfl, Nat.le_of_ble_eq_true rfl⟩) ⟨pr_blind, pr_of hw⟩ rfl rfl hl.1 rfl (lv_room (Nat.le_of_ble_eq_true rfl)) dX4_bits_15 ⟨Nat.le_of_ble_eq_true rfl, Nat.le_of_ble_eq_true rfl⟩) hw (fun v h' H locs hp hw => ?_)
  obtain ⟨rfl, rfl⟩ := hp
  refine W.eq (g2 := F0 m 18 ls [.int (if t = 5 ∨ t = 6 then 1 else 0)]) rfl ?_
  refine lv_if_eq (tgt := 32) hx hb dX4_bits_18 (by decide) (fun c18 => ?_) (fun c18 => ?_)
  · have hnt : ¬ (t = 5 ∨ t = 6) := fun z => by rw [if_pos z] at c18; exact absurd c18 (by decide)
    refine lv_bipush (v := (-2)) hx hb dX4_bits_32 (by decide) ?_
    have e9 : fBit S r t w n = (-2, S) := by
      simp only [fBit, hto]
      rw [if_pos (Or.inl hnt)]
    exact r_int hx hb hr hlocks hw dX4_bits_34 (Nat.le_of_ble_eq_true rfl) (Nat.le_of_ble_eq_true rfl) (⟨by rw [e9], by rw [e9]; exact ⟨kl, ka, ty, ml, ma, mb, hR0⟩⟩)
  · have ht56 : t = 5 ∨ t = 6 := by
      by_cases z : t = 5 ∨ t = 6
      · exact z
      · rw [if_neg z] at c18
        exact absurd rfl c18
    obtain ⟨et, ht3, ht5⟩ := bit_t ht56
    refine lv_iload_n hx hb dX4_bits_21 rfl (lv_at hl 4 rfl) ?_
    refine lv_iconst (v := 1) hx hb dX4_bits_22 (by decide) ?_
    refine lv_icmp_lt (tgt := 32) hx hb dX4_bits_23 (by decide) (fun c23 => ?_) (fun c23 => ?_)
    · refine lv_bipush (v := (-2)) hx hb dX4_bits_32 (by decide) ?_
      have e9 : fBit S r t w n = (-2, S) := by
        simp only [fBit, hto]
        rw [if_pos (Or.inr (Or.inl c23))]
      exact r_int hx hb hr hlocks hw dX4_bits_34 (Nat.le_of_ble_eq_true rfl) (Nat.le_of_ble_eq_true rfl) (⟨by rw [e9], by rw [e9]; exact ⟨kl, ka, ty, ml, ma, mb, hR0⟩⟩)
    · refine lv_iload_n hx hb dX4_bits_26 rfl (lv_at hl 4 rfl) ?_
      refine lv_bipush (v := 32) hx hb dX4_bits_27 (by decide) ?_
      refine lv_icmp_le (tgt := 35) hx hb dX4_bits_29 (by decide) (fun c29 => ?_) (fun c29 => ?_)
      · obtain ⟨ew, hb1, hb2⟩ := bit_w c23 c29
        have hc2 : ¬ (¬ (t = 5 ∨ t = 6) ∨ w < 1 ∨ 32 < w) := by
          rintro (z | z | z)
          · exact z ht56
          · exact c23 z
          · exact Int32.not_lt.mpr c29 z
        refine lv_iload hx hb dX4_bits_35 (lv_at hl 5 rfl) ?_
        refine lv_if_eq (tgt := 51) hx hb dX4_bits_37 (by decide) (fun c37 => ?_) (fun c37 => ?_)
        · have hc3 : ¬ (n ≠ 0 ∧ 100 ≤ (ly T).2.2.2.length) := fun z => z.1 c37
          refine lv_iload_n hx hb dX4_bits_51 rfl (lv_at hl 4 rfl) ?_
          refine lv_aload hx hb dX4_bits_52 (lv_at hl 0 rfl) ?_
          refine w_getN (ci := 1) (C := RX0) (T := TX0) (N := 8) (ref := "LayoutDesk$Compound") hx hb hts in_X4_bits_1 hown hw ha rfl 7 (by decide) (w_nw hw (w := .fieldLinkNest "LayoutDesk" 98 "LayoutDesk$Compound" "freeBits" "I" "LayoutDesk") (by decide +kernel)) (fun _ h9 => h9) rfl dX4_bits_54 ?_
          refine lv_icmp_le (tgt := 71) hx hb dX4_bits_57 (by decide) (fun c57 => ?_) (fun c57 => ?_)
          · obtain ⟨P9, K9, hun9, hu9, eup, efb, hkw, hU⟩ := bitsA (re := (ly T).1) hb1 hb2 huo (fun p k z => (hf4 p k z).1) (by rw [← ew]; exact c57)
            obtain ⟨-, -, hPr, hP4⟩ := hf4 P9 K9 hu9
            have elS := lyS_bit (t := t.toNatClampNeg) (b := decide (n ≠ 0)) (by omega) hU
            have eA : tAl (tPush T (some t.toNatClampNeg, w.toNatClampNeg, decide (n ≠ 0), 0, 0)) = tAl T := by
              show (lyS (tK T == 4) (ly T) _).2.1 = tAl T
              rw [elS]
              show max _ _ = _
              omega
            have eR : (ly (tPush T (some t.toNatClampNeg, w.toNatClampNeg, decide (n ≠ 0), 0, 0))).1 = (ly T).1 := by
              rw [ly_push, elS]
              show max _ _ = _
              omega
            have hc4 : ¬ 524288 < (lyS (tK T == 4) (ly T) (some t.toNatClampNeg, w.toNatClampNeg, decide (n ≠ 0), 0, 0)).1 := by
              rw [elS]
              show ¬ 524288 < max _ _
              omega
            refine lv_aload hx hb dX4_bits_71 (lv_at hl 0 rfl) ?_
            refine lv_iload_n hx hb dX4_bits_73 rfl (lv_at hl 4 rfl) ?_
            refine w_call (va_runV (As := [.int w]) (rest := []) ⟨hx, hb, hml, hown, hts⟩ (c_takeBits l g h a (ml r.toNatClampNeg) (nI (tSz T)) (nI (tAl T)) (if tK T = 4 then 1 else 0) (if tFi T = true then 0 else 1) (nI (ly T).1) up fb ha w H.size) (cwV 1 hts gX4_bits_X0_takeBits rfl rfl rfl (by decide +kernel) ⟨Nat.le_of_ble_eq_true rfl, Nat.le_of_ble_eq_true rfl⟩) ⟨pr_blind, w_recv hw ha rfl, pr_of hw⟩ rfl rfl hl.1 rfl (lv_room (Nat.le_of_ble_eq_true rfl)) dX4_bits_74 ⟨Nat.le_of_ble_eq_true rfl, Nat.le_of_ble_eq_true rfl⟩) hw (fun v h' H locs hp hw => ?_)
            obtain ⟨rfl, rfl⟩ := hp
            refine W.eq (g2 := F0 m 77 ls [.int (32 - fb)]) rfl ?_
            have elow : (32 : Int32) - fb = nI K9 := by rw [efb]; exact (pk_sub (a := 32) (b := 32 - K9) (by omega)).trans (by congr 1; omega)
            rw [elow]
            refine lv_istore (lv' := [(6, .int (nI K9)), (5, .ref a), (0, .ref x), (1, .int r), (2, .int t), (3, .int w), (4, .int n)]) hx hb dX4_bits_77 hl (by decide) rfl (fun ls hl => ?_)
            refine lv_iload hx hb dX4_bits_79 (lv_at hl 6 rfl) ?_
            refine lv_if_ne (tgt := 87) hx hb dX4_bits_81 (by decide) (fun c81 => ?_) (fun c81 => ?_)
            · exact absurd c37 c81
            · refine lv_bipush (v := 100) hx hb dX4_bits_84 (by decide) ?_
              have elb : ly (tPush T (some t.toNatClampNeg, w.toNatClampNeg, decide (n ≠ 0), 0, 0)) = (max (ly T).1 (P9 + 4), max (ly T).2.1 4, some (P9, K9 + w.toNatClampNeg), if decide (n ≠ 0) = true then (ly T).2.2.2 ++ [(P9, t.toNatClampNeg, K9, w.toNatClampNeg)] else (ly T).2.2.2) := (ly_push _ _).trans elS
              have hub : uOK (tK (tPush T (some t.toNatClampNeg, w.toNatClampNeg, decide (n ≠ 0), 0, 0)) == 4) (ly (tPush T (some t.toNatClampNeg, w.toNatClampNeg, decide (n ≠ 0), 0, 0))).2.2.1 up (if (if tK T = 4 then (1 : Int32) else 0) = 0 then fb - w else 0) := by
                rw [elb]
                exact uOK_bit (tK T == 4) P9 K9 w.toNatClampNeg eup (by omega) (by rw [ov_if, ← ew, efb])
              have e9 : fBit S r t w n = (100, S.set r.toNatClampNeg (tPush T (some t.toNatClampNeg, w.toNatClampNeg, decide (n ≠ 0), 0, 0))) := by
                simp only [fBit, hto]
                rw [if_neg hc2, if_neg hc3, if_neg hc4, if_neg (fun z => z c37)]
              have hml8 : (ly (tPush T (some t.toNatClampNeg, w.toNatClampNeg, decide (n ≠ 0), 0, 0))).2.2.2 = (ly T).2.2.2 := by rw [elb]; exact if_neg (by simp [c37])
              have hc9 := cX_rec (h := (wu h a (.inr (1, [.int (nI (tSz T)), .int (nI (tAl T)), .int (if tK T = 4 then 1 else 0), .ref (ml r.toNatClampNeg), .int (if tFi T = true then 0 else 1), .int (nI (ly T).1), .int up, .int (if (if tK T = 4 then (1 : Int32) else 0) = 0 then fb - w else 0)])))) (a := a) (T' := (tPush T (some t.toNatClampNeg, w.toNatClampNeg, decide (n ≠ 0), 0, 0))) (ml := ml r.toNatClampNeg) (mb := mb r.toNatClampNeg) (up := up) (fb := (if (if tK T = 4 then (1 : Int32) else 0) = 0 then fb - w else 0)) hk (by rw [wu_s, eA, eR]; rfl) hub (by rw [hml8]; exact hml9) (fun j y m hj hm => by
                rw [hml8] at hm
                have e8 := hmm j y m hj hm
                have n8 : y ≠ a := ne_e e8 ha (ne_c (by decide))
                rw [wu_n n8]
                exact e8)
              exact r_int hx hb hr hlocks hw dX4_bits_86 (Nat.le_of_ble_eq_true rfl) (Nat.le_of_ble_eq_true rfl) (⟨by rw [e9], by rw [e9]; exact ⟨_, _, _, _, _, _, DR_set hR0 (w_z hw) ha3 ha2 hk ha (wu_s _ _ _) (fun q hq => by rw [wu_n hq]) hc9⟩⟩)
          · obtain ⟨pl9, epl⟩ : ∃ p : Nat, p = (if (tK T == 4) = true then 0 else rup (ly T).1 4) := ⟨_, rfl⟩
            have hpl9 : pl9 ≤ 524292 := by { rw [epl]; have := rup_le (ly T).1 4; split <;> omega }
            have hplv : (if (if tK T = 4 then (1 : Int32) else 0) = 0 then nI (rup (ly T).1 4) else 0) = nI pl9 := by { rw [ov_if, epl]; split <;> rfl }
            have hU := bitsB (re := (ly T).1) hb1 hb2 huo (fun p k z => (hf4 p k z).1) (fun z => c57 (by rw [ew]; exact z))
            rw [← epl] at hU
            have elS := lyS_bit (t := t.toNatClampNeg) (b := decide (n ≠ 0)) (by omega) hU
            refine lv_aload hx hb dX4_bits_60 (lv_at hl 0 rfl) ?_
            refine w_call (va_runV (As := []) (rest := []) ⟨hx, hb, hml, hown, hts⟩ (c_beginUnit l g h a (ml r.toNatClampNeg) (tAl T) (ly T).1 pl9 (nI (tSz T)) (if tK T = 4 then 1 else 0) (if tFi T = true then 0 else 1) up fb ha (by omega) (by omega) hw5 hplv H.size) (cwV 0 hts gX4_bits_X0_beginUnit rfl rfl rfl (by decide +kernel) ⟨Nat.le_of_ble_eq_true rfl, Nat.le_of_ble_eq_true rfl⟩) ⟨pr_blind, w_recv hw ha rfl, pr_of hw⟩ rfl rfl hl.1 rfl (lv_room (Nat.le_of_ble_eq_true rfl)) dX4_bits_62 ⟨Nat.le_of_ble_eq_true rfl, Nat.le_of_ble_eq_true rfl⟩) hw (fun v h' H locs hp hw => ?_)
            obtain ⟨hgt9, rfl, rfl⟩ | ⟨hle9, rfl, rfl⟩ := hp
            · refine W.eq (g2 := F0 m 65 ls [.int 0]) rfl ?_
              refine lv_if_ne (tgt := 71) hx hb dX4_bits_65 (by decide) (fun c65 => ?_) (fun c65 => ?_)
              · exact absurd rfl c65
              · refine lv_bipush (v := (-4)) hx hb dX4_bits_68 (by decide) ?_
                have e9 : fBit S r t w n = (-4, S) := by
                  simp only [fBit, hto]
                  rw [if_neg hc2, if_neg hc3, if_pos (by rw [elS]; show 524288 < max _ _; omega)]
                exact r_int hx hb hr hlocks hw dX4_bits_70 (Nat.le_of_ble_eq_true rfl) (Nat.le_of_ble_eq_true rfl) (⟨by rw [e9], by rw [e9]; exact ⟨kl, ka, ty, ml, ma, mb, hR0⟩⟩)
            · refine W.eq (g2 := F0 m 65 ls [.int 1]) rfl ?_
              have eA : tAl (tPush T (some t.toNatClampNeg, w.toNatClampNeg, decide (n ≠ 0), 0, 0)) = max (tAl T) 4 := by
                show (lyS (tK T == 4) (ly T) _).2.1 = _
                rw [elS]
                show max _ _ = _
                omega
              have eR : (ly (tPush T (some t.toNatClampNeg, w.toNatClampNeg, decide (n ≠ 0), 0, 0))).1 = max (ly T).1 (pl9 + 4) := by
                rw [ly_push, elS]
              have hc4 : ¬ 524288 < (lyS (tK T == 4) (ly T) (some t.toNatClampNeg, w.toNatClampNeg, decide (n ≠ 0), 0, 0)).1 := by
                rw [elS]
                show ¬ 524288 < max _ _
                omega
              refine lv_if_ne (tgt := 71) hx hb dX4_bits_65 (by decide) (fun c65 => ?_) (fun c65 => ?_)
              · refine lv_aload hx hb dX4_bits_71 (lv_at hl 0 rfl) ?_
                refine lv_iload_n hx hb dX4_bits_73 rfl (lv_at hl 4 rfl) ?_
                refine w_call (va_runV (As := [.int w]) (rest := []) ⟨hx, hb, hml, hown, hts⟩ (c_takeBits l g (wu h a (.inr (1, [.int (nI (tSz T)), .int (nI (max (tAl T) 4)), .int (if tK T = 4 then 1 else 0), .ref (ml r.toNatClampNeg), .int (if tFi T = true then 0 else 1), .int (nI (max (ly T).1 (pl9 + 4))), .int (nI pl9), .int 32]))) a (ml r.toNatClampNeg) (nI (tSz T)) (nI (max (tAl T) 4)) (if tK T = 4 then 1 else 0) (if tFi T = true then 0 else 1) (nI (max (ly T).1 (pl9 + 4))) (nI pl9) 32 (wu_s _ _ _) w H.size) (cwV 1 hts gX4_bits_X0_takeBits rfl rfl rfl (by decide +kernel) ⟨Nat.le_of_ble_eq_true rfl, Nat.le_of_ble_eq_true rfl⟩) ⟨pr_blind, w_recv hw (wu_s _ _ _) rfl, pr_of hw⟩ rfl rfl hl.1 rfl (lv_room (Nat.le_of_ble_eq_true rfl)) dX4_bits_74 ⟨Nat.le_of_ble_eq_true rfl, Nat.le_of_ble_eq_true rfl⟩) hw (fun v h' H locs hp hw => ?_)
                obtain ⟨rfl, rfl⟩ := hp
                refine W.eq (g2 := F0 m 77 ls [.int (32 - 32)]) rfl ?_
                have elow : (32 : Int32) - 32 = nI 0 := by decide
                rw [elow]
                refine lv_istore (lv' := [(6, .int (nI 0)), (5, .ref a), (0, .ref x), (1, .int r), (2, .int t), (3, .int w), (4, .int n)]) hx hb dX4_bits_77 hl (by decide) rfl (fun ls hl => ?_)
                refine lv_iload hx hb dX4_bits_79 (lv_at hl 6 rfl) ?_
                refine lv_if_ne (tgt := 87) hx hb dX4_bits_81 (by decide) (fun c81 => ?_) (fun c81 => ?_)
                · exact absurd c37 c81
                · refine lv_bipush (v := 100) hx hb dX4_bits_84 (by decide) ?_
                  have elb : ly (tPush T (some t.toNatClampNeg, w.toNatClampNeg, decide (n ≠ 0), 0, 0)) = (max (ly T).1 (pl9 + 4), max (ly T).2.1 4, some (pl9, 0 + w.toNatClampNeg), if decide (n ≠ 0) = true then (ly T).2.2.2 ++ [(pl9, t.toNatClampNeg, 0, w.toNatClampNeg)] else (ly T).2.2.2) := (ly_push _ _).trans elS
                  have hub : uOK (tK (tPush T (some t.toNatClampNeg, w.toNatClampNeg, decide (n ≠ 0), 0, 0)) == 4) (ly (tPush T (some t.toNatClampNeg, w.toNatClampNeg, decide (n ≠ 0), 0, 0))).2.2.1 (nI pl9) (if (if tK T = 4 then (1 : Int32) else 0) = 0 then 32 - w else 0) := by
                    rw [elb]
                    exact uOK_bit (tK T == 4) pl9 0 w.toNatClampNeg rfl (by omega) (by rw [ov_if, ← ew]; rfl)
                  have e9 : fBit S r t w n = (100, S.set r.toNatClampNeg (tPush T (some t.toNatClampNeg, w.toNatClampNeg, decide (n ≠ 0), 0, 0))) := by
                    simp only [fBit, hto]
                    rw [if_neg hc2, if_neg hc3, if_neg hc4, if_neg (fun z => z c37)]
                  have hml8 : (ly (tPush T (some t.toNatClampNeg, w.toNatClampNeg, decide (n ≠ 0), 0, 0))).2.2.2 = (ly T).2.2.2 := by rw [elb]; exact if_neg (by simp [c37])
                  have hc9 := cX_rec (h := (wu (wu h a (.inr (1, [.int (nI (tSz T)), .int (nI (max (tAl T) 4)), .int (if tK T = 4 then 1 else 0), .ref (ml r.toNatClampNeg), .int (if tFi T = true then 0 else 1), .int (nI (max (ly T).1 (pl9 + 4))), .int (nI pl9), .int 32]))) a (.inr (1, [.int (nI (tSz T)), .int (nI (max (tAl T) 4)), .int (if tK T = 4 then 1 else 0), .ref (ml r.toNatClampNeg), .int (if tFi T = true then 0 else 1), .int (nI (max (ly T).1 (pl9 + 4))), .int (nI pl9), .int (if (if tK T = 4 then (1 : Int32) else 0) = 0 then 32 - w else 0)])))) (a := a) (T' := (tPush T (some t.toNatClampNeg, w.toNatClampNeg, decide (n ≠ 0), 0, 0))) (ml := ml r.toNatClampNeg) (mb := mb r.toNatClampNeg) (up := nI pl9) (fb := (if (if tK T = 4 then (1 : Int32) else 0) = 0 then 32 - w else 0)) hk (by rw [wu_s, eA, eR]; rfl) hub (by rw [hml8]; exact hml9) (fun j y m hj hm => by
                    rw [hml8] at hm
                    have e8 := hmm j y m hj hm
                    have n8 : y ≠ a := ne_e e8 ha (ne_c (by decide))
                    rw [wu_n n8, wu_n n8]
                    exact e8)
                  exact r_int hx hb hr hlocks hw dX4_bits_86 (Nat.le_of_ble_eq_true rfl) (Nat.le_of_ble_eq_true rfl) (⟨by rw [e9], by rw [e9]; exact ⟨_, _, _, _, _, _, DR_set hR0 (w_z hw) ha3 ha2 hk ha (wu_s _ _ _) (fun q hq => by rw [wu_n hq, wu_n hq]) hc9⟩⟩)
              · exact absurd c65 (by decide)
        · refine lv_aload hx hb dX4_bits_40 (lv_at hl 0 rfl) ?_
          refine w_call (va_runV (As := []) (rest := []) ⟨hx, hb, hml, hown, hts⟩ (c_hasAll l g h a (ml r.toNatClampNeg) (nI (tSz T)) (nI (tAl T)) (if tK T = 4 then 1 else 0) (if tFi T = true then 0 else 1) (nI (ly T).1) up fb ha (ma r.toNatClampNeg) (mb r.toNatClampNeg) hM H.size) (cwV 0 hts gX4_bits_X0_hasAllMembers rfl rfl rfl (by decide +kernel) ⟨Nat.le_of_ble_eq_true rfl, Nat.le_of_ble_eq_true rfl⟩) ⟨pr_blind, w_recv hw ha rfl, pr_of hw⟩ rfl rfl hl.1 rfl (lv_room (Nat.le_of_ble_eq_true rfl)) dX4_bits_42 ⟨Nat.le_of_ble_eq_true rfl, Nat.le_of_ble_eq_true rfl⟩) hw (fun v h' H locs hp hw => ?_)
          obtain ⟨rfl, rfl⟩ := hp
          refine W.eq (g2 := F0 m 45 ls [.int (if 100 ≤ (mb r.toNatClampNeg).length then 1 else 0)]) rfl ?_
          refine lv_if_eq (tgt := 51) hx hb dX4_bits_45 (by decide) (fun c45 => ?_) (fun c45 => ?_)
          · have hna9 : ¬ 100 ≤ (ly T).2.2.2.length := fun z => by rw [← hml9] at z; rw [if_pos z] at c45; exact absurd c45 (by decide)
            have hc3 : ¬ (n ≠ 0 ∧ 100 ≤ (ly T).2.2.2.length) := fun z => hna9 z.2
            refine lv_iload_n hx hb dX4_bits_51 rfl (lv_at hl 4 rfl) ?_
            refine lv_aload hx hb dX4_bits_52 (lv_at hl 0 rfl) ?_
            refine w_getN (ci := 1) (C := RX0) (T := TX0) (N := 8) (ref := "LayoutDesk$Compound") hx hb hts in_X4_bits_1 hown hw ha rfl 7 (by decide) (w_nw hw (w := .fieldLinkNest "LayoutDesk" 98 "LayoutDesk$Compound" "freeBits" "I" "LayoutDesk") (by decide +kernel)) (fun _ h9 => h9) rfl dX4_bits_54 ?_
            refine lv_icmp_le (tgt := 71) hx hb dX4_bits_57 (by decide) (fun c57 => ?_) (fun c57 => ?_)
            · obtain ⟨P9, K9, hun9, hu9, eup, efb, hkw, hU⟩ := bitsA (re := (ly T).1) hb1 hb2 huo (fun p k z => (hf4 p k z).1) (by rw [← ew]; exact c57)
              obtain ⟨-, -, hPr, hP4⟩ := hf4 P9 K9 hu9
              have elS := lyS_bit (t := t.toNatClampNeg) (b := decide (n ≠ 0)) (by omega) hU
              have eA : tAl (tPush T (some t.toNatClampNeg, w.toNatClampNeg, decide (n ≠ 0), 0, 0)) = tAl T := by
                show (lyS (tK T == 4) (ly T) _).2.1 = tAl T
                rw [elS]
                show max _ _ = _
                omega
              have eR : (ly (tPush T (some t.toNatClampNeg, w.toNatClampNeg, decide (n ≠ 0), 0, 0))).1 = (ly T).1 := by
                rw [ly_push, elS]
                show max _ _ = _
                omega
              have hc4 : ¬ 524288 < (lyS (tK T == 4) (ly T) (some t.toNatClampNeg, w.toNatClampNeg, decide (n ≠ 0), 0, 0)).1 := by
                rw [elS]
                show ¬ 524288 < max _ _
                omega
              refine lv_aload hx hb dX4_bits_71 (lv_at hl 0 rfl) ?_
              refine lv_iload_n hx hb dX4_bits_73 rfl (lv_at hl 4 rfl) ?_
              refine w_call (va_runV (As := [.int w]) (rest := []) ⟨hx, hb, hml, hown, hts⟩ (c_takeBits l g h a (ml r.toNatClampNeg) (nI (tSz T)) (nI (tAl T)) (if tK T = 4 then 1 else 0) (if tFi T = true then 0 else 1) (nI (ly T).1) up fb ha w H.size) (cwV 1 hts gX4_bits_X0_takeBits rfl rfl rfl (by decide +kernel) ⟨Nat.le_of_ble_eq_true rfl, Nat.le_of_ble_eq_true rfl⟩) ⟨pr_blind, w_recv hw ha rfl, pr_of hw⟩ rfl rfl hl.1 rfl (lv_room (Nat.le_of_ble_eq_true rfl)) dX4_bits_74 ⟨Nat.le_of_ble_eq_true rfl, Nat.le_of_ble_eq_true rfl⟩) hw (fun v h' H locs hp hw => ?_)
              obtain ⟨rfl, rfl⟩ := hp
              refine W.eq (g2 := F0 m 77 ls [.int (32 - fb)]) rfl ?_
              have elow : (32 : Int32) - fb = nI K9 := by rw [efb]; exact (pk_sub (a := 32) (b := 32 - K9) (by omega)).trans (by congr 1; omega)
              rw [elow]
              refine lv_istore (lv' := [(6, .int (nI K9)), (5, .ref a), (0, .ref x), (1, .int r), (2, .int t), (3, .int w), (4, .int n)]) hx hb dX4_bits_77 hl (by decide) rfl (fun ls hl => ?_)
              refine lv_iload hx hb dX4_bits_79 (lv_at hl 6 rfl) ?_
              refine lv_if_ne (tgt := 87) hx hb dX4_bits_81 (by decide) (fun c81 => ?_) (fun c81 => ?_)
              · refine lv_aload hx hb dX4_bits_87 (lv_at hl 1 rfl) ?_
                refine w_new (ci := 2) (C := RX1) (T := TX1) (N := 4) (fs := [.int 0, .int 0, .int 0, .int 0]) hx hb hts in_X4_bits_2 tyX1 tyX1_ok hown (hts (.classLink RX4 86 RX1) (by decide +kernel)) (hts (.instantiable RX1 4) (by decide +kernel)) (hts (.initialized RX1) (by decide +kernel)) hw rfl (fun j hj => by rcases (show j = 0 ∨ j = 1 ∨ j = 2 ∨ j = 3 by omega) with rfl | rfl | rfl | rfl <;> rfl) (Nat.le_of_ble_eq_true rfl) (Nat.le_of_ble_eq_true rfl) dX4_bits_89 (fun q H hq hw => ?_)
                refine lv_dup hx hb dX4_bits_92 rfl ?_
                refine lv_aload hx hb dX4_bits_93 (lv_at hl 1 rfl) ?_
                refine w_getN (ci := 1) (C := RX0) (T := TX0) (N := 8) (ref := "LayoutDesk$Compound") hx hb hts in_X4_bits_1 hown hw ((wu_n (ne_n (wu_s _ _ _) hq)).trans (wu_s _ _ _)) rfl 6 (by decide) (w_nw hw (w := .fieldLinkNest "LayoutDesk" 107 "LayoutDesk$Compound" "unitPlace" "I" "LayoutDesk") (by decide +kernel)) (fun _ h9 => h9) rfl dX4_bits_95 ?_
                refine lv_iload_n hx hb dX4_bits_98 rfl (lv_at hl 4 rfl) ?_
                refine lv_iload hx hb dX4_bits_99 (lv_at hl 0 rfl) ?_
                refine lv_iload_n hx hb dX4_bits_101 rfl (lv_at hl 5 rfl) ?_
                refine w_call (va_runI (As := [.int up, .int t, .int (nI K9), .int w]) (rest := [.ref q, .ref a]) ⟨hx, hb, hml, hown, hts⟩ (c_Member_init l g (wu (wu h a (.inr (1, [.int (nI (tSz T)), .int (nI (tAl T)), .int (if tK T = 4 then 1 else 0), .ref (ml r.toNatClampNeg), .int (if tFi T = true then 0 else 1), .int (nI (ly T).1), .int up, .int (if (if tK T = 4 then (1 : Int32) else 0) = 0 then fb - w else 0)]))) q (.inr (2, [.int 0, .int 0, .int 0, .int 0]))) q 0 0 0 0 up t (nI K9) w (wu_s _ _ _) H.size) (cwI 4 hts gX4_bits_X1_init rfl rfl rfl (hts (.initialized RX1) (by decide +kernel)) (hts (.methodLink RX4 88 yX1_init) (by decide +kernel)) (hts (.instanceMethod yX1_init) (by decide +kernel)) rfl (by decide +kernel) ⟨Nat.le_of_ble_eq_true rfl, Nat.le_of_ble_eq_true rfl⟩) ⟨pr_blind, pr_of hw⟩ rfl rfl hl.1 rfl (lv_room (Nat.le_of_ble_eq_true rfl)) dX4_bits_102 ⟨Nat.le_of_ble_eq_true rfl, Nat.le_of_ble_eq_true rfl⟩) hw (fun v h' H locs hp hw => ?_)
                obtain ⟨rfl, rfl⟩ := hp
                refine W.eq (g2 := F0 m 105 ls [.ref q, .ref a]) rfl ?_
                have hqh : h q = none := by
                  have z := hq
                  exact ((wu_n (ne_n (wu_s _ _ _) hq).symm).symm.trans (hq))
                have hWf : ∀ z, z ≠ a → z ≠ q → (wu (wu (wu h a (.inr (1, [.int (nI (tSz T)), .int (nI (tAl T)), .int (if tK T = 4 then 1 else 0), .ref (ml r.toNatClampNeg), .int (if tFi T = true then 0 else 1), .int (nI (ly T).1), .int up, .int (if (if tK T = 4 then (1 : Int32) else 0) = 0 then fb - w else 0)]))) q (.inr (2, [.int 0, .int 0, .int 0, .int 0]))) q (.inr (2, [.int up, .int t, .int (nI K9), .int w]))) z = h z := fun z z1 z2 => by
                  rw [wu_n z2, wu_n z2, wu_n z1]
                have hMW : AL g (wu (wu (wu h a (.inr (1, [.int (nI (tSz T)), .int (nI (tAl T)), .int (if tK T = 4 then 1 else 0), .ref (ml r.toNatClampNeg), .int (if tFi T = true then 0 else 1), .int (nI (ly T).1), .int up, .int (if (if tK T = 4 then (1 : Int32) else 0) = 0 then fb - w else 0)]))) q (.inr (2, [.int 0, .int 0, .int 0, .int 0]))) q (.inr (2, [.int up, .int t, .int (nI K9), .int w]))) (ml r.toNatClampNeg) (ma r.toNatClampNeg) (mb r.toNatClampNeg) := AL_kp (kp_mem ha ((wu_n (ne_n (wu_s _ _ _) hq)).trans ((wu_n (ne_n (wu_s _ _ _) hq)).trans (wu_s _ _ _))) hqh hWf (w_z hw)) hM
                obtain ⟨⟨mcW, hmW⟩, -, -⟩ := id hMW
                refine w_call (va_runV (As := [.ref q]) (rest := []) ⟨hx, hb, hml, hown, hts⟩ (c_Comp_enter l g (wu (wu (wu h a (.inr (1, [.int (nI (tSz T)), .int (nI (tAl T)), .int (if tK T = 4 then 1 else 0), .ref (ml r.toNatClampNeg), .int (if tFi T = true then 0 else 1), .int (nI (ly T).1), .int up, .int (if (if tK T = 4 then (1 : Int32) else 0) = 0 then fb - w else 0)]))) q (.inr (2, [.int 0, .int 0, .int 0, .int 0]))) q (.inr (2, [.int up, .int t, .int (nI K9), .int w]))) a (ml r.toNatClampNeg) (nI (tSz T)) (nI (tAl T)) (if tK T = 4 then 1 else 0) (if tFi T = true then 0 else 1) (nI (ly T).1) up (if (if tK T = 4 then (1 : Int32) else 0) = 0 then fb - w else 0) ((wu_n (ne_n (wu_s _ _ _) hq)).trans ((wu_n (ne_n (wu_s _ _ _) hq)).trans (wu_s _ _ _))) (ma r.toNatClampNeg) q (mb r.toNatClampNeg) hMW ⟨2, _, wu_s _ _ _, by decide, by decide⟩ (by omega) H.size) (cwV 1 hts gX4_bits_X0_enter rfl rfl rfl (by decide +kernel) ⟨Nat.le_of_ble_eq_true rfl, Nat.le_of_ble_eq_true rfl⟩) ⟨pr_blind, w_recv hw ((wu_n (ne_n (wu_s _ _ _) hq)).trans ((wu_n (ne_n (wu_s _ _ _) hq)).trans (wu_s _ _ _))) rfl, pr_of hw⟩ rfl rfl hl.1 rfl (lv_room (Nat.le_of_ble_eq_true rfl)) dX4_bits_105 ⟨Nat.le_of_ble_eq_true rfl, Nat.le_of_ble_eq_true rfl⟩) hw (fun v h' H locs hp hw => ?_)
                obtain ⟨ma', rfl, q1, q2, q3⟩ := hp
                refine W.eq (g2 := F0 m 108 ls [.int (nI (mb r.toNatClampNeg).length)]) rfl ?_
                have elb : ly (tPush T (some t.toNatClampNeg, w.toNatClampNeg, decide (n ≠ 0), 0, 0)) = (max (ly T).1 (P9 + 4), max (ly T).2.1 4, some (P9, K9 + w.toNatClampNeg), if decide (n ≠ 0) = true then (ly T).2.2.2 ++ [(P9, t.toNatClampNeg, K9, w.toNatClampNeg)] else (ly T).2.2.2) := (ly_push _ _).trans elS
                have hub : uOK (tK (tPush T (some t.toNatClampNeg, w.toNatClampNeg, decide (n ≠ 0), 0, 0)) == 4) (ly (tPush T (some t.toNatClampNeg, w.toNatClampNeg, decide (n ≠ 0), 0, 0))).2.2.1 up (if (if tK T = 4 then (1 : Int32) else 0) = 0 then fb - w else 0) := by
                  rw [elb]
                  exact uOK_bit (tK T == 4) P9 K9 w.toNatClampNeg eup (by omega) (by rw [ov_if, ← ew, efb])
                have e9 : fBit S r t w n = (nI (ly T).2.2.2.length, S.set r.toNatClampNeg (tPush T (some t.toNatClampNeg, w.toNatClampNeg, decide (n ≠ 0), 0, 0))) := by
                  simp only [fBit, hto]
                  rw [if_neg hc2, if_neg hc3, if_neg hc4, if_pos c37]
                have hml8 : (ly (tPush T (some t.toNatClampNeg, w.toNatClampNeg, decide (n ≠ 0), 0, 0))).2.2.2 = (ly T).2.2.2 ++ [(P9, t.toNatClampNeg, K9, w.toNatClampNeg)] := by rw [elb]; exact if_pos (decide_eq_true c37)
                exact r_int hx hb hr hlocks hw dX4_bits_108 (Nat.le_of_ble_eq_true rfl) (Nat.le_of_ble_eq_true rfl) (⟨by rw [e9, hml9], by rw [e9]; exact DR_mem (T' := (tPush T (some t.toNatClampNeg, w.toNatClampNeg, decide (n ≠ 0), 0, 0))) (mm := (P9, t.toNatClampNeg, K9, w.toNatClampNeg)) hR0 ha3 ha2 hk ha hqh (((wu_n (ne_n (wu_s _ _ _) hq)).trans ((wu_n (ne_n (wu_s _ _ _) hq)).trans (wu_s _ _ _))).trans (by rw [eA, eR]; rfl)) ((wu_s _ _ _).trans (by rw [← et, ← ew, eup])) hWf hMW (w_z hw) q1 q2 q3 hk hub hmm hml9 hml8⟩)
              · exact absurd c81 c37
            · obtain ⟨pl9, epl⟩ : ∃ p : Nat, p = (if (tK T == 4) = true then 0 else rup (ly T).1 4) := ⟨_, rfl⟩
              have hpl9 : pl9 ≤ 524292 := by { rw [epl]; have := rup_le (ly T).1 4; split <;> omega }
              have hplv : (if (if tK T = 4 then (1 : Int32) else 0) = 0 then nI (rup (ly T).1 4) else 0) = nI pl9 := by { rw [ov_if, epl]; split <;> rfl }
              have hU := bitsB (re := (ly T).1) hb1 hb2 huo (fun p k z => (hf4 p k z).1) (fun z => c57 (by rw [ew]; exact z))
              rw [← epl] at hU
              have elS := lyS_bit (t := t.toNatClampNeg) (b := decide (n ≠ 0)) (by omega) hU
              refine lv_aload hx hb dX4_bits_60 (lv_at hl 0 rfl) ?_
              refine w_call (va_runV (As := []) (rest := []) ⟨hx, hb, hml, hown, hts⟩ (c_beginUnit l g h a (ml r.toNatClampNeg) (tAl T) (ly T).1 pl9 (nI (tSz T)) (if tK T = 4 then 1 else 0) (if tFi T = true then 0 else 1) up fb ha (by omega) (by omega) hw5 hplv H.size) (cwV 0 hts gX4_bits_X0_beginUnit rfl rfl rfl (by decide +kernel) ⟨Nat.le_of_ble_eq_true rfl, Nat.le_of_ble_eq_true rfl⟩) ⟨pr_blind, w_recv hw ha rfl, pr_of hw⟩ rfl rfl hl.1 rfl (lv_room (Nat.le_of_ble_eq_true rfl)) dX4_bits_62 ⟨Nat.le_of_ble_eq_true rfl, Nat.le_of_ble_eq_true rfl⟩) hw (fun v h' H locs hp hw => ?_)
              obtain ⟨hgt9, rfl, rfl⟩ | ⟨hle9, rfl, rfl⟩ := hp
              · refine W.eq (g2 := F0 m 65 ls [.int 0]) rfl ?_
                refine lv_if_ne (tgt := 71) hx hb dX4_bits_65 (by decide) (fun c65 => ?_) (fun c65 => ?_)
                · exact absurd rfl c65
                · refine lv_bipush (v := (-4)) hx hb dX4_bits_68 (by decide) ?_
                  have e9 : fBit S r t w n = (-4, S) := by
                    simp only [fBit, hto]
                    rw [if_neg hc2, if_neg hc3, if_pos (by rw [elS]; show 524288 < max _ _; omega)]
                  exact r_int hx hb hr hlocks hw dX4_bits_70 (Nat.le_of_ble_eq_true rfl) (Nat.le_of_ble_eq_true rfl) (⟨by rw [e9], by rw [e9]; exact ⟨kl, ka, ty, ml, ma, mb, hR0⟩⟩)
              · refine W.eq (g2 := F0 m 65 ls [.int 1]) rfl ?_
                have eA : tAl (tPush T (some t.toNatClampNeg, w.toNatClampNeg, decide (n ≠ 0), 0, 0)) = max (tAl T) 4 := by
                  show (lyS (tK T == 4) (ly T) _).2.1 = _
                  rw [elS]
                  show max _ _ = _
                  omega
                have eR : (ly (tPush T (some t.toNatClampNeg, w.toNatClampNeg, decide (n ≠ 0), 0, 0))).1 = max (ly T).1 (pl9 + 4) := by
                  rw [ly_push, elS]
                have hc4 : ¬ 524288 < (lyS (tK T == 4) (ly T) (some t.toNatClampNeg, w.toNatClampNeg, decide (n ≠ 0), 0, 0)).1 := by
                  rw [elS]
                  show ¬ 524288 < max _ _
                  omega
                refine lv_if_ne (tgt := 71) hx hb dX4_bits_65 (by decide) (fun c65 => ?_) (fun c65 => ?_)
                · refine lv_aload hx hb dX4_bits_71 (lv_at hl 0 rfl) ?_
                  refine lv_iload_n hx hb dX4_bits_73 rfl (lv_at hl 4 rfl) ?_
                  refine w_call (va_runV (As := [.int w]) (rest := []) ⟨hx, hb, hml, hown, hts⟩ (c_takeBits l g (wu h a (.inr (1, [.int (nI (tSz T)), .int (nI (max (tAl T) 4)), .int (if tK T = 4 then 1 else 0), .ref (ml r.toNatClampNeg), .int (if tFi T = true then 0 else 1), .int (nI (max (ly T).1 (pl9 + 4))), .int (nI pl9), .int 32]))) a (ml r.toNatClampNeg) (nI (tSz T)) (nI (max (tAl T) 4)) (if tK T = 4 then 1 else 0) (if tFi T = true then 0 else 1) (nI (max (ly T).1 (pl9 + 4))) (nI pl9) 32 (wu_s _ _ _) w H.size) (cwV 1 hts gX4_bits_X0_takeBits rfl rfl rfl (by decide +kernel) ⟨Nat.le_of_ble_eq_true rfl, Nat.le_of_ble_eq_true rfl⟩) ⟨pr_blind, w_recv hw (wu_s _ _ _) rfl, pr_of hw⟩ rfl rfl hl.1 rfl (lv_room (Nat.le_of_ble_eq_true rfl)) dX4_bits_74 ⟨Nat.le_of_ble_eq_true rfl, Nat.le_of_ble_eq_true rfl⟩) hw (fun v h' H locs hp hw => ?_)
                  obtain ⟨rfl, rfl⟩ := hp
                  refine W.eq (g2 := F0 m 77 ls [.int (32 - 32)]) rfl ?_
                  have elow : (32 : Int32) - 32 = nI 0 := by decide
                  rw [elow]
                  refine lv_istore (lv' := [(6, .int (nI 0)), (5, .ref a), (0, .ref x), (1, .int r), (2, .int t), (3, .int w), (4, .int n)]) hx hb dX4_bits_77 hl (by decide) rfl (fun ls hl => ?_)
                  refine lv_iload hx hb dX4_bits_79 (lv_at hl 6 rfl) ?_
                  refine lv_if_ne (tgt := 87) hx hb dX4_bits_81 (by decide) (fun c81 => ?_) (fun c81 => ?_)
                  · refine lv_aload hx hb dX4_bits_87 (lv_at hl 1 rfl) ?_
                    refine w_new (ci := 2) (C := RX1) (T := TX1) (N := 4) (fs := [.int 0, .int 0, .int 0, .int 0]) hx hb hts in_X4_bits_2 tyX1 tyX1_ok hown (hts (.classLink RX4 86 RX1) (by decide +kernel)) (hts (.instantiable RX1 4) (by decide +kernel)) (hts (.initialized RX1) (by decide +kernel)) hw rfl (fun j hj => by rcases (show j = 0 ∨ j = 1 ∨ j = 2 ∨ j = 3 by omega) with rfl | rfl | rfl | rfl <;> rfl) (Nat.le_of_ble_eq_true rfl) (Nat.le_of_ble_eq_true rfl) dX4_bits_89 (fun q H hq hw => ?_)
                    refine lv_dup hx hb dX4_bits_92 rfl ?_
                    refine lv_aload hx hb dX4_bits_93 (lv_at hl 1 rfl) ?_
                    refine w_getN (ci := 1) (C := RX0) (T := TX0) (N := 8) (ref := "LayoutDesk$Compound") hx hb hts in_X4_bits_1 hown hw ((wu_n (ne_n (wu_s _ _ _) hq)).trans (wu_s _ _ _)) rfl 6 (by decide) (w_nw hw (w := .fieldLinkNest "LayoutDesk" 107 "LayoutDesk$Compound" "unitPlace" "I" "LayoutDesk") (by decide +kernel)) (fun _ h9 => h9) rfl dX4_bits_95 ?_
                    refine lv_iload_n hx hb dX4_bits_98 rfl (lv_at hl 4 rfl) ?_
                    refine lv_iload hx hb dX4_bits_99 (lv_at hl 0 rfl) ?_
                    refine lv_iload_n hx hb dX4_bits_101 rfl (lv_at hl 5 rfl) ?_
                    refine w_call (va_runI (As := [.int (nI pl9), .int t, .int (nI 0), .int w]) (rest := [.ref q, .ref a]) ⟨hx, hb, hml, hown, hts⟩ (c_Member_init l g (wu (wu (wu h a (.inr (1, [.int (nI (tSz T)), .int (nI (max (tAl T) 4)), .int (if tK T = 4 then 1 else 0), .ref (ml r.toNatClampNeg), .int (if tFi T = true then 0 else 1), .int (nI (max (ly T).1 (pl9 + 4))), .int (nI pl9), .int 32]))) a (.inr (1, [.int (nI (tSz T)), .int (nI (max (tAl T) 4)), .int (if tK T = 4 then 1 else 0), .ref (ml r.toNatClampNeg), .int (if tFi T = true then 0 else 1), .int (nI (max (ly T).1 (pl9 + 4))), .int (nI pl9), .int (if (if tK T = 4 then (1 : Int32) else 0) = 0 then 32 - w else 0)]))) q (.inr (2, [.int 0, .int 0, .int 0, .int 0]))) q 0 0 0 0 (nI pl9) t (nI 0) w (wu_s _ _ _) H.size) (cwI 4 hts gX4_bits_X1_init rfl rfl rfl (hts (.initialized RX1) (by decide +kernel)) (hts (.methodLink RX4 88 yX1_init) (by decide +kernel)) (hts (.instanceMethod yX1_init) (by decide +kernel)) rfl (by decide +kernel) ⟨Nat.le_of_ble_eq_true rfl, Nat.le_of_ble_eq_true rfl⟩) ⟨pr_blind, pr_of hw⟩ rfl rfl hl.1 rfl (lv_room (Nat.le_of_ble_eq_true rfl)) dX4_bits_102 ⟨Nat.le_of_ble_eq_true rfl, Nat.le_of_ble_eq_true rfl⟩) hw (fun v h' H locs hp hw => ?_)
                    obtain ⟨rfl, rfl⟩ := hp
                    refine W.eq (g2 := F0 m 105 ls [.ref q, .ref a]) rfl ?_
                    have hqh : h q = none := by
                      have z := hq
                      exact ((wu_n (ne_n (wu_s _ _ _) hq).symm).symm.trans ((wu_n (ne_n (wu_s _ _ _) hq).symm).symm.trans (hq)))
                    have hWf : ∀ z, z ≠ a → z ≠ q → (wu (wu (wu (wu h a (.inr (1, [.int (nI (tSz T)), .int (nI (max (tAl T) 4)), .int (if tK T = 4 then 1 else 0), .ref (ml r.toNatClampNeg), .int (if tFi T = true then 0 else 1), .int (nI (max (ly T).1 (pl9 + 4))), .int (nI pl9), .int 32]))) a (.inr (1, [.int (nI (tSz T)), .int (nI (max (tAl T) 4)), .int (if tK T = 4 then 1 else 0), .ref (ml r.toNatClampNeg), .int (if tFi T = true then 0 else 1), .int (nI (max (ly T).1 (pl9 + 4))), .int (nI pl9), .int (if (if tK T = 4 then (1 : Int32) else 0) = 0 then 32 - w else 0)]))) q (.inr (2, [.int 0, .int 0, .int 0, .int 0]))) q (.inr (2, [.int (nI pl9), .int t, .int (nI 0), .int w]))) z = h z := fun z z1 z2 => by
                      rw [wu_n z2, wu_n z2, wu_n z1, wu_n z1]
                    have hMW : AL g (wu (wu (wu (wu h a (.inr (1, [.int (nI (tSz T)), .int (nI (max (tAl T) 4)), .int (if tK T = 4 then 1 else 0), .ref (ml r.toNatClampNeg), .int (if tFi T = true then 0 else 1), .int (nI (max (ly T).1 (pl9 + 4))), .int (nI pl9), .int 32]))) a (.inr (1, [.int (nI (tSz T)), .int (nI (max (tAl T) 4)), .int (if tK T = 4 then 1 else 0), .ref (ml r.toNatClampNeg), .int (if tFi T = true then 0 else 1), .int (nI (max (ly T).1 (pl9 + 4))), .int (nI pl9), .int (if (if tK T = 4 then (1 : Int32) else 0) = 0 then 32 - w else 0)]))) q (.inr (2, [.int 0, .int 0, .int 0, .int 0]))) q (.inr (2, [.int (nI pl9), .int t, .int (nI 0), .int w]))) (ml r.toNatClampNeg) (ma r.toNatClampNeg) (mb r.toNatClampNeg) := AL_kp (kp_mem ha ((wu_n (ne_n (wu_s _ _ _) hq)).trans ((wu_n (ne_n (wu_s _ _ _) hq)).trans (wu_s _ _ _))) hqh hWf (w_z hw)) hM
                    obtain ⟨⟨mcW, hmW⟩, -, -⟩ := id hMW
                    refine w_call (va_runV (As := [.ref q]) (rest := []) ⟨hx, hb, hml, hown, hts⟩ (c_Comp_enter l g (wu (wu (wu (wu h a (.inr (1, [.int (nI (tSz T)), .int (nI (max (tAl T) 4)), .int (if tK T = 4 then 1 else 0), .ref (ml r.toNatClampNeg), .int (if tFi T = true then 0 else 1), .int (nI (max (ly T).1 (pl9 + 4))), .int (nI pl9), .int 32]))) a (.inr (1, [.int (nI (tSz T)), .int (nI (max (tAl T) 4)), .int (if tK T = 4 then 1 else 0), .ref (ml r.toNatClampNeg), .int (if tFi T = true then 0 else 1), .int (nI (max (ly T).1 (pl9 + 4))), .int (nI pl9), .int (if (if tK T = 4 then (1 : Int32) else 0) = 0 then 32 - w else 0)]))) q (.inr (2, [.int 0, .int 0, .int 0, .int 0]))) q (.inr (2, [.int (nI pl9), .int t, .int (nI 0), .int w]))) a (ml r.toNatClampNeg) (nI (tSz T)) (nI (max (tAl T) 4)) (if tK T = 4 then 1 else 0) (if tFi T = true then 0 else 1) (nI (max (ly T).1 (pl9 + 4))) (nI pl9) (if (if tK T = 4 then (1 : Int32) else 0) = 0 then 32 - w else 0) ((wu_n (ne_n (wu_s _ _ _) hq)).trans ((wu_n (ne_n (wu_s _ _ _) hq)).trans (wu_s _ _ _))) (ma r.toNatClampNeg) q (mb r.toNatClampNeg) hMW ⟨2, _, wu_s _ _ _, by decide, by decide⟩ (by omega) H.size) (cwV 1 hts gX4_bits_X0_enter rfl rfl rfl (by decide +kernel) ⟨Nat.le_of_ble_eq_true rfl, Nat.le_of_ble_eq_true rfl⟩) ⟨pr_blind, w_recv hw ((wu_n (ne_n (wu_s _ _ _) hq)).trans ((wu_n (ne_n (wu_s _ _ _) hq)).trans (wu_s _ _ _))) rfl, pr_of hw⟩ rfl rfl hl.1 rfl (lv_room (Nat.le_of_ble_eq_true rfl)) dX4_bits_105 ⟨Nat.le_of_ble_eq_true rfl, Nat.le_of_ble_eq_true rfl⟩) hw (fun v h' H locs hp hw => ?_)
                    obtain ⟨ma', rfl, q1, q2, q3⟩ := hp
                    refine W.eq (g2 := F0 m 108 ls [.int (nI (mb r.toNatClampNeg).length)]) rfl ?_
                    have elb : ly (tPush T (some t.toNatClampNeg, w.toNatClampNeg, decide (n ≠ 0), 0, 0)) = (max (ly T).1 (pl9 + 4), max (ly T).2.1 4, some (pl9, 0 + w.toNatClampNeg), if decide (n ≠ 0) = true then (ly T).2.2.2 ++ [(pl9, t.toNatClampNeg, 0, w.toNatClampNeg)] else (ly T).2.2.2) := (ly_push _ _).trans elS
                    have hub : uOK (tK (tPush T (some t.toNatClampNeg, w.toNatClampNeg, decide (n ≠ 0), 0, 0)) == 4) (ly (tPush T (some t.toNatClampNeg, w.toNatClampNeg, decide (n ≠ 0), 0, 0))).2.2.1 (nI pl9) (if (if tK T = 4 then (1 : Int32) else 0) = 0 then 32 - w else 0) := by
                      rw [elb]
                      exact uOK_bit (tK T == 4) pl9 0 w.toNatClampNeg rfl (by omega) (by rw [ov_if, ← ew]; rfl)
                    have e9 : fBit S r t w n = (nI (ly T).2.2.2.length, S.set r.toNatClampNeg (tPush T (some t.toNatClampNeg, w.toNatClampNeg, decide (n ≠ 0), 0, 0))) := by
                      simp only [fBit, hto]
                      rw [if_neg hc2, if_neg hc3, if_neg hc4, if_pos c37]
                    have hml8 : (ly (tPush T (some t.toNatClampNeg, w.toNatClampNeg, decide (n ≠ 0), 0, 0))).2.2.2 = (ly T).2.2.2 ++ [(pl9, t.toNatClampNeg, 0, w.toNatClampNeg)] := by rw [elb]; exact if_pos (decide_eq_true c37)
                    exact r_int hx hb hr hlocks hw dX4_bits_108 (Nat.le_of_ble_eq_true rfl) (Nat.le_of_ble_eq_true rfl) (⟨by rw [e9, hml9], by rw [e9]; exact DR_mem (T' := (tPush T (some t.toNatClampNeg, w.toNatClampNeg, decide (n ≠ 0), 0, 0))) (mm := (pl9, t.toNatClampNeg, 0, w.toNatClampNeg)) hR0 ha3 ha2 hk ha hqh (((wu_n (ne_n (wu_s _ _ _) hq)).trans ((wu_n (ne_n (wu_s _ _ _) hq)).trans (wu_s _ _ _))).trans (by rw [eA, eR]; rfl)) ((wu_s _ _ _).trans (by rw [← et, ← ew])) hWf hMW (w_z hw) q1 q2 q3 hk hub hmm hml9 hml8⟩)
                  · exact absurd c81 c37
                · exact absurd c65 (by decide)
          · have hal9 : 100 ≤ (ly T).2.2.2.length := by
              rw [← hml9]
              by_cases z : 100 ≤ (mb r.toNatClampNeg).length
              · exact z
              · rw [if_neg z] at c45
                exact absurd rfl c45
            refine lv_bipush (v := (-3)) hx hb dX4_bits_48 (by decide) ?_
            have e9 : fBit S r t w n = (-3, S) := by
              simp only [fBit, hto]
              rw [if_neg hc2, if_pos ⟨c37, hal9⟩]
            exact r_int hx hb hr hlocks hw dX4_bits_50 (Nat.le_of_ble_eq_true rfl) (Nat.le_of_ble_eq_true rfl) (⟨by rw [e9], by rw [e9]; exact ⟨kl, ka, ty, ml, ma, mb, hR0⟩⟩)
      · refine lv_bipush (v := (-2)) hx hb dX4_bits_32 (by decide) ?_
        have e9 : fBit S r t w n = (-2, S) := by
          simp only [fBit, hto]
          rw [if_pos (Or.inr (Or.inr (Int32.not_le.mp c29)))]
        exact r_int hx hb hr hlocks hw dX4_bits_34 (Nat.le_of_ble_eq_true rfl) (Nat.le_of_ble_eq_true rfl) (⟨by rw [e9], by rw [e9]; exact ⟨kl, ka, ty, ml, ma, mb, hR0⟩⟩)
theorem d_bits (l : Launch) (g : GG) (h : Nat → Option va_E) (x : Nat) (S : List TyS) (N : Nat) (hR : DR g h x S) (hS : wfS N S) (r t w n : Int32) : Con l yX4_bits wsX4_bits 8 192 2 804 [.ref x, .int r, .int t, .int w, .int n] g h (fun v h' => v = some (.int (fBit S r t w n).1) ∧ DR g h' x (fBit S r t w n).2) := by
  cases hto : lkO S r with
  | none => exact d_bits_N l g h x S N hR hS r t w n hto
  | some T => exact d_bits_O l g h x S N hR hS r t w n T hto
end
