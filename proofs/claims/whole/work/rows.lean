section
-- ===== PART A: goes FIRST, ahead of the names: the tables' words, and 'selects' of the private methods out of them =====
/-- a private method of a class that the tables say can be made, by its rows of tables_1 -/
def lw_okq (q : MethodName × Nat) : Prop := (q.1.cls ≠ "java/lang/invoke/MethodHandle" ∧ q.1.cls ≠ "java/lang/invoke/VarHandle") ∧ Cond.instantiable q.1.cls q.2 ∈ tables_1 ∧ Cond.privateMethod q.1 ∈ tables_1 ∧ Cond.instanceMethod q.1 ∈ tables_1
theorem lw_p0 : lw_okq (⟨"FerryQuay", "berthAt", "(I)LFerryQuay$Berth;"⟩, 10) := ⟨⟨by decide +kernel, by decide +kernel⟩, List.mem_of_getElem? (i := 11) (by decide +kernel), List.mem_of_getElem? (i := 177) (by decide +kernel), List.mem_of_getElem? (i := 178) (by decide +kernel)⟩
theorem lw_p1 : lw_okq (⟨"FerryQuay", "gateAt", "(I)LFerryQuay$Gate;"⟩, 10) := ⟨⟨by decide +kernel, by decide +kernel⟩, List.mem_of_getElem? (i := 11) (by decide +kernel), List.mem_of_getElem? (i := 181) (by decide +kernel), List.mem_of_getElem? (i := 182) (by decide +kernel)⟩
theorem lw_p2 : lw_okq (⟨"FerryQuay", "rampAt", "(I)LFerryQuay$Ramp;"⟩, 10) := ⟨⟨by decide +kernel, by decide +kernel⟩, List.mem_of_getElem? (i := 11) (by decide +kernel), List.mem_of_getElem? (i := 193) (by decide +kernel), List.mem_of_getElem? (i := 194) (by decide +kernel)⟩
theorem lw_p3 : lw_okq (⟨"FerryQuay", "boardThrough", "(LFerryQuay$Gate;LFerryQuay$Berth;I)I"⟩, 10) := ⟨⟨by decide +kernel, by decide +kernel⟩, List.mem_of_getElem? (i := 11) (by decide +kernel), List.mem_of_getElem? (i := 225) (by decide +kernel), List.mem_of_getElem? (i := 226) (by decide +kernel)⟩
theorem lw_p4 : lw_okq (⟨"FerryQuay", "alarm", "(I)I"⟩, 10) := ⟨⟨by decide +kernel, by decide +kernel⟩, List.mem_of_getElem? (i := 11) (by decide +kernel), List.mem_of_getElem? (i := 240) (by decide +kernel), List.mem_of_getElem? (i := 241) (by decide +kernel)⟩
theorem lw_p5 : lw_okq (⟨"FerryQuay", "landOver", "(LFerryQuay$Ramp;LFerryQuay$Berth;I)I"⟩, 10) := ⟨⟨by decide +kernel, by decide +kernel⟩, List.mem_of_getElem? (i := 11) (by decide +kernel), List.mem_of_getElem? (i := 258) (by decide +kernel), List.mem_of_getElem? (i := 259) (by decide +kernel)⟩
theorem lw_p6 : lw_okq (⟨"FerryQuay", "shiftThrough", "(LFerryQuay$Gate;LFerryQuay$Row;LFerryQuay$Berth;I)I"⟩, 10) := ⟨⟨by decide +kernel, by decide +kernel⟩, List.mem_of_getElem? (i := 11) (by decide +kernel), List.mem_of_getElem? (i := 292) (by decide +kernel), List.mem_of_getElem? (i := 293) (by decide +kernel)⟩
theorem lw_p7 : lw_okq (⟨"FerryQuayModel", "isBerth", "(I)Z"⟩, 22) := ⟨⟨by decide +kernel, by decide +kernel⟩, List.mem_of_getElem? (i := 320) (by decide +kernel), List.mem_of_getElem? (i := 410) (by decide +kernel), List.mem_of_getElem? (i := 411) (by decide +kernel)⟩
theorem lw_p8 : lw_okq (⟨"FerryQuayModel", "isGate", "(I)Z"⟩, 22) := ⟨⟨by decide +kernel, by decide +kernel⟩, List.mem_of_getElem? (i := 320) (by decide +kernel), List.mem_of_getElem? (i := 414) (by decide +kernel), List.mem_of_getElem? (i := 415) (by decide +kernel)⟩
theorem lw_p9 : lw_okq (⟨"FerryQuayModel", "isRamp", "(I)Z"⟩, 22) := ⟨⟨by decide +kernel, by decide +kernel⟩, List.mem_of_getElem? (i := 320) (by decide +kernel), List.mem_of_getElem? (i := 422) (by decide +kernel), List.mem_of_getElem? (i := 423) (by decide +kernel)⟩
theorem lw_p10 : lw_okq (⟨"FerryQuayModel", "comes", "(II)V"⟩, 22) := ⟨⟨by decide +kernel, by decide +kernel⟩, List.mem_of_getElem? (i := 320) (by decide +kernel), List.mem_of_getElem? (i := 434) (by decide +kernel), List.mem_of_getElem? (i := 435) (by decide +kernel)⟩
theorem lw_p11 : lw_okq (⟨"FerryQuayModel", "goes", "(I)I"⟩, 22) := ⟨⟨by decide +kernel, by decide +kernel⟩, List.mem_of_getElem? (i := 320) (by decide +kernel), List.mem_of_getElem? (i := 442) (by decide +kernel), List.mem_of_getElem? (i := 443) (by decide +kernel)⟩
theorem lw_p12 : lw_okq (⟨"FerryQuayModel", "alarm", "(I)I"⟩, 22) := ⟨⟨by decide +kernel, by decide +kernel⟩, List.mem_of_getElem? (i := 320) (by decide +kernel), List.mem_of_getElem? (i := 446) (by decide +kernel), List.mem_of_getElem? (i := 447) (by decide +kernel)⟩
def lw_privs_1 : List (MethodName × Nat) := [(⟨"FerryQuay", "berthAt", "(I)LFerryQuay$Berth;"⟩, 10), (⟨"FerryQuay", "gateAt", "(I)LFerryQuay$Gate;"⟩, 10), (⟨"FerryQuay", "rampAt", "(I)LFerryQuay$Ramp;"⟩, 10), (⟨"FerryQuay", "boardThrough", "(LFerryQuay$Gate;LFerryQuay$Berth;I)I"⟩, 10), (⟨"FerryQuay", "alarm", "(I)I"⟩, 10), (⟨"FerryQuay", "landOver", "(LFerryQuay$Ramp;LFerryQuay$Berth;I)I"⟩, 10), (⟨"FerryQuay", "shiftThrough", "(LFerryQuay$Gate;LFerryQuay$Row;LFerryQuay$Berth;I)I"⟩, 10), (⟨"FerryQuayModel", "isBerth", "(I)Z"⟩, 22), (⟨"FerryQuayModel", "isGate", "(I)Z"⟩, 22), (⟨"FerryQuayModel", "isRamp", "(I)Z"⟩, 22), (⟨"FerryQuayModel", "comes", "(II)V"⟩, 22), (⟨"FerryQuayModel", "goes", "(I)I"⟩, 22), (⟨"FerryQuayModel", "alarm", "(I)I"⟩, 22)]
theorem lw_r1 : ∀ q ∈ lw_privs_1, lw_okq q := List.forall_mem_cons.mpr ⟨lw_p0, List.forall_mem_cons.mpr ⟨lw_p1, List.forall_mem_cons.mpr ⟨lw_p2, List.forall_mem_cons.mpr ⟨lw_p3, List.forall_mem_cons.mpr ⟨lw_p4, List.forall_mem_cons.mpr ⟨lw_p5, List.forall_mem_cons.mpr ⟨lw_p6, List.forall_mem_cons.mpr ⟨lw_p7, List.forall_mem_cons.mpr ⟨lw_p8, List.forall_mem_cons.mpr ⟨lw_p9, List.forall_mem_cons.mpr ⟨lw_p10, List.forall_mem_cons.mpr ⟨lw_p11, List.forall_mem_cons.mpr ⟨lw_p12, fun _ h => absurd h List.not_mem_nil⟩⟩⟩⟩⟩⟩⟩⟩⟩⟩⟩⟩⟩
def lw_privs : List (MethodName × Nat) := lw_privs_1
def lw_tbl : List Cond := k2_sels lw_privs ++ tables_1
theorem lw_privs_ok : ∀ q ∈ lw_privs, lw_okq q := lw_r1
/-! ===== BEGIN words of one list among another's, by their places ===== -/
theorem goodIn_r {big : List Cond} (ws : List Cond) (ps : List Nat) (hp : ws = ps.filterMap (fun i => big[i]?)) (h : ws.all goodWord = true) : GoodIn big ws := by
  intro w hw
  have h1 := List.all_eq_true.mp h w hw
  rw [hp] at hw
  obtain ⟨i, -, hi⟩ := List.mem_filterMap.mp hw
  have hm : w ∈ big := by first | exact List.mem_of_getElem? hi | exact List.getElem?_mem hi
  exact ⟨hm, good_of_word h1⟩
theorem goodIn_app {big a b : List Cond} (ha : GoodIn big a) (hb : GoodIn big b) : GoodIn big (a ++ b) := fun w h => (List.mem_append.mp h).elim (ha w) (hb w)
theorem goodIn_ca {big a b : List Cond} {c : Cond} (ha : GoodIn big (c :: a)) (hb : GoodIn big b) : GoodIn big (c :: (a ++ b)) := fun w h => (List.mem_cons.mp h).elim (fun e => ha w (List.mem_cons.mpr (Or.inl e))) (fun h => (List.mem_append.mp h).elim (fun h => ha w (List.mem_cons.mpr (Or.inr h))) (hb w))
theorem goodIn_sub {big ws : List Cond} (hm : ∀ w ∈ ws, w ∈ big) (h : ws.all goodWord = true) : GoodIn big ws := fun w hw => ⟨hm w hw, good_of_word (List.all_eq_true.mp h w hw)⟩
/-! ===== END ===== -/

/-! ===== BEGIN printed: names, fields, word lists, decode rows ===== -/
def RX0 : String := "FerryQuay$Berth"
def TX0 : u_T := fun k => match k with
  | 0 => ("FerryQuay$Berth", "lane", "LFerryQuay$Row;", true)
  | 1 => ("FerryQuay$Berth", "ferry", "LFerryQuay$Ferry;", false)
  | 2 => ("FerryQuay$Berth", "gate", "LFerryQuay$Gate;", false)
  | _ => ("FerryQuay$Berth", "ramp", "LFerryQuay$Ramp;", false)
def tyX0 : Nat → FieldType := fun k => match k with
  | 0 => .object "FerryQuay$Row"
  | 1 => .object "FerryQuay$Ferry"
  | 2 => .object "FerryQuay$Gate"
  | _ => .object "FerryQuay$Ramp"
abbrev wsX00 : List Cond := u_ws RX0 TX0 4
theorem nmX0 : ∀ a, a < 4 → ∀ b, b < 4 → a ≠ b → (TX0 a).2.1 ≠ (TX0 b).2.1 := by decide +kernel
theorem tyX0_ok : ∀ k, k < 4 → parseFieldDescriptor (TX0 k).2.2.1 = some (tyX0 k) := by decide +kernel
abbrev cX0_init : ByteArray := prog_2_method_1_code
def yX0_init : MethodName := ⟨RX0, "<init>", "(I)V"⟩
abbrev cX0_gateNumber : ByteArray := prog_2_method_2_code
def yX0_gateNumber : MethodName := ⟨RX0, "gateNumber", "()I"⟩
abbrev cX0_rampNumber : ByteArray := prog_2_method_3_code
def yX0_rampNumber : MethodName := ⟨RX0, "rampNumber", "()I"⟩
def RX1 : String := "FerryQuay$Ferry"
def TX1 : u_T := fun k => match k with
  | 0 => ("FerryQuay$Ferry", "room", "I", true)
  | 1 => ("FerryQuay$Ferry", "vehicles", "LFerryQuay$Row;", true)
  | _ => ("FerryQuay$Ferry", "load", "I", false)
def tyX1 : Nat → FieldType := fun k => match k with
  | 0 => .int
  | 1 => .object "FerryQuay$Row"
  | _ => .int
abbrev wsX10 : List Cond := u_ws RX1 TX1 3
theorem nmX1 : ∀ a, a < 3 → ∀ b, b < 3 → a ≠ b → (TX1 a).2.1 ≠ (TX1 b).2.1 := by decide +kernel
theorem tyX1_ok : ∀ k, k < 3 → parseFieldDescriptor (TX1 k).2.2.1 = some (tyX1 k) := by decide +kernel
abbrev cX1_init : ByteArray := prog_3_method_1_code
def yX1_init : MethodName := ⟨RX1, "<init>", "(I)V"⟩
abbrev cX1_hasRoomFor : ByteArray := prog_3_method_2_code
def yX1_hasRoomFor : MethodName := ⟨RX1, "hasRoomFor", "(I)Z"⟩
abbrev cX1_takeAboard : ByteArray := prog_3_method_3_code
def yX1_takeAboard : MethodName := ⟨RX1, "takeAboard", "(I)V"⟩
abbrev cX1_weightOfLast : ByteArray := prog_3_method_4_code
def yX1_weightOfLast : MethodName := ⟨RX1, "weightOfLast", "()I"⟩
abbrev cX1_putLastAshore : ByteArray := prog_3_method_5_code
def yX1_putLastAshore : MethodName := ⟨RX1, "putLastAshore", "()V"⟩
def RX2 : String := "FerryQuay$Gate"
def TX2 : u_T := fun k => match k with
  | 0 => ("FerryQuay$Gate", "number", "I", true)
  | 1 => ("FerryQuay$Gate", "isShut", "Z", false)
  | 2 => ("FerryQuay$Gate", "taken", "I", false)
  | _ => ("FerryQuay$Gate", "passed", "I", false)
def tyX2 : Nat → FieldType := fun k => match k with
  | 0 => .int
  | 1 => .boolean
  | 2 => .int
  | _ => .int
abbrev wsX20 : List Cond := u_ws RX2 TX2 4
theorem nmX2 : ∀ a, a < 4 → ∀ b, b < 4 → a ≠ b → (TX2 a).2.1 ≠ (TX2 b).2.1 := by decide +kernel
theorem tyX2_ok : ∀ k, k < 4 → parseFieldDescriptor (TX2 k).2.2.1 = some (tyX2 k) := by decide +kernel
abbrev cX2_init : ByteArray := prog_4_method_1_code
def yX2_init : MethodName := ⟨RX2, "<init>", "(I)V"⟩
abbrev cX2_shutAsNumber : ByteArray := prog_4_method_2_code
def yX2_shutAsNumber : MethodName := ⟨RX2, "shutAsNumber", "()I"⟩
def RX3 : String := "FerryQuay$Ramp"
def TX3 : u_T := fun k => match k with
  | 0 => ("FerryQuay$Ramp", "number", "I", true)
  | 1 => ("FerryQuay$Ramp", "limit", "I", true)
  | 2 => ("FerryQuay$Ramp", "taken", "I", false)
  | _ => ("FerryQuay$Ramp", "wear", "I", false)
def tyX3 : Nat → FieldType := fun k => match k with
  | 0 => .int
  | 1 => .int
  | 2 => .int
  | _ => .int
abbrev wsX30 : List Cond := u_ws RX3 TX3 4
theorem nmX3 : ∀ a, a < 4 → ∀ b, b < 4 → a ≠ b → (TX3 a).2.1 ≠ (TX3 b).2.1 := by decide +kernel
theorem tyX3_ok : ∀ k, k < 4 → parseFieldDescriptor (TX3 k).2.2.1 = some (tyX3 k) := by decide +kernel
abbrev cX3_init : ByteArray := prog_5_method_1_code
def yX3_init : MethodName := ⟨RX3, "<init>", "(II)V"⟩
def RX4 : String := "FerryQuay$Row"
def TX4 : u_T := fun k => match k with
  | 0 => ("FerryQuay$Row", "weights", "[I", true)
  | _ => ("FerryQuay$Row", "size", "I", false)
def tyX4 : Nat → FieldType := fun k => match k with
  | 0 => .array .int
  | _ => .int
abbrev wsX40 : List Cond := u_ws RX4 TX4 2
theorem nmX4 : ∀ a, a < 2 → ∀ b, b < 2 → a ≠ b → (TX4 a).2.1 ≠ (TX4 b).2.1 := by decide +kernel
theorem tyX4_ok : ∀ k, k < 2 → parseFieldDescriptor (TX4 k).2.2.1 = some (tyX4 k) := by decide +kernel
abbrev cX4_init : ByteArray := prog_6_method_1_code
def yX4_init : MethodName := ⟨RX4, "<init>", "(I)V"⟩
abbrev cX4_isFull : ByteArray := prog_6_method_2_code
def yX4_isFull : MethodName := ⟨RX4, "isFull", "()Z"⟩
abbrev cX4_weightAt : ByteArray := prog_6_method_3_code
def yX4_weightAt : MethodName := ⟨RX4, "weightAt", "(I)I"⟩
abbrev cX4_addLast : ByteArray := prog_6_method_4_code
def yX4_addLast : MethodName := ⟨RX4, "addLast", "(I)V"⟩
abbrev cX4_removeFirst : ByteArray := prog_6_method_5_code
def yX4_removeFirst : MethodName := ⟨RX4, "removeFirst", "()V"⟩
abbrev cX4_removeLast : ByteArray := prog_6_method_6_code
def yX4_removeLast : MethodName := ⟨RX4, "removeLast", "()V"⟩
def RX5 : String := "FerryQuay"
def TX5 : u_T := fun k => match k with
  | 0 => ("FerryQuay", "gates", "[LFerryQuay$Gate;", true)
  | 1 => ("FerryQuay", "ramps", "[LFerryQuay$Ramp;", true)
  | 2 => ("FerryQuay", "berths", "[LFerryQuay$Berth;", true)
  | 3 => ("FerryQuay", "gateCount", "I", false)
  | 4 => ("FerryQuay", "rampCount", "I", false)
  | 5 => ("FerryQuay", "berthCount", "I", false)
  | 6 => ("FerryQuay", "arrived", "I", false)
  | 7 => ("FerryQuay", "gone", "I", false)
  | 8 => ("FerryQuay", "towed", "I", false)
  | _ => ("FerryQuay", "alarms", "I", false)
def tyX5 : Nat → FieldType := fun k => match k with
  | 0 => .array (.object "FerryQuay$Gate")
  | 1 => .array (.object "FerryQuay$Ramp")
  | 2 => .array (.object "FerryQuay$Berth")
  | 3 => .int
  | 4 => .int
  | 5 => .int
  | 6 => .int
  | 7 => .int
  | 8 => .int
  | _ => .int
abbrev wsX50 : List Cond := u_ws RX5 TX5 10
theorem nmX5 : ∀ a, a < 10 → ∀ b, b < 10 → a ≠ b → (TX5 a).2.1 ≠ (TX5 b).2.1 := by decide +kernel
theorem tyX5_ok : ∀ k, k < 10 → parseFieldDescriptor (TX5 k).2.2.1 = some (tyX5 k) := by decide +kernel
abbrev cX5_init : ByteArray := prog_1_method_1_code
def yX5_init : MethodName := ⟨RX5, "<init>", "()V"⟩
abbrev cX5_gate : ByteArray := prog_1_method_2_code
def yX5_gate : MethodName := ⟨RX5, "gate", "()I"⟩
abbrev cX5_ramp : ByteArray := prog_1_method_3_code
def yX5_ramp : MethodName := ⟨RX5, "ramp", "(I)I"⟩
abbrev cX5_berth : ByteArray := prog_1_method_4_code
def yX5_berth : MethodName := ⟨RX5, "berth", "(I)I"⟩
abbrev cX5_hinge : ByteArray := prog_1_method_5_code
def yX5_hinge : MethodName := ⟨RX5, "hinge", "(II)I"⟩
abbrev cX5_lay : ByteArray := prog_1_method_6_code
def yX5_lay : MethodName := ⟨RX5, "lay", "(II)I"⟩
abbrev cX5_shut : ByteArray := prog_1_method_7_code
def yX5_shut : MethodName := ⟨RX5, "shut", "(IZ)I"⟩
abbrev cX5_arrive : ByteArray := prog_1_method_8_code
def yX5_arrive : MethodName := ⟨RX5, "arrive", "(II)I"⟩
abbrev cX5_board : ByteArray := prog_1_method_9_code
def yX5_board : MethodName := ⟨RX5, "board", "(II)I"⟩
abbrev cX5_boardThrough : ByteArray := prog_1_method_10_code
def yX5_boardThrough : MethodName := ⟨RX5, "boardThrough", "(LFerryQuay$Gate;LFerryQuay$Berth;I)I"⟩
abbrev cX5_land : ByteArray := prog_1_method_11_code
def yX5_land : MethodName := ⟨RX5, "land", "(II)I"⟩
abbrev cX5_landOver : ByteArray := prog_1_method_12_code
def yX5_landOver : MethodName := ⟨RX5, "landOver", "(LFerryQuay$Ramp;LFerryQuay$Berth;I)I"⟩
abbrev cX5_swap : ByteArray := prog_1_method_13_code
def yX5_swap : MethodName := ⟨RX5, "swap", "(II)I"⟩
abbrev cX5_round : ByteArray := prog_1_method_14_code
def yX5_round : MethodName := ⟨RX5, "round", "(II)I"⟩
abbrev cX5_tend : ByteArray := prog_1_method_15_code
def yX5_tend : MethodName := ⟨RX5, "tend", "(I)I"⟩
abbrev cX5_shift : ByteArray := prog_1_method_16_code
def yX5_shift : MethodName := ⟨RX5, "shift", "(III)I"⟩
abbrev cX5_shiftThrough : ByteArray := prog_1_method_17_code
def yX5_shiftThrough : MethodName := ⟨RX5, "shiftThrough", "(LFerryQuay$Gate;LFerryQuay$Row;LFerryQuay$Berth;I)I"⟩
abbrev cX5_state : ByteArray := prog_1_method_18_code
def yX5_state : MethodName := ⟨RX5, "state", "(II)I"⟩
abbrev cX5_waiting : ByteArray := prog_1_method_19_code
def yX5_waiting : MethodName := ⟨RX5, "waiting", "(II)I"⟩
abbrev cX5_aboard : ByteArray := prog_1_method_20_code
def yX5_aboard : MethodName := ⟨RX5, "aboard", "(II)I"⟩
abbrev cX5_ofGate : ByteArray := prog_1_method_21_code
def yX5_ofGate : MethodName := ⟨RX5, "ofGate", "(II)I"⟩
abbrev cX5_ofRamp : ByteArray := prog_1_method_22_code
def yX5_ofRamp : MethodName := ⟨RX5, "ofRamp", "(II)I"⟩
abbrev cX5_count : ByteArray := prog_1_method_23_code
def yX5_count : MethodName := ⟨RX5, "count", "(I)I"⟩
abbrev cX5_alarm : ByteArray := prog_1_method_24_code
def yX5_alarm : MethodName := ⟨RX5, "alarm", "(I)I"⟩
abbrev cX5_gateAt : ByteArray := prog_1_method_25_code
def yX5_gateAt : MethodName := ⟨RX5, "gateAt", "(I)LFerryQuay$Gate;"⟩
abbrev cX5_rampAt : ByteArray := prog_1_method_26_code
def yX5_rampAt : MethodName := ⟨RX5, "rampAt", "(I)LFerryQuay$Ramp;"⟩
abbrev cX5_berthAt : ByteArray := prog_1_method_27_code
def yX5_berthAt : MethodName := ⟨RX5, "berthAt", "(I)LFerryQuay$Berth;"⟩
abbrev cX5_isWithin : ByteArray := prog_1_method_28_code
def yX5_isWithin : MethodName := ⟨RX5, "isWithin", "(III)Z"⟩
def RX6 : String := "FerryQuayModel"
def TX6 : u_T := fun k => match k with
  | 0 => ("FerryQuayModel", "gates", "I", false)
  | 1 => ("FerryQuayModel", "ramps", "I", false)
  | 2 => ("FerryQuayModel", "berths", "I", false)
  | 3 => ("FerryQuayModel", "arrived", "I", false)
  | 4 => ("FerryQuayModel", "gone", "I", false)
  | 5 => ("FerryQuayModel", "towed", "I", false)
  | 6 => ("FerryQuayModel", "alarms", "I", false)
  | 7 => ("FerryQuayModel", "isShut", "[Z", true)
  | 8 => ("FerryQuayModel", "gateTaken", "[I", true)
  | 9 => ("FerryQuayModel", "passed", "[I", true)
  | 10 => ("FerryQuayModel", "limit", "[I", true)
  | 11 => ("FerryQuayModel", "wear", "[I", true)
  | 12 => ("FerryQuayModel", "rampTaken", "[I", true)
  | 13 => ("FerryQuayModel", "gateOf", "[I", true)
  | 14 => ("FerryQuayModel", "rampOf", "[I", true)
  | 15 => ("FerryQuayModel", "ferryOf", "[I", true)
  | 16 => ("FerryQuayModel", "waits", "[I", true)
  | 17 => ("FerryQuayModel", "lane", "[I", true)
  | 18 => ("FerryQuayModel", "room", "[I", true)
  | 19 => ("FerryQuayModel", "load", "[I", true)
  | 20 => ("FerryQuayModel", "many", "[I", true)
  | _ => ("FerryQuayModel", "deck", "[I", true)
def tyX6 : Nat → FieldType := fun k => match k with
  | 0 => .int
  | 1 => .int
  | 2 => .int
  | 3 => .int
  | 4 => .int
  | 5 => .int
  | 6 => .int
  | 7 => .array .boolean
  | 8 => .array .int
  | 9 => .array .int
  | 10 => .array .int
  | 11 => .array .int
  | 12 => .array .int
  | 13 => .array .int
  | 14 => .array .int
  | 15 => .array .int
  | 16 => .array .int
  | 17 => .array .int
  | 18 => .array .int
  | 19 => .array .int
  | 20 => .array .int
  | _ => .array .int
abbrev wsX60 : List Cond := u_ws RX6 TX6 22
theorem nmX6 : ∀ a, a < 22 → ∀ b, b < 22 → a ≠ b → (TX6 a).2.1 ≠ (TX6 b).2.1 := by decide +kernel
theorem tyX6_ok : ∀ k, k < 22 → parseFieldDescriptor (TX6 k).2.2.1 = some (tyX6 k) := by decide +kernel
abbrev cX6_init : ByteArray := prog_8_method_1_code
def yX6_init : MethodName := ⟨RX6, "<init>", "()V"⟩
abbrev cX6_isGate : ByteArray := prog_8_method_2_code
def yX6_isGate : MethodName := ⟨RX6, "isGate", "(I)Z"⟩
abbrev cX6_isRamp : ByteArray := prog_8_method_3_code
def yX6_isRamp : MethodName := ⟨RX6, "isRamp", "(I)Z"⟩
abbrev cX6_isBerth : ByteArray := prog_8_method_4_code
def yX6_isBerth : MethodName := ⟨RX6, "isBerth", "(I)Z"⟩
abbrev cX6_alarm : ByteArray := prog_8_method_5_code
def yX6_alarm : MethodName := ⟨RX6, "alarm", "(I)I"⟩
abbrev cX6_gate : ByteArray := prog_8_method_6_code
def yX6_gate : MethodName := ⟨RX6, "gate", "()I"⟩
abbrev cX6_ramp : ByteArray := prog_8_method_7_code
def yX6_ramp : MethodName := ⟨RX6, "ramp", "(I)I"⟩
abbrev cX6_berth : ByteArray := prog_8_method_8_code
def yX6_berth : MethodName := ⟨RX6, "berth", "(I)I"⟩
abbrev cX6_hinge : ByteArray := prog_8_method_9_code
def yX6_hinge : MethodName := ⟨RX6, "hinge", "(II)I"⟩
abbrev cX6_lay : ByteArray := prog_8_method_10_code
def yX6_lay : MethodName := ⟨RX6, "lay", "(II)I"⟩
abbrev cX6_shut : ByteArray := prog_8_method_11_code
def yX6_shut : MethodName := ⟨RX6, "shut", "(IZ)I"⟩
abbrev cX6_arrive : ByteArray := prog_8_method_12_code
def yX6_arrive : MethodName := ⟨RX6, "arrive", "(II)I"⟩
abbrev cX6_comes : ByteArray := prog_8_method_13_code
def yX6_comes : MethodName := ⟨RX6, "comes", "(II)V"⟩
abbrev cX6_goes : ByteArray := prog_8_method_14_code
def yX6_goes : MethodName := ⟨RX6, "goes", "(I)I"⟩
abbrev cX6_board : ByteArray := prog_8_method_15_code
def yX6_board : MethodName := ⟨RX6, "board", "(II)I"⟩
abbrev cX6_land : ByteArray := prog_8_method_16_code
def yX6_land : MethodName := ⟨RX6, "land", "(II)I"⟩
abbrev cX6_swap : ByteArray := prog_8_method_17_code
def yX6_swap : MethodName := ⟨RX6, "swap", "(II)I"⟩
abbrev cX6_round : ByteArray := prog_8_method_18_code
def yX6_round : MethodName := ⟨RX6, "round", "(II)I"⟩
abbrev cX6_tend : ByteArray := prog_8_method_19_code
def yX6_tend : MethodName := ⟨RX6, "tend", "(I)I"⟩
abbrev cX6_shift : ByteArray := prog_8_method_20_code
def yX6_shift : MethodName := ⟨RX6, "shift", "(III)I"⟩
abbrev cX6_state : ByteArray := prog_8_method_21_code
def yX6_state : MethodName := ⟨RX6, "state", "(II)I"⟩
abbrev cX6_waiting : ByteArray := prog_8_method_22_code
def yX6_waiting : MethodName := ⟨RX6, "waiting", "(II)I"⟩
abbrev cX6_aboard : ByteArray := prog_8_method_23_code
def yX6_aboard : MethodName := ⟨RX6, "aboard", "(II)I"⟩
abbrev cX6_ofGate : ByteArray := prog_8_method_24_code
def yX6_ofGate : MethodName := ⟨RX6, "ofGate", "(II)I"⟩
abbrev cX6_ofRamp : ByteArray := prog_8_method_25_code
def yX6_ofRamp : MethodName := ⟨RX6, "ofRamp", "(II)I"⟩
abbrev cX6_count : ByteArray := prog_8_method_26_code
def yX6_count : MethodName := ⟨RX6, "count", "(I)I"⟩
def RJ9 : String := "java/lang/Math"
def TJ9 : u_T := fun k => match k with
  | _ => ("", "", "", false)
def tyJ9 : Nat → FieldType := fun k => match k with
  | _ => .int
abbrev wsJ90 : List Cond := u_ws RJ9 TJ9 0
theorem nmJ9 : ∀ a, a < 0 → ∀ b, b < 0 → a ≠ b → (TJ9 a).2.1 ≠ (TJ9 b).2.1 := by decide +kernel
theorem tyJ9_ok : ∀ k, k < 0 → parseFieldDescriptor (TJ9 k).2.2.1 = some (tyJ9 k) := by decide +kernel
abbrev cJ9_max_7cf53 : ByteArray := prog_9_method_65_code
def yJ9_max_7cf53 : MethodName := ⟨RJ9, "max", "(II)I"⟩
def RJ10 : String := "java/lang/System"
def TJ10 : u_T := fun k => match k with
  | _ => ("", "", "", false)
def tyJ10 : Nat → FieldType := fun k => match k with
  | _ => .int
abbrev wsJ100 : List Cond := u_ws RJ10 TJ10 0
theorem nmJ10 : ∀ a, a < 0 → ∀ b, b < 0 → a ≠ b → (TJ10 a).2.1 ≠ (TJ10 b).2.1 := by decide +kernel
theorem tyJ10_ok : ∀ k, k < 0 → parseFieldDescriptor (TJ10 k).2.2.1 = some (tyJ10 k) := by decide +kernel
def RL : String := "FerryQuayLaw"
abbrev cL_law : ByteArray := code
def yL_law : MethodName := ⟨RL, "law", "([I)Z"⟩
def wsX4_init : List Cond := .code yX4_init cX4_init 2 none :: ([.methodLink RX4 3 objectInit, .instanceMethod objectInit, .code objectInit ⟨#[0xb1]⟩ 1 none, .methodLink RX4 9 Lib.Math.max.name, .static Lib.Math.max.name, .initialized "java/lang/Math", .code Lib.Math.max.name Lib.Math.max.code 2 (some .int), .arrayClass .int, .fieldLink RX4 15 "FerryQuay$Row" "weights" "[I"] ++ wsX40)
def wsX1_init : List Cond := .code yX1_init cX1_init 2 none :: ([.methodLink RX1 3 objectInit, .instanceMethod objectInit, .code objectInit ⟨#[0xb1]⟩ 1 none, .fieldLink RX1 9 "FerryQuay$Ferry" "room" "I", .classLink RX1 15 RX4, .instantiable RX4 2, .initialized RX4, .fieldLink RX1 20 "FerryQuay$Ferry" "vehicles" "LFerryQuay$Row;", .methodLink RX1 17 yX4_init, .instanceMethod yX4_init, .code yX4_init cX4_init 2 none, .methodLink RX4 3 objectInit, .methodLink RX4 9 Lib.Math.max.name, .static Lib.Math.max.name, .initialized "java/lang/Math", .code Lib.Math.max.name Lib.Math.max.code 2 (some .int), .arrayClass .int, .fieldLink RX4 15 "FerryQuay$Row" "weights" "[I"] ++ wsX10 ++ wsX40)
def wsX0_init_r1 : List Cond := [Cond.methodLink RX0 3 objectInit, Cond.instanceMethod objectInit, Cond.code objectInit ⟨#[0xb1]⟩ 1 none, Cond.classLink RX0 9 RX4, Cond.instantiable RX4 2, Cond.initialized RX4, Cond.fieldLink RX0 14 "FerryQuay$Berth" "lane" "LFerryQuay$Row;", Cond.classLink RX0 20 RX1, Cond.instantiable RX1 3, Cond.initialized RX1, Cond.fieldLink RX0 23 "FerryQuay$Berth" "ferry" "LFerryQuay$Ferry;", Cond.methodLink RX0 11 yX4_init, Cond.instanceMethod yX4_init, Cond.code yX4_init cX4_init 2 none, Cond.methodLink RX4 3 objectInit, Cond.methodLink RX4 9 Lib.Math.max.name, Cond.static Lib.Math.max.name, Cond.initialized "java/lang/Math", Cond.code Lib.Math.max.name Lib.Math.max.code 2 (some .int), Cond.arrayClass .int, Cond.fieldLink RX4 15 "FerryQuay$Row" "weights" "[I", Cond.methodLink RX0 22 yX1_init, Cond.instanceMethod yX1_init, Cond.code yX1_init cX1_init 2 none]
def wsX0_init_r2 : List Cond := [Cond.methodLink RX1 3 objectInit, Cond.fieldLink RX1 9 "FerryQuay$Ferry" "room" "I", Cond.classLink RX1 15 RX4, Cond.fieldLink RX1 20 "FerryQuay$Ferry" "vehicles" "LFerryQuay$Row;", Cond.methodLink RX1 17 yX4_init]
def wsX0_init : List Cond := .code yX0_init cX0_init 2 none :: ((wsX0_init_r1 ++ wsX0_init_r2) ++ wsX40 ++ wsX00 ++ wsX10)
def wsX0_gateNumber : List Cond := .code yX0_gateNumber cX0_gateNumber 1 (some .int) :: ([.fieldLink RX0 27 "FerryQuay$Berth" "gate" "LFerryQuay$Gate;", .fieldLink RX0 31 "FerryQuay$Gate" "number" "I"] ++ wsX00 ++ wsX20)
def wsX0_rampNumber : List Cond := .code yX0_rampNumber cX0_rampNumber 1 (some .int) :: ([.fieldLink RX0 37 "FerryQuay$Berth" "ramp" "LFerryQuay$Ramp;", .fieldLink RX0 41 "FerryQuay$Ramp" "number" "I"] ++ wsX00 ++ wsX30)
def wsX4_isFull : List Cond := .code yX4_isFull cX4_isFull 1 (some .boolean) :: ([.fieldLink RX4 21 "FerryQuay$Row" "size" "I", .fieldLink RX4 15 "FerryQuay$Row" "weights" "[I"] ++ wsX40)
def wsX1_hasRoomFor : List Cond := .code yX1_hasRoomFor cX1_hasRoomFor 2 (some .boolean) :: ([.fieldLink RX1 20 "FerryQuay$Ferry" "vehicles" "LFerryQuay$Row;", .fieldLink RX1 28 "FerryQuay$Ferry" "load" "I", .fieldLink RX1 9 "FerryQuay$Ferry" "room" "I", .methodLink RX1 24 yX4_isFull, .instanceMethod yX4_isFull, .selects RX4 yX4_isFull yX4_isFull, .initialized RX4, .code yX4_isFull cX4_isFull 1 (some .boolean), .fieldLink RX4 21 "FerryQuay$Row" "size" "I", .fieldLink RX4 15 "FerryQuay$Row" "weights" "[I"] ++ wsX10 ++ wsX40)
def wsX4_addLast : List Cond := .code yX4_addLast cX4_addLast 2 none :: ([.fieldLink RX4 21 "FerryQuay$Row" "size" "I", .fieldLink RX4 15 "FerryQuay$Row" "weights" "[I"] ++ wsX40)
def wsX1_takeAboard : List Cond := .code yX1_takeAboard cX1_takeAboard 2 none :: ([.fieldLink RX1 20 "FerryQuay$Ferry" "vehicles" "LFerryQuay$Row;", .fieldLink RX1 28 "FerryQuay$Ferry" "load" "I", .methodLink RX1 31 yX4_addLast, .instanceMethod yX4_addLast, .selects RX4 yX4_addLast yX4_addLast, .initialized RX4, .code yX4_addLast cX4_addLast 2 none, .fieldLink RX4 21 "FerryQuay$Row" "size" "I", .fieldLink RX4 15 "FerryQuay$Row" "weights" "[I"] ++ wsX10 ++ wsX40)
def wsX4_weightAt : List Cond := .code yX4_weightAt cX4_weightAt 2 (some .int) :: ([.fieldLink RX4 21 "FerryQuay$Row" "size" "I", .fieldLink RX4 15 "FerryQuay$Row" "weights" "[I"] ++ wsX40)
def wsX1_weightOfLast : List Cond := .code yX1_weightOfLast cX1_weightOfLast 1 (some .int) :: ([.fieldLink RX1 20 "FerryQuay$Ferry" "vehicles" "LFerryQuay$Row;", .fieldLink RX1 34 "FerryQuay$Row" "size" "I", .methodLink RX1 37 yX4_weightAt, .instanceMethod yX4_weightAt, .selects RX4 yX4_weightAt yX4_weightAt, .initialized RX4, .code yX4_weightAt cX4_weightAt 2 (some .int), .fieldLink RX4 21 "FerryQuay$Row" "size" "I", .fieldLink RX4 15 "FerryQuay$Row" "weights" "[I"] ++ wsX10 ++ wsX40)
def wsX4_removeLast : List Cond := .code yX4_removeLast cX4_removeLast 1 none :: ([.fieldLink RX4 21 "FerryQuay$Row" "size" "I"] ++ wsX40)
def wsX1_putLastAshore : List Cond := .code yX1_putLastAshore cX1_putLastAshore 1 none :: ([.fieldLink RX1 20 "FerryQuay$Ferry" "vehicles" "LFerryQuay$Row;", .fieldLink RX1 34 "FerryQuay$Row" "size" "I", .fieldLink RX1 28 "FerryQuay$Ferry" "load" "I", .methodLink RX1 41 yX1_weightOfLast, .instanceMethod yX1_weightOfLast, .selects RX1 yX1_weightOfLast yX1_weightOfLast, .initialized RX1, .code yX1_weightOfLast cX1_weightOfLast 1 (some .int), .methodLink RX1 37 yX4_weightAt, .instanceMethod yX4_weightAt, .selects RX4 yX4_weightAt yX4_weightAt, .initialized RX4, .code yX4_weightAt cX4_weightAt 2 (some .int), .fieldLink RX4 21 "FerryQuay$Row" "size" "I", .fieldLink RX4 15 "FerryQuay$Row" "weights" "[I", .methodLink RX1 45 yX4_removeLast, .instanceMethod yX4_removeLast, .selects RX4 yX4_removeLast yX4_removeLast, .code yX4_removeLast cX4_removeLast 1 none] ++ wsX10 ++ wsX40)
def wsX2_init : List Cond := .code yX2_init cX2_init 2 none :: ([.methodLink RX2 1 objectInit, .instanceMethod objectInit, .code objectInit ⟨#[0xb1]⟩ 1 none, .fieldLink RX2 7 "FerryQuay$Gate" "number" "I"] ++ wsX20)
def wsX2_shutAsNumber : List Cond := .code yX2_shutAsNumber cX2_shutAsNumber 1 (some .int) :: ([.fieldLink RX2 13 "FerryQuay$Gate" "isShut" "Z"] ++ wsX20)
def wsX3_init : List Cond := .code yX3_init cX3_init 3 none :: ([.methodLink RX3 1 objectInit, .instanceMethod objectInit, .code objectInit ⟨#[0xb1]⟩ 1 none, .fieldLink RX3 7 "FerryQuay$Ramp" "number" "I", .fieldLink RX3 13 "FerryQuay$Ramp" "limit" "I"] ++ wsX30)
def wsX4_removeFirst : List Cond := .code yX4_removeFirst cX4_removeFirst 1 none :: ([.fieldLink RX4 21 "FerryQuay$Row" "size" "I", .fieldLink RX4 15 "FerryQuay$Row" "weights" "[I", .methodLink RX4 25 arraycopyName, .native arraycopyName, .static arraycopyName, .initialized "java/lang/System"] ++ wsX40)
def wsX5_init : List Cond := .code yX5_init cX5_init 1 none :: ([.methodLink RX5 1 objectInit, .instanceMethod objectInit, .code objectInit ⟨#[0xb1]⟩ 1 none, .classLink RX5 9 RX2, .fieldLink RX5 11 "FerryQuay" "gates" "[LFerryQuay$Gate;", .classLink RX5 15 RX3, .fieldLink RX5 17 "FerryQuay" "ramps" "[LFerryQuay$Ramp;", .classLink RX5 21 RX0, .fieldLink RX5 23 "FerryQuay" "berths" "[LFerryQuay$Berth;"] ++ wsX50)
def wsX5_gate : List Cond := .code yX5_gate cX5_gate 2 (some .int) :: ([.fieldLink RX5 27 "FerryQuay" "gateCount" "I", .fieldLink RX5 11 "FerryQuay" "gates" "[LFerryQuay$Gate;", .classLink RX5 9 RX2, .instantiable RX2 4, .initialized RX2, .methodLink RX5 31 yX2_init, .instanceMethod yX2_init, .code yX2_init cX2_init 2 none, .methodLink RX2 1 objectInit, .instanceMethod objectInit, .code objectInit ⟨#[0xb1]⟩ 1 none, .fieldLink RX2 7 "FerryQuay$Gate" "number" "I"] ++ wsX50 ++ wsX20)
def wsX5_isWithin : List Cond := .code yX5_isWithin cX5_isWithin 3 (some .boolean) :: ([])
def wsX5_ramp : List Cond := .code yX5_ramp cX5_ramp 3 (some .int) :: ([.fieldLink RX5 38 "FerryQuay" "rampCount" "I", .fieldLink RX5 17 "FerryQuay" "ramps" "[LFerryQuay$Ramp;", .classLink RX5 15 RX3, .instantiable RX3 4, .initialized RX3, .methodLink RX5 34 yX5_isWithin, .static yX5_isWithin, .initialized RX5, .code yX5_isWithin cX5_isWithin 3 (some .boolean), .methodLink RX5 41 yX3_init, .instanceMethod yX3_init, .code yX3_init cX3_init 3 none, .methodLink RX3 1 objectInit, .instanceMethod objectInit, .code objectInit ⟨#[0xb1]⟩ 1 none, .fieldLink RX3 7 "FerryQuay$Ramp" "number" "I", .fieldLink RX3 13 "FerryQuay$Ramp" "limit" "I"] ++ wsX50 ++ wsX30)
def wsX5_berth_r1 : List Cond := [Cond.fieldLink RX5 44 "FerryQuay" "berthCount" "I", Cond.fieldLink RX5 23 "FerryQuay" "berths" "[LFerryQuay$Berth;", Cond.classLink RX5 21 RX0, Cond.instantiable RX0 4, Cond.initialized RX0, Cond.methodLink RX5 34 yX5_isWithin, Cond.static yX5_isWithin, Cond.initialized RX5, Cond.code yX5_isWithin cX5_isWithin 3 (some .boolean), Cond.methodLink RX5 47 yX0_init, Cond.instanceMethod yX0_init, Cond.code yX0_init cX0_init 2 none, Cond.methodLink RX0 3 objectInit, Cond.instanceMethod objectInit, Cond.code objectInit ⟨#[0xb1]⟩ 1 none, Cond.classLink RX0 9 RX4, Cond.instantiable RX4 2, Cond.initialized RX4, Cond.fieldLink RX0 14 "FerryQuay$Berth" "lane" "LFerryQuay$Row;", Cond.classLink RX0 20 RX1, Cond.instantiable RX1 3, Cond.initialized RX1, Cond.fieldLink RX0 23 "FerryQuay$Berth" "ferry" "LFerryQuay$Ferry;", Cond.methodLink RX0 11 yX4_init]
def wsX5_berth_r2 : List Cond := [Cond.instanceMethod yX4_init, Cond.code yX4_init cX4_init 2 none, Cond.methodLink RX4 3 objectInit, Cond.methodLink RX4 9 Lib.Math.max.name, Cond.static Lib.Math.max.name, Cond.initialized "java/lang/Math", Cond.code Lib.Math.max.name Lib.Math.max.code 2 (some .int), Cond.arrayClass .int, Cond.fieldLink RX4 15 "FerryQuay$Row" "weights" "[I", Cond.methodLink RX0 22 yX1_init, Cond.instanceMethod yX1_init, Cond.code yX1_init cX1_init 2 none, Cond.methodLink RX1 3 objectInit, Cond.fieldLink RX1 9 "FerryQuay$Ferry" "room" "I", Cond.classLink RX1 15 RX4, Cond.fieldLink RX1 20 "FerryQuay$Ferry" "vehicles" "LFerryQuay$Row;", Cond.methodLink RX1 17 yX4_init]
def wsX5_berth : List Cond := .code yX5_berth cX5_berth 3 (some .int) :: ((wsX5_berth_r1 ++ wsX5_berth_r2) ++ wsX50 ++ wsX00 ++ wsX40 ++ wsX10)
def wsX5_berthAt : List Cond := .code yX5_berthAt cX5_berthAt 2 (some (.object "FerryQuay$Berth")) :: ([.fieldLink RX5 44 "FerryQuay" "berthCount" "I", .fieldLink RX5 23 "FerryQuay" "berths" "[LFerryQuay$Berth;"] ++ wsX50)
def wsX5_gateAt : List Cond := .code yX5_gateAt cX5_gateAt 2 (some (.object "FerryQuay$Gate")) :: ([.fieldLink RX5 27 "FerryQuay" "gateCount" "I", .fieldLink RX5 11 "FerryQuay" "gates" "[LFerryQuay$Gate;"] ++ wsX50)
def wsX5_hinge : List Cond := .code yX5_hinge cX5_hinge 6 (some .int) :: ([.fieldLink RX5 60 "FerryQuay$Berth" "gate" "LFerryQuay$Gate;", .methodLink RX5 48 yX5_berthAt, .instanceMethod yX5_berthAt, .selects RX5 yX5_berthAt yX5_berthAt, .initialized RX5, .code yX5_berthAt cX5_berthAt 2 (some (.object "FerryQuay$Berth")), .fieldLink RX5 44 "FerryQuay" "berthCount" "I", .fieldLink RX5 23 "FerryQuay" "berths" "[LFerryQuay$Berth;", .methodLink RX5 52 yX5_gateAt, .instanceMethod yX5_gateAt, .selects RX5 yX5_gateAt yX5_gateAt, .code yX5_gateAt cX5_gateAt 2 (some (.object "FerryQuay$Gate")), .fieldLink RX5 27 "FerryQuay" "gateCount" "I", .fieldLink RX5 11 "FerryQuay" "gates" "[LFerryQuay$Gate;", .methodLink RX5 56 yX0_gateNumber, .instanceMethod yX0_gateNumber, .selects RX0 yX0_gateNumber yX0_gateNumber, .initialized RX0, .code yX0_gateNumber cX0_gateNumber 1 (some .int), .fieldLink RX0 27 "FerryQuay$Berth" "gate" "LFerryQuay$Gate;", .fieldLink RX0 31 "FerryQuay$Gate" "number" "I"] ++ wsX00 ++ wsX50 ++ wsX20)
def wsX5_rampAt : List Cond := .code yX5_rampAt cX5_rampAt 2 (some (.object "FerryQuay$Ramp")) :: ([.fieldLink RX5 38 "FerryQuay" "rampCount" "I", .fieldLink RX5 17 "FerryQuay" "ramps" "[LFerryQuay$Ramp;"] ++ wsX50)
def wsX5_lay : List Cond := .code yX5_lay cX5_lay 6 (some .int) :: ([.fieldLink RX5 71 "FerryQuay$Berth" "ramp" "LFerryQuay$Ramp;", .methodLink RX5 48 yX5_berthAt, .instanceMethod yX5_berthAt, .selects RX5 yX5_berthAt yX5_berthAt, .initialized RX5, .code yX5_berthAt cX5_berthAt 2 (some (.object "FerryQuay$Berth")), .fieldLink RX5 44 "FerryQuay" "berthCount" "I", .fieldLink RX5 23 "FerryQuay" "berths" "[LFerryQuay$Berth;", .methodLink RX5 64 yX5_rampAt, .instanceMethod yX5_rampAt, .selects RX5 yX5_rampAt yX5_rampAt, .code yX5_rampAt cX5_rampAt 2 (some (.object "FerryQuay$Ramp")), .fieldLink RX5 38 "FerryQuay" "rampCount" "I", .fieldLink RX5 17 "FerryQuay" "ramps" "[LFerryQuay$Ramp;", .methodLink RX5 68 yX0_rampNumber, .instanceMethod yX0_rampNumber, .selects RX0 yX0_rampNumber yX0_rampNumber, .initialized RX0, .code yX0_rampNumber cX0_rampNumber 1 (some .int), .fieldLink RX0 37 "FerryQuay$Berth" "ramp" "LFerryQuay$Ramp;", .fieldLink RX0 41 "FerryQuay$Ramp" "number" "I"] ++ wsX00 ++ wsX50 ++ wsX30)
def wsX5_shut : List Cond := .code yX5_shut cX5_shut 5 (some .int) :: ([.fieldLink RX5 78 "FerryQuay$Gate" "isShut" "Z", .methodLink RX5 52 yX5_gateAt, .instanceMethod yX5_gateAt, .selects RX5 yX5_gateAt yX5_gateAt, .initialized RX5, .code yX5_gateAt cX5_gateAt 2 (some (.object "FerryQuay$Gate")), .fieldLink RX5 27 "FerryQuay" "gateCount" "I", .fieldLink RX5 11 "FerryQuay" "gates" "[LFerryQuay$Gate;", .methodLink RX5 75 yX2_shutAsNumber, .instanceMethod yX2_shutAsNumber, .selects RX2 yX2_shutAsNumber yX2_shutAsNumber, .initialized RX2, .code yX2_shutAsNumber cX2_shutAsNumber 1 (some .int), .fieldLink RX2 13 "FerryQuay$Gate" "isShut" "Z"] ++ wsX20 ++ wsX50)
def wsX5_arrive : List Cond := .code yX5_arrive cX5_arrive 4 (some .int) :: ([.fieldLink RX5 82 "FerryQuay$Berth" "lane" "LFerryQuay$Row;", .fieldLink RX5 95 "FerryQuay" "arrived" "I", .fieldLink RX5 98 "FerryQuay$Row" "size" "I", .methodLink RX5 48 yX5_berthAt, .instanceMethod yX5_berthAt, .selects RX5 yX5_berthAt yX5_berthAt, .initialized RX5, .code yX5_berthAt cX5_berthAt 2 (some (.object "FerryQuay$Berth")), .fieldLink RX5 44 "FerryQuay" "berthCount" "I", .fieldLink RX5 23 "FerryQuay" "berths" "[LFerryQuay$Berth;", .methodLink RX5 34 yX5_isWithin, .static yX5_isWithin, .code yX5_isWithin cX5_isWithin 3 (some .boolean), .methodLink RX5 86 yX4_isFull, .instanceMethod yX4_isFull, .selects RX4 yX4_isFull yX4_isFull, .initialized RX4, .code yX4_isFull cX4_isFull 1 (some .boolean), .fieldLink RX4 21 "FerryQuay$Row" "size" "I", .fieldLink RX4 15 "FerryQuay$Row" "weights" "[I", .methodLink RX5 92 yX4_addLast, .instanceMethod yX4_addLast, .selects RX4 yX4_addLast yX4_addLast, .code yX4_addLast cX4_addLast 2 none] ++ wsX00 ++ wsX50 ++ wsX40)
def wsX5_alarm : List Cond := .code yX5_alarm cX5_alarm 2 (some .int) :: ([.fieldLink RX5 170 "FerryQuay" "alarms" "I"] ++ wsX50)
def wsX5_boardThrough_r1 : List Cond := [Cond.fieldLink RX5 82 "FerryQuay$Berth" "lane" "LFerryQuay$Row;", Cond.fieldLink RX5 71 "FerryQuay$Berth" "ramp" "LFerryQuay$Ramp;", Cond.fieldLink RX5 98 "FerryQuay$Row" "size" "I", Cond.fieldLink RX5 108 "FerryQuay$Ramp" "taken" "I", Cond.fieldLink RX5 116 "FerryQuay" "towed" "I", Cond.fieldLink RX5 122 "FerryQuay$Ramp" "limit" "I", Cond.fieldLink RX5 125 "FerryQuay$Berth" "ferry" "LFerryQuay$Ferry;", Cond.fieldLink RX5 138 "FerryQuay$Gate" "passed" "I", Cond.fieldLink RX5 141 "FerryQuay$Ramp" "wear" "I", Cond.methodLink RX5 109 yX4_weightAt, Cond.instanceMethod yX4_weightAt, Cond.selects RX4 yX4_weightAt yX4_weightAt, Cond.initialized RX4, Cond.code yX4_weightAt cX4_weightAt 2 (some .int), Cond.fieldLink RX4 21 "FerryQuay$Row" "size" "I", Cond.fieldLink RX4 15 "FerryQuay$Row" "weights" "[I", Cond.methodLink RX5 113 yX4_removeFirst, Cond.instanceMethod yX4_removeFirst, Cond.selects RX4 yX4_removeFirst yX4_removeFirst, Cond.code yX4_removeFirst cX4_removeFirst 1 none, Cond.methodLink RX4 25 arraycopyName, Cond.native arraycopyName, Cond.static arraycopyName, Cond.initialized "java/lang/System"]
def wsX5_boardThrough_r2 : List Cond := [Cond.methodLink RX5 119 yX5_alarm, Cond.instanceMethod yX5_alarm, Cond.selects RX5 yX5_alarm yX5_alarm, Cond.initialized RX5, Cond.code yX5_alarm cX5_alarm 2 (some .int), Cond.fieldLink RX5 170 "FerryQuay" "alarms" "I", Cond.methodLink RX5 92 yX4_addLast, Cond.instanceMethod yX4_addLast, Cond.selects RX4 yX4_addLast yX4_addLast, Cond.code yX4_addLast cX4_addLast 2 none, Cond.methodLink RX5 129 yX1_hasRoomFor, Cond.instanceMethod yX1_hasRoomFor, Cond.selects RX1 yX1_hasRoomFor yX1_hasRoomFor, Cond.initialized RX1, Cond.code yX1_hasRoomFor cX1_hasRoomFor 2 (some .boolean), Cond.fieldLink RX1 20 "FerryQuay$Ferry" "vehicles" "LFerryQuay$Row;", Cond.fieldLink RX1 28 "FerryQuay$Ferry" "load" "I", Cond.fieldLink RX1 9 "FerryQuay$Ferry" "room" "I", Cond.methodLink RX1 24 yX4_isFull, Cond.instanceMethod yX4_isFull, Cond.selects RX4 yX4_isFull yX4_isFull, Cond.code yX4_isFull cX4_isFull 1 (some .boolean), Cond.methodLink RX5 135 yX1_takeAboard, Cond.instanceMethod yX1_takeAboard]
def wsX5_boardThrough_r3 : List Cond := [Cond.selects RX1 yX1_takeAboard yX1_takeAboard, Cond.code yX1_takeAboard cX1_takeAboard 2 none, Cond.methodLink RX1 31 yX4_addLast]
def wsX5_boardThrough : List Cond := .code yX5_boardThrough cX5_boardThrough 10 (some .int) :: ((wsX5_boardThrough_r1 ++ (wsX5_boardThrough_r2 ++ wsX5_boardThrough_r3)) ++ wsX00 ++ wsX40 ++ wsX30 ++ wsX50 ++ wsX20 ++ wsX10)
def wsX5_board_r1 : List Cond := [Cond.fieldLink RX5 60 "FerryQuay$Berth" "gate" "LFerryQuay$Gate;", Cond.fieldLink RX5 101 "FerryQuay$Gate" "taken" "I", Cond.fieldLink RX5 78 "FerryQuay$Gate" "isShut" "Z", Cond.methodLink RX5 48 yX5_berthAt, Cond.instanceMethod yX5_berthAt, Cond.selects RX5 yX5_berthAt yX5_berthAt, Cond.initialized RX5, Cond.code yX5_berthAt cX5_berthAt 2 (some (.object "FerryQuay$Berth")), Cond.fieldLink RX5 44 "FerryQuay" "berthCount" "I", Cond.fieldLink RX5 23 "FerryQuay" "berths" "[LFerryQuay$Berth;", Cond.methodLink RX5 34 yX5_isWithin, Cond.static yX5_isWithin, Cond.code yX5_isWithin cX5_isWithin 3 (some .boolean), Cond.methodLink RX5 104 yX5_boardThrough, Cond.instanceMethod yX5_boardThrough, Cond.selects RX5 yX5_boardThrough yX5_boardThrough, Cond.code yX5_boardThrough cX5_boardThrough 10 (some .int), Cond.fieldLink RX5 82 "FerryQuay$Berth" "lane" "LFerryQuay$Row;", Cond.fieldLink RX5 71 "FerryQuay$Berth" "ramp" "LFerryQuay$Ramp;", Cond.fieldLink RX5 98 "FerryQuay$Row" "size" "I", Cond.fieldLink RX5 108 "FerryQuay$Ramp" "taken" "I", Cond.fieldLink RX5 116 "FerryQuay" "towed" "I", Cond.fieldLink RX5 122 "FerryQuay$Ramp" "limit" "I", Cond.fieldLink RX5 125 "FerryQuay$Berth" "ferry" "LFerryQuay$Ferry;"]
def wsX5_board_r2 : List Cond := [Cond.fieldLink RX5 138 "FerryQuay$Gate" "passed" "I", Cond.fieldLink RX5 141 "FerryQuay$Ramp" "wear" "I", Cond.methodLink RX5 109 yX4_weightAt, Cond.instanceMethod yX4_weightAt, Cond.selects RX4 yX4_weightAt yX4_weightAt, Cond.initialized RX4, Cond.code yX4_weightAt cX4_weightAt 2 (some .int), Cond.fieldLink RX4 21 "FerryQuay$Row" "size" "I", Cond.fieldLink RX4 15 "FerryQuay$Row" "weights" "[I", Cond.methodLink RX5 113 yX4_removeFirst, Cond.instanceMethod yX4_removeFirst, Cond.selects RX4 yX4_removeFirst yX4_removeFirst, Cond.code yX4_removeFirst cX4_removeFirst 1 none, Cond.methodLink RX4 25 arraycopyName, Cond.native arraycopyName, Cond.static arraycopyName, Cond.initialized "java/lang/System", Cond.methodLink RX5 119 yX5_alarm, Cond.instanceMethod yX5_alarm, Cond.selects RX5 yX5_alarm yX5_alarm, Cond.code yX5_alarm cX5_alarm 2 (some .int), Cond.fieldLink RX5 170 "FerryQuay" "alarms" "I", Cond.methodLink RX5 92 yX4_addLast, Cond.instanceMethod yX4_addLast]
def wsX5_board_r3 : List Cond := [Cond.selects RX4 yX4_addLast yX4_addLast, Cond.code yX4_addLast cX4_addLast 2 none, Cond.methodLink RX5 129 yX1_hasRoomFor, Cond.instanceMethod yX1_hasRoomFor, Cond.selects RX1 yX1_hasRoomFor yX1_hasRoomFor, Cond.initialized RX1, Cond.code yX1_hasRoomFor cX1_hasRoomFor 2 (some .boolean), Cond.fieldLink RX1 20 "FerryQuay$Ferry" "vehicles" "LFerryQuay$Row;", Cond.fieldLink RX1 28 "FerryQuay$Ferry" "load" "I", Cond.fieldLink RX1 9 "FerryQuay$Ferry" "room" "I", Cond.methodLink RX1 24 yX4_isFull, Cond.instanceMethod yX4_isFull, Cond.selects RX4 yX4_isFull yX4_isFull, Cond.code yX4_isFull cX4_isFull 1 (some .boolean), Cond.methodLink RX5 135 yX1_takeAboard, Cond.instanceMethod yX1_takeAboard, Cond.selects RX1 yX1_takeAboard yX1_takeAboard, Cond.code yX1_takeAboard cX1_takeAboard 2 none, Cond.methodLink RX1 31 yX4_addLast]
def wsX5_board : List Cond := .code yX5_board cX5_board 5 (some .int) :: ((wsX5_board_r1 ++ (wsX5_board_r2 ++ wsX5_board_r3)) ++ wsX00 ++ wsX20 ++ wsX50 ++ wsX40 ++ wsX30 ++ wsX10)
def wsX5_landOver_r1 : List Cond := [Cond.fieldLink RX5 125 "FerryQuay$Berth" "ferry" "LFerryQuay$Ferry;", Cond.fieldLink RX5 60 "FerryQuay$Berth" "gate" "LFerryQuay$Gate;", Cond.fieldLink RX5 148 "FerryQuay$Ferry" "vehicles" "LFerryQuay$Row;", Cond.fieldLink RX5 98 "FerryQuay$Row" "size" "I", Cond.fieldLink RX5 101 "FerryQuay$Gate" "taken" "I", Cond.fieldLink RX5 78 "FerryQuay$Gate" "isShut" "Z", Cond.fieldLink RX5 122 "FerryQuay$Ramp" "limit" "I", Cond.fieldLink RX5 157 "FerryQuay" "gone" "I", Cond.fieldLink RX5 138 "FerryQuay$Gate" "passed" "I", Cond.fieldLink RX5 141 "FerryQuay$Ramp" "wear" "I", Cond.methodLink RX5 151 yX1_weightOfLast, Cond.instanceMethod yX1_weightOfLast, Cond.selects RX1 yX1_weightOfLast yX1_weightOfLast, Cond.initialized RX1, Cond.code yX1_weightOfLast cX1_weightOfLast 1 (some .int), Cond.fieldLink RX1 20 "FerryQuay$Ferry" "vehicles" "LFerryQuay$Row;", Cond.fieldLink RX1 34 "FerryQuay$Row" "size" "I", Cond.methodLink RX1 37 yX4_weightAt, Cond.instanceMethod yX4_weightAt, Cond.selects RX4 yX4_weightAt yX4_weightAt, Cond.initialized RX4, Cond.code yX4_weightAt cX4_weightAt 2 (some .int), Cond.fieldLink RX4 21 "FerryQuay$Row" "size" "I", Cond.fieldLink RX4 15 "FerryQuay$Row" "weights" "[I"]
def wsX5_landOver_r2 : List Cond := [Cond.methodLink RX5 119 yX5_alarm, Cond.instanceMethod yX5_alarm, Cond.selects RX5 yX5_alarm yX5_alarm, Cond.initialized RX5, Cond.code yX5_alarm cX5_alarm 2 (some .int), Cond.fieldLink RX5 170 "FerryQuay" "alarms" "I", Cond.methodLink RX5 154 yX1_putLastAshore, Cond.instanceMethod yX1_putLastAshore, Cond.selects RX1 yX1_putLastAshore yX1_putLastAshore, Cond.code yX1_putLastAshore cX1_putLastAshore 1 none, Cond.fieldLink RX1 28 "FerryQuay$Ferry" "load" "I", Cond.methodLink RX1 41 yX1_weightOfLast, Cond.methodLink RX1 45 yX4_removeLast, Cond.instanceMethod yX4_removeLast, Cond.selects RX4 yX4_removeLast yX4_removeLast, Cond.code yX4_removeLast cX4_removeLast 1 none]
def wsX5_landOver : List Cond := .code yX5_landOver cX5_landOver 8 (some .int) :: ((wsX5_landOver_r1 ++ wsX5_landOver_r2) ++ wsX00 ++ wsX10 ++ wsX40 ++ wsX20 ++ wsX30 ++ wsX50)
def wsX5_land_r1 : List Cond := [Cond.fieldLink RX5 71 "FerryQuay$Berth" "ramp" "LFerryQuay$Ramp;", Cond.fieldLink RX5 108 "FerryQuay$Ramp" "taken" "I", Cond.methodLink RX5 48 yX5_berthAt, Cond.instanceMethod yX5_berthAt, Cond.selects RX5 yX5_berthAt yX5_berthAt, Cond.initialized RX5, Cond.code yX5_berthAt cX5_berthAt 2 (some (.object "FerryQuay$Berth")), Cond.fieldLink RX5 44 "FerryQuay" "berthCount" "I", Cond.fieldLink RX5 23 "FerryQuay" "berths" "[LFerryQuay$Berth;", Cond.methodLink RX5 34 yX5_isWithin, Cond.static yX5_isWithin, Cond.code yX5_isWithin cX5_isWithin 3 (some .boolean), Cond.methodLink RX5 144 yX5_landOver, Cond.instanceMethod yX5_landOver, Cond.selects RX5 yX5_landOver yX5_landOver, Cond.code yX5_landOver cX5_landOver 8 (some .int), Cond.fieldLink RX5 125 "FerryQuay$Berth" "ferry" "LFerryQuay$Ferry;", Cond.fieldLink RX5 60 "FerryQuay$Berth" "gate" "LFerryQuay$Gate;", Cond.fieldLink RX5 148 "FerryQuay$Ferry" "vehicles" "LFerryQuay$Row;", Cond.fieldLink RX5 98 "FerryQuay$Row" "size" "I", Cond.fieldLink RX5 101 "FerryQuay$Gate" "taken" "I", Cond.fieldLink RX5 78 "FerryQuay$Gate" "isShut" "Z", Cond.fieldLink RX5 122 "FerryQuay$Ramp" "limit" "I", Cond.fieldLink RX5 157 "FerryQuay" "gone" "I"]
def wsX5_land_r2 : List Cond := [Cond.fieldLink RX5 138 "FerryQuay$Gate" "passed" "I", Cond.fieldLink RX5 141 "FerryQuay$Ramp" "wear" "I", Cond.methodLink RX5 151 yX1_weightOfLast, Cond.instanceMethod yX1_weightOfLast, Cond.selects RX1 yX1_weightOfLast yX1_weightOfLast, Cond.initialized RX1, Cond.code yX1_weightOfLast cX1_weightOfLast 1 (some .int), Cond.fieldLink RX1 20 "FerryQuay$Ferry" "vehicles" "LFerryQuay$Row;", Cond.fieldLink RX1 34 "FerryQuay$Row" "size" "I", Cond.methodLink RX1 37 yX4_weightAt, Cond.instanceMethod yX4_weightAt, Cond.selects RX4 yX4_weightAt yX4_weightAt, Cond.initialized RX4, Cond.code yX4_weightAt cX4_weightAt 2 (some .int), Cond.fieldLink RX4 21 "FerryQuay$Row" "size" "I", Cond.fieldLink RX4 15 "FerryQuay$Row" "weights" "[I", Cond.methodLink RX5 119 yX5_alarm, Cond.instanceMethod yX5_alarm, Cond.selects RX5 yX5_alarm yX5_alarm, Cond.code yX5_alarm cX5_alarm 2 (some .int), Cond.fieldLink RX5 170 "FerryQuay" "alarms" "I", Cond.methodLink RX5 154 yX1_putLastAshore, Cond.instanceMethod yX1_putLastAshore, Cond.selects RX1 yX1_putLastAshore yX1_putLastAshore]
def wsX5_land_r3 : List Cond := [Cond.code yX1_putLastAshore cX1_putLastAshore 1 none, Cond.fieldLink RX1 28 "FerryQuay$Ferry" "load" "I", Cond.methodLink RX1 41 yX1_weightOfLast, Cond.methodLink RX1 45 yX4_removeLast, Cond.instanceMethod yX4_removeLast, Cond.selects RX4 yX4_removeLast yX4_removeLast, Cond.code yX4_removeLast cX4_removeLast 1 none]
def wsX5_land : List Cond := .code yX5_land cX5_land 5 (some .int) :: ((wsX5_land_r1 ++ (wsX5_land_r2 ++ wsX5_land_r3)) ++ wsX00 ++ wsX30 ++ wsX50 ++ wsX10 ++ wsX40 ++ wsX20)
def wsX5_swap : List Cond := .code yX5_swap cX5_swap 8 (some .int) :: ([.fieldLink RX5 60 "FerryQuay$Berth" "gate" "LFerryQuay$Gate;", .fieldLink RX5 101 "FerryQuay$Gate" "taken" "I", .fieldLink RX5 78 "FerryQuay$Gate" "isShut" "Z", .fieldLink RX5 125 "FerryQuay$Berth" "ferry" "LFerryQuay$Ferry;", .fieldLink RX5 160 "FerryQuay$Ferry" "load" "I", .methodLink RX5 48 yX5_berthAt, .instanceMethod yX5_berthAt, .selects RX5 yX5_berthAt yX5_berthAt, .initialized RX5, .code yX5_berthAt cX5_berthAt 2 (some (.object "FerryQuay$Berth")), .fieldLink RX5 44 "FerryQuay" "berthCount" "I", .fieldLink RX5 23 "FerryQuay" "berths" "[LFerryQuay$Berth;"] ++ wsX00 ++ wsX20 ++ wsX10 ++ wsX50)
def wsX5_round : List Cond := .code yX5_round cX5_round 7 (some .int) :: ([.fieldLink RX5 60 "FerryQuay$Berth" "gate" "LFerryQuay$Gate;", .fieldLink RX5 101 "FerryQuay$Gate" "taken" "I", .fieldLink RX5 78 "FerryQuay$Gate" "isShut" "Z", .fieldLink RX5 125 "FerryQuay$Berth" "ferry" "LFerryQuay$Ferry;", .fieldLink RX5 160 "FerryQuay$Ferry" "load" "I", .methodLink RX5 48 yX5_berthAt, .instanceMethod yX5_berthAt, .selects RX5 yX5_berthAt yX5_berthAt, .initialized RX5, .code yX5_berthAt cX5_berthAt 2 (some (.object "FerryQuay$Berth")), .fieldLink RX5 44 "FerryQuay" "berthCount" "I", .fieldLink RX5 23 "FerryQuay" "berths" "[LFerryQuay$Berth;", .methodLink RX5 34 yX5_isWithin, .static yX5_isWithin, .code yX5_isWithin cX5_isWithin 3 (some .boolean), .methodLink RX5 119 yX5_alarm, .instanceMethod yX5_alarm, .selects RX5 yX5_alarm yX5_alarm, .code yX5_alarm cX5_alarm 2 (some .int), .fieldLink RX5 170 "FerryQuay" "alarms" "I"] ++ wsX00 ++ wsX20 ++ wsX10 ++ wsX50)
def wsX5_tend : List Cond := .code yX5_tend cX5_tend 4 (some .int) :: ([.fieldLink RX5 108 "FerryQuay$Ramp" "taken" "I", .fieldLink RX5 141 "FerryQuay$Ramp" "wear" "I", .methodLink RX5 64 yX5_rampAt, .instanceMethod yX5_rampAt, .selects RX5 yX5_rampAt yX5_rampAt, .initialized RX5, .code yX5_rampAt cX5_rampAt 2 (some (.object "FerryQuay$Ramp")), .fieldLink RX5 38 "FerryQuay" "rampCount" "I", .fieldLink RX5 17 "FerryQuay" "ramps" "[LFerryQuay$Ramp;", .methodLink RX5 119 yX5_alarm, .instanceMethod yX5_alarm, .selects RX5 yX5_alarm yX5_alarm, .code yX5_alarm cX5_alarm 2 (some .int), .fieldLink RX5 170 "FerryQuay" "alarms" "I"] ++ wsX30 ++ wsX50)
def wsX5_shiftThrough_r1 : List Cond := [Cond.fieldLink RX5 60 "FerryQuay$Berth" "gate" "LFerryQuay$Gate;", Cond.fieldLink RX5 101 "FerryQuay$Gate" "taken" "I", Cond.fieldLink RX5 78 "FerryQuay$Gate" "isShut" "Z", Cond.fieldLink RX5 82 "FerryQuay$Berth" "lane" "LFerryQuay$Row;", Cond.fieldLink RX5 98 "FerryQuay$Row" "size" "I", Cond.fieldLink RX5 138 "FerryQuay$Gate" "passed" "I", Cond.methodLink RX5 86 yX4_isFull, Cond.instanceMethod yX4_isFull, Cond.selects RX4 yX4_isFull yX4_isFull, Cond.initialized RX4, Cond.code yX4_isFull cX4_isFull 1 (some .boolean), Cond.fieldLink RX4 21 "FerryQuay$Row" "size" "I", Cond.fieldLink RX4 15 "FerryQuay$Row" "weights" "[I", Cond.methodLink RX5 109 yX4_weightAt, Cond.instanceMethod yX4_weightAt, Cond.selects RX4 yX4_weightAt yX4_weightAt, Cond.code yX4_weightAt cX4_weightAt 2 (some .int), Cond.methodLink RX5 92 yX4_addLast, Cond.instanceMethod yX4_addLast, Cond.selects RX4 yX4_addLast yX4_addLast, Cond.code yX4_addLast cX4_addLast 2 none, Cond.methodLink RX5 113 yX4_removeFirst, Cond.instanceMethod yX4_removeFirst, Cond.selects RX4 yX4_removeFirst yX4_removeFirst]
def wsX5_shiftThrough_r2 : List Cond := [Cond.code yX4_removeFirst cX4_removeFirst 1 none, Cond.methodLink RX4 25 arraycopyName, Cond.native arraycopyName, Cond.static arraycopyName, Cond.initialized "java/lang/System"]
def wsX5_shiftThrough : List Cond := .code yX5_shiftThrough cX5_shiftThrough 7 (some .int) :: ((wsX5_shiftThrough_r1 ++ wsX5_shiftThrough_r2) ++ wsX00 ++ wsX20 ++ wsX40)
def wsX5_shift_r1 : List Cond := [Cond.fieldLink RX5 60 "FerryQuay$Berth" "gate" "LFerryQuay$Gate;", Cond.fieldLink RX5 101 "FerryQuay$Gate" "taken" "I", Cond.fieldLink RX5 78 "FerryQuay$Gate" "isShut" "Z", Cond.fieldLink RX5 82 "FerryQuay$Berth" "lane" "LFerryQuay$Row;", Cond.methodLink RX5 48 yX5_berthAt, Cond.instanceMethod yX5_berthAt, Cond.selects RX5 yX5_berthAt yX5_berthAt, Cond.initialized RX5, Cond.code yX5_berthAt cX5_berthAt 2 (some (.object "FerryQuay$Berth")), Cond.fieldLink RX5 44 "FerryQuay" "berthCount" "I", Cond.fieldLink RX5 23 "FerryQuay" "berths" "[LFerryQuay$Berth;", Cond.methodLink RX5 34 yX5_isWithin, Cond.static yX5_isWithin, Cond.code yX5_isWithin cX5_isWithin 3 (some .boolean), Cond.methodLink RX5 163 yX5_shiftThrough, Cond.instanceMethod yX5_shiftThrough, Cond.selects RX5 yX5_shiftThrough yX5_shiftThrough, Cond.code yX5_shiftThrough cX5_shiftThrough 7 (some .int), Cond.fieldLink RX5 98 "FerryQuay$Row" "size" "I", Cond.fieldLink RX5 138 "FerryQuay$Gate" "passed" "I", Cond.methodLink RX5 86 yX4_isFull, Cond.instanceMethod yX4_isFull, Cond.selects RX4 yX4_isFull yX4_isFull, Cond.initialized RX4]
def wsX5_shift_r2 : List Cond := [Cond.code yX4_isFull cX4_isFull 1 (some .boolean), Cond.fieldLink RX4 21 "FerryQuay$Row" "size" "I", Cond.fieldLink RX4 15 "FerryQuay$Row" "weights" "[I", Cond.methodLink RX5 109 yX4_weightAt, Cond.instanceMethod yX4_weightAt, Cond.selects RX4 yX4_weightAt yX4_weightAt, Cond.code yX4_weightAt cX4_weightAt 2 (some .int), Cond.methodLink RX5 92 yX4_addLast, Cond.instanceMethod yX4_addLast, Cond.selects RX4 yX4_addLast yX4_addLast, Cond.code yX4_addLast cX4_addLast 2 none, Cond.methodLink RX5 113 yX4_removeFirst, Cond.instanceMethod yX4_removeFirst, Cond.selects RX4 yX4_removeFirst yX4_removeFirst, Cond.code yX4_removeFirst cX4_removeFirst 1 none, Cond.methodLink RX4 25 arraycopyName, Cond.native arraycopyName, Cond.static arraycopyName, Cond.initialized "java/lang/System"]
def wsX5_shift : List Cond := .code yX5_shift cX5_shift 7 (some .int) :: ((wsX5_shift_r1 ++ wsX5_shift_r2) ++ wsX00 ++ wsX20 ++ wsX50 ++ wsX40)
def wsX5_state_r1 : List Cond := [Cond.fieldLink RX5 82 "FerryQuay$Berth" "lane" "LFerryQuay$Row;", Cond.fieldLink RX5 98 "FerryQuay$Row" "size" "I", Cond.fieldLink RX5 125 "FerryQuay$Berth" "ferry" "LFerryQuay$Ferry;", Cond.fieldLink RX5 148 "FerryQuay$Ferry" "vehicles" "LFerryQuay$Row;", Cond.fieldLink RX5 160 "FerryQuay$Ferry" "load" "I", Cond.fieldLink RX5 167 "FerryQuay$Ferry" "room" "I", Cond.methodLink RX5 48 yX5_berthAt, Cond.instanceMethod yX5_berthAt, Cond.selects RX5 yX5_berthAt yX5_berthAt, Cond.initialized RX5, Cond.code yX5_berthAt cX5_berthAt 2 (some (.object "FerryQuay$Berth")), Cond.fieldLink RX5 44 "FerryQuay" "berthCount" "I", Cond.fieldLink RX5 23 "FerryQuay" "berths" "[LFerryQuay$Berth;", Cond.methodLink RX5 56 yX0_gateNumber, Cond.instanceMethod yX0_gateNumber, Cond.selects RX0 yX0_gateNumber yX0_gateNumber, Cond.initialized RX0, Cond.code yX0_gateNumber cX0_gateNumber 1 (some .int), Cond.fieldLink RX0 27 "FerryQuay$Berth" "gate" "LFerryQuay$Gate;", Cond.fieldLink RX0 31 "FerryQuay$Gate" "number" "I", Cond.methodLink RX5 68 yX0_rampNumber, Cond.instanceMethod yX0_rampNumber, Cond.selects RX0 yX0_rampNumber yX0_rampNumber, Cond.code yX0_rampNumber cX0_rampNumber 1 (some .int)]
def wsX5_state_r2 : List Cond := [Cond.fieldLink RX0 37 "FerryQuay$Berth" "ramp" "LFerryQuay$Ramp;", Cond.fieldLink RX0 41 "FerryQuay$Ramp" "number" "I"]
def wsX5_state : List Cond := .code yX5_state cX5_state 4 (some .int) :: ((wsX5_state_r1 ++ wsX5_state_r2) ++ wsX00 ++ wsX40 ++ wsX10 ++ wsX50 ++ wsX20 ++ wsX30)
def wsX5_waiting : List Cond := .code yX5_waiting cX5_waiting 4 (some .int) :: ([.fieldLink RX5 82 "FerryQuay$Berth" "lane" "LFerryQuay$Row;", .methodLink RX5 48 yX5_berthAt, .instanceMethod yX5_berthAt, .selects RX5 yX5_berthAt yX5_berthAt, .initialized RX5, .code yX5_berthAt cX5_berthAt 2 (some (.object "FerryQuay$Berth")), .fieldLink RX5 44 "FerryQuay" "berthCount" "I", .fieldLink RX5 23 "FerryQuay" "berths" "[LFerryQuay$Berth;", .methodLink RX5 109 yX4_weightAt, .instanceMethod yX4_weightAt, .selects RX4 yX4_weightAt yX4_weightAt, .initialized RX4, .code yX4_weightAt cX4_weightAt 2 (some .int), .fieldLink RX4 21 "FerryQuay$Row" "size" "I", .fieldLink RX4 15 "FerryQuay$Row" "weights" "[I"] ++ wsX00 ++ wsX50 ++ wsX40)
def wsX5_aboard : List Cond := .code yX5_aboard cX5_aboard 4 (some .int) :: ([.fieldLink RX5 125 "FerryQuay$Berth" "ferry" "LFerryQuay$Ferry;", .fieldLink RX5 148 "FerryQuay$Ferry" "vehicles" "LFerryQuay$Row;", .methodLink RX5 48 yX5_berthAt, .instanceMethod yX5_berthAt, .selects RX5 yX5_berthAt yX5_berthAt, .initialized RX5, .code yX5_berthAt cX5_berthAt 2 (some (.object "FerryQuay$Berth")), .fieldLink RX5 44 "FerryQuay" "berthCount" "I", .fieldLink RX5 23 "FerryQuay" "berths" "[LFerryQuay$Berth;", .methodLink RX5 109 yX4_weightAt, .instanceMethod yX4_weightAt, .selects RX4 yX4_weightAt yX4_weightAt, .initialized RX4, .code yX4_weightAt cX4_weightAt 2 (some .int), .fieldLink RX4 21 "FerryQuay$Row" "size" "I", .fieldLink RX4 15 "FerryQuay$Row" "weights" "[I"] ++ wsX00 ++ wsX10 ++ wsX50 ++ wsX40)
def wsX5_ofGate : List Cond := .code yX5_ofGate cX5_ofGate 4 (some .int) :: ([.fieldLink RX5 101 "FerryQuay$Gate" "taken" "I", .fieldLink RX5 138 "FerryQuay$Gate" "passed" "I", .methodLink RX5 52 yX5_gateAt, .instanceMethod yX5_gateAt, .selects RX5 yX5_gateAt yX5_gateAt, .initialized RX5, .code yX5_gateAt cX5_gateAt 2 (some (.object "FerryQuay$Gate")), .fieldLink RX5 27 "FerryQuay" "gateCount" "I", .fieldLink RX5 11 "FerryQuay" "gates" "[LFerryQuay$Gate;", .methodLink RX5 75 yX2_shutAsNumber, .instanceMethod yX2_shutAsNumber, .selects RX2 yX2_shutAsNumber yX2_shutAsNumber, .initialized RX2, .code yX2_shutAsNumber cX2_shutAsNumber 1 (some .int), .fieldLink RX2 13 "FerryQuay$Gate" "isShut" "Z"] ++ wsX20 ++ wsX50)
def wsX5_ofRamp : List Cond := .code yX5_ofRamp cX5_ofRamp 4 (some .int) :: ([.fieldLink RX5 108 "FerryQuay$Ramp" "taken" "I", .fieldLink RX5 141 "FerryQuay$Ramp" "wear" "I", .fieldLink RX5 122 "FerryQuay$Ramp" "limit" "I", .methodLink RX5 64 yX5_rampAt, .instanceMethod yX5_rampAt, .selects RX5 yX5_rampAt yX5_rampAt, .initialized RX5, .code yX5_rampAt cX5_rampAt 2 (some (.object "FerryQuay$Ramp")), .fieldLink RX5 38 "FerryQuay" "rampCount" "I", .fieldLink RX5 17 "FerryQuay" "ramps" "[LFerryQuay$Ramp;"] ++ wsX30 ++ wsX50)
def wsX5_count : List Cond := .code yX5_count cX5_count 2 (some .int) :: ([.fieldLink RX5 27 "FerryQuay" "gateCount" "I", .fieldLink RX5 38 "FerryQuay" "rampCount" "I", .fieldLink RX5 44 "FerryQuay" "berthCount" "I", .fieldLink RX5 95 "FerryQuay" "arrived" "I", .fieldLink RX5 157 "FerryQuay" "gone" "I", .fieldLink RX5 116 "FerryQuay" "towed" "I", .fieldLink RX5 170 "FerryQuay" "alarms" "I"] ++ wsX50)
def wsX6_init : List Cond := .code yX6_init cX6_init 1 none :: ([.methodLink RX6 1 objectInit, .instanceMethod objectInit, .code objectInit ⟨#[0xb1]⟩ 1 none, .arrayClass .boolean, .fieldLink RX6 7 "FerryQuayModel" "isShut" "[Z", .arrayClass .int, .fieldLink RX6 13 "FerryQuayModel" "gateTaken" "[I", .fieldLink RX6 17 "FerryQuayModel" "passed" "[I", .fieldLink RX6 20 "FerryQuayModel" "limit" "[I", .fieldLink RX6 23 "FerryQuayModel" "wear" "[I", .fieldLink RX6 26 "FerryQuayModel" "rampTaken" "[I", .fieldLink RX6 29 "FerryQuayModel" "gateOf" "[I", .fieldLink RX6 32 "FerryQuayModel" "rampOf" "[I", .fieldLink RX6 35 "FerryQuayModel" "ferryOf" "[I", .fieldLink RX6 38 "FerryQuayModel" "waits" "[I", .fieldLink RX6 41 "FerryQuayModel" "lane" "[I", .fieldLink RX6 44 "FerryQuayModel" "room" "[I", .fieldLink RX6 47 "FerryQuayModel" "load" "[I", .fieldLink RX6 50 "FerryQuayModel" "many" "[I", .fieldLink RX6 53 "FerryQuayModel" "deck" "[I"] ++ wsX60)
def wsX6_isGate : List Cond := .code yX6_isGate cX6_isGate 2 (some .boolean) :: ([.fieldLink RX6 56 "FerryQuayModel" "gates" "I"] ++ wsX60)
def wsX6_isRamp : List Cond := .code yX6_isRamp cX6_isRamp 2 (some .boolean) :: ([.fieldLink RX6 60 "FerryQuayModel" "ramps" "I"] ++ wsX60)
def wsX6_isBerth : List Cond := .code yX6_isBerth cX6_isBerth 2 (some .boolean) :: ([.fieldLink RX6 63 "FerryQuayModel" "berths" "I"] ++ wsX60)
def wsX6_alarm : List Cond := .code yX6_alarm cX6_alarm 2 (some .int) :: ([.fieldLink RX6 66 "FerryQuayModel" "alarms" "I"] ++ wsX60)
def wsX6_gate : List Cond := .code yX6_gate cX6_gate 1 (some .int) :: ([.fieldLink RX6 56 "FerryQuayModel" "gates" "I"] ++ wsX60)
def wsX6_ramp : List Cond := .code yX6_ramp cX6_ramp 2 (some .int) :: ([.fieldLink RX6 60 "FerryQuayModel" "ramps" "I", .fieldLink RX6 20 "FerryQuayModel" "limit" "[I"] ++ wsX60)
def wsX6_berth : List Cond := .code yX6_berth cX6_berth 2 (some .int) :: ([.fieldLink RX6 63 "FerryQuayModel" "berths" "I", .fieldLink RX6 44 "FerryQuayModel" "room" "[I", .fieldLink RX6 29 "FerryQuayModel" "gateOf" "[I", .fieldLink RX6 32 "FerryQuayModel" "rampOf" "[I", .fieldLink RX6 35 "FerryQuayModel" "ferryOf" "[I"] ++ wsX60)
def wsX6_hinge : List Cond := .code yX6_hinge cX6_hinge 4 (some .int) :: ([.fieldLink RX6 29 "FerryQuayModel" "gateOf" "[I", .methodLink RX6 69 yX6_isBerth, .instanceMethod yX6_isBerth, .selects RX6 yX6_isBerth yX6_isBerth, .initialized RX6, .code yX6_isBerth cX6_isBerth 2 (some .boolean), .fieldLink RX6 63 "FerryQuayModel" "berths" "I", .methodLink RX6 73 yX6_isGate, .instanceMethod yX6_isGate, .selects RX6 yX6_isGate yX6_isGate, .code yX6_isGate cX6_isGate 2 (some .boolean), .fieldLink RX6 56 "FerryQuayModel" "gates" "I"] ++ wsX60)
def wsX6_lay : List Cond := .code yX6_lay cX6_lay 4 (some .int) :: ([.fieldLink RX6 32 "FerryQuayModel" "rampOf" "[I", .methodLink RX6 69 yX6_isBerth, .instanceMethod yX6_isBerth, .selects RX6 yX6_isBerth yX6_isBerth, .initialized RX6, .code yX6_isBerth cX6_isBerth 2 (some .boolean), .fieldLink RX6 63 "FerryQuayModel" "berths" "I", .methodLink RX6 76 yX6_isRamp, .instanceMethod yX6_isRamp, .selects RX6 yX6_isRamp yX6_isRamp, .code yX6_isRamp cX6_isRamp 2 (some .boolean), .fieldLink RX6 60 "FerryQuayModel" "ramps" "I"] ++ wsX60)
def wsX6_shut : List Cond := .code yX6_shut cX6_shut 4 (some .int) :: ([.fieldLink RX6 7 "FerryQuayModel" "isShut" "[Z", .methodLink RX6 73 yX6_isGate, .instanceMethod yX6_isGate, .selects RX6 yX6_isGate yX6_isGate, .initialized RX6, .code yX6_isGate cX6_isGate 2 (some .boolean), .fieldLink RX6 56 "FerryQuayModel" "gates" "I"] ++ wsX60)
def wsX6_comes : List Cond := .code yX6_comes cX6_comes 3 none :: ([.fieldLink RX6 41 "FerryQuayModel" "lane" "[I", .fieldLink RX6 38 "FerryQuayModel" "waits" "[I"] ++ wsX60)
def wsX6_arrive : List Cond := .code yX6_arrive cX6_arrive 3 (some .int) :: ([.fieldLink RX6 38 "FerryQuayModel" "waits" "[I", .fieldLink RX6 83 "FerryQuayModel" "arrived" "I", .methodLink RX6 69 yX6_isBerth, .instanceMethod yX6_isBerth, .selects RX6 yX6_isBerth yX6_isBerth, .initialized RX6, .code yX6_isBerth cX6_isBerth 2 (some .boolean), .fieldLink RX6 63 "FerryQuayModel" "berths" "I", .methodLink RX6 79 yX6_comes, .instanceMethod yX6_comes, .selects RX6 yX6_comes yX6_comes, .code yX6_comes cX6_comes 3 none, .fieldLink RX6 41 "FerryQuayModel" "lane" "[I"] ++ wsX60)
def wsX6_goes : List Cond := .code yX6_goes cX6_goes 4 (some .int) :: ([.fieldLink RX6 41 "FerryQuayModel" "lane" "[I", .fieldLink RX6 38 "FerryQuayModel" "waits" "[I"] ++ wsX60)
def wsX6_board_r1 : List Cond := [Cond.fieldLink RX6 29 "FerryQuayModel" "gateOf" "[I", Cond.fieldLink RX6 13 "FerryQuayModel" "gateTaken" "[I", Cond.fieldLink RX6 7 "FerryQuayModel" "isShut" "[Z", Cond.fieldLink RX6 35 "FerryQuayModel" "ferryOf" "[I", Cond.fieldLink RX6 38 "FerryQuayModel" "waits" "[I", Cond.fieldLink RX6 32 "FerryQuayModel" "rampOf" "[I", Cond.fieldLink RX6 26 "FerryQuayModel" "rampTaken" "[I", Cond.fieldLink RX6 41 "FerryQuayModel" "lane" "[I", Cond.fieldLink RX6 90 "FerryQuayModel" "towed" "I", Cond.fieldLink RX6 20 "FerryQuayModel" "limit" "[I", Cond.fieldLink RX6 47 "FerryQuayModel" "load" "[I", Cond.fieldLink RX6 44 "FerryQuayModel" "room" "[I", Cond.fieldLink RX6 50 "FerryQuayModel" "many" "[I", Cond.fieldLink RX6 53 "FerryQuayModel" "deck" "[I", Cond.fieldLink RX6 17 "FerryQuayModel" "passed" "[I", Cond.fieldLink RX6 23 "FerryQuayModel" "wear" "[I", Cond.methodLink RX6 69 yX6_isBerth, Cond.instanceMethod yX6_isBerth, Cond.selects RX6 yX6_isBerth yX6_isBerth, Cond.initialized RX6, Cond.code yX6_isBerth cX6_isBerth 2 (some .boolean), Cond.fieldLink RX6 63 "FerryQuayModel" "berths" "I", Cond.methodLink RX6 86 yX6_goes, Cond.instanceMethod yX6_goes]
def wsX6_board_r2 : List Cond := [Cond.selects RX6 yX6_goes yX6_goes, Cond.code yX6_goes cX6_goes 4 (some .int), Cond.methodLink RX6 93 yX6_alarm, Cond.instanceMethod yX6_alarm, Cond.selects RX6 yX6_alarm yX6_alarm, Cond.code yX6_alarm cX6_alarm 2 (some .int), Cond.fieldLink RX6 66 "FerryQuayModel" "alarms" "I", Cond.methodLink RX6 79 yX6_comes, Cond.instanceMethod yX6_comes, Cond.selects RX6 yX6_comes yX6_comes, Cond.code yX6_comes cX6_comes 3 none]
def wsX6_board : List Cond := .code yX6_board cX6_board 10 (some .int) :: ((wsX6_board_r1 ++ wsX6_board_r2) ++ wsX60)
def wsX6_land : List Cond := .code yX6_land cX6_land 8 (some .int) :: ([.fieldLink RX6 32 "FerryQuayModel" "rampOf" "[I", .fieldLink RX6 26 "FerryQuayModel" "rampTaken" "[I", .fieldLink RX6 35 "FerryQuayModel" "ferryOf" "[I", .fieldLink RX6 50 "FerryQuayModel" "many" "[I", .fieldLink RX6 29 "FerryQuayModel" "gateOf" "[I", .fieldLink RX6 13 "FerryQuayModel" "gateTaken" "[I", .fieldLink RX6 7 "FerryQuayModel" "isShut" "[Z", .fieldLink RX6 53 "FerryQuayModel" "deck" "[I", .fieldLink RX6 20 "FerryQuayModel" "limit" "[I", .fieldLink RX6 47 "FerryQuayModel" "load" "[I", .fieldLink RX6 96 "FerryQuayModel" "gone" "I", .fieldLink RX6 17 "FerryQuayModel" "passed" "[I", .fieldLink RX6 23 "FerryQuayModel" "wear" "[I", .methodLink RX6 69 yX6_isBerth, .instanceMethod yX6_isBerth, .selects RX6 yX6_isBerth yX6_isBerth, .initialized RX6, .code yX6_isBerth cX6_isBerth 2 (some .boolean), .fieldLink RX6 63 "FerryQuayModel" "berths" "I", .methodLink RX6 93 yX6_alarm, .instanceMethod yX6_alarm, .selects RX6 yX6_alarm yX6_alarm, .code yX6_alarm cX6_alarm 2 (some .int), .fieldLink RX6 66 "FerryQuayModel" "alarms" "I"] ++ wsX60)
def wsX6_swap : List Cond := .code yX6_swap cX6_swap 6 (some .int) :: ([.fieldLink RX6 29 "FerryQuayModel" "gateOf" "[I", .fieldLink RX6 13 "FerryQuayModel" "gateTaken" "[I", .fieldLink RX6 7 "FerryQuayModel" "isShut" "[Z", .fieldLink RX6 35 "FerryQuayModel" "ferryOf" "[I", .fieldLink RX6 47 "FerryQuayModel" "load" "[I", .methodLink RX6 69 yX6_isBerth, .instanceMethod yX6_isBerth, .selects RX6 yX6_isBerth yX6_isBerth, .initialized RX6, .code yX6_isBerth cX6_isBerth 2 (some .boolean), .fieldLink RX6 63 "FerryQuayModel" "berths" "I"] ++ wsX60)
def wsX6_round : List Cond := .code yX6_round cX6_round 6 (some .int) :: ([.fieldLink RX6 63 "FerryQuayModel" "berths" "I", .fieldLink RX6 29 "FerryQuayModel" "gateOf" "[I", .fieldLink RX6 13 "FerryQuayModel" "gateTaken" "[I", .fieldLink RX6 7 "FerryQuayModel" "isShut" "[Z", .fieldLink RX6 47 "FerryQuayModel" "load" "[I", .fieldLink RX6 35 "FerryQuayModel" "ferryOf" "[I", .methodLink RX6 69 yX6_isBerth, .instanceMethod yX6_isBerth, .selects RX6 yX6_isBerth yX6_isBerth, .initialized RX6, .code yX6_isBerth cX6_isBerth 2 (some .boolean), .methodLink RX6 93 yX6_alarm, .instanceMethod yX6_alarm, .selects RX6 yX6_alarm yX6_alarm, .code yX6_alarm cX6_alarm 2 (some .int), .fieldLink RX6 66 "FerryQuayModel" "alarms" "I"] ++ wsX60)
def wsX6_tend : List Cond := .code yX6_tend cX6_tend 3 (some .int) :: ([.fieldLink RX6 26 "FerryQuayModel" "rampTaken" "[I", .fieldLink RX6 23 "FerryQuayModel" "wear" "[I", .methodLink RX6 76 yX6_isRamp, .instanceMethod yX6_isRamp, .selects RX6 yX6_isRamp yX6_isRamp, .initialized RX6, .code yX6_isRamp cX6_isRamp 2 (some .boolean), .fieldLink RX6 60 "FerryQuayModel" "ramps" "I", .methodLink RX6 93 yX6_alarm, .instanceMethod yX6_alarm, .selects RX6 yX6_alarm yX6_alarm, .code yX6_alarm cX6_alarm 2 (some .int), .fieldLink RX6 66 "FerryQuayModel" "alarms" "I"] ++ wsX60)
def wsX6_shift : List Cond := .code yX6_shift cX6_shift 8 (some .int) :: ([.fieldLink RX6 29 "FerryQuayModel" "gateOf" "[I", .fieldLink RX6 13 "FerryQuayModel" "gateTaken" "[I", .fieldLink RX6 7 "FerryQuayModel" "isShut" "[Z", .fieldLink RX6 38 "FerryQuayModel" "waits" "[I", .fieldLink RX6 17 "FerryQuayModel" "passed" "[I", .methodLink RX6 69 yX6_isBerth, .instanceMethod yX6_isBerth, .selects RX6 yX6_isBerth yX6_isBerth, .initialized RX6, .code yX6_isBerth cX6_isBerth 2 (some .boolean), .fieldLink RX6 63 "FerryQuayModel" "berths" "I", .methodLink RX6 86 yX6_goes, .instanceMethod yX6_goes, .selects RX6 yX6_goes yX6_goes, .code yX6_goes cX6_goes 4 (some .int), .fieldLink RX6 41 "FerryQuayModel" "lane" "[I", .methodLink RX6 79 yX6_comes, .instanceMethod yX6_comes, .selects RX6 yX6_comes yX6_comes, .code yX6_comes cX6_comes 3 none] ++ wsX60)
def wsX6_state : List Cond := .code yX6_state cX6_state 4 (some .int) :: ([.fieldLink RX6 35 "FerryQuayModel" "ferryOf" "[I", .fieldLink RX6 29 "FerryQuayModel" "gateOf" "[I", .fieldLink RX6 32 "FerryQuayModel" "rampOf" "[I", .fieldLink RX6 38 "FerryQuayModel" "waits" "[I", .fieldLink RX6 50 "FerryQuayModel" "many" "[I", .fieldLink RX6 47 "FerryQuayModel" "load" "[I", .fieldLink RX6 44 "FerryQuayModel" "room" "[I", .methodLink RX6 69 yX6_isBerth, .instanceMethod yX6_isBerth, .selects RX6 yX6_isBerth yX6_isBerth, .initialized RX6, .code yX6_isBerth cX6_isBerth 2 (some .boolean), .fieldLink RX6 63 "FerryQuayModel" "berths" "I"] ++ wsX60)
def wsX6_waiting : List Cond := .code yX6_waiting cX6_waiting 3 (some .int) :: ([.fieldLink RX6 38 "FerryQuayModel" "waits" "[I", .fieldLink RX6 41 "FerryQuayModel" "lane" "[I", .methodLink RX6 69 yX6_isBerth, .instanceMethod yX6_isBerth, .selects RX6 yX6_isBerth yX6_isBerth, .initialized RX6, .code yX6_isBerth cX6_isBerth 2 (some .boolean), .fieldLink RX6 63 "FerryQuayModel" "berths" "I"] ++ wsX60)
def wsX6_aboard : List Cond := .code yX6_aboard cX6_aboard 4 (some .int) :: ([.fieldLink RX6 35 "FerryQuayModel" "ferryOf" "[I", .fieldLink RX6 50 "FerryQuayModel" "many" "[I", .fieldLink RX6 53 "FerryQuayModel" "deck" "[I", .methodLink RX6 69 yX6_isBerth, .instanceMethod yX6_isBerth, .selects RX6 yX6_isBerth yX6_isBerth, .initialized RX6, .code yX6_isBerth cX6_isBerth 2 (some .boolean), .fieldLink RX6 63 "FerryQuayModel" "berths" "I"] ++ wsX60)
def wsX6_ofGate : List Cond := .code yX6_ofGate cX6_ofGate 3 (some .int) :: ([.fieldLink RX6 13 "FerryQuayModel" "gateTaken" "[I", .fieldLink RX6 17 "FerryQuayModel" "passed" "[I", .fieldLink RX6 7 "FerryQuayModel" "isShut" "[Z", .methodLink RX6 73 yX6_isGate, .instanceMethod yX6_isGate, .selects RX6 yX6_isGate yX6_isGate, .initialized RX6, .code yX6_isGate cX6_isGate 2 (some .boolean), .fieldLink RX6 56 "FerryQuayModel" "gates" "I"] ++ wsX60)
def wsX6_ofRamp : List Cond := .code yX6_ofRamp cX6_ofRamp 3 (some .int) :: ([.fieldLink RX6 26 "FerryQuayModel" "rampTaken" "[I", .fieldLink RX6 23 "FerryQuayModel" "wear" "[I", .fieldLink RX6 20 "FerryQuayModel" "limit" "[I", .methodLink RX6 76 yX6_isRamp, .instanceMethod yX6_isRamp, .selects RX6 yX6_isRamp yX6_isRamp, .initialized RX6, .code yX6_isRamp cX6_isRamp 2 (some .boolean), .fieldLink RX6 60 "FerryQuayModel" "ramps" "I"] ++ wsX60)
def wsX6_count : List Cond := .code yX6_count cX6_count 2 (some .int) :: ([.fieldLink RX6 56 "FerryQuayModel" "gates" "I", .fieldLink RX6 60 "FerryQuayModel" "ramps" "I", .fieldLink RX6 63 "FerryQuayModel" "berths" "I", .fieldLink RX6 83 "FerryQuayModel" "arrived" "I", .fieldLink RX6 96 "FerryQuayModel" "gone" "I", .fieldLink RX6 90 "FerryQuayModel" "towed" "I", .fieldLink RX6 66 "FerryQuayModel" "alarms" "I"] ++ wsX60)
def wsJ9_max_7cf53 : List Cond := .code yJ9_max_7cf53 cJ9_max_7cf53 2 (some .int) :: ([])
def wsL_law_r1 : List Cond := [Cond.classLink RL 7 RX5, Cond.instantiable RX5 10, Cond.initialized RX5, Cond.classLink RL 10 RX6, Cond.instantiable RX6 22, Cond.initialized RX6, Cond.methodLink RL 9 yX5_init, Cond.instanceMethod yX5_init, Cond.code yX5_init cX5_init 1 none, Cond.methodLink RX5 1 objectInit, Cond.instanceMethod objectInit, Cond.code objectInit ⟨#[0xb1]⟩ 1 none, Cond.classLink RX5 9 RX2, Cond.fieldLink RX5 11 "FerryQuay" "gates" "[LFerryQuay$Gate;", Cond.classLink RX5 15 RX3, Cond.fieldLink RX5 17 "FerryQuay" "ramps" "[LFerryQuay$Ramp;", Cond.classLink RX5 21 RX0, Cond.fieldLink RX5 23 "FerryQuay" "berths" "[LFerryQuay$Berth;", Cond.methodLink RL 12 yX6_init, Cond.instanceMethod yX6_init, Cond.code yX6_init cX6_init 1 none, Cond.methodLink RX6 1 objectInit, Cond.arrayClass .boolean, Cond.fieldLink RX6 7 "FerryQuayModel" "isShut" "[Z"]
def wsL_law_r2 : List Cond := [Cond.arrayClass .int, Cond.fieldLink RX6 13 "FerryQuayModel" "gateTaken" "[I", Cond.fieldLink RX6 17 "FerryQuayModel" "passed" "[I", Cond.fieldLink RX6 20 "FerryQuayModel" "limit" "[I", Cond.fieldLink RX6 23 "FerryQuayModel" "wear" "[I", Cond.fieldLink RX6 26 "FerryQuayModel" "rampTaken" "[I", Cond.fieldLink RX6 29 "FerryQuayModel" "gateOf" "[I", Cond.fieldLink RX6 32 "FerryQuayModel" "rampOf" "[I", Cond.fieldLink RX6 35 "FerryQuayModel" "ferryOf" "[I", Cond.fieldLink RX6 38 "FerryQuayModel" "waits" "[I", Cond.fieldLink RX6 41 "FerryQuayModel" "lane" "[I", Cond.fieldLink RX6 44 "FerryQuayModel" "room" "[I", Cond.fieldLink RX6 47 "FerryQuayModel" "load" "[I", Cond.fieldLink RX6 50 "FerryQuayModel" "many" "[I", Cond.fieldLink RX6 53 "FerryQuayModel" "deck" "[I", Cond.methodLink RL 13 yX5_gate, Cond.instanceMethod yX5_gate, Cond.selects RX5 yX5_gate yX5_gate, Cond.code yX5_gate cX5_gate 2 (some .int), Cond.fieldLink RX5 27 "FerryQuay" "gateCount" "I", Cond.instantiable RX2 4, Cond.initialized RX2, Cond.methodLink RX5 31 yX2_init, Cond.instanceMethod yX2_init]
def wsL_law_r3 : List Cond := [Cond.code yX2_init cX2_init 2 none, Cond.methodLink RX2 1 objectInit, Cond.fieldLink RX2 7 "FerryQuay$Gate" "number" "I", Cond.methodLink RL 17 yX6_gate, Cond.instanceMethod yX6_gate, Cond.selects RX6 yX6_gate yX6_gate, Cond.code yX6_gate cX6_gate 1 (some .int), Cond.fieldLink RX6 56 "FerryQuayModel" "gates" "I", Cond.methodLink RL 18 yX5_ramp, Cond.instanceMethod yX5_ramp, Cond.selects RX5 yX5_ramp yX5_ramp, Cond.code yX5_ramp cX5_ramp 3 (some .int), Cond.fieldLink RX5 38 "FerryQuay" "rampCount" "I", Cond.instantiable RX3 4, Cond.initialized RX3, Cond.methodLink RX5 34 yX5_isWithin, Cond.static yX5_isWithin, Cond.code yX5_isWithin cX5_isWithin 3 (some .boolean), Cond.methodLink RX5 41 yX3_init, Cond.instanceMethod yX3_init, Cond.code yX3_init cX3_init 3 none, Cond.methodLink RX3 1 objectInit, Cond.fieldLink RX3 7 "FerryQuay$Ramp" "number" "I", Cond.fieldLink RX3 13 "FerryQuay$Ramp" "limit" "I"]
def wsL_law_r4 : List Cond := [Cond.methodLink RL 22 yX6_ramp, Cond.instanceMethod yX6_ramp, Cond.selects RX6 yX6_ramp yX6_ramp, Cond.code yX6_ramp cX6_ramp 2 (some .int), Cond.fieldLink RX6 60 "FerryQuayModel" "ramps" "I", Cond.methodLink RL 23 yX5_berth, Cond.instanceMethod yX5_berth, Cond.selects RX5 yX5_berth yX5_berth, Cond.code yX5_berth cX5_berth 3 (some .int), Cond.fieldLink RX5 44 "FerryQuay" "berthCount" "I", Cond.instantiable RX0 4, Cond.initialized RX0, Cond.methodLink RX5 47 yX0_init, Cond.instanceMethod yX0_init, Cond.code yX0_init cX0_init 2 none, Cond.methodLink RX0 3 objectInit, Cond.classLink RX0 9 RX4, Cond.instantiable RX4 2, Cond.initialized RX4, Cond.fieldLink RX0 14 "FerryQuay$Berth" "lane" "LFerryQuay$Row;", Cond.classLink RX0 20 RX1, Cond.instantiable RX1 3, Cond.initialized RX1, Cond.fieldLink RX0 23 "FerryQuay$Berth" "ferry" "LFerryQuay$Ferry;"]
def wsL_law_r5 : List Cond := [Cond.methodLink RX0 11 yX4_init, Cond.instanceMethod yX4_init, Cond.code yX4_init cX4_init 2 none, Cond.methodLink RX4 3 objectInit, Cond.methodLink RX4 9 Lib.Math.max.name, Cond.static Lib.Math.max.name, Cond.initialized "java/lang/Math", Cond.code Lib.Math.max.name Lib.Math.max.code 2 (some .int), Cond.fieldLink RX4 15 "FerryQuay$Row" "weights" "[I", Cond.methodLink RX0 22 yX1_init, Cond.instanceMethod yX1_init, Cond.code yX1_init cX1_init 2 none, Cond.methodLink RX1 3 objectInit, Cond.fieldLink RX1 9 "FerryQuay$Ferry" "room" "I", Cond.classLink RX1 15 RX4, Cond.fieldLink RX1 20 "FerryQuay$Ferry" "vehicles" "LFerryQuay$Row;", Cond.methodLink RX1 17 yX4_init, Cond.methodLink RL 26 yX6_berth, Cond.instanceMethod yX6_berth, Cond.selects RX6 yX6_berth yX6_berth, Cond.code yX6_berth cX6_berth 2 (some .int), Cond.fieldLink RX6 63 "FerryQuayModel" "berths" "I", Cond.methodLink RL 27 yX5_hinge, Cond.instanceMethod yX5_hinge]
def wsL_law_r6 : List Cond := [Cond.selects RX5 yX5_hinge yX5_hinge, Cond.code yX5_hinge cX5_hinge 6 (some .int), Cond.fieldLink RX5 60 "FerryQuay$Berth" "gate" "LFerryQuay$Gate;", Cond.methodLink RX5 48 yX5_berthAt, Cond.instanceMethod yX5_berthAt, Cond.selects RX5 yX5_berthAt yX5_berthAt, Cond.code yX5_berthAt cX5_berthAt 2 (some (.object "FerryQuay$Berth")), Cond.methodLink RX5 52 yX5_gateAt, Cond.instanceMethod yX5_gateAt, Cond.selects RX5 yX5_gateAt yX5_gateAt, Cond.code yX5_gateAt cX5_gateAt 2 (some (.object "FerryQuay$Gate")), Cond.methodLink RX5 56 yX0_gateNumber, Cond.instanceMethod yX0_gateNumber, Cond.selects RX0 yX0_gateNumber yX0_gateNumber, Cond.code yX0_gateNumber cX0_gateNumber 1 (some .int), Cond.fieldLink RX0 27 "FerryQuay$Berth" "gate" "LFerryQuay$Gate;", Cond.fieldLink RX0 31 "FerryQuay$Gate" "number" "I", Cond.methodLink RL 31 yX6_hinge, Cond.instanceMethod yX6_hinge, Cond.selects RX6 yX6_hinge yX6_hinge, Cond.code yX6_hinge cX6_hinge 4 (some .int), Cond.methodLink RX6 69 yX6_isBerth, Cond.instanceMethod yX6_isBerth, Cond.selects RX6 yX6_isBerth yX6_isBerth]
def wsL_law_r7 : List Cond := [Cond.code yX6_isBerth cX6_isBerth 2 (some .boolean), Cond.methodLink RX6 73 yX6_isGate, Cond.instanceMethod yX6_isGate, Cond.selects RX6 yX6_isGate yX6_isGate, Cond.code yX6_isGate cX6_isGate 2 (some .boolean), Cond.methodLink RL 32 yX5_lay, Cond.instanceMethod yX5_lay, Cond.selects RX5 yX5_lay yX5_lay, Cond.code yX5_lay cX5_lay 6 (some .int), Cond.fieldLink RX5 71 "FerryQuay$Berth" "ramp" "LFerryQuay$Ramp;", Cond.methodLink RX5 64 yX5_rampAt, Cond.instanceMethod yX5_rampAt, Cond.selects RX5 yX5_rampAt yX5_rampAt, Cond.code yX5_rampAt cX5_rampAt 2 (some (.object "FerryQuay$Ramp")), Cond.methodLink RX5 68 yX0_rampNumber, Cond.instanceMethod yX0_rampNumber, Cond.selects RX0 yX0_rampNumber yX0_rampNumber, Cond.code yX0_rampNumber cX0_rampNumber 1 (some .int), Cond.fieldLink RX0 37 "FerryQuay$Berth" "ramp" "LFerryQuay$Ramp;", Cond.fieldLink RX0 41 "FerryQuay$Ramp" "number" "I", Cond.methodLink RL 35 yX6_lay, Cond.instanceMethod yX6_lay, Cond.selects RX6 yX6_lay yX6_lay, Cond.code yX6_lay cX6_lay 4 (some .int)]
def wsL_law_r8 : List Cond := [Cond.methodLink RX6 76 yX6_isRamp, Cond.instanceMethod yX6_isRamp, Cond.selects RX6 yX6_isRamp yX6_isRamp, Cond.code yX6_isRamp cX6_isRamp 2 (some .boolean), Cond.methodLink RL 36 yX5_shut, Cond.instanceMethod yX5_shut, Cond.selects RX5 yX5_shut yX5_shut, Cond.code yX5_shut cX5_shut 5 (some .int), Cond.fieldLink RX5 78 "FerryQuay$Gate" "isShut" "Z", Cond.methodLink RX5 75 yX2_shutAsNumber, Cond.instanceMethod yX2_shutAsNumber, Cond.selects RX2 yX2_shutAsNumber yX2_shutAsNumber, Cond.code yX2_shutAsNumber cX2_shutAsNumber 1 (some .int), Cond.fieldLink RX2 13 "FerryQuay$Gate" "isShut" "Z", Cond.methodLink RL 40 yX6_shut, Cond.instanceMethod yX6_shut, Cond.selects RX6 yX6_shut yX6_shut, Cond.code yX6_shut cX6_shut 4 (some .int), Cond.methodLink RL 41 yX5_arrive, Cond.instanceMethod yX5_arrive, Cond.selects RX5 yX5_arrive yX5_arrive, Cond.code yX5_arrive cX5_arrive 4 (some .int), Cond.fieldLink RX5 82 "FerryQuay$Berth" "lane" "LFerryQuay$Row;", Cond.fieldLink RX5 95 "FerryQuay" "arrived" "I"]
def wsL_law_r9 : List Cond := [Cond.fieldLink RX5 98 "FerryQuay$Row" "size" "I", Cond.methodLink RX5 86 yX4_isFull, Cond.instanceMethod yX4_isFull, Cond.selects RX4 yX4_isFull yX4_isFull, Cond.code yX4_isFull cX4_isFull 1 (some .boolean), Cond.fieldLink RX4 21 "FerryQuay$Row" "size" "I", Cond.methodLink RX5 92 yX4_addLast, Cond.instanceMethod yX4_addLast, Cond.selects RX4 yX4_addLast yX4_addLast, Cond.code yX4_addLast cX4_addLast 2 none, Cond.methodLink RL 44 yX6_arrive, Cond.instanceMethod yX6_arrive, Cond.selects RX6 yX6_arrive yX6_arrive, Cond.code yX6_arrive cX6_arrive 3 (some .int), Cond.fieldLink RX6 83 "FerryQuayModel" "arrived" "I", Cond.methodLink RX6 79 yX6_comes, Cond.instanceMethod yX6_comes, Cond.selects RX6 yX6_comes yX6_comes, Cond.code yX6_comes cX6_comes 3 none, Cond.methodLink RL 45 yX5_board, Cond.instanceMethod yX5_board, Cond.selects RX5 yX5_board yX5_board, Cond.code yX5_board cX5_board 5 (some .int), Cond.fieldLink RX5 101 "FerryQuay$Gate" "taken" "I"]
def wsL_law_r10 : List Cond := [Cond.methodLink RX5 104 yX5_boardThrough, Cond.instanceMethod yX5_boardThrough, Cond.selects RX5 yX5_boardThrough yX5_boardThrough, Cond.code yX5_boardThrough cX5_boardThrough 10 (some .int), Cond.fieldLink RX5 108 "FerryQuay$Ramp" "taken" "I", Cond.fieldLink RX5 116 "FerryQuay" "towed" "I", Cond.fieldLink RX5 122 "FerryQuay$Ramp" "limit" "I", Cond.fieldLink RX5 125 "FerryQuay$Berth" "ferry" "LFerryQuay$Ferry;", Cond.fieldLink RX5 138 "FerryQuay$Gate" "passed" "I", Cond.fieldLink RX5 141 "FerryQuay$Ramp" "wear" "I", Cond.methodLink RX5 109 yX4_weightAt, Cond.instanceMethod yX4_weightAt, Cond.selects RX4 yX4_weightAt yX4_weightAt, Cond.code yX4_weightAt cX4_weightAt 2 (some .int), Cond.methodLink RX5 113 yX4_removeFirst, Cond.instanceMethod yX4_removeFirst, Cond.selects RX4 yX4_removeFirst yX4_removeFirst, Cond.code yX4_removeFirst cX4_removeFirst 1 none, Cond.methodLink RX4 25 arraycopyName, Cond.native arraycopyName, Cond.static arraycopyName, Cond.initialized "java/lang/System", Cond.methodLink RX5 119 yX5_alarm, Cond.instanceMethod yX5_alarm]
def wsL_law_r11 : List Cond := [Cond.selects RX5 yX5_alarm yX5_alarm, Cond.code yX5_alarm cX5_alarm 2 (some .int), Cond.fieldLink RX5 170 "FerryQuay" "alarms" "I", Cond.methodLink RX5 129 yX1_hasRoomFor, Cond.instanceMethod yX1_hasRoomFor, Cond.selects RX1 yX1_hasRoomFor yX1_hasRoomFor, Cond.code yX1_hasRoomFor cX1_hasRoomFor 2 (some .boolean), Cond.fieldLink RX1 28 "FerryQuay$Ferry" "load" "I", Cond.methodLink RX1 24 yX4_isFull, Cond.methodLink RX5 135 yX1_takeAboard, Cond.instanceMethod yX1_takeAboard, Cond.selects RX1 yX1_takeAboard yX1_takeAboard, Cond.code yX1_takeAboard cX1_takeAboard 2 none, Cond.methodLink RX1 31 yX4_addLast, Cond.methodLink RL 48 yX6_board, Cond.instanceMethod yX6_board, Cond.selects RX6 yX6_board yX6_board, Cond.code yX6_board cX6_board 10 (some .int), Cond.fieldLink RX6 90 "FerryQuayModel" "towed" "I", Cond.methodLink RX6 86 yX6_goes, Cond.instanceMethod yX6_goes, Cond.selects RX6 yX6_goes yX6_goes, Cond.code yX6_goes cX6_goes 4 (some .int), Cond.methodLink RX6 93 yX6_alarm]
def wsL_law_r12 : List Cond := [Cond.instanceMethod yX6_alarm, Cond.selects RX6 yX6_alarm yX6_alarm, Cond.code yX6_alarm cX6_alarm 2 (some .int), Cond.fieldLink RX6 66 "FerryQuayModel" "alarms" "I", Cond.methodLink RL 49 yX5_land, Cond.instanceMethod yX5_land, Cond.selects RX5 yX5_land yX5_land, Cond.code yX5_land cX5_land 5 (some .int), Cond.methodLink RX5 144 yX5_landOver, Cond.instanceMethod yX5_landOver, Cond.selects RX5 yX5_landOver yX5_landOver, Cond.code yX5_landOver cX5_landOver 8 (some .int), Cond.fieldLink RX5 148 "FerryQuay$Ferry" "vehicles" "LFerryQuay$Row;", Cond.fieldLink RX5 157 "FerryQuay" "gone" "I", Cond.methodLink RX5 151 yX1_weightOfLast, Cond.instanceMethod yX1_weightOfLast, Cond.selects RX1 yX1_weightOfLast yX1_weightOfLast, Cond.code yX1_weightOfLast cX1_weightOfLast 1 (some .int), Cond.fieldLink RX1 34 "FerryQuay$Row" "size" "I", Cond.methodLink RX1 37 yX4_weightAt, Cond.methodLink RX5 154 yX1_putLastAshore, Cond.instanceMethod yX1_putLastAshore, Cond.selects RX1 yX1_putLastAshore yX1_putLastAshore, Cond.code yX1_putLastAshore cX1_putLastAshore 1 none]
def wsL_law_r13 : List Cond := [Cond.methodLink RX1 41 yX1_weightOfLast, Cond.methodLink RX1 45 yX4_removeLast, Cond.instanceMethod yX4_removeLast, Cond.selects RX4 yX4_removeLast yX4_removeLast, Cond.code yX4_removeLast cX4_removeLast 1 none, Cond.methodLink RL 52 yX6_land, Cond.instanceMethod yX6_land, Cond.selects RX6 yX6_land yX6_land, Cond.code yX6_land cX6_land 8 (some .int), Cond.fieldLink RX6 96 "FerryQuayModel" "gone" "I", Cond.methodLink RL 53 yX5_swap, Cond.instanceMethod yX5_swap, Cond.selects RX5 yX5_swap yX5_swap, Cond.code yX5_swap cX5_swap 8 (some .int), Cond.fieldLink RX5 160 "FerryQuay$Ferry" "load" "I", Cond.methodLink RL 56 yX6_swap, Cond.instanceMethod yX6_swap, Cond.selects RX6 yX6_swap yX6_swap, Cond.code yX6_swap cX6_swap 6 (some .int), Cond.methodLink RL 57 yX5_round, Cond.instanceMethod yX5_round, Cond.selects RX5 yX5_round yX5_round, Cond.code yX5_round cX5_round 7 (some .int), Cond.methodLink RL 60 yX6_round]
def wsL_law_r14 : List Cond := [Cond.instanceMethod yX6_round, Cond.selects RX6 yX6_round yX6_round, Cond.code yX6_round cX6_round 6 (some .int), Cond.methodLink RL 61 yX5_tend, Cond.instanceMethod yX5_tend, Cond.selects RX5 yX5_tend yX5_tend, Cond.code yX5_tend cX5_tend 4 (some .int), Cond.methodLink RL 64 yX6_tend, Cond.instanceMethod yX6_tend, Cond.selects RX6 yX6_tend yX6_tend, Cond.code yX6_tend cX6_tend 3 (some .int), Cond.methodLink RL 65 yX5_shift, Cond.instanceMethod yX5_shift, Cond.selects RX5 yX5_shift yX5_shift, Cond.code yX5_shift cX5_shift 7 (some .int), Cond.methodLink RX5 163 yX5_shiftThrough, Cond.instanceMethod yX5_shiftThrough, Cond.selects RX5 yX5_shiftThrough yX5_shiftThrough, Cond.code yX5_shiftThrough cX5_shiftThrough 7 (some .int), Cond.methodLink RL 69 yX6_shift, Cond.instanceMethod yX6_shift, Cond.selects RX6 yX6_shift yX6_shift, Cond.code yX6_shift cX6_shift 8 (some .int), Cond.methodLink RL 70 yX5_state]
def wsL_law_r15 : List Cond := [Cond.instanceMethod yX5_state, Cond.selects RX5 yX5_state yX5_state, Cond.code yX5_state cX5_state 4 (some .int), Cond.fieldLink RX5 167 "FerryQuay$Ferry" "room" "I", Cond.methodLink RL 73 yX6_state, Cond.instanceMethod yX6_state, Cond.selects RX6 yX6_state yX6_state, Cond.code yX6_state cX6_state 4 (some .int), Cond.methodLink RL 74 yX5_waiting, Cond.instanceMethod yX5_waiting, Cond.selects RX5 yX5_waiting yX5_waiting, Cond.code yX5_waiting cX5_waiting 4 (some .int), Cond.methodLink RL 77 yX6_waiting, Cond.instanceMethod yX6_waiting, Cond.selects RX6 yX6_waiting yX6_waiting, Cond.code yX6_waiting cX6_waiting 3 (some .int), Cond.methodLink RL 78 yX5_aboard, Cond.instanceMethod yX5_aboard, Cond.selects RX5 yX5_aboard yX5_aboard, Cond.code yX5_aboard cX5_aboard 4 (some .int), Cond.methodLink RL 81 yX6_aboard, Cond.instanceMethod yX6_aboard, Cond.selects RX6 yX6_aboard yX6_aboard, Cond.code yX6_aboard cX6_aboard 4 (some .int)]
def wsL_law_r16 : List Cond := [Cond.methodLink RL 82 yX5_ofGate, Cond.instanceMethod yX5_ofGate, Cond.selects RX5 yX5_ofGate yX5_ofGate, Cond.code yX5_ofGate cX5_ofGate 4 (some .int), Cond.methodLink RL 85 yX6_ofGate, Cond.instanceMethod yX6_ofGate, Cond.selects RX6 yX6_ofGate yX6_ofGate, Cond.code yX6_ofGate cX6_ofGate 3 (some .int), Cond.methodLink RL 86 yX5_ofRamp, Cond.instanceMethod yX5_ofRamp, Cond.selects RX5 yX5_ofRamp yX5_ofRamp, Cond.code yX5_ofRamp cX5_ofRamp 4 (some .int), Cond.methodLink RL 89 yX6_ofRamp, Cond.instanceMethod yX6_ofRamp, Cond.selects RX6 yX6_ofRamp yX6_ofRamp, Cond.code yX6_ofRamp cX6_ofRamp 3 (some .int), Cond.methodLink RL 90 yX5_count, Cond.instanceMethod yX5_count, Cond.selects RX5 yX5_count yX5_count, Cond.code yX5_count cX5_count 2 (some .int), Cond.methodLink RL 93 yX6_count, Cond.instanceMethod yX6_count, Cond.selects RX6 yX6_count yX6_count, Cond.code yX6_count cX6_count 2 (some .int)]
def wsL_law : List Cond := (wsL_law_r1 ++ (wsL_law_r2 ++ (wsL_law_r3 ++ (wsL_law_r4 ++ (wsL_law_r5 ++ (wsL_law_r6 ++ (wsL_law_r7 ++ (wsL_law_r8 ++ (wsL_law_r9 ++ (wsL_law_r10 ++ (wsL_law_r11 ++ (wsL_law_r12 ++ (wsL_law_r13 ++ (wsL_law_r14 ++ (wsL_law_r15 ++ wsL_law_r16))))))))))))))) ++ wsX50 ++ wsX60 ++ wsX20 ++ wsX30 ++ wsX00 ++ wsX40 ++ wsX10 ++ ([] : List Cond)
theorem inlX0 : ∀ w ∈ wsX00, w ∈ wsL_law := fun _ h => List.mem_append_left _ (List.mem_append_left _ (List.mem_append_left _ (List.mem_append_right _ h)))
theorem inlX1 : ∀ w ∈ wsX10, w ∈ wsL_law := fun _ h => List.mem_append_left _ (List.mem_append_right _ h)
theorem inlX2 : ∀ w ∈ wsX20, w ∈ wsL_law := fun _ h => List.mem_append_left _ (List.mem_append_left _ (List.mem_append_left _ (List.mem_append_left _ (List.mem_append_left _ (List.mem_append_right _ h)))))
theorem inlX3 : ∀ w ∈ wsX30, w ∈ wsL_law := fun _ h => List.mem_append_left _ (List.mem_append_left _ (List.mem_append_left _ (List.mem_append_left _ (List.mem_append_right _ h))))
theorem inlX4 : ∀ w ∈ wsX40, w ∈ wsL_law := fun _ h => List.mem_append_left _ (List.mem_append_left _ (List.mem_append_right _ h))
theorem inlX5 : ∀ w ∈ wsX50, w ∈ wsL_law := fun _ h => List.mem_append_left _ (List.mem_append_left _ (List.mem_append_left _ (List.mem_append_left _ (List.mem_append_left _ (List.mem_append_left _ (List.mem_append_left _ (List.mem_append_right _ h)))))))
theorem inlX6 : ∀ w ∈ wsX60, w ∈ wsL_law := fun _ h => List.mem_append_left _ (List.mem_append_left _ (List.mem_append_left _ (List.mem_append_left _ (List.mem_append_left _ (List.mem_append_left _ (List.mem_append_right _ h))))))
abbrev vwCl : List vw_C := [(RX0, TX0, 4), (RX1, TX1, 3), (RX2, TX2, 4), (RX3, TX3, 4), (RX4, TX4, 2), (RX5, TX5, 10), (RX6, TX6, 22)]
end
section
set_option maxRecDepth 20000 in
theorem ggX0_init_X4_init : GoodIn wsX0_init wsX4_init := goodIn_r _ [14, 15, 2, 3, 16, 17, 18, 19, 20, 21, 30, 31] (by decide +kernel) (by decide +kernel)
set_option maxRecDepth 20000 in
theorem gX0_init_X4_init : GoodIn wsX0_init (wsX4_init) := ggX0_init_X4_init
set_option maxRecDepth 20000 in
theorem ggX0_init_X1_init : GoodIn wsX0_init wsX1_init := goodIn_r _ [24, 25, 2, 3, 26, 27, 5, 6, 28, 29, 13, 14, 15, 16, 17, 18, 19, 20, 21, 36, 37, 38, 30, 31] (by decide +kernel) (by decide +kernel)
set_option maxRecDepth 20000 in
theorem gX0_init_X1_init : GoodIn wsX0_init (wsX1_init) := ggX0_init_X1_init
theorem dX0_init_0 : decode cX0_init 0 = .ok (.aload_n 0, 1) := by decide +kernel
theorem dX0_init_1 : decode cX0_init 1 = .ok (.invokespecial 3, 3) := by decide +kernel
theorem dX0_init_4 : decode cX0_init 4 = .ok (.aload_n 0, 1) := by decide +kernel
theorem dX0_init_5 : decode cX0_init 5 = .ok (.new 9, 3) := by decide +kernel
theorem dX0_init_8 : decode cX0_init 8 = .ok (.dup, 1) := by decide +kernel
theorem dX0_init_9 : decode cX0_init 9 = .ok (.bipush 30, 2) := by decide +kernel
theorem dX0_init_11 : decode cX0_init 11 = .ok (.invokespecial 11, 3) := by decide +kernel
theorem dX0_init_14 : decode cX0_init 14 = .ok (.putfield 14, 3) := by decide +kernel
theorem dX0_init_17 : decode cX0_init 17 = .ok (.aload_n 0, 1) := by decide +kernel
theorem dX0_init_18 : decode cX0_init 18 = .ok (.new 20, 3) := by decide +kernel
theorem dX0_init_21 : decode cX0_init 21 = .ok (.dup, 1) := by decide +kernel
theorem dX0_init_22 : decode cX0_init 22 = .ok (.iload_n 1, 1) := by decide +kernel
theorem dX0_init_23 : decode cX0_init 23 = .ok (.invokespecial 22, 3) := by decide +kernel
theorem dX0_init_26 : decode cX0_init 26 = .ok (.putfield 23, 3) := by decide +kernel
theorem dX0_init_29 : decode cX0_init 29 = .ok (.return_, 1) := by decide +kernel
theorem dX0_gateNumber_0 : decode cX0_gateNumber 0 = .ok (.aload_n 0, 1) := by decide +kernel
theorem dX0_gateNumber_1 : decode cX0_gateNumber 1 = .ok (.getfield 27, 3) := by decide +kernel
theorem dX0_gateNumber_4 : decode cX0_gateNumber 4 = .ok (.ifnonnull 7, 3) := by decide +kernel
theorem dX0_gateNumber_7 : decode cX0_gateNumber 7 = .ok (.iconst (-1), 1) := by decide +kernel
theorem dX0_gateNumber_8 : decode cX0_gateNumber 8 = .ok (.goto 10, 3) := by decide +kernel
theorem dX0_gateNumber_11 : decode cX0_gateNumber 11 = .ok (.aload_n 0, 1) := by decide +kernel
theorem dX0_gateNumber_12 : decode cX0_gateNumber 12 = .ok (.getfield 27, 3) := by decide +kernel
theorem dX0_gateNumber_15 : decode cX0_gateNumber 15 = .ok (.getfield 31, 3) := by decide +kernel
theorem dX0_gateNumber_18 : decode cX0_gateNumber 18 = .ok (.ireturn, 1) := by decide +kernel
theorem dX0_rampNumber_0 : decode cX0_rampNumber 0 = .ok (.aload_n 0, 1) := by decide +kernel
theorem dX0_rampNumber_1 : decode cX0_rampNumber 1 = .ok (.getfield 37, 3) := by decide +kernel
theorem dX0_rampNumber_4 : decode cX0_rampNumber 4 = .ok (.ifnonnull 7, 3) := by decide +kernel
theorem dX0_rampNumber_7 : decode cX0_rampNumber 7 = .ok (.iconst (-1), 1) := by decide +kernel
theorem dX0_rampNumber_8 : decode cX0_rampNumber 8 = .ok (.goto 10, 3) := by decide +kernel
theorem dX0_rampNumber_11 : decode cX0_rampNumber 11 = .ok (.aload_n 0, 1) := by decide +kernel
theorem dX0_rampNumber_12 : decode cX0_rampNumber 12 = .ok (.getfield 37, 3) := by decide +kernel
theorem dX0_rampNumber_15 : decode cX0_rampNumber 15 = .ok (.getfield 41, 3) := by decide +kernel
theorem dX0_rampNumber_18 : decode cX0_rampNumber 18 = .ok (.ireturn, 1) := by decide +kernel
set_option maxRecDepth 20000 in
theorem ggX1_init_X4_init : GoodIn wsX1_init wsX4_init := goodIn_r _ [11, 12, 2, 3, 13, 14, 15, 16, 17, 18, 22, 23] (by decide +kernel) (by decide +kernel)
set_option maxRecDepth 20000 in
theorem gX1_init_X4_init : GoodIn wsX1_init (wsX4_init) := ggX1_init_X4_init
theorem dX1_init_0 : decode cX1_init 0 = .ok (.aload_n 0, 1) := by decide +kernel
theorem dX1_init_1 : decode cX1_init 1 = .ok (.invokespecial 3, 3) := by decide +kernel
theorem dX1_init_4 : decode cX1_init 4 = .ok (.aload_n 0, 1) := by decide +kernel
theorem dX1_init_5 : decode cX1_init 5 = .ok (.iload_n 1, 1) := by decide +kernel
theorem dX1_init_6 : decode cX1_init 6 = .ok (.putfield 9, 3) := by decide +kernel
theorem dX1_init_9 : decode cX1_init 9 = .ok (.aload_n 0, 1) := by decide +kernel
theorem dX1_init_10 : decode cX1_init 10 = .ok (.new 15, 3) := by decide +kernel
theorem dX1_init_13 : decode cX1_init 13 = .ok (.dup, 1) := by decide +kernel
theorem dX1_init_14 : decode cX1_init 14 = .ok (.bipush 40, 2) := by decide +kernel
theorem dX1_init_16 : decode cX1_init 16 = .ok (.invokespecial 17, 3) := by decide +kernel
theorem dX1_init_19 : decode cX1_init 19 = .ok (.putfield 20, 3) := by decide +kernel
theorem dX1_init_22 : decode cX1_init 22 = .ok (.return_, 1) := by decide +kernel
set_option maxRecDepth 20000 in
theorem ggX1_hasRoomFor_X4_isFull : GoodIn wsX1_hasRoomFor wsX4_isFull := goodIn_r _ [8, 9, 10, 14, 15] (by decide +kernel) (by decide +kernel)
set_option maxRecDepth 20000 in
theorem gX1_hasRoomFor_X4_isFull : GoodIn wsX1_hasRoomFor (wsV RX1 24 RX4 yX4_isFull wsX4_isFull) := goodIn_app (goodIn_of _ (by decide +kernel)) ggX1_hasRoomFor_X4_isFull
theorem dX1_hasRoomFor_0 : decode cX1_hasRoomFor 0 = .ok (.aload_n 0, 1) := by decide +kernel
theorem dX1_hasRoomFor_1 : decode cX1_hasRoomFor 1 = .ok (.getfield 20, 3) := by decide +kernel
theorem dX1_hasRoomFor_4 : decode cX1_hasRoomFor 4 = .ok (.invokevirtual 24, 3) := by decide +kernel
theorem dX1_hasRoomFor_7 : decode cX1_hasRoomFor 7 = .ok (.ifCond .ne 20, 3) := by decide +kernel
theorem dX1_hasRoomFor_10 : decode cX1_hasRoomFor 10 = .ok (.aload_n 0, 1) := by decide +kernel
theorem dX1_hasRoomFor_11 : decode cX1_hasRoomFor 11 = .ok (.getfield 28, 3) := by decide +kernel
theorem dX1_hasRoomFor_14 : decode cX1_hasRoomFor 14 = .ok (.iload_n 1, 1) := by decide +kernel
theorem dX1_hasRoomFor_15 : decode cX1_hasRoomFor 15 = .ok (.iadd, 1) := by decide +kernel
theorem dX1_hasRoomFor_16 : decode cX1_hasRoomFor 16 = .ok (.aload_n 0, 1) := by decide +kernel
theorem dX1_hasRoomFor_17 : decode cX1_hasRoomFor 17 = .ok (.getfield 9, 3) := by decide +kernel
theorem dX1_hasRoomFor_20 : decode cX1_hasRoomFor 20 = .ok (.if_icmp .gt 7, 3) := by decide +kernel
theorem dX1_hasRoomFor_23 : decode cX1_hasRoomFor 23 = .ok (.iconst 1, 1) := by decide +kernel
theorem dX1_hasRoomFor_24 : decode cX1_hasRoomFor 24 = .ok (.goto 4, 3) := by decide +kernel
theorem dX1_hasRoomFor_27 : decode cX1_hasRoomFor 27 = .ok (.iconst 0, 1) := by decide +kernel
theorem dX1_hasRoomFor_28 : decode cX1_hasRoomFor 28 = .ok (.ireturn, 1) := by decide +kernel
set_option maxRecDepth 20000 in
theorem ggX1_takeAboard_X4_addLast : GoodIn wsX1_takeAboard wsX4_addLast := goodIn_r _ [7, 8, 9, 13, 14] (by decide +kernel) (by decide +kernel)
set_option maxRecDepth 20000 in
theorem gX1_takeAboard_X4_addLast : GoodIn wsX1_takeAboard (wsV RX1 31 RX4 yX4_addLast wsX4_addLast) := goodIn_app (goodIn_of _ (by decide +kernel)) ggX1_takeAboard_X4_addLast
theorem dX1_takeAboard_0 : decode cX1_takeAboard 0 = .ok (.aload_n 0, 1) := by decide +kernel
theorem dX1_takeAboard_1 : decode cX1_takeAboard 1 = .ok (.getfield 20, 3) := by decide +kernel
theorem dX1_takeAboard_4 : decode cX1_takeAboard 4 = .ok (.iload_n 1, 1) := by decide +kernel
theorem dX1_takeAboard_5 : decode cX1_takeAboard 5 = .ok (.invokevirtual 31, 3) := by decide +kernel
theorem dX1_takeAboard_8 : decode cX1_takeAboard 8 = .ok (.aload_n 0, 1) := by decide +kernel
theorem dX1_takeAboard_9 : decode cX1_takeAboard 9 = .ok (.dup, 1) := by decide +kernel
theorem dX1_takeAboard_10 : decode cX1_takeAboard 10 = .ok (.getfield 28, 3) := by decide +kernel
theorem dX1_takeAboard_13 : decode cX1_takeAboard 13 = .ok (.iload_n 1, 1) := by decide +kernel
theorem dX1_takeAboard_14 : decode cX1_takeAboard 14 = .ok (.iadd, 1) := by decide +kernel
theorem dX1_takeAboard_15 : decode cX1_takeAboard 15 = .ok (.putfield 28, 3) := by decide +kernel
theorem dX1_takeAboard_18 : decode cX1_takeAboard 18 = .ok (.return_, 1) := by decide +kernel
set_option maxRecDepth 20000 in
theorem ggX1_weightOfLast_X4_weightAt : GoodIn wsX1_weightOfLast wsX4_weightAt := goodIn_r _ [7, 8, 9, 13, 14] (by decide +kernel) (by decide +kernel)
set_option maxRecDepth 20000 in
theorem gX1_weightOfLast_X4_weightAt : GoodIn wsX1_weightOfLast (wsV RX1 37 RX4 yX4_weightAt wsX4_weightAt) := goodIn_app (goodIn_of _ (by decide +kernel)) ggX1_weightOfLast_X4_weightAt
theorem dX1_weightOfLast_0 : decode cX1_weightOfLast 0 = .ok (.aload_n 0, 1) := by decide +kernel
theorem dX1_weightOfLast_1 : decode cX1_weightOfLast 1 = .ok (.getfield 20, 3) := by decide +kernel
theorem dX1_weightOfLast_4 : decode cX1_weightOfLast 4 = .ok (.aload_n 0, 1) := by decide +kernel
theorem dX1_weightOfLast_5 : decode cX1_weightOfLast 5 = .ok (.getfield 20, 3) := by decide +kernel
theorem dX1_weightOfLast_8 : decode cX1_weightOfLast 8 = .ok (.getfield 34, 3) := by decide +kernel
theorem dX1_weightOfLast_11 : decode cX1_weightOfLast 11 = .ok (.iconst 1, 1) := by decide +kernel
theorem dX1_weightOfLast_12 : decode cX1_weightOfLast 12 = .ok (.isub, 1) := by decide +kernel
theorem dX1_weightOfLast_13 : decode cX1_weightOfLast 13 = .ok (.invokevirtual 37, 3) := by decide +kernel
theorem dX1_weightOfLast_16 : decode cX1_weightOfLast 16 = .ok (.ireturn, 1) := by decide +kernel
set_option maxRecDepth 20000 in
theorem ggX1_putLastAshore_X1_weightOfLast : GoodIn wsX1_putLastAshore wsX1_weightOfLast := goodIn_r _ [8, 1, 2, 9, 10, 11, 12, 13, 14, 15, 20, 21, 22, 23, 24] (by decide +kernel) (by decide +kernel)
set_option maxRecDepth 20000 in
theorem gX1_putLastAshore_X1_weightOfLast : GoodIn wsX1_putLastAshore (wsV RX1 41 RX1 yX1_weightOfLast wsX1_weightOfLast) := goodIn_app (goodIn_of _ (by decide +kernel)) ggX1_putLastAshore_X1_weightOfLast
set_option maxRecDepth 20000 in
theorem ggX1_putLastAshore_X4_removeLast : GoodIn wsX1_putLastAshore wsX4_removeLast := goodIn_r _ [19, 14, 23, 24] (by decide +kernel) (by decide +kernel)
set_option maxRecDepth 20000 in
theorem gX1_putLastAshore_X4_removeLast : GoodIn wsX1_putLastAshore (wsV RX1 45 RX4 yX4_removeLast wsX4_removeLast) := goodIn_app (goodIn_of _ (by decide +kernel)) ggX1_putLastAshore_X4_removeLast
theorem dX1_putLastAshore_0 : decode cX1_putLastAshore 0 = .ok (.aload_n 0, 1) := by decide +kernel
theorem dX1_putLastAshore_1 : decode cX1_putLastAshore 1 = .ok (.getfield 20, 3) := by decide +kernel
theorem dX1_putLastAshore_4 : decode cX1_putLastAshore 4 = .ok (.getfield 34, 3) := by decide +kernel
theorem dX1_putLastAshore_7 : decode cX1_putLastAshore 7 = .ok (.ifCond .le 23, 3) := by decide +kernel
theorem dX1_putLastAshore_10 : decode cX1_putLastAshore 10 = .ok (.aload_n 0, 1) := by decide +kernel
theorem dX1_putLastAshore_11 : decode cX1_putLastAshore 11 = .ok (.dup, 1) := by decide +kernel
theorem dX1_putLastAshore_12 : decode cX1_putLastAshore 12 = .ok (.getfield 28, 3) := by decide +kernel
theorem dX1_putLastAshore_15 : decode cX1_putLastAshore 15 = .ok (.aload_n 0, 1) := by decide +kernel
theorem dX1_putLastAshore_16 : decode cX1_putLastAshore 16 = .ok (.invokevirtual 41, 3) := by decide +kernel
theorem dX1_putLastAshore_19 : decode cX1_putLastAshore 19 = .ok (.isub, 1) := by decide +kernel
theorem dX1_putLastAshore_20 : decode cX1_putLastAshore 20 = .ok (.putfield 28, 3) := by decide +kernel
theorem dX1_putLastAshore_23 : decode cX1_putLastAshore 23 = .ok (.aload_n 0, 1) := by decide +kernel
theorem dX1_putLastAshore_24 : decode cX1_putLastAshore 24 = .ok (.getfield 20, 3) := by decide +kernel
theorem dX1_putLastAshore_27 : decode cX1_putLastAshore 27 = .ok (.invokevirtual 45, 3) := by decide +kernel
theorem dX1_putLastAshore_30 : decode cX1_putLastAshore 30 = .ok (.return_, 1) := by decide +kernel
theorem dX2_init_0 : decode cX2_init 0 = .ok (.aload_n 0, 1) := by decide +kernel
theorem dX2_init_1 : decode cX2_init 1 = .ok (.invokespecial 1, 3) := by decide +kernel
theorem dX2_init_4 : decode cX2_init 4 = .ok (.aload_n 0, 1) := by decide +kernel
theorem dX2_init_5 : decode cX2_init 5 = .ok (.iload_n 1, 1) := by decide +kernel
theorem dX2_init_6 : decode cX2_init 6 = .ok (.putfield 7, 3) := by decide +kernel
theorem dX2_init_9 : decode cX2_init 9 = .ok (.return_, 1) := by decide +kernel
theorem dX2_shutAsNumber_0 : decode cX2_shutAsNumber 0 = .ok (.aload_n 0, 1) := by decide +kernel
theorem dX2_shutAsNumber_1 : decode cX2_shutAsNumber 1 = .ok (.getfield 13, 3) := by decide +kernel
theorem dX2_shutAsNumber_4 : decode cX2_shutAsNumber 4 = .ok (.ifCond .eq 7, 3) := by decide +kernel
theorem dX2_shutAsNumber_7 : decode cX2_shutAsNumber 7 = .ok (.iconst 1, 1) := by decide +kernel
theorem dX2_shutAsNumber_8 : decode cX2_shutAsNumber 8 = .ok (.goto 4, 3) := by decide +kernel
theorem dX2_shutAsNumber_11 : decode cX2_shutAsNumber 11 = .ok (.iconst 0, 1) := by decide +kernel
theorem dX2_shutAsNumber_12 : decode cX2_shutAsNumber 12 = .ok (.ireturn, 1) := by decide +kernel
theorem dX3_init_0 : decode cX3_init 0 = .ok (.aload_n 0, 1) := by decide +kernel
theorem dX3_init_1 : decode cX3_init 1 = .ok (.invokespecial 1, 3) := by decide +kernel
theorem dX3_init_4 : decode cX3_init 4 = .ok (.aload_n 0, 1) := by decide +kernel
theorem dX3_init_5 : decode cX3_init 5 = .ok (.iload_n 1, 1) := by decide +kernel
theorem dX3_init_6 : decode cX3_init 6 = .ok (.putfield 7, 3) := by decide +kernel
theorem dX3_init_9 : decode cX3_init 9 = .ok (.aload_n 0, 1) := by decide +kernel
theorem dX3_init_10 : decode cX3_init 10 = .ok (.iload_n 2, 1) := by decide +kernel
theorem dX3_init_11 : decode cX3_init 11 = .ok (.putfield 13, 3) := by decide +kernel
theorem dX3_init_14 : decode cX3_init 14 = .ok (.return_, 1) := by decide +kernel
theorem dX4_init_0 : decode cX4_init 0 = .ok (.aload_n 0, 1) := by decide +kernel
theorem dX4_init_1 : decode cX4_init 1 = .ok (.invokespecial 3, 3) := by decide +kernel
theorem dX4_init_4 : decode cX4_init 4 = .ok (.aload_n 0, 1) := by decide +kernel
theorem dX4_init_5 : decode cX4_init 5 = .ok (.iload_n 1, 1) := by decide +kernel
theorem dX4_init_6 : decode cX4_init 6 = .ok (.iconst 0, 1) := by decide +kernel
theorem dX4_init_7 : decode cX4_init 7 = .ok (.invokestatic 9, 3) := by decide +kernel
theorem dX4_init_10 : decode cX4_init 10 = .ok (.newarray .int, 2) := by decide +kernel
theorem dX4_init_12 : decode cX4_init 12 = .ok (.putfield 15, 3) := by decide +kernel
theorem dX4_init_15 : decode cX4_init 15 = .ok (.return_, 1) := by decide +kernel
theorem dX4_isFull_0 : decode cX4_isFull 0 = .ok (.aload_n 0, 1) := by decide +kernel
theorem dX4_isFull_1 : decode cX4_isFull 1 = .ok (.getfield 21, 3) := by decide +kernel
theorem dX4_isFull_4 : decode cX4_isFull 4 = .ok (.aload_n 0, 1) := by decide +kernel
theorem dX4_isFull_5 : decode cX4_isFull 5 = .ok (.getfield 15, 3) := by decide +kernel
theorem dX4_isFull_8 : decode cX4_isFull 8 = .ok (.arraylength, 1) := by decide +kernel
theorem dX4_isFull_9 : decode cX4_isFull 9 = .ok (.if_icmp .lt 7, 3) := by decide +kernel
theorem dX4_isFull_12 : decode cX4_isFull 12 = .ok (.iconst 1, 1) := by decide +kernel
theorem dX4_isFull_13 : decode cX4_isFull 13 = .ok (.goto 4, 3) := by decide +kernel
theorem dX4_isFull_16 : decode cX4_isFull 16 = .ok (.iconst 0, 1) := by decide +kernel
theorem dX4_isFull_17 : decode cX4_isFull 17 = .ok (.ireturn, 1) := by decide +kernel
theorem dX4_weightAt_0 : decode cX4_weightAt 0 = .ok (.iload_n 1, 1) := by decide +kernel
theorem dX4_weightAt_1 : decode cX4_weightAt 1 = .ok (.ifCond .lt 29, 3) := by decide +kernel
theorem dX4_weightAt_4 : decode cX4_weightAt 4 = .ok (.iload_n 1, 1) := by decide +kernel
theorem dX4_weightAt_5 : decode cX4_weightAt 5 = .ok (.aload_n 0, 1) := by decide +kernel
theorem dX4_weightAt_6 : decode cX4_weightAt 6 = .ok (.getfield 21, 3) := by decide +kernel
theorem dX4_weightAt_9 : decode cX4_weightAt 9 = .ok (.if_icmp .ge 21, 3) := by decide +kernel
theorem dX4_weightAt_12 : decode cX4_weightAt 12 = .ok (.iload_n 1, 1) := by decide +kernel
theorem dX4_weightAt_13 : decode cX4_weightAt 13 = .ok (.aload_n 0, 1) := by decide +kernel
theorem dX4_weightAt_14 : decode cX4_weightAt 14 = .ok (.getfield 15, 3) := by decide +kernel
theorem dX4_weightAt_17 : decode cX4_weightAt 17 = .ok (.arraylength, 1) := by decide +kernel
theorem dX4_weightAt_18 : decode cX4_weightAt 18 = .ok (.if_icmp .ge 12, 3) := by decide +kernel
theorem dX4_weightAt_21 : decode cX4_weightAt 21 = .ok (.aload_n 0, 1) := by decide +kernel
theorem dX4_weightAt_22 : decode cX4_weightAt 22 = .ok (.getfield 15, 3) := by decide +kernel
theorem dX4_weightAt_25 : decode cX4_weightAt 25 = .ok (.iload_n 1, 1) := by decide +kernel
theorem dX4_weightAt_26 : decode cX4_weightAt 26 = .ok (.iaload, 1) := by decide +kernel
theorem dX4_weightAt_27 : decode cX4_weightAt 27 = .ok (.goto 4, 3) := by decide +kernel
theorem dX4_weightAt_30 : decode cX4_weightAt 30 = .ok (.iconst (-1), 1) := by decide +kernel
theorem dX4_weightAt_31 : decode cX4_weightAt 31 = .ok (.ireturn, 1) := by decide +kernel
theorem dX4_addLast_0 : decode cX4_addLast 0 = .ok (.aload_n 0, 1) := by decide +kernel
theorem dX4_addLast_1 : decode cX4_addLast 1 = .ok (.getfield 21, 3) := by decide +kernel
theorem dX4_addLast_4 : decode cX4_addLast 4 = .ok (.ifCond .lt 35, 3) := by decide +kernel
theorem dX4_addLast_7 : decode cX4_addLast 7 = .ok (.aload_n 0, 1) := by decide +kernel
theorem dX4_addLast_8 : decode cX4_addLast 8 = .ok (.getfield 21, 3) := by decide +kernel
theorem dX4_addLast_11 : decode cX4_addLast 11 = .ok (.aload_n 0, 1) := by decide +kernel
theorem dX4_addLast_12 : decode cX4_addLast 12 = .ok (.getfield 15, 3) := by decide +kernel
theorem dX4_addLast_15 : decode cX4_addLast 15 = .ok (.arraylength, 1) := by decide +kernel
theorem dX4_addLast_16 : decode cX4_addLast 16 = .ok (.if_icmp .ge 23, 3) := by decide +kernel
theorem dX4_addLast_19 : decode cX4_addLast 19 = .ok (.aload_n 0, 1) := by decide +kernel
theorem dX4_addLast_20 : decode cX4_addLast 20 = .ok (.getfield 15, 3) := by decide +kernel
theorem dX4_addLast_23 : decode cX4_addLast 23 = .ok (.aload_n 0, 1) := by decide +kernel
theorem dX4_addLast_24 : decode cX4_addLast 24 = .ok (.getfield 21, 3) := by decide +kernel
theorem dX4_addLast_27 : decode cX4_addLast 27 = .ok (.iload_n 1, 1) := by decide +kernel
theorem dX4_addLast_28 : decode cX4_addLast 28 = .ok (.iastore, 1) := by decide +kernel
theorem dX4_addLast_29 : decode cX4_addLast 29 = .ok (.aload_n 0, 1) := by decide +kernel
theorem dX4_addLast_30 : decode cX4_addLast 30 = .ok (.dup, 1) := by decide +kernel
theorem dX4_addLast_31 : decode cX4_addLast 31 = .ok (.getfield 21, 3) := by decide +kernel
theorem dX4_addLast_34 : decode cX4_addLast 34 = .ok (.iconst 1, 1) := by decide +kernel
theorem dX4_addLast_35 : decode cX4_addLast 35 = .ok (.iadd, 1) := by decide +kernel
theorem dX4_addLast_36 : decode cX4_addLast 36 = .ok (.putfield 21, 3) := by decide +kernel
theorem dX4_addLast_39 : decode cX4_addLast 39 = .ok (.return_, 1) := by decide +kernel
theorem dX4_removeFirst_0 : decode cX4_removeFirst 0 = .ok (.aload_n 0, 1) := by decide +kernel
theorem dX4_removeFirst_1 : decode cX4_removeFirst 1 = .ok (.getfield 21, 3) := by decide +kernel
theorem dX4_removeFirst_4 : decode cX4_removeFirst 4 = .ok (.ifCond .le 42, 3) := by decide +kernel
theorem dX4_removeFirst_7 : decode cX4_removeFirst 7 = .ok (.aload_n 0, 1) := by decide +kernel
theorem dX4_removeFirst_8 : decode cX4_removeFirst 8 = .ok (.getfield 21, 3) := by decide +kernel
theorem dX4_removeFirst_11 : decode cX4_removeFirst 11 = .ok (.aload_n 0, 1) := by decide +kernel
theorem dX4_removeFirst_12 : decode cX4_removeFirst 12 = .ok (.getfield 15, 3) := by decide +kernel
theorem dX4_removeFirst_15 : decode cX4_removeFirst 15 = .ok (.arraylength, 1) := by decide +kernel
theorem dX4_removeFirst_16 : decode cX4_removeFirst 16 = .ok (.if_icmp .gt 30, 3) := by decide +kernel
theorem dX4_removeFirst_19 : decode cX4_removeFirst 19 = .ok (.aload_n 0, 1) := by decide +kernel
theorem dX4_removeFirst_20 : decode cX4_removeFirst 20 = .ok (.dup, 1) := by decide +kernel
theorem dX4_removeFirst_21 : decode cX4_removeFirst 21 = .ok (.getfield 21, 3) := by decide +kernel
theorem dX4_removeFirst_24 : decode cX4_removeFirst 24 = .ok (.iconst 1, 1) := by decide +kernel
theorem dX4_removeFirst_25 : decode cX4_removeFirst 25 = .ok (.isub, 1) := by decide +kernel
theorem dX4_removeFirst_26 : decode cX4_removeFirst 26 = .ok (.putfield 21, 3) := by decide +kernel
theorem dX4_removeFirst_29 : decode cX4_removeFirst 29 = .ok (.aload_n 0, 1) := by decide +kernel
theorem dX4_removeFirst_30 : decode cX4_removeFirst 30 = .ok (.getfield 15, 3) := by decide +kernel
theorem dX4_removeFirst_33 : decode cX4_removeFirst 33 = .ok (.iconst 1, 1) := by decide +kernel
theorem dX4_removeFirst_34 : decode cX4_removeFirst 34 = .ok (.aload_n 0, 1) := by decide +kernel
theorem dX4_removeFirst_35 : decode cX4_removeFirst 35 = .ok (.getfield 15, 3) := by decide +kernel
theorem dX4_removeFirst_38 : decode cX4_removeFirst 38 = .ok (.iconst 0, 1) := by decide +kernel
theorem dX4_removeFirst_39 : decode cX4_removeFirst 39 = .ok (.aload_n 0, 1) := by decide +kernel
theorem dX4_removeFirst_40 : decode cX4_removeFirst 40 = .ok (.getfield 21, 3) := by decide +kernel
theorem dX4_removeFirst_43 : decode cX4_removeFirst 43 = .ok (.invokestatic 25, 3) := by decide +kernel
theorem dX4_removeFirst_46 : decode cX4_removeFirst 46 = .ok (.return_, 1) := by decide +kernel
theorem dX4_removeLast_0 : decode cX4_removeLast 0 = .ok (.aload_n 0, 1) := by decide +kernel
theorem dX4_removeLast_1 : decode cX4_removeLast 1 = .ok (.getfield 21, 3) := by decide +kernel
theorem dX4_removeLast_4 : decode cX4_removeLast 4 = .ok (.ifCond .le 13, 3) := by decide +kernel
theorem dX4_removeLast_7 : decode cX4_removeLast 7 = .ok (.aload_n 0, 1) := by decide +kernel
theorem dX4_removeLast_8 : decode cX4_removeLast 8 = .ok (.dup, 1) := by decide +kernel
theorem dX4_removeLast_9 : decode cX4_removeLast 9 = .ok (.getfield 21, 3) := by decide +kernel
theorem dX4_removeLast_12 : decode cX4_removeLast 12 = .ok (.iconst 1, 1) := by decide +kernel
theorem dX4_removeLast_13 : decode cX4_removeLast 13 = .ok (.isub, 1) := by decide +kernel
theorem dX4_removeLast_14 : decode cX4_removeLast 14 = .ok (.putfield 21, 3) := by decide +kernel
theorem dX4_removeLast_17 : decode cX4_removeLast 17 = .ok (.return_, 1) := by decide +kernel
theorem dJ9_max_7cf53_0 : decode cJ9_max_7cf53 0 = .ok (.iload_n 0, 1) := by decide +kernel
theorem dJ9_max_7cf53_1 : decode cJ9_max_7cf53 1 = .ok (.iload_n 1, 1) := by decide +kernel
theorem dJ9_max_7cf53_2 : decode cJ9_max_7cf53 2 = .ok (.if_icmp .lt 7, 3) := by decide +kernel
theorem dJ9_max_7cf53_5 : decode cJ9_max_7cf53 5 = .ok (.iload_n 0, 1) := by decide +kernel
theorem dJ9_max_7cf53_6 : decode cJ9_max_7cf53 6 = .ok (.goto 4, 3) := by decide +kernel
theorem dJ9_max_7cf53_9 : decode cJ9_max_7cf53 9 = .ok (.iload_n 1, 1) := by decide +kernel
theorem dJ9_max_7cf53_10 : decode cJ9_max_7cf53 10 = .ok (.ireturn, 1) := by decide +kernel
end
section
/-! THE WORLD: cells by kind and number. E k i: what the cell holds; ad k i: where it lies. -/
def u2 {α : Type} (f : Nat → Nat → α) (k i : Nat) (v : α) : Nat → Nat → α := va_up f k (va_up (f k) i v)
theorem u2_self {α : Type} {f : Nat → Nat → α} {k i : Nat} {v : α} : u2 f k i v k i = v := by simp [u2, va_up]
theorem u2_k {α : Type} {f : Nat → Nat → α} {k i k' : Nat} {v : α} (h : k' ≠ k) : u2 f k i v k' = f k' := by simp [u2, va_up, h]
theorem u2_i {α : Type} {f : Nat → Nat → α} {k i i' : Nat} {v : α} (h : i' ≠ i) : u2 f k i v k i' = f k i' := by simp [u2, va_up, h]
theorem u2_some {α : Type} {E : Nat → Nat → Option α} {k i k' i' : Nat} {e e' : α} (h : u2 E k i (some e) k' i' = some e') : (k' = k ∧ i' = i ∧ e' = e) ∨ (¬ (k' = k ∧ i' = i) ∧ E k' i' = some e') := by
  by_cases hk : k' = k
  · subst hk
    by_cases hi : i' = i
    · subst hi
      rw [u2_self] at h
      cases h
      exact Or.inl ⟨rfl, rfl, rfl⟩
    · rw [u2_i hi] at h
      exact Or.inr ⟨fun z => hi z.2, h⟩
  · rw [u2_k hk] at h
    exact Or.inr ⟨fun z => hk z.1, h⟩
def wo (G : va_G) (lo : Nat) (E : Nat → Nat → Option va_E) (ad : Nat → Nat → Nat) (H : Heap) : Prop :=
  lo ≤ H.size ∧ (∀ (k i : Nat) (e : va_E), E k i = some e → va_at G vwCl (ad k i, e) H ∧ lo ≤ ad k i) ∧
  ∀ (k i k' i' : Nat) (e e' : va_E), E k i = some e → E k' i' = some e' → ad k i = ad k' i' → k = k' ∧ i = i'
theorem wo.cast {G : va_G} {lo : Nat} {E E' : Nat → Nat → Option va_E} {ad : Nat → Nat → Nat} {H : Heap} (h : wo G lo E ad H) (e : E = E') : wo G lo E' ad H := e ▸ h
theorem wo.one {G : va_G} {lo : Nat} {E : Nat → Nat → Option va_E} {ad : Nat → Nat → Nat} {H : Heap} (h : wo G lo E ad H) {k i : Nat} {e : va_E} (he : E k i = some e) : va_P G vwCl [(ad k i, e)] H := by
  intro j q hj
  cases j with
  | zero => cases hj; exact (h.2.1 k i e he).1
  | succ j => simp at hj
theorem wo.lt {G : va_G} {lo : Nat} {E : Nat → Nat → Option va_E} {ad : Nat → Nat → Nat} {H : Heap} (h : wo G lo E ad H) {k i : Nat} {e : va_E} (he : E k i = some e) : ad k i < H.size := (h.2.1 k i e he).1.lt
theorem wo.set {G : va_G} {lo : Nat} {E : Nat → Nat → Option va_E} {ad : Nat → Nat → Nat} {H H1 : Heap} {k i : Nat} {e0 e : va_E} (h : wo G lo E ad H) (he : E k i = some e0) (h1 : va_at G vwCl (ad k i, e) H1) (z : H1.size = H.size) (oq : ∀ q : Nat, q ≠ ad k i → H1[q]? = H[q]?) : wo G lo (u2 E k i (some e)) ad H1 := by
  obtain ⟨h0, h2, h3⟩ := h
  have back : ∀ (k' i' : Nat) (e' : va_E), u2 E k i (some e) k' i' = some e' → ∃ x, E k' i' = some x := by
    intro k' i' e' hh
    rcases u2_some hh with ⟨rfl, rfl, -⟩ | ⟨-, q⟩
    · exact ⟨_, he⟩
    · exact ⟨_, q⟩
  refine ⟨by rw [z]; exact h0, ?_, ?_⟩
  · intro k' i' e' hh
    rcases u2_some hh with ⟨rfl, rfl, rfl⟩ | ⟨hn, hh⟩
    · exact ⟨h1, (h2 _ _ _ he).2⟩
    · exact ⟨(h2 _ _ _ hh).1.kept (oq _ fun q => hn (h3 _ _ _ _ _ _ hh he q)), (h2 _ _ _ hh).2⟩
  · intro k1 i1 k2 i2 e1 e2 hh1 hh2 hq
    obtain ⟨x1, g1⟩ := back _ _ _ hh1
    obtain ⟨x2, g2⟩ := back _ _ _ hh2
    exact h3 _ _ _ _ _ _ g1 g2 hq
theorem wo.new {G : va_G} {lo : Nat} {E : Nat → Nat → Option va_E} {ad : Nat → Nat → Nat} {H H1 : Heap} {k i : Nat} {e : va_E} (h : wo G lo E ad H) (he : E k i = none) (h1 : va_at G vwCl (H.size, e) H1) (z : H1.size = H.size + 1) (oq : ∀ q : Nat, q < H.size → H1[q]? = H[q]?) : wo G lo (u2 E k i (some e)) (u2 ad k i H.size) H1 := by
  obtain ⟨h0, h2, h3⟩ := h
  have old : ∀ (k' i' : Nat) (x : va_E), E k' i' = some x → u2 ad k i H.size k' i' = ad k' i' := by
    intro k' i' x hh
    by_cases hk : k' = k
    · subst hk
      by_cases hi : i' = i
      · subst hi
        rw [he] at hh
        cases hh
      · exact congrFun (show u2 ad k' i H.size k' = va_up (ad k') i H.size by simp [u2, va_up]) i' |>.trans (va_up_ne _ _ hi)
    · rw [u2_k hk]
  have olt : ∀ (k' i' : Nat) (x : va_E), E k' i' = some x → ad k' i' < H.size := fun k' i' x hh => (h2 _ _ _ hh).1.lt
  refine ⟨by omega, ?_, ?_⟩
  · intro k' i' e' hh
    rcases u2_some hh with ⟨rfl, rfl, rfl⟩ | ⟨hn, hh⟩
    · rw [u2_self]
      exact ⟨h1, h0⟩
    · rw [old _ _ _ hh]
      exact ⟨(h2 _ _ _ hh).1.kept (oq _ (olt _ _ _ hh)), (h2 _ _ _ hh).2⟩
  · intro k1 i1 k2 i2 e1 e2 hh1 hh2 hq
    rcases u2_some hh1 with ⟨rfl, rfl, -⟩ | ⟨-, g1⟩ <;> rcases u2_some hh2 with ⟨rfl, rfl, -⟩ | ⟨-, g2⟩
    · exact ⟨rfl, rfl⟩
    · rw [u2_self, old _ _ _ g2] at hq
      have := olt _ _ _ g2
      omega
    · rw [u2_self, old _ _ _ g1] at hq
      have := olt _ _ _ g1
      omega
    · rw [old _ _ _ g1, old _ _ _ g2] at hq
      exact h3 _ _ _ _ _ _ g1 g2 hq
/-! LOCALS as a function -/
def lh (ls : Array Slot) (n : Nat) (f : Nat → Option Value) : Prop := ls.size = n ∧ lv_wf ls ∧ ∀ (i : Nat) (v : Value), f i = some v → ls[i]? = some (.val v) ∧ v.category = 1
theorem lh.at {ls : Array Slot} {n : Nat} {f : Nat → Option Value} (h : lh ls n f) {i : Nat} {v : Value} (hv : f i = some v) : ls[i]? = some (.val v) := (h.2.2 i v hv).1
def lh_l (n : Nat) (f : Nat → Option Value) : List (Nat × Value) := (List.range n).filterMap (fun j => (f j).map (fun v => (j, v)))
theorem lh_mem {n : Nat} {f : Nat → Option Value} {q : Nat × Value} : q ∈ lh_l n f ↔ q.1 < n ∧ f q.1 = some q.2 := by
  obtain ⟨j, v⟩ := q
  simp only [lh_l, List.mem_filterMap, List.mem_range, Option.map_eq_some_iff, Prod.mk.injEq]
  constructor
  · rintro ⟨a, h1, b, h2, rfl, rfl⟩
    exact ⟨h1, h2⟩
  · rintro ⟨h1, h2⟩
    exact ⟨j, h1, v, h2, rfl, rfl⟩
theorem lh.has {ls : Array Slot} {n : Nat} {f : Nat → Option Value} (h : lh ls n f) : lv_has ls n (lh_l n f) := ⟨h.1, h.2.1, fun q hq => h.at (lh_mem.mp hq).2⟩
theorem lh.store {ls ls' : Array Slot} {n i : Nat} {f : Nat → Option Value} {v : Value} (h : lh ls n f) (hc : v.category = 1) (h' : lv_has ls' n ((i, v) :: (lh_l n f).filter (fun q => !(q.1 == i) && !(q.1 + 1 == i && q.2.category == 2)))) : lh ls' n (va_up f i (some v)) := by
  refine ⟨h'.1, h'.2.1, fun j w hj => ?_⟩
  by_cases hji : j = i
  · subst hji
    rw [va_up_self] at hj
    cases hj
    exact ⟨h'.2.2 (j, v) List.mem_cons_self, hc⟩
  · rw [va_up_ne _ _ hji] at hj
    have hw := (h.2.2 j w hj).2
    refine ⟨h'.2.2 (j, w) (List.mem_cons_of_mem _ (List.mem_filter.mpr ⟨lh_mem.mpr ⟨?_, hj⟩, ?_⟩)), hw⟩
    · have := lv_lt (h.at hj)
      rw [h.1] at this
      exact this
    · simp [hji, hw]
theorem lh.of {ls : Array Slot} {n : Nat} {l : List (Nat × Value)} (h : lv_has ls n l) (hc : l.all (fun q => q.2.category == 1) = true) : lh ls n (fun i => (l.find? (fun q => q.1 == i)).map (fun q => q.2)) := by
  refine ⟨h.1, h.2.1, fun i v hv => ?_⟩
  obtain ⟨q, h1, h2⟩ := Option.map_eq_some_iff.mp hv
  have hm := List.mem_of_find?_eq_some h1
  have hi := List.find?_some h1
  simp at hi
  subst h2
  subst hi
  have := List.all_eq_true.mp hc q hm
  simp at this
  exact ⟨h.2.2 q hm, this⟩
section LF
variable {p : Program} {l : Launch} {e : Env} {R : Room} {s : State} {m : MethodId} {args : Array Value} {below : List Frame} {meth : Method} {c : Code} {H : Heap} {locs : List Loc} {cells slots : Nat} {Q : State → Prop}
variable {cc : ByteArray} {pc : Nat} {ls : Array Slot} {rest : List Value} {nL : Nat} {f : Nat → Option Value}
theorem f_iload_n (hx : p.tables.exec = Jvm.exec) (hb : c.code = cc) {k : Fin 4} {x : Int32} (hdg : decode cc pc = .ok (.iload_n k, 1)) (hl : lh ls nL f) (i : Nat) (hi : (k : Nat) = i) (hv : f i = some (.int x)) (kk : W p l e R s m args below meth c H locs cells slots Q (F0 m (pc + 1) ls (.int x :: rest))) : W p l e R s m args below meth c H locs cells slots Q (F0 m pc ls rest) := lv_iload_n hx hb hdg hi (hl.at hv) kk
theorem f_iload (hx : p.tables.exec = Jvm.exec) (hb : c.code = cc) {i : Nat} {x : Int32} (hdg : decode cc pc = .ok (.iload i, 2)) (hl : lh ls nL f) (hv : f i = some (.int x)) (kk : W p l e R s m args below meth c H locs cells slots Q (F0 m (pc + 2) ls (.int x :: rest))) : W p l e R s m args below meth c H locs cells slots Q (F0 m pc ls rest) := lv_iload hx hb hdg (hl.at hv) kk
theorem f_aload_n (hx : p.tables.exec = Jvm.exec) (hb : c.code = cc) {k : Fin 4} {x : Nat} (hdg : decode cc pc = .ok (.aload_n k, 1)) (hl : lh ls nL f) (i : Nat) (hi : (k : Nat) = i) (hv : f i = some (.ref x)) (kk : W p l e R s m args below meth c H locs cells slots Q (F0 m (pc + 1) ls (.ref x :: rest))) : W p l e R s m args below meth c H locs cells slots Q (F0 m pc ls rest) := lv_aload_n hx hb hdg hi (hl.at hv) kk
theorem f_aload (hx : p.tables.exec = Jvm.exec) (hb : c.code = cc) {i : Nat} {x : Nat} (hdg : decode cc pc = .ok (.aload i, 2)) (hl : lh ls nL f) (hv : f i = some (.ref x)) (kk : W p l e R s m args below meth c H locs cells slots Q (F0 m (pc + 2) ls (.ref x :: rest))) : W p l e R s m args below meth c H locs cells slots Q (F0 m pc ls rest) := lv_aload hx hb hdg (hl.at hv) kk
theorem f_aload_nN (hx : p.tables.exec = Jvm.exec) (hb : c.code = cc) {k : Fin 4} (hdg : decode cc pc = .ok (.aload_n k, 1)) (hl : lh ls nL f) (i : Nat) (hi : (k : Nat) = i) (hv : f i = some .null) (kk : W p l e R s m args below meth c H locs cells slots Q (F0 m (pc + 1) ls (.null :: rest))) : W p l e R s m args below meth c H locs cells slots Q (F0 m pc ls rest) := lv_aload_nN hx hb hdg hi (hl.at hv) kk
theorem f_aloadN (hx : p.tables.exec = Jvm.exec) (hb : c.code = cc) {i : Nat} (hdg : decode cc pc = .ok (.aload i, 2)) (hl : lh ls nL f) (hv : f i = some .null) (kk : W p l e R s m args below meth c H locs cells slots Q (F0 m (pc + 2) ls (.null :: rest))) : W p l e R s m args below meth c H locs cells slots Q (F0 m pc ls rest) := lv_aloadN hx hb hdg (hl.at hv) kk
theorem f_istore_n (hx : p.tables.exec = Jvm.exec) (hb : c.code = cc) {k : Fin 4} {x : Int32} (hdg : decode cc pc = .ok (.istore_n k, 1)) (hl : lh ls nL f) (i : Nat) (hi : (k : Nat) = i) (hn : i < nL) (kk : ∀ ls : Array Slot, lh ls nL (va_up f i (some (.int x))) → W p l e R s m args below meth c H locs cells slots Q (F0 m (pc + 1) ls rest)) : W p l e R s m args below meth c H locs cells slots Q (F0 m pc ls (.int x :: rest)) := lv_istore_n hx hb hdg hi hl.has hn rfl (fun ls' h' => kk ls' (hl.store rfl h'))
theorem f_istore (hx : p.tables.exec = Jvm.exec) (hb : c.code = cc) {i : Nat} {x : Int32} (hdg : decode cc pc = .ok (.istore i, 2)) (hl : lh ls nL f) (hn : i < nL) (kk : ∀ ls : Array Slot, lh ls nL (va_up f i (some (.int x))) → W p l e R s m args below meth c H locs cells slots Q (F0 m (pc + 2) ls rest)) : W p l e R s m args below meth c H locs cells slots Q (F0 m pc ls (.int x :: rest)) := lv_istore hx hb hdg hl.has hn rfl (fun ls' h' => kk ls' (hl.store rfl h'))
theorem f_astore_n (hx : p.tables.exec = Jvm.exec) (hb : c.code = cc) {k : Fin 4} {x : Nat} (hdg : decode cc pc = .ok (.astore_n k, 1)) (hl : lh ls nL f) (i : Nat) (hi : (k : Nat) = i) (hn : i < nL) (kk : ∀ ls : Array Slot, lh ls nL (va_up f i (some (.ref x))) → W p l e R s m args below meth c H locs cells slots Q (F0 m (pc + 1) ls rest)) : W p l e R s m args below meth c H locs cells slots Q (F0 m pc ls (.ref x :: rest)) := lv_astore_n hx hb hdg hi hl.has hn rfl (fun ls' h' => kk ls' (hl.store rfl h'))
theorem f_astore (hx : p.tables.exec = Jvm.exec) (hb : c.code = cc) {i : Nat} {x : Nat} (hdg : decode cc pc = .ok (.astore i, 2)) (hl : lh ls nL f) (hn : i < nL) (kk : ∀ ls : Array Slot, lh ls nL (va_up f i (some (.ref x))) → W p l e R s m args below meth c H locs cells slots Q (F0 m (pc + 2) ls rest)) : W p l e R s m args below meth c H locs cells slots Q (F0 m pc ls (.ref x :: rest)) := lv_astore hx hb hdg hl.has hn rfl (fun ls' h' => kk ls' (hl.store rfl h'))
theorem f_astore_nN (hx : p.tables.exec = Jvm.exec) (hb : c.code = cc) {k : Fin 4} (hdg : decode cc pc = .ok (.astore_n k, 1)) (hl : lh ls nL f) (i : Nat) (hi : (k : Nat) = i) (hn : i < nL) (kk : ∀ ls : Array Slot, lh ls nL (va_up f i (some .null)) → W p l e R s m args below meth c H locs cells slots Q (F0 m (pc + 1) ls rest)) : W p l e R s m args below meth c H locs cells slots Q (F0 m pc ls (.null :: rest)) := lv_astore_nN hx hb hdg hi hl.has hn rfl (fun ls' h' => kk ls' (hl.store rfl h'))
theorem f_astoreN (hx : p.tables.exec = Jvm.exec) (hb : c.code = cc) {i : Nat} (hdg : decode cc pc = .ok (.astore i, 2)) (hl : lh ls nL f) (hn : i < nL) (kk : ∀ ls : Array Slot, lh ls nL (va_up f i (some .null)) → W p l e R s m args below meth c H locs cells slots Q (F0 m (pc + 2) ls rest)) : W p l e R s m args below meth c H locs cells slots Q (F0 m pc ls (.null :: rest)) := lv_astoreN hx hb hdg hl.has hn rfl (fun ls' h' => kk ls' (hl.store rfl h'))
theorem f_iinc (hx : p.tables.exec = Jvm.exec) (hb : c.code = cc) {i : Nat} {n : Int} {x : Int32} (hdg : decode cc pc = .ok (.iinc i n, 3)) (hl : lh ls nL f) (hv : f i = some (.int x)) {d : Int32} (hd : Int32.ofInt n = d) (hn : i < nL) (kk : ∀ ls : Array Slot, lh ls nL (va_up f i (some (.int (x + d)))) → W p l e R s m args below meth c H locs cells slots Q (F0 m (pc + 3) ls rest)) : W p l e R s m args below meth c H locs cells slots Q (F0 m pc ls rest) := by
  subst hd
  have hm : (i, Value.int x) ∈ lh_l nL f := lh_mem.mpr ⟨by have := lv_lt (hl.at hv); rw [hl.1] at this; exact this, hv⟩
  obtain ⟨k, hk⟩ := List.getElem?_of_mem hm
  exact lv_iinc hx hb hdg hl.has hk rfl hn rfl (fun ls' h' => kk ls' (hl.store rfl h'))
end LF
section LE
variable {p : Program} {l : Launch} {e : Env} {R : Room} {s : State} {m : MethodId} {args : Array Value} {below : List Frame} {meth : Method} {c : Code} {H : Heap} {locs : List Loc} {cells slots : Nat} {Q : State → Prop}
variable {cc : ByteArray} {pc : Nat} {ls : Array Slot} {rest : List Value} {G : va_G} {lo : Nat} {E : Nat → Nat → Option va_E} {ad : Nat → Nat → Nat} {H0 : Heap} {tys : List (ClassId × FieldType)} {k i : Nat}
theorem e_get (hx : p.tables.exec = Jvm.exec) (hb : c.code = cc) {own C : String} {T : u_T} {N ci index : Nat} {Ts : List Cond} (hts : ∀ w ∈ Ts, w.before args s = true) (hin : ∀ w ∈ u_ws C T N, w ∈ Ts) (hown : s.vm.findClass own = some m.cls) (hK : va_K G vwCl tys s) (hw : wo G lo E ad H) {fs : List Value} (he : E k i = some (.inr (ci, fs))) (hc : vwCl[ci]? = some (C, T, N)) (f : Nat) (hf : f < N) (hlink : (Cond.fieldLink own index (T f).1 (T f).2.1 (T f).2.2.1).before args s = true) {v : Value} (hv : fs[f]? = some v) (hdg : decode cc pc = .ok (.getfield index, 3))
    (kk : W p l e R s m args below meth c H locs cells slots Q (F0 m (pc + 3) ls (v :: rest))) : W p l e R s m args below meth c H locs cells slots Q (F0 m pc ls (.ref (ad k i) :: rest)) :=
  va_get (D := G) (cl := vwCl) (tys := tys) (ws := [(ad k i, .inr (ci, fs))]) hx hb hts hin hown hK (hw.one he) 0 rfl hc f hf hlink (fun _ h => h) hv hdg kk
theorem e_put (hx : p.tables.exec = Jvm.exec) (hb : c.code = cc) {own C : String} {T : u_T} {N ci index : Nat} {Ts : List Cond} (hts : ∀ w ∈ Ts, w.before args s = true) (hin : ∀ w ∈ u_ws C T N, w ∈ Ts) (ty0 : Nat → FieldType) (hty : ∀ k, k < N → parseFieldDescriptor (T k).2.2.1 = some (ty0 k)) (hnm : ∀ a, a < N → ∀ b, b < N → a ≠ b → (T a).2.1 ≠ (T b).2.1) (hown : s.vm.findClass own = some m.cls) (hK : va_K G vwCl tys s) (hw : wo G lo E ad H) (hS0 : va_S (fun q => lo ≤ q) H0 H locs) {fs : List Value} (he : E k i = some (.inr (ci, fs))) (hc : vwCl[ci]? = some (C, T, N)) (f : Nat) (hk : f < N) (hlink : (Cond.fieldLink own index (T f).1 (T f).2.1 (T f).2.2.1).before args s = true) (hfin : (T f).2.2.2 = false) {ty : FieldType} {v : Value} (hd : parseFieldDescriptor (T f).2.2.1 = some ty) (hn : narrow ty v = v) (hfit : fits ty v = true) (hl : f < fs.length)
    (hdg : decode cc pc = .ok (.putfield index, 3)) (kk : ∀ (H1 : Heap) (locs1 : List Loc), wo G lo (u2 E k i (some (.inr (ci, fs.set f v)))) ad H1 → va_S (fun q => lo ≤ q) H0 H1 locs1 → W p l e R s m args below meth c H1 locs1 cells slots Q (F0 m (pc + 3) ls rest)) : W p l e R s m args below meth c H locs cells slots Q (F0 m pc ls (v :: .ref (ad k i) :: rest)) := by
  have hap := va_apart (own := own) hts hin ty0 hty hnm hK hc
  obtain ⟨r, h1, cell, q1, q2, q3, q4⟩ := (hw.2.1 k i _ he).1
  have hr : r = (C, T, N) := Option.some.inj (h1.symm.trans hc)
  subst hr
  obtain ⟨hS, hfc, kC, hkC, hkind⟩ := hK.1 ci _ hc
  obtain ⟨cf, kf, fi, fd, hi, hsl⟩ := hS f hk
  have hlay := hts _ (hin _ (u_in_lay hk))
  unfold u_lay at hlay
  rw [if_neg (by rw [hfin]; decide)] at hlay
  have hst := (u_facts hfc hkC (u_lays hts hin hk) hi).1
  have h6 := u_store hfc hkC hkind hlay hi hd hn hfit
  refine W.putK hx hb (f := fd) ⟨hown, hlink, ⟨_, _, _, hi⟩, hst⟩ (by rw [q2]; exact h6) q1 q3 (by rw [hsl]; exact k2_hasslot (q4 f hk)) rfl rfl hdg fun H' e1 e2 e3 => ?_
  rw [hsl] at e1 ⊢
  exact kk H' _ (hw.set he ⟨_, hc, t_OB.to (V := updV (vp_V fs) f v) ⟨_, e1, q2, q3, t_set q4 hap hk v⟩ (fun j _ => vp_updV_set hl v j)⟩ e2 e3) (hS0.put e2 e3 (hw.2.1 k i _ he).2)
theorem e_putF (hx : p.tables.exec = Jvm.exec) (hb : c.code = cc) {own C : String} {T : u_T} {N ci index : Nat} {Ts : List Cond} (hts : ∀ w ∈ Ts, w.before args s = true) (hin : ∀ w ∈ u_ws C T N, w ∈ Ts) (ty0 : Nat → FieldType) (hty : ∀ k, k < N → parseFieldDescriptor (T k).2.2.1 = some (ty0 k)) (hnm : ∀ a, a < N → ∀ b, b < N → a ≠ b → (T a).2.1 ≠ (T b).2.1) (hown : s.vm.findClass own = some m.cls) (hK : va_K G vwCl tys s) (hw : wo G lo E ad H) (hS0 : va_S (fun q => lo ≤ q) H0 H locs) {fs : List Value} (he : E k i = some (.inr (ci, fs))) (hc : vwCl[ci]? = some (C, T, N)) (f : Nat) (hk : f < N) (hlink : (Cond.fieldLink own index (T f).1 (T f).2.1 (T f).2.2.1).before args s = true) (hfin : (T f).2.2.2 = true) (hin2 : meth.name = "<init>") (hdecl : (T f).1 = own) {ty : FieldType} {v : Value} (hd : parseFieldDescriptor (T f).2.2.1 = some ty) (hn : narrow ty v = v) (hfit : fits ty v = true) (hl : f < fs.length)
    (hdg : decode cc pc = .ok (.putfield index, 3)) (kk : ∀ (H1 : Heap) (locs1 : List Loc), wo G lo (u2 E k i (some (.inr (ci, fs.set f v)))) ad H1 → va_S (fun q => lo ≤ q) H0 H1 locs1 → W p l e R s m args below meth c H1 locs1 cells slots Q (F0 m (pc + 3) ls rest)) : W p l e R s m args below meth c H locs cells slots Q (F0 m pc ls (v :: .ref (ad k i) :: rest)) := by
  have hap := va_apart (own := own) hts hin ty0 hty hnm hK hc
  obtain ⟨r, h1, cell, q1, q2, q3, q4⟩ := (hw.2.1 k i _ he).1
  have hr : r = (C, T, N) := Option.some.inj (h1.symm.trans hc)
  subst hr
  obtain ⟨hS, hfc, kC, hkC, hkind⟩ := hK.1 ci _ hc
  obtain ⟨cf, kf, fi, fd, hi, hsl⟩ := hS f hk
  have hlay := hts _ (hin _ (u_in_lay hk))
  unfold u_lay at hlay
  rw [if_pos hfin] at hlay
  have hst := (u_facts hfc hkC (u_lays hts hin hk) hi).1
  have hcf : m.cls = cf := by
    obtain ⟨_, _, c', _, _, _, -, -, hf', -, -, -, hown2, -⟩ := Cond.laysFinal_spec hlay
    have e1 : c' = cf := by have := hi.symm.trans hf'; simp at this; exact this.1.symm
    rw [hdecl] at hown2
    rw [← e1]; exact Option.some.inj (hown.symm.trans hown2)
  have h6 := u_fits hfc hkC hkind (Or.inr hlay) hi hd hn hfit
  refine W.putFinK hx hb hown hlink hi hst hcf hin2 (by rw [q2]; exact h6) q1 q3 (by rw [hsl]; exact k2_hasslot (q4 f hk)) rfl rfl hdg fun H' e1 e2 e3 => ?_
  rw [hsl] at e1 ⊢
  exact kk H' _ (hw.set he ⟨_, hc, t_OB.to (V := updV (vp_V fs) f v) ⟨_, e1, q2, q3, t_set q4 hap hk v⟩ (fun j _ => vp_updV_set hl v j)⟩ e2 e3) (hS0.put e2 e3 (hw.2.1 k i _ he).2)
theorem e_iald (hx : p.tables.exec = Jvm.exec) (hb : c.code = cc) (hK : va_K G vwCl tys s) (hw : wo G lo E ad H) (t0 : Nat) {cA : ClassId} {n : Nat} {f : Nat → Int32} (he : E k i = some (.inl (cA, n, .inl f))) (ht : tys[t0]? = some (cA, .int)) {x : Int32} (hin : vp_in x n) (hdg : decode cc pc = .ok (.iaload, 1))
    (kk : W p l e R s m args below meth c H locs cells slots Q (F0 m (pc + 1) ls (.int (f x.toNatClampNeg) :: rest))) : W p l e R s m args below meth c H locs cells slots Q (F0 m pc ls (.int x :: .ref (ad k i) :: rest)) :=
  va_iald (D := G) (cl := vwCl) (tys := tys) (ws := [(ad k i, .inl (cA, n, .inl f))]) hx hb hK (hw.one he) 0 t0 rfl ht hin hdg kk
theorem e_zald (hx : p.tables.exec = Jvm.exec) (hb : c.code = cc) (hK : va_K G vwCl tys s) (hw : wo G lo E ad H) (t0 : Nat) {cA : ClassId} {n : Nat} {f : Nat → Int32} (he : E k i = some (.inl (cA, n, .inl f))) (ht : tys[t0]? = some (cA, .boolean)) {x : Int32} (hin : vp_in x n) (hdg : decode cc pc = .ok (.baload, 1))
    (kk : W p l e R s m args below meth c H locs cells slots Q (F0 m (pc + 1) ls (.int (f x.toNatClampNeg) :: rest))) : W p l e R s m args below meth c H locs cells slots Q (F0 m pc ls (.int x :: .ref (ad k i) :: rest)) :=
  va_zald (D := G) (cl := vwCl) (tys := tys) (ws := [(ad k i, .inl (cA, n, .inl f))]) hx hb hK (hw.one he) 0 t0 rfl ht hin hdg kk
theorem e_aald (hx : p.tables.exec = Jvm.exec) (hb : c.code = cc) (hK : va_K G vwCl tys s) (hw : wo G lo E ad H) (t0 : Nat) {cA : ClassId} {C : String} {n : Nat} {f : Nat → Option Nat} (he : E k i = some (.inl (cA, n, .inr (.inr (.inr (.inr f)))))) (ht : tys[t0]? = some (cA, .object C)) {x : Int32} (hin : vp_in x n) (hdg : decode cc pc = .ok (.aaload, 1))
    (kk : W p l e R s m args below meth c H locs cells slots Q (F0 m (pc + 1) ls (va_rf (f x.toNatClampNeg) :: rest))) : W p l e R s m args below meth c H locs cells slots Q (F0 m pc ls (.int x :: .ref (ad k i) :: rest)) :=
  va_aldq (D := G) (cl := vwCl) (tys := tys) (ws := [(ad k i, .inl (cA, n, .inr (.inr (.inr (.inr f)))))]) hx hb hK (hw.one he) 0 t0 rfl ht hin hdg kk
theorem e_alen (hx : p.tables.exec = Jvm.exec) (hb : c.code = cc) (hK : va_K G vwCl tys s) (hw : wo G lo E ad H) (t0 : Nat) {cA : ClassId} {x : vp_A} (he : E k i = some (.inl (cA, x))) {ty : FieldType} (ht : tys[t0]? = some (cA, ty)) {v : Int32} (hv : Int32.ofNat x.1 = v) (hdg : decode cc pc = .ok (.arraylength, 1))
    (kk : W p l e R s m args below meth c H locs cells slots Q (F0 m (pc + 1) ls (.int v :: rest))) : W p l e R s m args below meth c H locs cells slots Q (F0 m pc ls (.ref (ad k i) :: rest)) :=
  va_alen (D := G) (cl := vwCl) (tys := tys) (ws := [(ad k i, .inl (cA, x))]) hx hb hK (hw.one he) 0 t0 rfl ht hv hdg kk
theorem e_iast (hx : p.tables.exec = Jvm.exec) (hb : c.code = cc) (hK : va_K G vwCl tys s) (hw : wo G lo E ad H) (hS : va_S (fun q => lo ≤ q) H0 H locs) (t0 : Nat) {cA : ClassId} {n : Nat} {f : Nat → Int32} (he : E k i = some (.inl (cA, n, .inl f))) (ht : tys[t0]? = some (cA, .int)) {x v : Int32} (hin : vp_in x n) (hdg : decode cc pc = .ok (.iastore, 1))
    (kk : ∀ (H1 : Heap) (locs1 : List Loc), wo G lo (u2 E k i (some (.inl (cA, n, .inl (va_up f x.toNatClampNeg v))))) ad H1 → va_S (fun q => lo ≤ q) H0 H1 locs1 → W p l e R s m args below meth c H1 locs1 cells slots Q (F0 m (pc + 1) ls rest)) : W p l e R s m args below meth c H locs cells slots Q (F0 m pc ls (.int v :: .int x :: .ref (ad k i) :: rest)) := by
  have hc := (hw.2.1 k i _ he).1
  refine W.iast hx hb hc ((hK.2 t0 _ ht).1 n (fun j => .int (f j))) (fun q => by cases q) (by show ¬ (x < 0 ∨ (arrV _ _ _).slots.size ≤ _); rw [arrV_size]; exact hin) rfl rfl hdg fun H1 e z oq => ?_
  refine kk H1 _ (hw.set he ?_ z oq) (hS.put z oq (hw.2.1 k i _ he).2)
  show H1[ad k i]? = some (vp_cell _ _)
  rw [e, vp_cell_i, vp_cell_i, arrV_store]
  congr 2
  funext q
  by_cases hq : q = x.toNatClampNeg <;> simp [updV, va_up, hq]
theorem e_zast (hx : p.tables.exec = Jvm.exec) (hb : c.code = cc) (hK : va_K G vwCl tys s) (hw : wo G lo E ad H) (hS : va_S (fun q => lo ≤ q) H0 H locs) (t0 : Nat) {cA : ClassId} {n : Nat} {f : Nat → Int32} (he : E k i = some (.inl (cA, n, .inl f))) (ht : tys[t0]? = some (cA, .boolean)) {x v : Int32} (hin : vp_in x n) (hv : narrow .boolean (.int v) = .int v) (hdg : decode cc pc = .ok (.bastore, 1))
    (kk : ∀ (H1 : Heap) (locs1 : List Loc), wo G lo (u2 E k i (some (.inl (cA, n, .inl (va_up f x.toNatClampNeg v))))) ad H1 → va_S (fun q => lo ≤ q) H0 H1 locs1 → W p l e R s m args below meth c H1 locs1 cells slots Q (F0 m (pc + 1) ls rest)) : W p l e R s m args below meth c H locs cells slots Q (F0 m pc ls (.int v :: .int x :: .ref (ad k i) :: rest)) := by
  have hc := (hw.2.1 k i _ he).1
  refine W.zast hx hb hc ((hK.2 t0 _ ht).1 n (fun j => .int (f j))) (fun q => by cases q) (by show ¬ (x < 0 ∨ (arrV _ _ _).slots.size ≤ _); rw [arrV_size]; exact hin) rfl rfl hdg fun H1 e z oq => ?_
  refine kk H1 _ (hw.set he ?_ z oq) (hS.put z oq (hw.2.1 k i _ he).2)
  show H1[ad k i]? = some (vp_cell _ _)
  rw [e, hv, vp_cell_i, vp_cell_i, arrV_store]
  congr 2
  funext q
  by_cases hq : q = x.toNatClampNeg <;> simp [updV, va_up, hq]
theorem e_aast (hx : p.tables.exec = Jvm.exec) (hb : c.code = cc) (hK : va_K G vwCl tys s) (hw : wo G lo E ad H) (hS : va_S (fun q => lo ≤ q) H0 H locs) (t0 ci : Nat) {k' i' : Nat} {cA : ClassId} {r : vw_C} {n : Nat} {vs : List Value} {f : Nat → Option Nat} (he : E k i = some (.inl (cA, n, .inr (.inr (.inr (.inr f)))))) (ht : tys[t0]? = some (cA, .object r.1)) (hv : E k' i' = some (.inr (ci, vs))) (hcl : vwCl[ci]? = some r) {x : Int32} (hin : vp_in x n) (hdg : decode cc pc = .ok (.aastore, 1))
    (kk : ∀ (H1 : Heap) (locs1 : List Loc), wo G lo (u2 E k i (some (.inl (cA, n, .inr (.inr (.inr (.inr (va_up f x.toNatClampNeg (some (ad k' i')))))))))) ad H1 → va_S (fun q => lo ≤ q) H0 H1 locs1 → W p l e R s m args below meth c H1 locs1 cells slots Q (F0 m (pc + 1) ls rest)) : W p l e R s m args below meth c H locs cells slots Q (F0 m pc ls (.ref (ad k' i') :: .int x :: .ref (ad k i) :: rest)) := by
  have hc := (hw.2.1 k i _ he).1
  have hlt : x.toNatClampNeg < n := Nat.not_le.mp fun q => hin (Or.inr q)
  have h0 : ¬ x < 0 := fun q => hin (Or.inl q)
  obtain ⟨r', hr', cellV, g1, g2, g3, -⟩ := (hw.2.1 k' i' _ hv).1
  have hcls := (hK.1 ci r hcl).2
  obtain ⟨kA, comp, k1, k2, k3, -⟩ := (hK.2 t0 _ ht).2
  have hcomp : comp = G.1 ci := Option.some.inj (k3.symm.trans hcls.1)
  subst hcomp
  obtain ⟨kC, hkC, -⟩ := hcls.2
  refine W.aast hx hb hc (fun q h => by cases h) (fun h => by cases h) k1 k2 rfl hkC ⟨h0, by show _ < (arrV _ _ _).slots.size; rw [arrV_size]; exact hlt⟩ g1 (fun q h => by rw [g3] at h; cases h) (by rw [g2]; exact hkC) (by rw [g2]; exact va_assign hcls) rfl rfl hdg fun H1 e z oq => ?_
  refine kk H1 _ (hw.set he ?_ z oq) (hS.put z oq (hw.2.1 k i _ he).2)
  show H1[ad k i]? = some (vp_cell _ _)
  rw [e, vp_cell_q, vp_cell_q, arrV_store]
  congr 2
  funext q
  by_cases hq : q = x.toNatClampNeg <;> simp [updV, va_up, hq, va_rf]
/-- a new object: at any cell number that is free -/
theorem e_new (hx : p.tables.exec = Jvm.exec) (hb : c.code = cc) {own C : String} {T : u_T} {N ci index : Nat} {Ts : List Cond} (hts : ∀ w ∈ Ts, w.before args s = true) (hin : ∀ w ∈ u_ws C T N, w ∈ Ts) (ty : Nat → FieldType) (hty : ∀ k, k < N → parseFieldDescriptor (T k).2.2.1 = some (ty k)) (hown : s.vm.findClass own = some m.cls) (hcl : (Cond.classLink own index C).before args s = true) (hinst : (Cond.instantiable C N).before args s = true) (hini : (Cond.initialized C).before args s = true)
    (hK : va_K G vwCl tys s) (hw : wo G lo E ad H) (hS : va_S (fun q => lo ≤ q) H0 H locs) (hc : vwCl[ci]? = some (C, T, N)) (k i : Nat) (he : E k i = none) {fs : List Value} (hfs : ∀ j, j < N → defaultValue (ty j) = vp_V fs j) (hcells : cells + 1 ≤ R.cells) (hslots : slots + N ≤ R.slots) (hdg : decode cc pc = .ok (.new index, 3))
    (kk : ∀ (H1 : Heap) (ad1 : Nat → Nat → Nat), ad1 = u2 ad k i H.size → wo G lo (u2 E k i (some (.inr (ci, fs)))) ad1 H1 → va_S (fun q => lo ≤ q) H0 H1 locs → W p l e R s m args below meth c H1 locs (cells + 1) (slots + N) Q (F0 m (pc + 3) ls (.ref (ad1 k i) :: rest))) : W p l e R s m args below meth c H locs cells slots Q (F0 m pc ls rest) := by
  have hKn := hK.1 ci _ hc
  refine W.newcK hx hb hown hcl hinst hini rfl hdg hcells hslots hKn.2.1 rfl fun H1 kC hkC e1 z1 o1 => ?_
  have h1 := kk H1 (u2 ad k i H.size) rfl (hw.new he ⟨_, hc, (u_born ty hts hin hKn hkC e1 hty).to hfs⟩ z1 o1) ⟨Nat.le_trans hS.1 (by omega), fun x h1 h2 => (o1 x (Nat.lt_of_lt_of_le h1 hS.1)).trans (hS.2.1 x h1 h2), hS.2.2⟩
  rw [u2_self] at h1
  exact h1
/-- a new array of ints or booleans, its class known -/
theorem e_newa (hx : p.tables.exec = Jvm.exec) (hb : c.code = cc) {atype : ArrayType} (harr : (Cond.arrayClass (newarray.typeOf atype)).before args s = true) (hw : wo G lo E ad H) (hS : va_S (fun q => lo ≤ q) H0 H locs) (k i : Nat) (he : E k i = none)
    {n : Int32} {N : Nat} (ha : defaultValue (newarray.typeOf atype) = .int 0) (hn : ¬ n < 0) (hN : n.toNatClampNeg = N) (hbytes : N * componentBytes (newarray.typeOf atype) ≤ 536870912) (hcells : cells + 1 ≤ R.cells) (hslots : slots + N ≤ R.slots) (hdg : decode cc pc = .ok (.newarray atype, 2))
    (kk : ∀ (cA : ClassId) (H1 : Heap) (ad1 : Nat → Nat → Nat), ad1 = u2 ad k i H.size → ArrOfT s cA (newarray.typeOf atype) → s.vm.findClass ("[" ++ (newarray.typeOf atype).toString) = some cA → wo G lo (u2 E k i (some (.inl (cA, N, .inl (fun _ => 0))))) ad1 H1 → va_S (fun q => lo ≤ q) H0 H1 locs → W p l e R s m args below meth c H1 locs (cells + 1) (slots + N) Q (F0 m (pc + 2) ls (.ref (ad1 k i) :: rest))) : W p l e R s m args below meth c H locs cells slots Q (F0 m pc ls (.int n :: rest)) := by
  refine va_newaK hx hb harr rfl hdg rfl hn hN hbytes hcells hslots rfl fun H1 cA e1 z1 o1 hAr hNm => ?_
  have h1 := kk cA H1 (u2 ad k i H.size) rfl hAr hNm (hw.new he (show H1[H.size]? = some (vp_cell cA (N, .inl (fun _ => 0))) by rw [e1, ha]; rfl) z1 o1) ⟨Nat.le_trans hS.1 (by omega), fun x h1 h2 => (o1 x (Nat.lt_of_lt_of_le h1 hS.1)).trans (hS.2.1 x h1 h2), hS.2.2⟩
  rw [u2_self] at h1
  exact h1
/-- a new array of references -/
theorem e_newq (hx : p.tables.exec = Jvm.exec) (hb : c.code = cc) {own C : String} {index : Nat} (hown : s.vm.findClass own = some m.cls) (hclink : (Cond.classLink own index C).before args s = true) (hover : (Cond.arrayOver (.object C)).before args s = true) (hw : wo G lo E ad H) (hS : va_S (fun q => lo ≤ q) H0 H locs) (k i : Nat) (he : E k i = none)
    {n : Int32} {N : Nat} (hn : ¬ n < 0) (hN : n.toNatClampNeg = N) (hbytes : N * 4 ≤ 536870912) (hcells : cells + 1 ≤ R.cells) (hslots : slots + N ≤ R.slots) (hdg : decode cc pc = .ok (.anewarray index, 3))
    (kk : ∀ (cA : ClassId) (H1 : Heap) (ad1 : Nat → Nat → Nat), ad1 = u2 ad k i H.size → ArrOfT s cA (.object C) → va_RA s cA (.object C) → wo G lo (u2 E k i (some (.inl (cA, N, .inr (.inr (.inr (.inr (fun _ => none)))))))) ad1 H1 → va_S (fun q => lo ≤ q) H0 H1 locs → W p l e R s m args below meth c H1 locs (cells + 1) (slots + N) Q (F0 m (pc + 3) ls (.ref (ad1 k i) :: rest))) : W p l e R s m args below meth c H locs cells slots Q (F0 m pc ls (.int n :: rest)) := by
  subst hN
  refine W.anew hx hb hown hclink hover rfl hdg rfl hn hbytes hcells hslots fun cA kA comp f1 f2 f3 f4 => ?_
  generalize hH1 : H.push ({ cls := cA, slots := Array.replicate n.toNatClampNeg .null, vm := .none } : Cell) = H1
  have z1 : H1.size = H.size + 1 := by rw [← hH1, Array.size_push]
  have e1 : H1[H.size]? = some (arrV cA n.toNatClampNeg (fun _ => .null)) := by rw [← hH1, Array.getElem?_push_size, ← arrV_new]
  have o1 : ∀ q : Nat, q < H.size → H1[q]? = H[q]? := fun q hq => by rw [← hH1, Array.getElem?_push, if_neg (Nat.ne_of_lt hq)]
  have hAr : ArrOfT s cA (.object C) := fun N z => ⟨(fun k h => by cases h), kA, f2, comp, f3⟩
  have h1 := kk cA H1 (u2 ad k i H.size) rfl hAr ⟨kA, comp, f2, f3, f4, f1⟩ (hw.new he (show H1[H.size]? = some (vp_cell cA (n.toNatClampNeg, .inr (.inr (.inr (.inr (fun _ => none)))))) by rw [e1]; rfl) z1 o1) ⟨Nat.le_trans hS.1 (by omega), fun x h1 h2 => (o1 x (Nat.lt_of_lt_of_le h1 hS.1)).trans (hS.2.1 x h1 h2), hS.2.2⟩
  rw [u2_self] at h1
  exact h1
end LE
end
