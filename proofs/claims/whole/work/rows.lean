section
-- ===== PART A: goes FIRST, ahead of the names: the tables' words, and 'selects' of the private methods out of them =====
/-- a private method of a class that the tables say can be made, by its rows of tables_1 -/
def lw_okq (q : MethodName × Nat) : Prop := (q.1.cls ≠ "java/lang/invoke/MethodHandle" ∧ q.1.cls ≠ "java/lang/invoke/VarHandle") ∧ Cond.instantiable q.1.cls q.2 ∈ tables_1 ∧ Cond.privateMethod q.1 ∈ tables_1 ∧ Cond.instanceMethod q.1 ∈ tables_1
theorem lw_p0 : lw_okq (⟨"FerryQuay", "berthAt", "(I)LFerryQuay$Berth;"⟩, 10) := ⟨⟨by decide +kernel, by decide +kernel⟩, List.mem_of_getElem? (i := 11) (by decide +kernel), List.mem_of_getElem? (i := 177) (by decide +kernel), List.mem_of_getElem? (i := 178) (by decide +kernel)⟩
theorem lw_p1 : lw_okq (⟨"FerryQuay", "gateAt", "(I)LFerryQuay$Gate;"⟩, 10) := ⟨⟨by decide +kernel, by decide +kernel⟩, List.mem_of_getElem? (i := 11) (by decide +kernel), List.mem_of_getElem? (i := 181) (by decide +kernel), List.mem_of_getElem? (i := 182) (by decide +kernel)⟩
theorem lw_p2 : lw_okq (⟨"FerryQuay", "rampAt", "(I)LFerryQuay$Ramp;"⟩, 10) := ⟨⟨by decide +kernel, by decide +kernel⟩, List.mem_of_getElem? (i := 11) (by decide +kernel), List.mem_of_getElem? (i := 193) (by decide +kernel), List.mem_of_getElem? (i := 194) (by decide +kernel)⟩
theorem lw_p3 : lw_okq (⟨"FerryQuay", "boardThrough", "(LFerryQuay$Gate;LFerryQuay$Berth;I)I"⟩, 10) := ⟨⟨by decide +kernel, by decide +kernel⟩, List.mem_of_getElem? (i := 11) (by decide +kernel), List.mem_of_getElem? (i := 225) (by decide +kernel), List.mem_of_getElem? (i := 226) (by decide +kernel)⟩
theorem lw_p4 : lw_okq (⟨"FerryQuay", "alarm", "(I)I"⟩, 10) := ⟨⟨by decide +kernel, by decide +kernel⟩, List.mem_of_getElem? (i := 11) (by decide +kernel), List.mem_of_getElem? (i := 240) (by decide +kernel), List.mem_of_getElem? (i := 241) (by decide +kernel)⟩
theorem lw_p5 : lw_okq (⟨"FerryQuay", "landOver", "(LFerryQuay$Ramp;LFerryQuay$Berth;I)I"⟩, 10) := ⟨⟨by decide +kernel, by decide +kernel⟩, List.mem_of_getElem? (i := 11) (by decide +kernel), List.mem_of_getElem? (i := 258) (by decide +kernel), List.mem_of_getElem? (i := 259) (by decide +kernel)⟩
theorem lw_p6 : lw_okq (⟨"FerryQuay", "shiftThrough", "(LFerryQuay$Gate;LFerryQuay$Row;LFerryQuay$Berth;I)I"⟩, 10) := ⟨⟨by decide +kernel, by decide +kernel⟩, List.mem_of_getElem? (i := 11) (by decide +kernel), List.mem_of_getElem? (i := 292) (by decide +kernel), List.mem_of_getElem? (i := 293) (by decide +kernel)⟩
theorem lw_p7 : lw_okq (⟨"FerryQuayModel", "isBerth", "(I)Z"⟩, 22) := ⟨⟨by decide +kernel, by decide +kernel⟩, List.mem_of_getElem? (i := 320) (by decide +kernel), List.mem_of_getElem? (i := 410) (by decide +kernel), List.mem_of_getElem? (i := 411) (by decide +kernel)⟩
theorem lw_p8 : lw_okq (⟨"FerryQuayModel", "isGate", "(I)Z"⟩, 22) := ⟨⟨by decide +kernel, by decide +kernel⟩, List.mem_of_getElem? (i := 320) (by decide +kernel), List.mem_of_getElem? (i := 414) (by decide +kernel), List.mem_of_getElem? (i := 415) (by decide +kernel)⟩
theorem lw_p9 : lw_okq (⟨"FerryQuayModel", "isRamp", "(I)Z"⟩, 22) := ⟨⟨by decide +kernel, by decide +kernel⟩, List.mem_of_getElem? (i := 320) (by decide +kernel), List.mem_of_getElem? (i := 422) (by decide +kernel), List.mem_of_getElem? (i := 423) (by decide +kernel)⟩
theorem lw_p10 : lw_okq (⟨"FerryQuayModel", "comes", "(II)V"⟩, 22) := ⟨⟨by decide +kernel, by decide +kernel⟩, List.mem_of_getElem? (i := 320) (by decide +kernel), List.mem_of_getElem? (i := 434) (by decide +kernel), List.mem_of_getElem? (i := 435) (by decide +kernel)⟩
theorem lw_p11 : lw_okq (⟨"FerryQuayModel", "goes", "(I)I"⟩, 22) := ⟨⟨by decide +kernel, by decide +kernel⟩, List.mem_of_getElem? (i := 320) (by decide +kernel), List.mem_of_getElem? (i := 442) (by decide +kernel), List.mem_of_getElem? (i := 443) (by decide +kernel)⟩
theorem lw_p12 : lw_okq (⟨"FerryQuayModel", "alarm", "(I)I"⟩, 22) := ⟨⟨by decide +kernel, by decide +kernel⟩, List.mem_of_getElem? (i := 320) (by decide +kernel), List.mem_of_getElem? (i := 446) (by decide +kernel), List.mem_of_getElem? (i := 447) (by decide +kernel)⟩
def lw_privs_1 : List (MethodName × Nat) := [(⟨"FerryQuay", "berthAt", "(I)LFerryQuay$Berth;"⟩, 10), (⟨"FerryQuay", "gateAt", "(I)LFerryQuay$Gate;"⟩, 10), (⟨"FerryQuay", "rampAt", "(I)LFerryQuay$Ramp;"⟩, 10), (⟨"FerryQuay", "boardThrough", "(LFerryQuay$Gate;LFerryQuay$Berth;I)I"⟩, 10), (⟨"FerryQuay", "alarm", "(I)I"⟩, 10), (⟨"FerryQuay", "landOver", "(LFerryQuay$Ramp;LFerryQuay$Berth;I)I"⟩, 10), (⟨"FerryQuay", "shiftThrough", "(LFerryQuay$Gate;LFerryQuay$Row;LFerryQuay$Berth;I)I"⟩, 10), (⟨"FerryQuayModel", "isBerth", "(I)Z"⟩, 22), (⟨"FerryQuayModel", "isGate", "(I)Z"⟩, 22), (⟨"FerryQuayModel", "isRamp", "(I)Z"⟩, 22), (⟨"FerryQuayModel", "comes", "(II)V"⟩, 22), (⟨"FerryQuayModel", "goes", "(I)I"⟩, 22), (⟨"FerryQuayModel", "alarm", "(I)I"⟩, 22)]
theorem lw_r1 : ∀ q ∈ lw_privs_1, lw_okq q := List.forall_mem_cons.mpr ⟨lw_p0, List.forall_mem_cons.mpr ⟨lw_p1, List.forall_mem_cons.mpr ⟨lw_p2, List.forall_mem_cons.mpr ⟨lw_p3, List.forall_mem_cons.mpr ⟨lw_p4, List.forall_mem_cons.mpr ⟨lw_p5, List.forall_mem_cons.mpr ⟨lw_p6, List.forall_mem_cons.mpr ⟨lw_p7, List.forall_mem_cons.mpr ⟨lw_p8, List.forall_mem_cons.mpr ⟨lw_p9, List.forall_mem_cons.mpr ⟨lw_p10, List.forall_mem_cons.mpr ⟨lw_p11, List.forall_mem_cons.mpr ⟨lw_p12, fun _ h => absurd h List.not_mem_nil⟩⟩⟩⟩⟩⟩⟩⟩⟩⟩⟩⟩⟩
def lw_privs : List (MethodName × Nat) := lw_privs_1
def lw_tbl : List Cond := k2_sels lw_privs ++ tables_1
theorem lw_privs_ok : ∀ q ∈ lw_privs, lw_okq q := lw_r1
/-! ===== BEGIN words of one list among another's, by their places ===== -/
theorem goodIn_r {big : List Cond} (ws : List Cond) (ps : List Nat) (hp : ws = ps.filterMap (fun i => big[i]?)) (h : ws.all goodWord = true) : GoodIn big ws := by
  intro w hw
  have h1 := List.all_eq_true.mp h w hw
  rw [hp] at hw
  obtain ⟨i, -, hi⟩ := List.mem_filterMap.mp hw
  have hm : w ∈ big := by first | exact List.mem_of_getElem? hi | exact List.getElem?_mem hi
  exact ⟨hm, good_of_word h1⟩
theorem goodIn_app {big a b : List Cond} (ha : GoodIn big a) (hb : GoodIn big b) : GoodIn big (a ++ b) := fun w h => (List.mem_append.mp h).elim (ha w) (hb w)
theorem goodIn_ca {big a b : List Cond} {c : Cond} (ha : GoodIn big (c :: a)) (hb : GoodIn big b) : GoodIn big (c :: (a ++ b)) := fun w h => (List.mem_cons.mp h).elim (fun e => ha w (List.mem_cons.mpr (Or.inl e))) (fun h => (List.mem_append.mp h).elim (fun h => ha w (List.mem_cons.mpr (Or.inr h))) (hb w))
theorem goodIn_sub {big ws : List Cond} (hm : ∀ w ∈ ws, w ∈ big) (h : ws.all goodWord = true) : GoodIn big ws := fun w hw => ⟨hm w hw, good_of_word (List.all_eq_true.mp h w hw)⟩
/-! ===== END ===== -/

/-! ===== BEGIN printed: names, fields, word lists, decode rows ===== -/
def RX0 : String := "FerryQuay$Berth"
def TX0 : u_T := fun k => match k with
  | 0 => ("FerryQuay$Berth", "lane", "LFerryQuay$Row;", true)
  | 1 => ("FerryQuay$Berth", "ferry", "LFerryQuay$Ferry;", false)
  | 2 => ("FerryQuay$Berth", "gate", "LFerryQuay$Gate;", false)
  | _ => ("FerryQuay$Berth", "ramp", "LFerryQuay$Ramp;", false)
def tyX0 : Nat → FieldType := fun k => match k with
  | 0 => .object "FerryQuay$Row"
  | 1 => .object "FerryQuay$Ferry"
  | 2 => .object "FerryQuay$Gate"
  | _ => .object "FerryQuay$Ramp"
abbrev wsX00 : List Cond := u_ws RX0 TX0 4
theorem nmX0 : ∀ a, a < 4 → ∀ b, b < 4 → a ≠ b → (TX0 a).2.1 ≠ (TX0 b).2.1 := by decide +kernel
theorem tyX0_ok : ∀ k, k < 4 → parseFieldDescriptor (TX0 k).2.2.1 = some (tyX0 k) := by decide +kernel
abbrev cX0_init : ByteArray := prog_2_method_1_code
def yX0_init : MethodName := ⟨RX0, "<init>", "(I)V"⟩
abbrev cX0_gateNumber : ByteArray := prog_2_method_2_code
def yX0_gateNumber : MethodName := ⟨RX0, "gateNumber", "()I"⟩
abbrev cX0_rampNumber : ByteArray := prog_2_method_3_code
def yX0_rampNumber : MethodName := ⟨RX0, "rampNumber", "()I"⟩
def RX1 : String := "FerryQuay$Ferry"
def TX1 : u_T := fun k => match k with
  | 0 => ("FerryQuay$Ferry", "room", "I", true)
  | 1 => ("FerryQuay$Ferry", "vehicles", "LFerryQuay$Row;", true)
  | _ => ("FerryQuay$Ferry", "load", "I", false)
def tyX1 : Nat → FieldType := fun k => match k with
  | 0 => .int
  | 1 => .object "FerryQuay$Row"
  | _ => .int
abbrev wsX10 : List Cond := u_ws RX1 TX1 3
theorem nmX1 : ∀ a, a < 3 → ∀ b, b < 3 → a ≠ b → (TX1 a).2.1 ≠ (TX1 b).2.1 := by decide +kernel
theorem tyX1_ok : ∀ k, k < 3 → parseFieldDescriptor (TX1 k).2.2.1 = some (tyX1 k) := by decide +kernel
abbrev cX1_init : ByteArray := prog_3_method_1_code
def yX1_init : MethodName := ⟨RX1, "<init>", "(I)V"⟩
abbrev cX1_hasRoomFor : ByteArray := prog_3_method_2_code
def yX1_hasRoomFor : MethodName := ⟨RX1, "hasRoomFor", "(I)Z"⟩
abbrev cX1_takeAboard : ByteArray := prog_3_method_3_code
def yX1_takeAboard : MethodName := ⟨RX1, "takeAboard", "(I)V"⟩
abbrev cX1_weightOfLast : ByteArray := prog_3_method_4_code
def yX1_weightOfLast : MethodName := ⟨RX1, "weightOfLast", "()I"⟩
abbrev cX1_putLastAshore : ByteArray := prog_3_method_5_code
def yX1_putLastAshore : MethodName := ⟨RX1, "putLastAshore", "()V"⟩
def RX2 : String := "FerryQuay$Gate"
def TX2 : u_T := fun k => match k with
  | 0 => ("FerryQuay$Gate", "number", "I", true)
  | 1 => ("FerryQuay$Gate", "isShut", "Z", false)
  | 2 => ("FerryQuay$Gate", "taken", "I", false)
  | _ => ("FerryQuay$Gate", "passed", "I", false)
def tyX2 : Nat → FieldType := fun k => match k with
  | 0 => .int
  | 1 => .boolean
  | 2 => .int
  | _ => .int
abbrev wsX20 : List Cond := u_ws RX2 TX2 4
theorem nmX2 : ∀ a, a < 4 → ∀ b, b < 4 → a ≠ b → (TX2 a).2.1 ≠ (TX2 b).2.1 := by decide +kernel
theorem tyX2_ok : ∀ k, k < 4 → parseFieldDescriptor (TX2 k).2.2.1 = some (tyX2 k) := by decide +kernel
abbrev cX2_init : ByteArray := prog_4_method_1_code
def yX2_init : MethodName := ⟨RX2, "<init>", "(I)V"⟩
abbrev cX2_shutAsNumber : ByteArray := prog_4_method_2_code
def yX2_shutAsNumber : MethodName := ⟨RX2, "shutAsNumber", "()I"⟩
def RX3 : String := "FerryQuay$Ramp"
def TX3 : u_T := fun k => match k with
  | 0 => ("FerryQuay$Ramp", "number", "I", true)
  | 1 => ("FerryQuay$Ramp", "limit", "I", true)
  | 2 => ("FerryQuay$Ramp", "taken", "I", false)
  | _ => ("FerryQuay$Ramp", "wear", "I", false)
def tyX3 : Nat → FieldType := fun k => match k with
  | 0 => .int
  | 1 => .int
  | 2 => .int
  | _ => .int
abbrev wsX30 : List Cond := u_ws RX3 TX3 4
theorem nmX3 : ∀ a, a < 4 → ∀ b, b < 4 → a ≠ b → (TX3 a).2.1 ≠ (TX3 b).2.1 := by decide +kernel
theorem tyX3_ok : ∀ k, k < 4 → parseFieldDescriptor (TX3 k).2.2.1 = some (tyX3 k) := by decide +kernel
abbrev cX3_init : ByteArray := prog_5_method_1_code
def yX3_init : MethodName := ⟨RX3, "<init>", "(II)V"⟩
def RX4 : String := "FerryQuay$Row"
def TX4 : u_T := fun k => match k with
  | 0 => ("FerryQuay$Row", "weights", "[I", true)
  | _ => ("FerryQuay$Row", "size", "I", false)
def tyX4 : Nat → FieldType := fun k => match k with
  | 0 => .array .int
  | _ => .int
abbrev wsX40 : List Cond := u_ws RX4 TX4 2
theorem nmX4 : ∀ a, a < 2 → ∀ b, b < 2 → a ≠ b → (TX4 a).2.1 ≠ (TX4 b).2.1 := by decide +kernel
theorem tyX4_ok : ∀ k, k < 2 → parseFieldDescriptor (TX4 k).2.2.1 = some (tyX4 k) := by decide +kernel
abbrev cX4_init : ByteArray := prog_6_method_1_code
def yX4_init : MethodName := ⟨RX4, "<init>", "(I)V"⟩
abbrev cX4_isFull : ByteArray := prog_6_method_2_code
def yX4_isFull : MethodName := ⟨RX4, "isFull", "()Z"⟩
abbrev cX4_weightAt : ByteArray := prog_6_method_3_code
def yX4_weightAt : MethodName := ⟨RX4, "weightAt", "(I)I"⟩
abbrev cX4_addLast : ByteArray := prog_6_method_4_code
def yX4_addLast : MethodName := ⟨RX4, "addLast", "(I)V"⟩
abbrev cX4_removeFirst : ByteArray := prog_6_method_5_code
def yX4_removeFirst : MethodName := ⟨RX4, "removeFirst", "()V"⟩
abbrev cX4_removeLast : ByteArray := prog_6_method_6_code
def yX4_removeLast : MethodName := ⟨RX4, "removeLast", "()V"⟩
def RX5 : String := "FerryQuay"
def TX5 : u_T := fun k => match k with
  | 0 => ("FerryQuay", "gates", "[LFerryQuay$Gate;", true)
  | 1 => ("FerryQuay", "ramps", "[LFerryQuay$Ramp;", true)
  | 2 => ("FerryQuay", "berths", "[LFerryQuay$Berth;", true)
  | 3 => ("FerryQuay", "gateCount", "I", false)
  | 4 => ("FerryQuay", "rampCount", "I", false)
  | 5 => ("FerryQuay", "berthCount", "I", false)
  | 6 => ("FerryQuay", "arrived", "I", false)
  | 7 => ("FerryQuay", "gone", "I", false)
  | 8 => ("FerryQuay", "towed", "I", false)
  | _ => ("FerryQuay", "alarms", "I", false)
def tyX5 : Nat → FieldType := fun k => match k with
  | 0 => .array (.object "FerryQuay$Gate")
  | 1 => .array (.object "FerryQuay$Ramp")
  | 2 => .array (.object "FerryQuay$Berth")
  | 3 => .int
  | 4 => .int
  | 5 => .int
  | 6 => .int
  | 7 => .int
  | 8 => .int
  | _ => .int
abbrev wsX50 : List Cond := u_ws RX5 TX5 10
theorem nmX5 : ∀ a, a < 10 → ∀ b, b < 10 → a ≠ b → (TX5 a).2.1 ≠ (TX5 b).2.1 := by decide +kernel
theorem tyX5_ok : ∀ k, k < 10 → parseFieldDescriptor (TX5 k).2.2.1 = some (tyX5 k) := by decide +kernel
abbrev cX5_init : ByteArray := prog_1_method_1_code
def yX5_init : MethodName := ⟨RX5, "<init>", "()V"⟩
abbrev cX5_gate : ByteArray := prog_1_method_2_code
def yX5_gate : MethodName := ⟨RX5, "gate", "()I"⟩
abbrev cX5_ramp : ByteArray := prog_1_method_3_code
def yX5_ramp : MethodName := ⟨RX5, "ramp", "(I)I"⟩
abbrev cX5_berth : ByteArray := prog_1_method_4_code
def yX5_berth : MethodName := ⟨RX5, "berth", "(I)I"⟩
abbrev cX5_hinge : ByteArray := prog_1_method_5_code
def yX5_hinge : MethodName := ⟨RX5, "hinge", "(II)I"⟩
abbrev cX5_lay : ByteArray := prog_1_method_6_code
def yX5_lay : MethodName := ⟨RX5, "lay", "(II)I"⟩
abbrev cX5_shut : ByteArray := prog_1_method_7_code
def yX5_shut : MethodName := ⟨RX5, "shut", "(IZ)I"⟩
abbrev cX5_arrive : ByteArray := prog_1_method_8_code
def yX5_arrive : MethodName := ⟨RX5, "arrive", "(II)I"⟩
abbrev cX5_board : ByteArray := prog_1_method_9_code
def yX5_board : MethodName := ⟨RX5, "board", "(II)I"⟩
abbrev cX5_boardThrough : ByteArray := prog_1_method_10_code
def yX5_boardThrough : MethodName := ⟨RX5, "boardThrough", "(LFerryQuay$Gate;LFerryQuay$Berth;I)I"⟩
abbrev cX5_land : ByteArray := prog_1_method_11_code
def yX5_land : MethodName := ⟨RX5, "land", "(II)I"⟩
abbrev cX5_landOver : ByteArray := prog_1_method_12_code
def yX5_landOver : MethodName := ⟨RX5, "landOver", "(LFerryQuay$Ramp;LFerryQuay$Berth;I)I"⟩
abbrev cX5_swap : ByteArray := prog_1_method_13_code
def yX5_swap : MethodName := ⟨RX5, "swap", "(II)I"⟩
abbrev cX5_round : ByteArray := prog_1_method_14_code
def yX5_round : MethodName := ⟨RX5, "round", "(II)I"⟩
abbrev cX5_tend : ByteArray := prog_1_method_15_code
def yX5_tend : MethodName := ⟨RX5, "tend", "(I)I"⟩
abbrev cX5_shift : ByteArray := prog_1_method_16_code
def yX5_shift : MethodName := ⟨RX5, "shift", "(III)I"⟩
abbrev cX5_shiftThrough : ByteArray := prog_1_method_17_code
def yX5_shiftThrough : MethodName := ⟨RX5, "shiftThrough", "(LFerryQuay$Gate;LFerryQuay$Row;LFerryQuay$Berth;I)I"⟩
abbrev cX5_state : ByteArray := prog_1_method_18_code
def yX5_state : MethodName := ⟨RX5, "state", "(II)I"⟩
abbrev cX5_waiting : ByteArray := prog_1_method_19_code
def yX5_waiting : MethodName := ⟨RX5, "waiting", "(II)I"⟩
abbrev cX5_aboard : ByteArray := prog_1_method_20_code
def yX5_aboard : MethodName := ⟨RX5, "aboard", "(II)I"⟩
abbrev cX5_ofGate : ByteArray := prog_1_method_21_code
def yX5_ofGate : MethodName := ⟨RX5, "ofGate", "(II)I"⟩
abbrev cX5_ofRamp : ByteArray := prog_1_method_22_code
def yX5_ofRamp : MethodName := ⟨RX5, "ofRamp", "(II)I"⟩
abbrev cX5_count : ByteArray := prog_1_method_23_code
def yX5_count : MethodName := ⟨RX5, "count", "(I)I"⟩
abbrev cX5_alarm : ByteArray := prog_1_method_24_code
def yX5_alarm : MethodName := ⟨RX5, "alarm", "(I)I"⟩
abbrev cX5_gateAt : ByteArray := prog_1_method_25_code
def yX5_gateAt : MethodName := ⟨RX5, "gateAt", "(I)LFerryQuay$Gate;"⟩
abbrev cX5_rampAt : ByteArray := prog_1_method_26_code
def yX5_rampAt : MethodName := ⟨RX5, "rampAt", "(I)LFerryQuay$Ramp;"⟩
abbrev cX5_berthAt : ByteArray := prog_1_method_27_code
def yX5_berthAt : MethodName := ⟨RX5, "berthAt", "(I)LFerryQuay$Berth;"⟩
abbrev cX5_isWithin : ByteArray := prog_1_method_28_code
def yX5_isWithin : MethodName := ⟨RX5, "isWithin", "(III)Z"⟩
def RX6 : String := "FerryQuayModel"
def TX6 : u_T := fun k => match k with
  | 0 => ("FerryQuayModel", "gates", "I", false)
  | 1 => ("FerryQuayModel", "ramps", "I", false)
  | 2 => ("FerryQuayModel", "berths", "I", false)
  | 3 => ("FerryQuayModel", "arrived", "I", false)
  | 4 => ("FerryQuayModel", "gone", "I", false)
  | 5 => ("FerryQuayModel", "towed", "I", false)
  | 6 => ("FerryQuayModel", "alarms", "I", false)
  | 7 => ("FerryQuayModel", "isShut", "[Z", true)
  | 8 => ("FerryQuayModel", "gateTaken", "[I", true)
  | 9 => ("FerryQuayModel", "passed", "[I", true)
  | 10 => ("FerryQuayModel", "limit", "[I", true)
  | 11 => ("FerryQuayModel", "wear", "[I", true)
  | 12 => ("FerryQuayModel", "rampTaken", "[I", true)
  | 13 => ("FerryQuayModel", "gateOf", "[I", true)
  | 14 => ("FerryQuayModel", "rampOf", "[I", true)
  | 15 => ("FerryQuayModel", "ferryOf", "[I", true)
  | 16 => ("FerryQuayModel", "waits", "[I", true)
  | 17 => ("FerryQuayModel", "lane", "[I", true)
  | 18 => ("FerryQuayModel", "room", "[I", true)
  | 19 => ("FerryQuayModel", "load", "[I", true)
  | 20 => ("FerryQuayModel", "many", "[I", true)
  | _ => ("FerryQuayModel", "deck", "[I", true)
def tyX6 : Nat → FieldType := fun k => match k with
  | 0 => .int
  | 1 => .int
  | 2 => .int
  | 3 => .int
  | 4 => .int
  | 5 => .int
  | 6 => .int
  | 7 => .array .boolean
  | 8 => .array .int
  | 9 => .array .int
  | 10 => .array .int
  | 11 => .array .int
  | 12 => .array .int
  | 13 => .array .int
  | 14 => .array .int
  | 15 => .array .int
  | 16 => .array .int
  | 17 => .array .int
  | 18 => .array .int
  | 19 => .array .int
  | 20 => .array .int
  | _ => .array .int
abbrev wsX60 : List Cond := u_ws RX6 TX6 22
theorem nmX6 : ∀ a, a < 22 → ∀ b, b < 22 → a ≠ b → (TX6 a).2.1 ≠ (TX6 b).2.1 := by decide +kernel
theorem tyX6_ok : ∀ k, k < 22 → parseFieldDescriptor (TX6 k).2.2.1 = some (tyX6 k) := by decide +kernel
abbrev cX6_init : ByteArray := prog_8_method_1_code
def yX6_init : MethodName := ⟨RX6, "<init>", "()V"⟩
abbrev cX6_isGate : ByteArray := prog_8_method_2_code
def yX6_isGate : MethodName := ⟨RX6, "isGate", "(I)Z"⟩
abbrev cX6_isRamp : ByteArray := prog_8_method_3_code
def yX6_isRamp : MethodName := ⟨RX6, "isRamp", "(I)Z"⟩
abbrev cX6_isBerth : ByteArray := prog_8_method_4_code
def yX6_isBerth : MethodName := ⟨RX6, "isBerth", "(I)Z"⟩
abbrev cX6_alarm : ByteArray := prog_8_method_5_code
def yX6_alarm : MethodName := ⟨RX6, "alarm", "(I)I"⟩
abbrev cX6_gate : ByteArray := prog_8_method_6_code
def yX6_gate : MethodName := ⟨RX6, "gate", "()I"⟩
abbrev cX6_ramp : ByteArray := prog_8_method_7_code
def yX6_ramp : MethodName := ⟨RX6, "ramp", "(I)I"⟩
abbrev cX6_berth : ByteArray := prog_8_method_8_code
def yX6_berth : MethodName := ⟨RX6, "berth", "(I)I"⟩
abbrev cX6_hinge : ByteArray := prog_8_method_9_code
def yX6_hinge : MethodName := ⟨RX6, "hinge", "(II)I"⟩
abbrev cX6_lay : ByteArray := prog_8_method_10_code
def yX6_lay : MethodName := ⟨RX6, "lay", "(II)I"⟩
abbrev cX6_shut : ByteArray := prog_8_method_11_code
def yX6_shut : MethodName := ⟨RX6, "shut", "(IZ)I"⟩
abbrev cX6_arrive : ByteArray := prog_8_method_12_code
def yX6_arrive : MethodName := ⟨RX6, "arrive", "(II)I"⟩
abbrev cX6_comes : ByteArray := prog_8_method_13_code
def yX6_comes : MethodName := ⟨RX6, "comes", "(II)V"⟩
abbrev cX6_goes : ByteArray := prog_8_method_14_code
def yX6_goes : MethodName := ⟨RX6, "goes", "(I)I"⟩
abbrev cX6_board : ByteArray := prog_8_method_15_code
def yX6_board : MethodName := ⟨RX6, "board", "(II)I"⟩
abbrev cX6_land : ByteArray := prog_8_method_16_code
def yX6_land : MethodName := ⟨RX6, "land", "(II)I"⟩
abbrev cX6_swap : ByteArray := prog_8_method_17_code
def yX6_swap : MethodName := ⟨RX6, "swap", "(II)I"⟩
abbrev cX6_round : ByteArray := prog_8_method_18_code
def yX6_round : MethodName := ⟨RX6, "round", "(II)I"⟩
abbrev cX6_tend : ByteArray := prog_8_method_19_code
def yX6_tend : MethodName := ⟨RX6, "tend", "(I)I"⟩
abbrev cX6_shift : ByteArray := prog_8_method_20_code
def yX6_shift : MethodName := ⟨RX6, "shift", "(III)I"⟩
abbrev cX6_state : ByteArray := prog_8_method_21_code
def yX6_state : MethodName := ⟨RX6, "state", "(II)I"⟩
abbrev cX6_waiting : ByteArray := prog_8_method_22_code
def yX6_waiting : MethodName := ⟨RX6, "waiting", "(II)I"⟩
abbrev cX6_aboard : ByteArray := prog_8_method_23_code
def yX6_aboard : MethodName := ⟨RX6, "aboard", "(II)I"⟩
abbrev cX6_ofGate : ByteArray := prog_8_method_24_code
def yX6_ofGate : MethodName := ⟨RX6, "ofGate", "(II)I"⟩
abbrev cX6_ofRamp : ByteArray := prog_8_method_25_code
def yX6_ofRamp : MethodName := ⟨RX6, "ofRamp", "(II)I"⟩
abbrev cX6_count : ByteArray := prog_8_method_26_code
def yX6_count : MethodName := ⟨RX6, "count", "(I)I"⟩
def RJ9 : String := "java/lang/Math"
def TJ9 : u_T := fun k => match k with
  | _ => ("", "", "", false)
def tyJ9 : Nat → FieldType := fun k => match k with
  | _ => .int
abbrev wsJ90 : List Cond := u_ws RJ9 TJ9 0
theorem nmJ9 : ∀ a, a < 0 → ∀ b, b < 0 → a ≠ b → (TJ9 a).2.1 ≠ (TJ9 b).2.1 := by decide +kernel
theorem tyJ9_ok : ∀ k, k < 0 → parseFieldDescriptor (TJ9 k).2.2.1 = some (tyJ9 k) := by decide +kernel
abbrev cJ9_max_7cf53 : ByteArray := prog_9_method_65_code
def yJ9_max_7cf53 : MethodName := ⟨RJ9, "max", "(II)I"⟩
def RJ10 : String := "java/lang/System"
def TJ10 : u_T := fun k => match k with
  | _ => ("", "", "", false)
def tyJ10 : Nat → FieldType := fun k => match k with
  | _ => .int
abbrev wsJ100 : List Cond := u_ws RJ10 TJ10 0
theorem nmJ10 : ∀ a, a < 0 → ∀ b, b < 0 → a ≠ b → (TJ10 a).2.1 ≠ (TJ10 b).2.1 := by decide +kernel
theorem tyJ10_ok : ∀ k, k < 0 → parseFieldDescriptor (TJ10 k).2.2.1 = some (tyJ10 k) := by decide +kernel
def RL : String := "FerryQuayLaw"
abbrev cL_law : ByteArray := code
def yL_law : MethodName := ⟨RL, "law", "([I)Z"⟩
def wsX4_init : List Cond := .code yX4_init cX4_init 2 none :: ([.methodLink RX4 3 objectInit, .instanceMethod objectInit, .code objectInit ⟨#[0xb1]⟩ 1 none, .methodLink RX4 9 Lib.Math.max.name, .static Lib.Math.max.name, .initialized "java/lang/Math", .code Lib.Math.max.name Lib.Math.max.code 2 (some .int), .arrayClass .int, .fieldLink RX4 15 "FerryQuay$Row" "weights" "[I"] ++ wsX40)
def wsX1_init : List Cond := .code yX1_init cX1_init 2 none :: ([.methodLink RX1 3 objectInit, .instanceMethod objectInit, .code objectInit ⟨#[0xb1]⟩ 1 none, .fieldLink RX1 9 "FerryQuay$Ferry" "room" "I", .classLink RX1 15 RX4, .instantiable RX4 2, .initialized RX4, .fieldLink RX1 20 "FerryQuay$Ferry" "vehicles" "LFerryQuay$Row;", .methodLink RX1 17 yX4_init, .instanceMethod yX4_init, .code yX4_init cX4_init 2 none, .methodLink RX4 3 objectInit, .methodLink RX4 9 Lib.Math.max.name, .static Lib.Math.max.name, .initialized "java/lang/Math", .code Lib.Math.max.name Lib.Math.max.code 2 (some .int), .arrayClass .int, .fieldLink RX4 15 "FerryQuay$Row" "weights" "[I"] ++ wsX10 ++ wsX40)
def wsX0_init_r1 : List Cond := [Cond.methodLink RX0 3 objectInit, Cond.instanceMethod objectInit, Cond.code objectInit ⟨#[0xb1]⟩ 1 none, Cond.classLink RX0 9 RX4, Cond.instantiable RX4 2, Cond.initialized RX4, Cond.fieldLink RX0 14 "FerryQuay$Berth" "lane" "LFerryQuay$Row;", Cond.classLink RX0 20 RX1, Cond.instantiable RX1 3, Cond.initialized RX1, Cond.fieldLink RX0 23 "FerryQuay$Berth" "ferry" "LFerryQuay$Ferry;", Cond.methodLink RX0 11 yX4_init, Cond.instanceMethod yX4_init, Cond.code yX4_init cX4_init 2 none, Cond.methodLink RX4 3 objectInit, Cond.methodLink RX4 9 Lib.Math.max.name, Cond.static Lib.Math.max.name, Cond.initialized "java/lang/Math", Cond.code Lib.Math.max.name Lib.Math.max.code 2 (some .int), Cond.arrayClass .int, Cond.fieldLink RX4 15 "FerryQuay$Row" "weights" "[I", Cond.methodLink RX0 22 yX1_init, Cond.instanceMethod yX1_init, Cond.code yX1_init cX1_init 2 none]
def wsX0_init_r2 : List Cond := [Cond.methodLink RX1 3 objectInit, Cond.fieldLink RX1 9 "FerryQuay$Ferry" "room" "I", Cond.classLink RX1 15 RX4, Cond.fieldLink RX1 20 "FerryQuay$Ferry" "vehicles" "LFerryQuay$Row;", Cond.methodLink RX1 17 yX4_init]
def wsX0_init : List Cond := .code yX0_init cX0_init 2 none :: ((wsX0_init_r1 ++ wsX0_init_r2) ++ wsX40 ++ wsX00 ++ wsX10)
def wsX0_gateNumber : List Cond := .code yX0_gateNumber cX0_gateNumber 1 (some .int) :: ([.fieldLink RX0 27 "FerryQuay$Berth" "gate" "LFerryQuay$Gate;", .fieldLink RX0 31 "FerryQuay$Gate" "number" "I"] ++ wsX00 ++ wsX20)
def wsX0_rampNumber : List Cond := .code yX0_rampNumber cX0_rampNumber 1 (some .int) :: ([.fieldLink RX0 37 "FerryQuay$Berth" "ramp" "LFerryQuay$Ramp;", .fieldLink RX0 41 "FerryQuay$Ramp" "number" "I"] ++ wsX00 ++ wsX30)
def wsX4_isFull : List Cond := .code yX4_isFull cX4_isFull 1 (some .boolean) :: ([.fieldLink RX4 21 "FerryQuay$Row" "size" "I", .fieldLink RX4 15 "FerryQuay$Row" "weights" "[I"] ++ wsX40)
def wsX1_hasRoomFor : List Cond := .code yX1_hasRoomFor cX1_hasRoomFor 2 (some .boolean) :: ([.fieldLink RX1 20 "FerryQuay$Ferry" "vehicles" "LFerryQuay$Row;", .fieldLink RX1 28 "FerryQuay$Ferry" "load" "I", .fieldLink RX1 9 "FerryQuay$Ferry" "room" "I", .methodLink RX1 24 yX4_isFull, .instanceMethod yX4_isFull, .selects RX4 yX4_isFull yX4_isFull, .initialized RX4, .code yX4_isFull cX4_isFull 1 (some .boolean), .fieldLink RX4 21 "FerryQuay$Row" "size" "I", .fieldLink RX4 15 "FerryQuay$Row" "weights" "[I"] ++ wsX10 ++ wsX40)
def wsX4_addLast : List Cond := .code yX4_addLast cX4_addLast 2 none :: ([.fieldLink RX4 21 "FerryQuay$Row" "size" "I", .fieldLink RX4 15 "FerryQuay$Row" "weights" "[I"] ++ wsX40)
def wsX1_takeAboard : List Cond := .code yX1_takeAboard cX1_takeAboard 2 none :: ([.fieldLink RX1 20 "FerryQuay$Ferry" "vehicles" "LFerryQuay$Row;", .fieldLink RX1 28 "FerryQuay$Ferry" "load" "I", .methodLink RX1 31 yX4_addLast, .instanceMethod yX4_addLast, .selects RX4 yX4_addLast yX4_addLast, .initialized RX4, .code yX4_addLast cX4_addLast 2 none, .fieldLink RX4 21 "FerryQuay$Row" "size" "I", .fieldLink RX4 15 "FerryQuay$Row" "weights" "[I"] ++ wsX10 ++ wsX40)
def wsX4_weightAt : List Cond := .code yX4_weightAt cX4_weightAt 2 (some .int) :: ([.fieldLink RX4 21 "FerryQuay$Row" "size" "I", .fieldLink RX4 15 "FerryQuay$Row" "weights" "[I"] ++ wsX40)
def wsX1_weightOfLast : List Cond := .code yX1_weightOfLast cX1_weightOfLast 1 (some .int) :: ([.fieldLink RX1 20 "FerryQuay$Ferry" "vehicles" "LFerryQuay$Row;", .fieldLink RX1 34 "FerryQuay$Row" "size" "I", .methodLink RX1 37 yX4_weightAt, .instanceMethod yX4_weightAt, .selects RX4 yX4_weightAt yX4_weightAt, .initialized RX4, .code yX4_weightAt cX4_weightAt 2 (some .int), .fieldLink RX4 21 "FerryQuay$Row" "size" "I", .fieldLink RX4 15 "FerryQuay$Row" "weights" "[I"] ++ wsX10 ++ wsX40)
def wsX4_removeLast : List Cond := .code yX4_removeLast cX4_removeLast 1 none :: ([.fieldLink RX4 21 "FerryQuay$Row" "size" "I"] ++ wsX40)
def wsX1_putLastAshore : List Cond := .code yX1_putLastAshore cX1_putLastAshore 1 none :: ([.fieldLink RX1 20 "FerryQuay$Ferry" "vehicles" "LFerryQuay$Row;", .fieldLink RX1 34 "FerryQuay$Row" "size" "I", .fieldLink RX1 28 "FerryQuay$Ferry" "load" "I", .methodLink RX1 41 yX1_weightOfLast, .instanceMethod yX1_weightOfLast, .selects RX1 yX1_weightOfLast yX1_weightOfLast, .initialized RX1, .code yX1_weightOfLast cX1_weightOfLast 1 (some .int), .methodLink RX1 37 yX4_weightAt, .instanceMethod yX4_weightAt, .selects RX4 yX4_weightAt yX4_weightAt, .initialized RX4, .code yX4_weightAt cX4_weightAt 2 (some .int), .fieldLink RX4 21 "FerryQuay$Row" "size" "I", .fieldLink RX4 15 "FerryQuay$Row" "weights" "[I", .methodLink RX1 45 yX4_removeLast, .instanceMethod yX4_removeLast, .selects RX4 yX4_removeLast yX4_removeLast, .code yX4_removeLast cX4_removeLast 1 none] ++ wsX10 ++ wsX40)
def wsX2_init : List Cond := .code yX2_init cX2_init 2 none :: ([.methodLink RX2 1 objectInit, .instanceMethod objectInit, .code objectInit ⟨#[0xb1]⟩ 1 none, .fieldLink RX2 7 "FerryQuay$Gate" "number" "I"] ++ wsX20)
def wsX2_shutAsNumber : List Cond := .code yX2_shutAsNumber cX2_shutAsNumber 1 (some .int) :: ([.fieldLink RX2 13 "FerryQuay$Gate" "isShut" "Z"] ++ wsX20)
def wsX3_init : List Cond := .code yX3_init cX3_init 3 none :: ([.methodLink RX3 1 objectInit, .instanceMethod objectInit, .code objectInit ⟨#[0xb1]⟩ 1 none, .fieldLink RX3 7 "FerryQuay$Ramp" "number" "I", .fieldLink RX3 13 "FerryQuay$Ramp" "limit" "I"] ++ wsX30)
def wsX4_removeFirst : List Cond := .code yX4_removeFirst cX4_removeFirst 1 none :: ([.fieldLink RX4 21 "FerryQuay$Row" "size" "I", .fieldLink RX4 15 "FerryQuay$Row" "weights" "[I", .methodLink RX4 25 arraycopyName, .native arraycopyName, .static arraycopyName, .initialized "java/lang/System"] ++ wsX40)
def wsX5_init : List Cond := .code yX5_init cX5_init 1 none :: ([.methodLink RX5 1 objectInit, .instanceMethod objectInit, .code objectInit ⟨#[0xb1]⟩ 1 none, .classLink RX5 9 RX2, .fieldLink RX5 11 "FerryQuay" "gates" "[LFerryQuay$Gate;", .classLink RX5 15 RX3, .fieldLink RX5 17 "FerryQuay" "ramps" "[LFerryQuay$Ramp;", .classLink RX5 21 RX0, .fieldLink RX5 23 "FerryQuay" "berths" "[LFerryQuay$Berth;"] ++ wsX50)
def wsX5_gate : List Cond := .code yX5_gate cX5_gate 2 (some .int) :: ([.fieldLink RX5 27 "FerryQuay" "gateCount" "I", .fieldLink RX5 11 "FerryQuay" "gates" "[LFerryQuay$Gate;", .classLink RX5 9 RX2, .instantiable RX2 4, .initialized RX2, .methodLink RX5 31 yX2_init, .instanceMethod yX2_init, .code yX2_init cX2_init 2 none, .methodLink RX2 1 objectInit, .instanceMethod objectInit, .code objectInit ⟨#[0xb1]⟩ 1 none, .fieldLink RX2 7 "FerryQuay$Gate" "number" "I"] ++ wsX50 ++ wsX20)
def wsX5_isWithin : List Cond := .code yX5_isWithin cX5_isWithin 3 (some .boolean) :: ([])
def wsX5_ramp : List Cond := .code yX5_ramp cX5_ramp 3 (some .int) :: ([.fieldLink RX5 38 "FerryQuay" "rampCount" "I", .fieldLink RX5 17 "FerryQuay" "ramps" "[LFerryQuay$Ramp;", .classLink RX5 15 RX3, .instantiable RX3 4, .initialized RX3, .methodLink RX5 34 yX5_isWithin, .static yX5_isWithin, .initialized RX5, .code yX5_isWithin cX5_isWithin 3 (some .boolean), .methodLink RX5 41 yX3_init, .instanceMethod yX3_init, .code yX3_init cX3_init 3 none, .methodLink RX3 1 objectInit, .instanceMethod objectInit, .code objectInit ⟨#[0xb1]⟩ 1 none, .fieldLink RX3 7 "FerryQuay$Ramp" "number" "I", .fieldLink RX3 13 "FerryQuay$Ramp" "limit" "I"] ++ wsX50 ++ wsX30)
def wsX5_berth_r1 : List Cond := [Cond.fieldLink RX5 44 "FerryQuay" "berthCount" "I", Cond.fieldLink RX5 23 "FerryQuay" "berths" "[LFerryQuay$Berth;", Cond.classLink RX5 21 RX0, Cond.instantiable RX0 4, Cond.initialized RX0, Cond.methodLink RX5 34 yX5_isWithin, Cond.static yX5_isWithin, Cond.initialized RX5, Cond.code yX5_isWithin cX5_isWithin 3 (some .boolean), Cond.methodLink RX5 47 yX0_init, Cond.instanceMethod yX0_init, Cond.code yX0_init cX0_init 2 none, Cond.methodLink RX0 3 objectInit, Cond.instanceMethod objectInit, Cond.code objectInit ⟨#[0xb1]⟩ 1 none, Cond.classLink RX0 9 RX4, Cond.instantiable RX4 2, Cond.initialized RX4, Cond.fieldLink RX0 14 "FerryQuay$Berth" "lane" "LFerryQuay$Row;", Cond.classLink RX0 20 RX1, Cond.instantiable RX1 3, Cond.initialized RX1, Cond.fieldLink RX0 23 "FerryQuay$Berth" "ferry" "LFerryQuay$Ferry;", Cond.methodLink RX0 11 yX4_init]
def wsX5_berth_r2 : List Cond := [Cond.instanceMethod yX4_init, Cond.code yX4_init cX4_init 2 none, Cond.methodLink RX4 3 objectInit, Cond.methodLink RX4 9 Lib.Math.max.name, Cond.static Lib.Math.max.name, Cond.initialized "java/lang/Math", Cond.code Lib.Math.max.name Lib.Math.max.code 2 (some .int), Cond.arrayClass .int, Cond.fieldLink RX4 15 "FerryQuay$Row" "weights" "[I", Cond.methodLink RX0 22 yX1_init, Cond.instanceMethod yX1_init, Cond.code yX1_init cX1_init 2 none, Cond.methodLink RX1 3 objectInit, Cond.fieldLink RX1 9 "FerryQuay$Ferry" "room" "I", Cond.classLink RX1 15 RX4, Cond.fieldLink RX1 20 "FerryQuay$Ferry" "vehicles" "LFerryQuay$Row;", Cond.methodLink RX1 17 yX4_init]
def wsX5_berth : List Cond := .code yX5_berth cX5_berth 3 (some .int) :: ((wsX5_berth_r1 ++ wsX5_berth_r2) ++ wsX50 ++ wsX00 ++ wsX40 ++ wsX10)
def wsX5_berthAt : List Cond := .code yX5_berthAt cX5_berthAt 2 (some (.object "FerryQuay$Berth")) :: ([.fieldLink RX5 44 "FerryQuay" "berthCount" "I", .fieldLink RX5 23 "FerryQuay" "berths" "[LFerryQuay$Berth;"] ++ wsX50)
def wsX5_gateAt : List Cond := .code yX5_gateAt cX5_gateAt 2 (some (.object "FerryQuay$Gate")) :: ([.fieldLink RX5 27 "FerryQuay" "gateCount" "I", .fieldLink RX5 11 "FerryQuay" "gates" "[LFerryQuay$Gate;"] ++ wsX50)
def wsX5_hinge : List Cond := .code yX5_hinge cX5_hinge 6 (some .int) :: ([.fieldLink RX5 60 "FerryQuay$Berth" "gate" "LFerryQuay$Gate;", .methodLink RX5 48 yX5_berthAt, .instanceMethod yX5_berthAt, .selects RX5 yX5_berthAt yX5_berthAt, .initialized RX5, .code yX5_berthAt cX5_berthAt 2 (some (.object "FerryQuay$Berth")), .fieldLink RX5 44 "FerryQuay" "berthCount" "I", .fieldLink RX5 23 "FerryQuay" "berths" "[LFerryQuay$Berth;", .methodLink RX5 52 yX5_gateAt, .instanceMethod yX5_gateAt, .selects RX5 yX5_gateAt yX5_gateAt, .code yX5_gateAt cX5_gateAt 2 (some (.object "FerryQuay$Gate")), .fieldLink RX5 27 "FerryQuay" "gateCount" "I", .fieldLink RX5 11 "FerryQuay" "gates" "[LFerryQuay$Gate;", .methodLink RX5 56 yX0_gateNumber, .instanceMethod yX0_gateNumber, .selects RX0 yX0_gateNumber yX0_gateNumber, .initialized RX0, .code yX0_gateNumber cX0_gateNumber 1 (some .int), .fieldLink RX0 27 "FerryQuay$Berth" "gate" "LFerryQuay$Gate;", .fieldLink RX0 31 "FerryQuay$Gate" "number" "I"] ++ wsX00 ++ wsX50 ++ wsX20)
def wsX5_rampAt : List Cond := .code yX5_rampAt cX5_rampAt 2 (some (.object "FerryQuay$Ramp")) :: ([.fieldLink RX5 38 "FerryQuay" "rampCount" "I", .fieldLink RX5 17 "FerryQuay" "ramps" "[LFerryQuay$Ramp;"] ++ wsX50)
def wsX5_lay : List Cond := .code yX5_lay cX5_lay 6 (some .int) :: ([.fieldLink RX5 71 "FerryQuay$Berth" "ramp" "LFerryQuay$Ramp;", .methodLink RX5 48 yX5_berthAt, .instanceMethod yX5_berthAt, .selects RX5 yX5_berthAt yX5_berthAt, .initialized RX5, .code yX5_berthAt cX5_berthAt 2 (some (.object "FerryQuay$Berth")), .fieldLink RX5 44 "FerryQuay" "berthCount" "I", .fieldLink RX5 23 "FerryQuay" "berths" "[LFerryQuay$Berth;", .methodLink RX5 64 yX5_rampAt, .instanceMethod yX5_rampAt, .selects RX5 yX5_rampAt yX5_rampAt, .code yX5_rampAt cX5_rampAt 2 (some (.object "FerryQuay$Ramp")), .fieldLink RX5 38 "FerryQuay" "rampCount" "I", .fieldLink RX5 17 "FerryQuay" "ramps" "[LFerryQuay$Ramp;", .methodLink RX5 68 yX0_rampNumber, .instanceMethod yX0_rampNumber, .selects RX0 yX0_rampNumber yX0_rampNumber, .initialized RX0, .code yX0_rampNumber cX0_rampNumber 1 (some .int), .fieldLink RX0 37 "FerryQuay$Berth" "ramp" "LFerryQuay$Ramp;", .fieldLink RX0 41 "FerryQuay$Ramp" "number" "I"] ++ wsX00 ++ wsX50 ++ wsX30)
def wsX5_shut : List Cond := .code yX5_shut cX5_shut 5 (some .int) :: ([.fieldLink RX5 78 "FerryQuay$Gate" "isShut" "Z", .methodLink RX5 52 yX5_gateAt, .instanceMethod yX5_gateAt, .selects RX5 yX5_gateAt yX5_gateAt, .initialized RX5, .code yX5_gateAt cX5_gateAt 2 (some (.object "FerryQuay$Gate")), .fieldLink RX5 27 "FerryQuay" "gateCount" "I", .fieldLink RX5 11 "FerryQuay" "gates" "[LFerryQuay$Gate;", .methodLink RX5 75 yX2_shutAsNumber, .instanceMethod yX2_shutAsNumber, .selects RX2 yX2_shutAsNumber yX2_shutAsNumber, .initialized RX2, .code yX2_shutAsNumber cX2_shutAsNumber 1 (some .int), .fieldLink RX2 13 "FerryQuay$Gate" "isShut" "Z"] ++ wsX20 ++ wsX50)
def wsX5_arrive : List Cond := .code yX5_arrive cX5_arrive 4 (some .int) :: ([.fieldLink RX5 82 "FerryQuay$Berth" "lane" "LFerryQuay$Row;", .fieldLink RX5 95 "FerryQuay" "arrived" "I", .fieldLink RX5 98 "FerryQuay$Row" "size" "I", .methodLink RX5 48 yX5_berthAt, .instanceMethod yX5_berthAt, .selects RX5 yX5_berthAt yX5_berthAt, .initialized RX5, .code yX5_berthAt cX5_berthAt 2 (some (.object "FerryQuay$Berth")), .fieldLink RX5 44 "FerryQuay" "berthCount" "I", .fieldLink RX5 23 "FerryQuay" "berths" "[LFerryQuay$Berth;", .methodLink RX5 34 yX5_isWithin, .static yX5_isWithin, .code yX5_isWithin cX5_isWithin 3 (some .boolean), .methodLink RX5 86 yX4_isFull, .instanceMethod yX4_isFull, .selects RX4 yX4_isFull yX4_isFull, .initialized RX4, .code yX4_isFull cX4_isFull 1 (some .boolean), .fieldLink RX4 21 "FerryQuay$Row" "size" "I", .fieldLink RX4 15 "FerryQuay$Row" "weights" "[I", .methodLink RX5 92 yX4_addLast, .instanceMethod yX4_addLast, .selects RX4 yX4_addLast yX4_addLast, .code yX4_addLast cX4_addLast 2 none] ++ wsX00 ++ wsX50 ++ wsX40)
def wsX5_alarm : List Cond := .code yX5_alarm cX5_alarm 2 (some .int) :: ([.fieldLink RX5 170 "FerryQuay" "alarms" "I"] ++ wsX50)
def wsX5_boardThrough_r1 : List Cond := [Cond.fieldLink RX5 82 "FerryQuay$Berth" "lane" "LFerryQuay$Row;", Cond.fieldLink RX5 71 "FerryQuay$Berth" "ramp" "LFerryQuay$Ramp;", Cond.fieldLink RX5 98 "FerryQuay$Row" "size" "I", Cond.fieldLink RX5 108 "FerryQuay$Ramp" "taken" "I", Cond.fieldLink RX5 116 "FerryQuay" "towed" "I", Cond.fieldLink RX5 122 "FerryQuay$Ramp" "limit" "I", Cond.fieldLink RX5 125 "FerryQuay$Berth" "ferry" "LFerryQuay$Ferry;", Cond.fieldLink RX5 138 "FerryQuay$Gate" "passed" "I", Cond.fieldLink RX5 141 "FerryQuay$Ramp" "wear" "I", Cond.methodLink RX5 109 yX4_weightAt, Cond.instanceMethod yX4_weightAt, Cond.selects RX4 yX4_weightAt yX4_weightAt, Cond.initialized RX4, Cond.code yX4_weightAt cX4_weightAt 2 (some .int), Cond.fieldLink RX4 21 "FerryQuay$Row" "size" "I", Cond.fieldLink RX4 15 "FerryQuay$Row" "weights" "[I", Cond.methodLink RX5 113 yX4_removeFirst, Cond.instanceMethod yX4_removeFirst, Cond.selects RX4 yX4_removeFirst yX4_removeFirst, Cond.code yX4_removeFirst cX4_removeFirst 1 none, Cond.methodLink RX4 25 arraycopyName, Cond.native arraycopyName, Cond.static arraycopyName, Cond.initialized "java/lang/System"]
def wsX5_boardThrough_r2 : List Cond := [Cond.methodLink RX5 119 yX5_alarm, Cond.instanceMethod yX5_alarm, Cond.selects RX5 yX5_alarm yX5_alarm, Cond.initialized RX5, Cond.code yX5_alarm cX5_alarm 2 (some .int), Cond.fieldLink RX5 170 "FerryQuay" "alarms" "I", Cond.methodLink RX5 92 yX4_addLast, Cond.instanceMethod yX4_addLast, Cond.selects RX4 yX4_addLast yX4_addLast, Cond.code yX4_addLast cX4_addLast 2 none, Cond.methodLink RX5 129 yX1_hasRoomFor, Cond.instanceMethod yX1_hasRoomFor, Cond.selects RX1 yX1_hasRoomFor yX1_hasRoomFor, Cond.initialized RX1, Cond.code yX1_hasRoomFor cX1_hasRoomFor 2 (some .boolean), Cond.fieldLink RX1 20 "FerryQuay$Ferry" "vehicles" "LFerryQuay$Row;", Cond.fieldLink RX1 28 "FerryQuay$Ferry" "load" "I", Cond.fieldLink RX1 9 "FerryQuay$Ferry" "room" "I", Cond.methodLink RX1 24 yX4_isFull, Cond.instanceMethod yX4_isFull, Cond.selects RX4 yX4_isFull yX4_isFull, Cond.code yX4_isFull cX4_isFull 1 (some .boolean), Cond.methodLink RX5 135 yX1_takeAboard, Cond.instanceMethod yX1_takeAboard]
def wsX5_boardThrough_r3 : List Cond := [Cond.selects RX1 yX1_takeAboard yX1_takeAboard, Cond.code yX1_takeAboard cX1_takeAboard 2 none, Cond.methodLink RX1 31 yX4_addLast]
def wsX5_boardThrough : List Cond := .code yX5_boardThrough cX5_boardThrough 10 (some .int) :: ((wsX5_boardThrough_r1 ++ (wsX5_boardThrough_r2 ++ wsX5_boardThrough_r3)) ++ wsX00 ++ wsX40 ++ wsX30 ++ wsX50 ++ wsX20 ++ wsX10)
def wsX5_board_r1 : List Cond := [Cond.fieldLink RX5 60 "FerryQuay$Berth" "gate" "LFerryQuay$Gate;", Cond.fieldLink RX5 101 "FerryQuay$Gate" "taken" "I", Cond.fieldLink RX5 78 "FerryQuay$Gate" "isShut" "Z", Cond.methodLink RX5 48 yX5_berthAt, Cond.instanceMethod yX5_berthAt, Cond.selects RX5 yX5_berthAt yX5_berthAt, Cond.initialized RX5, Cond.code yX5_berthAt cX5_berthAt 2 (some (.object "FerryQuay$Berth")), Cond.fieldLink RX5 44 "FerryQuay" "berthCount" "I", Cond.fieldLink RX5 23 "FerryQuay" "berths" "[LFerryQuay$Berth;", Cond.methodLink RX5 34 yX5_isWithin, Cond.static yX5_isWithin, Cond.code yX5_isWithin cX5_isWithin 3 (some .boolean), Cond.methodLink RX5 104 yX5_boardThrough, Cond.instanceMethod yX5_boardThrough, Cond.selects RX5 yX5_boardThrough yX5_boardThrough, Cond.code yX5_boardThrough cX5_boardThrough 10 (some .int), Cond.fieldLink RX5 82 "FerryQuay$Berth" "lane" "LFerryQuay$Row;", Cond.fieldLink RX5 71 "FerryQuay$Berth" "ramp" "LFerryQuay$Ramp;", Cond.fieldLink RX5 98 "FerryQuay$Row" "size" "I", Cond.fieldLink RX5 108 "FerryQuay$Ramp" "taken" "I", Cond.fieldLink RX5 116 "FerryQuay" "towed" "I", Cond.fieldLink RX5 122 "FerryQuay$Ramp" "limit" "I", Cond.fieldLink RX5 125 "FerryQuay$Berth" "ferry" "LFerryQuay$Ferry;"]
def wsX5_board_r2 : List Cond := [Cond.fieldLink RX5 138 "FerryQuay$Gate" "passed" "I", Cond.fieldLink RX5 141 "FerryQuay$Ramp" "wear" "I", Cond.methodLink RX5 109 yX4_weightAt, Cond.instanceMethod yX4_weightAt, Cond.selects RX4 yX4_weightAt yX4_weightAt, Cond.initialized RX4, Cond.code yX4_weightAt cX4_weightAt 2 (some .int), Cond.fieldLink RX4 21 "FerryQuay$Row" "size" "I", Cond.fieldLink RX4 15 "FerryQuay$Row" "weights" "[I", Cond.methodLink RX5 113 yX4_removeFirst, Cond.instanceMethod yX4_removeFirst, Cond.selects RX4 yX4_removeFirst yX4_removeFirst, Cond.code yX4_removeFirst cX4_removeFirst 1 none, Cond.methodLink RX4 25 arraycopyName, Cond.native arraycopyName, Cond.static arraycopyName, Cond.initialized "java/lang/System", Cond.methodLink RX5 119 yX5_alarm, Cond.instanceMethod yX5_alarm, Cond.selects RX5 yX5_alarm yX5_alarm, Cond.code yX5_alarm cX5_alarm 2 (some .int), Cond.fieldLink RX5 170 "FerryQuay" "alarms" "I", Cond.methodLink RX5 92 yX4_addLast, Cond.instanceMethod yX4_addLast]
def wsX5_board_r3 : List Cond := [Cond.selects RX4 yX4_addLast yX4_addLast, Cond.code yX4_addLast cX4_addLast 2 none, Cond.methodLink RX5 129 yX1_hasRoomFor, Cond.instanceMethod yX1_hasRoomFor, Cond.selects RX1 yX1_hasRoomFor yX1_hasRoomFor, Cond.initialized RX1, Cond.code yX1_hasRoomFor cX1_hasRoomFor 2 (some .boolean), Cond.fieldLink RX1 20 "FerryQuay$Ferry" "vehicles" "LFerryQuay$Row;", Cond.fieldLink RX1 28 "FerryQuay$Ferry" "load" "I", Cond.fieldLink RX1 9 "FerryQuay$Ferry" "room" "I", Cond.methodLink RX1 24 yX4_isFull, Cond.instanceMethod yX4_isFull, Cond.selects RX4 yX4_isFull yX4_isFull, Cond.code yX4_isFull cX4_isFull 1 (some .boolean), Cond.methodLink RX5 135 yX1_takeAboard, Cond.instanceMethod yX1_takeAboard, Cond.selects RX1 yX1_takeAboard yX1_takeAboard, Cond.code yX1_takeAboard cX1_takeAboard 2 none, Cond.methodLink RX1 31 yX4_addLast]
def wsX5_board : List Cond := .code yX5_board cX5_board 5 (some .int) :: ((wsX5_board_r1 ++ (wsX5_board_r2 ++ wsX5_board_r3)) ++ wsX00 ++ wsX20 ++ wsX50 ++ wsX40 ++ wsX30 ++ wsX10)
def wsX5_landOver_r1 : List Cond := [Cond.fieldLink RX5 125 "FerryQuay$Berth" "ferry" "LFerryQuay$Ferry;", Cond.fieldLink RX5 60 "FerryQuay$Berth" "gate" "LFerryQuay$Gate;", Cond.fieldLink RX5 148 "FerryQuay$Ferry" "vehicles" "LFerryQuay$Row;", Cond.fieldLink RX5 98 "FerryQuay$Row" "size" "I", Cond.fieldLink RX5 101 "FerryQuay$Gate" "taken" "I", Cond.fieldLink RX5 78 "FerryQuay$Gate" "isShut" "Z", Cond.fieldLink RX5 122 "FerryQuay$Ramp" "limit" "I", Cond.fieldLink RX5 157 "FerryQuay" "gone" "I", Cond.fieldLink RX5 138 "FerryQuay$Gate" "passed" "I", Cond.fieldLink RX5 141 "FerryQuay$Ramp" "wear" "I", Cond.methodLink RX5 151 yX1_weightOfLast, Cond.instanceMethod yX1_weightOfLast, Cond.selects RX1 yX1_weightOfLast yX1_weightOfLast, Cond.initialized RX1, Cond.code yX1_weightOfLast cX1_weightOfLast 1 (some .int), Cond.fieldLink RX1 20 "FerryQuay$Ferry" "vehicles" "LFerryQuay$Row;", Cond.fieldLink RX1 34 "FerryQuay$Row" "size" "I", Cond.methodLink RX1 37 yX4_weightAt, Cond.instanceMethod yX4_weightAt, Cond.selects RX4 yX4_weightAt yX4_weightAt, Cond.initialized RX4, Cond.code yX4_weightAt cX4_weightAt 2 (some .int), Cond.fieldLink RX4 21 "FerryQuay$Row" "size" "I", Cond.fieldLink RX4 15 "FerryQuay$Row" "weights" "[I"]
def wsX5_landOver_r2 : List Cond := [Cond.methodLink RX5 119 yX5_alarm, Cond.instanceMethod yX5_alarm, Cond.selects RX5 yX5_alarm yX5_alarm, Cond.initialized RX5, Cond.code yX5_alarm cX5_alarm 2 (some .int), Cond.fieldLink RX5 170 "FerryQuay" "alarms" "I", Cond.methodLink RX5 154 yX1_putLastAshore, Cond.instanceMethod yX1_putLastAshore, Cond.selects RX1 yX1_putLastAshore yX1_putLastAshore, Cond.code yX1_putLastAshore cX1_putLastAshore 1 none, Cond.fieldLink RX1 28 "FerryQuay$Ferry" "load" "I", Cond.methodLink RX1 41 yX1_weightOfLast, Cond.methodLink RX1 45 yX4_removeLast, Cond.instanceMethod yX4_removeLast, Cond.selects RX4 yX4_removeLast yX4_removeLast, Cond.code yX4_removeLast cX4_removeLast 1 none]
def wsX5_landOver : List Cond := .code yX5_landOver cX5_landOver 8 (some .int) :: ((wsX5_landOver_r1 ++ wsX5_landOver_r2) ++ wsX00 ++ wsX10 ++ wsX40 ++ wsX20 ++ wsX30 ++ wsX50)
def wsX5_land_r1 : List Cond := [Cond.fieldLink RX5 71 "FerryQuay$Berth" "ramp" "LFerryQuay$Ramp;", Cond.fieldLink RX5 108 "FerryQuay$Ramp" "taken" "I", Cond.methodLink RX5 48 yX5_berthAt, Cond.instanceMethod yX5_berthAt, Cond.selects RX5 yX5_berthAt yX5_berthAt, Cond.initialized RX5, Cond.code yX5_berthAt cX5_berthAt 2 (some (.object "FerryQuay$Berth")), Cond.fieldLink RX5 44 "FerryQuay" "berthCount" "I", Cond.fieldLink RX5 23 "FerryQuay" "berths" "[LFerryQuay$Berth;", Cond.methodLink RX5 34 yX5_isWithin, Cond.static yX5_isWithin, Cond.code yX5_isWithin cX5_isWithin 3 (some .boolean), Cond.methodLink RX5 144 yX5_landOver, Cond.instanceMethod yX5_landOver, Cond.selects RX5 yX5_landOver yX5_landOver, Cond.code yX5_landOver cX5_landOver 8 (some .int), Cond.fieldLink RX5 125 "FerryQuay$Berth" "ferry" "LFerryQuay$Ferry;", Cond.fieldLink RX5 60 "FerryQuay$Berth" "gate" "LFerryQuay$Gate;", Cond.fieldLink RX5 148 "FerryQuay$Ferry" "vehicles" "LFerryQuay$Row;", Cond.fieldLink RX5 98 "FerryQuay$Row" "size" "I", Cond.fieldLink RX5 101 "FerryQuay$Gate" "taken" "I", Cond.fieldLink RX5 78 "FerryQuay$Gate" "isShut" "Z", Cond.fieldLink RX5 122 "FerryQuay$Ramp" "limit" "I", Cond.fieldLink RX5 157 "FerryQuay" "gone" "I"]
def wsX5_land_r2 : List Cond := [Cond.fieldLink RX5 138 "FerryQuay$Gate" "passed" "I", Cond.fieldLink RX5 141 "FerryQuay$Ramp" "wear" "I", Cond.methodLink RX5 151 yX1_weightOfLast, Cond.instanceMethod yX1_weightOfLast, Cond.selects RX1 yX1_weightOfLast yX1_weightOfLast, Cond.initialized RX1, Cond.code yX1_weightOfLast cX1_weightOfLast 1 (some .int), Cond.fieldLink RX1 20 "FerryQuay$Ferry" "vehicles" "LFerryQuay$Row;", Cond.fieldLink RX1 34 "FerryQuay$Row" "size" "I", Cond.methodLink RX1 37 yX4_weightAt, Cond.instanceMethod yX4_weightAt, Cond.selects RX4 yX4_weightAt yX4_weightAt, Cond.initialized RX4, Cond.code yX4_weightAt cX4_weightAt 2 (some .int), Cond.fieldLink RX4 21 "FerryQuay$Row" "size" "I", Cond.fieldLink RX4 15 "FerryQuay$Row" "weights" "[I", Cond.methodLink RX5 119 yX5_alarm, Cond.instanceMethod yX5_alarm, Cond.selects RX5 yX5_alarm yX5_alarm, Cond.code yX5_alarm cX5_alarm 2 (some .int), Cond.fieldLink RX5 170 "FerryQuay" "alarms" "I", Cond.methodLink RX5 154 yX1_putLastAshore, Cond.instanceMethod yX1_putLastAshore, Cond.selects RX1 yX1_putLastAshore yX1_putLastAshore]
def wsX5_land_r3 : List Cond := [Cond.code yX1_putLastAshore cX1_putLastAshore 1 none, Cond.fieldLink RX1 28 "FerryQuay$Ferry" "load" "I", Cond.methodLink RX1 41 yX1_weightOfLast, Cond.methodLink RX1 45 yX4_removeLast, Cond.instanceMethod yX4_removeLast, Cond.selects RX4 yX4_removeLast yX4_removeLast, Cond.code yX4_removeLast cX4_removeLast 1 none]
def wsX5_land : List Cond := .code yX5_land cX5_land 5 (some .int) :: ((wsX5_land_r1 ++ (wsX5_land_r2 ++ wsX5_land_r3)) ++ wsX00 ++ wsX30 ++ wsX50 ++ wsX10 ++ wsX40 ++ wsX20)
def wsX5_swap : List Cond := .code yX5_swap cX5_swap 8 (some .int) :: ([.fieldLink RX5 60 "FerryQuay$Berth" "gate" "LFerryQuay$Gate;", .fieldLink RX5 101 "FerryQuay$Gate" "taken" "I", .fieldLink RX5 78 "FerryQuay$Gate" "isShut" "Z", .fieldLink RX5 125 "FerryQuay$Berth" "ferry" "LFerryQuay$Ferry;", .fieldLink RX5 160 "FerryQuay$Ferry" "load" "I", .methodLink RX5 48 yX5_berthAt, .instanceMethod yX5_berthAt, .selects RX5 yX5_berthAt yX5_berthAt, .initialized RX5, .code yX5_berthAt cX5_berthAt 2 (some (.object "FerryQuay$Berth")), .fieldLink RX5 44 "FerryQuay" "berthCount" "I", .fieldLink RX5 23 "FerryQuay" "berths" "[LFerryQuay$Berth;"] ++ wsX00 ++ wsX20 ++ wsX10 ++ wsX50)
def wsX5_round : List Cond := .code yX5_round cX5_round 7 (some .int) :: ([.fieldLink RX5 60 "FerryQuay$Berth" "gate" "LFerryQuay$Gate;", .fieldLink RX5 101 "FerryQuay$Gate" "taken" "I", .fieldLink RX5 78 "FerryQuay$Gate" "isShut" "Z", .fieldLink RX5 125 "FerryQuay$Berth" "ferry" "LFerryQuay$Ferry;", .fieldLink RX5 160 "FerryQuay$Ferry" "load" "I", .methodLink RX5 48 yX5_berthAt, .instanceMethod yX5_berthAt, .selects RX5 yX5_berthAt yX5_berthAt, .initialized RX5, .code yX5_berthAt cX5_berthAt 2 (some (.object "FerryQuay$Berth")), .fieldLink RX5 44 "FerryQuay" "berthCount" "I", .fieldLink RX5 23 "FerryQuay" "berths" "[LFerryQuay$Berth;", .methodLink RX5 34 yX5_isWithin, .static yX5_isWithin, .code yX5_isWithin cX5_isWithin 3 (some .boolean), .methodLink RX5 119 yX5_alarm, .instanceMethod yX5_alarm, .selects RX5 yX5_alarm yX5_alarm, .code yX5_alarm cX5_alarm 2 (some .int), .fieldLink RX5 170 "FerryQuay" "alarms" "I"] ++ wsX00 ++ wsX20 ++ wsX10 ++ wsX50)
def wsX5_tend : List Cond := .code yX5_tend cX5_tend 4 (some .int) :: ([.fieldLink RX5 108 "FerryQuay$Ramp" "taken" "I", .fieldLink RX5 141 "FerryQuay$Ramp" "wear" "I", .methodLink RX5 64 yX5_rampAt, .instanceMethod yX5_rampAt, .selects RX5 yX5_rampAt yX5_rampAt, .initialized RX5, .code yX5_rampAt cX5_rampAt 2 (some (.object "FerryQuay$Ramp")), .fieldLink RX5 38 "FerryQuay" "rampCount" "I", .fieldLink RX5 17 "FerryQuay" "ramps" "[LFerryQuay$Ramp;", .methodLink RX5 119 yX5_alarm, .instanceMethod yX5_alarm, .selects RX5 yX5_alarm yX5_alarm, .code yX5_alarm cX5_alarm 2 (some .int), .fieldLink RX5 170 "FerryQuay" "alarms" "I"] ++ wsX30 ++ wsX50)
def wsX5_shiftThrough_r1 : List Cond := [Cond.fieldLink RX5 60 "FerryQuay$Berth" "gate" "LFerryQuay$Gate;", Cond.fieldLink RX5 101 "FerryQuay$Gate" "taken" "I", Cond.fieldLink RX5 78 "FerryQuay$Gate" "isShut" "Z", Cond.fieldLink RX5 82 "FerryQuay$Berth" "lane" "LFerryQuay$Row;", Cond.fieldLink RX5 98 "FerryQuay$Row" "size" "I", Cond.fieldLink RX5 138 "FerryQuay$Gate" "passed" "I", Cond.methodLink RX5 86 yX4_isFull, Cond.instanceMethod yX4_isFull, Cond.selects RX4 yX4_isFull yX4_isFull, Cond.initialized RX4, Cond.code yX4_isFull cX4_isFull 1 (some .boolean), Cond.fieldLink RX4 21 "FerryQuay$Row" "size" "I", Cond.fieldLink RX4 15 "FerryQuay$Row" "weights" "[I", Cond.methodLink RX5 109 yX4_weightAt, Cond.instanceMethod yX4_weightAt, Cond.selects RX4 yX4_weightAt yX4_weightAt, Cond.code yX4_weightAt cX4_weightAt 2 (some .int), Cond.methodLink RX5 92 yX4_addLast, Cond.instanceMethod yX4_addLast, Cond.selects RX4 yX4_addLast yX4_addLast, Cond.code yX4_addLast cX4_addLast 2 none, Cond.methodLink RX5 113 yX4_removeFirst, Cond.instanceMethod yX4_removeFirst, Cond.selects RX4 yX4_removeFirst yX4_removeFirst]
def wsX5_shiftThrough_r2 : List Cond := [Cond.code yX4_removeFirst cX4_removeFirst 1 none, Cond.methodLink RX4 25 arraycopyName, Cond.native arraycopyName, Cond.static arraycopyName, Cond.initialized "java/lang/System"]
def wsX5_shiftThrough : List Cond := .code yX5_shiftThrough cX5_shiftThrough 7 (some .int) :: ((wsX5_shiftThrough_r1 ++ wsX5_shiftThrough_r2) ++ wsX00 ++ wsX20 ++ wsX40)
def wsX5_shift_r1 : List Cond := [Cond.fieldLink RX5 60 "FerryQuay$Berth" "gate" "LFerryQuay$Gate;", Cond.fieldLink RX5 101 "FerryQuay$Gate" "taken" "I", Cond.fieldLink RX5 78 "FerryQuay$Gate" "isShut" "Z", Cond.fieldLink RX5 82 "FerryQuay$Berth" "lane" "LFerryQuay$Row;", Cond.methodLink RX5 48 yX5_berthAt, Cond.instanceMethod yX5_berthAt, Cond.selects RX5 yX5_berthAt yX5_berthAt, Cond.initialized RX5, Cond.code yX5_berthAt cX5_berthAt 2 (some (.object "FerryQuay$Berth")), Cond.fieldLink RX5 44 "FerryQuay" "berthCount" "I", Cond.fieldLink RX5 23 "FerryQuay" "berths" "[LFerryQuay$Berth;", Cond.methodLink RX5 34 yX5_isWithin, Cond.static yX5_isWithin, Cond.code yX5_isWithin cX5_isWithin 3 (some .boolean), Cond.methodLink RX5 163 yX5_shiftThrough, Cond.instanceMethod yX5_shiftThrough, Cond.selects RX5 yX5_shiftThrough yX5_shiftThrough, Cond.code yX5_shiftThrough cX5_shiftThrough 7 (some .int), Cond.fieldLink RX5 98 "FerryQuay$Row" "size" "I", Cond.fieldLink RX5 138 "FerryQuay$Gate" "passed" "I", Cond.methodLink RX5 86 yX4_isFull, Cond.instanceMethod yX4_isFull, Cond.selects RX4 yX4_isFull yX4_isFull, Cond.initialized RX4]
def wsX5_shift_r2 : List Cond := [Cond.code yX4_isFull cX4_isFull 1 (some .boolean), Cond.fieldLink RX4 21 "FerryQuay$Row" "size" "I", Cond.fieldLink RX4 15 "FerryQuay$Row" "weights" "[I", Cond.methodLink RX5 109 yX4_weightAt, Cond.instanceMethod yX4_weightAt, Cond.selects RX4 yX4_weightAt yX4_weightAt, Cond.code yX4_weightAt cX4_weightAt 2 (some .int), Cond.methodLink RX5 92 yX4_addLast, Cond.instanceMethod yX4_addLast, Cond.selects RX4 yX4_addLast yX4_addLast, Cond.code yX4_addLast cX4_addLast 2 none, Cond.methodLink RX5 113 yX4_removeFirst, Cond.instanceMethod yX4_removeFirst, Cond.selects RX4 yX4_removeFirst yX4_removeFirst, Cond.code yX4_removeFirst cX4_removeFirst 1 none, Cond.methodLink RX4 25 arraycopyName, Cond.native arraycopyName, Cond.static arraycopyName, Cond.initialized "java/lang/System"]
def wsX5_shift : List Cond := .code yX5_shift cX5_shift 7 (some .int) :: ((wsX5_shift_r1 ++ wsX5_shift_r2) ++ wsX00 ++ wsX20 ++ wsX50 ++ wsX40)
def wsX5_state_r1 : List Cond := [Cond.fieldLink RX5 82 "FerryQuay$Berth" "lane" "LFerryQuay$Row;", Cond.fieldLink RX5 98 "FerryQuay$Row" "size" "I", Cond.fieldLink RX5 125 "FerryQuay$Berth" "ferry" "LFerryQuay$Ferry;", Cond.fieldLink RX5 148 "FerryQuay$Ferry" "vehicles" "LFerryQuay$Row;", Cond.fieldLink RX5 160 "FerryQuay$Ferry" "load" "I", Cond.fieldLink RX5 167 "FerryQuay$Ferry" "room" "I", Cond.methodLink RX5 48 yX5_berthAt, Cond.instanceMethod yX5_berthAt, Cond.selects RX5 yX5_berthAt yX5_berthAt, Cond.initialized RX5, Cond.code yX5_berthAt cX5_berthAt 2 (some (.object "FerryQuay$Berth")), Cond.fieldLink RX5 44 "FerryQuay" "berthCount" "I", Cond.fieldLink RX5 23 "FerryQuay" "berths" "[LFerryQuay$Berth;", Cond.methodLink RX5 56 yX0_gateNumber, Cond.instanceMethod yX0_gateNumber, Cond.selects RX0 yX0_gateNumber yX0_gateNumber, Cond.initialized RX0, Cond.code yX0_gateNumber cX0_gateNumber 1 (some .int), Cond.fieldLink RX0 27 "FerryQuay$Berth" "gate" "LFerryQuay$Gate;", Cond.fieldLink RX0 31 "FerryQuay$Gate" "number" "I", Cond.methodLink RX5 68 yX0_rampNumber, Cond.instanceMethod yX0_rampNumber, Cond.selects RX0 yX0_rampNumber yX0_rampNumber, Cond.code yX0_rampNumber cX0_rampNumber 1 (some .int)]
def wsX5_state_r2 : List Cond := [Cond.fieldLink RX0 37 "FerryQuay$Berth" "ramp" "LFerryQuay$Ramp;", Cond.fieldLink RX0 41 "FerryQuay$Ramp" "number" "I"]
def wsX5_state : List Cond := .code yX5_state cX5_state 4 (some .int) :: ((wsX5_state_r1 ++ wsX5_state_r2) ++ wsX00 ++ wsX40 ++ wsX10 ++ wsX50 ++ wsX20 ++ wsX30)
def wsX5_waiting : List Cond := .code yX5_waiting cX5_waiting 4 (some .int) :: ([.fieldLink RX5 82 "FerryQuay$Berth" "lane" "LFerryQuay$Row;", .methodLink RX5 48 yX5_berthAt, .instanceMethod yX5_berthAt, .selects RX5 yX5_berthAt yX5_berthAt, .initialized RX5, .code yX5_berthAt cX5_berthAt 2 (some (.object "FerryQuay$Berth")), .fieldLink RX5 44 "FerryQuay" "berthCount" "I", .fieldLink RX5 23 "FerryQuay" "berths" "[LFerryQuay$Berth;", .methodLink RX5 109 yX4_weightAt, .instanceMethod yX4_weightAt, .selects RX4 yX4_weightAt yX4_weightAt, .initialized RX4, .code yX4_weightAt cX4_weightAt 2 (some .int), .fieldLink RX4 21 "FerryQuay$Row" "size" "I", .fieldLink RX4 15 "FerryQuay$Row" "weights" "[I"] ++ wsX00 ++ wsX50 ++ wsX40)
def wsX5_aboard : List Cond := .code yX5_aboard cX5_aboard 4 (some .int) :: ([.fieldLink RX5 125 "FerryQuay$Berth" "ferry" "LFerryQuay$Ferry;", .fieldLink RX5 148 "FerryQuay$Ferry" "vehicles" "LFerryQuay$Row;", .methodLink RX5 48 yX5_berthAt, .instanceMethod yX5_berthAt, .selects RX5 yX5_berthAt yX5_berthAt, .initialized RX5, .code yX5_berthAt cX5_berthAt 2 (some (.object "FerryQuay$Berth")), .fieldLink RX5 44 "FerryQuay" "berthCount" "I", .fieldLink RX5 23 "FerryQuay" "berths" "[LFerryQuay$Berth;", .methodLink RX5 109 yX4_weightAt, .instanceMethod yX4_weightAt, .selects RX4 yX4_weightAt yX4_weightAt, .initialized RX4, .code yX4_weightAt cX4_weightAt 2 (some .int), .fieldLink RX4 21 "FerryQuay$Row" "size" "I", .fieldLink RX4 15 "FerryQuay$Row" "weights" "[I"] ++ wsX00 ++ wsX10 ++ wsX50 ++ wsX40)
def wsX5_ofGate : List Cond := .code yX5_ofGate cX5_ofGate 4 (some .int) :: ([.fieldLink RX5 101 "FerryQuay$Gate" "taken" "I", .fieldLink RX5 138 "FerryQuay$Gate" "passed" "I", .methodLink RX5 52 yX5_gateAt, .instanceMethod yX5_gateAt, .selects RX5 yX5_gateAt yX5_gateAt, .initialized RX5, .code yX5_gateAt cX5_gateAt 2 (some (.object "FerryQuay$Gate")), .fieldLink RX5 27 "FerryQuay" "gateCount" "I", .fieldLink RX5 11 "FerryQuay" "gates" "[LFerryQuay$Gate;", .methodLink RX5 75 yX2_shutAsNumber, .instanceMethod yX2_shutAsNumber, .selects RX2 yX2_shutAsNumber yX2_shutAsNumber, .initialized RX2, .code yX2_shutAsNumber cX2_shutAsNumber 1 (some .int), .fieldLink RX2 13 "FerryQuay$Gate" "isShut" "Z"] ++ wsX20 ++ wsX50)
def wsX5_ofRamp : List Cond := .code yX5_ofRamp cX5_ofRamp 4 (some .int) :: ([.fieldLink RX5 108 "FerryQuay$Ramp" "taken" "I", .fieldLink RX5 141 "FerryQuay$Ramp" "wear" "I", .fieldLink RX5 122 "FerryQuay$Ramp" "limit" "I", .methodLink RX5 64 yX5_rampAt, .instanceMethod yX5_rampAt, .selects RX5 yX5_rampAt yX5_rampAt, .initialized RX5, .code yX5_rampAt cX5_rampAt 2 (some (.object "FerryQuay$Ramp")), .fieldLink RX5 38 "FerryQuay" "rampCount" "I", .fieldLink RX5 17 "FerryQuay" "ramps" "[LFerryQuay$Ramp;"] ++ wsX30 ++ wsX50)
def wsX5_count : List Cond := .code yX5_count cX5_count 2 (some .int) :: ([.fieldLink RX5 27 "FerryQuay" "gateCount" "I", .fieldLink RX5 38 "FerryQuay" "rampCount" "I", .fieldLink RX5 44 "FerryQuay" "berthCount" "I", .fieldLink RX5 95 "FerryQuay" "arrived" "I", .fieldLink RX5 157 "FerryQuay" "gone" "I", .fieldLink RX5 116 "FerryQuay" "towed" "I", .fieldLink RX5 170 "FerryQuay" "alarms" "I"] ++ wsX50)
def wsX6_init : List Cond := .code yX6_init cX6_init 1 none :: ([.methodLink RX6 1 objectInit, .instanceMethod objectInit, .code objectInit ⟨#[0xb1]⟩ 1 none, .arrayClass .boolean, .fieldLink RX6 7 "FerryQuayModel" "isShut" "[Z", .arrayClass .int, .fieldLink RX6 13 "FerryQuayModel" "gateTaken" "[I", .fieldLink RX6 17 "FerryQuayModel" "passed" "[I", .fieldLink RX6 20 "FerryQuayModel" "limit" "[I", .fieldLink RX6 23 "FerryQuayModel" "wear" "[I", .fieldLink RX6 26 "FerryQuayModel" "rampTaken" "[I", .fieldLink RX6 29 "FerryQuayModel" "gateOf" "[I", .fieldLink RX6 32 "FerryQuayModel" "rampOf" "[I", .fieldLink RX6 35 "FerryQuayModel" "ferryOf" "[I", .fieldLink RX6 38 "FerryQuayModel" "waits" "[I", .fieldLink RX6 41 "FerryQuayModel" "lane" "[I", .fieldLink RX6 44 "FerryQuayModel" "room" "[I", .fieldLink RX6 47 "FerryQuayModel" "load" "[I", .fieldLink RX6 50 "FerryQuayModel" "many" "[I", .fieldLink RX6 53 "FerryQuayModel" "deck" "[I"] ++ wsX60)
def wsX6_isGate : List Cond := .code yX6_isGate cX6_isGate 2 (some .boolean) :: ([.fieldLink RX6 56 "FerryQuayModel" "gates" "I"] ++ wsX60)
def wsX6_isRamp : List Cond := .code yX6_isRamp cX6_isRamp 2 (some .boolean) :: ([.fieldLink RX6 60 "FerryQuayModel" "ramps" "I"] ++ wsX60)
def wsX6_isBerth : List Cond := .code yX6_isBerth cX6_isBerth 2 (some .boolean) :: ([.fieldLink RX6 63 "FerryQuayModel" "berths" "I"] ++ wsX60)
def wsX6_alarm : List Cond := .code yX6_alarm cX6_alarm 2 (some .int) :: ([.fieldLink RX6 66 "FerryQuayModel" "alarms" "I"] ++ wsX60)
def wsX6_gate : List Cond := .code yX6_gate cX6_gate 1 (some .int) :: ([.fieldLink RX6 56 "FerryQuayModel" "gates" "I"] ++ wsX60)
def wsX6_ramp : List Cond := .code yX6_ramp cX6_ramp 2 (some .int) :: ([.fieldLink RX6 60 "FerryQuayModel" "ramps" "I", .fieldLink RX6 20 "FerryQuayModel" "limit" "[I"] ++ wsX60)
def wsX6_berth : List Cond := .code yX6_berth cX6_berth 2 (some .int) :: ([.fieldLink RX6 63 "FerryQuayModel" "berths" "I", .fieldLink RX6 44 "FerryQuayModel" "room" "[I", .fieldLink RX6 29 "FerryQuayModel" "gateOf" "[I", .fieldLink RX6 32 "FerryQuayModel" "rampOf" "[I", .fieldLink RX6 35 "FerryQuayModel" "ferryOf" "[I"] ++ wsX60)
def wsX6_hinge : List Cond := .code yX6_hinge cX6_hinge 4 (some .int) :: ([.fieldLink RX6 29 "FerryQuayModel" "gateOf" "[I", .methodLink RX6 69 yX6_isBerth, .instanceMethod yX6_isBerth, .selects RX6 yX6_isBerth yX6_isBerth, .initialized RX6, .code yX6_isBerth cX6_isBerth 2 (some .boolean), .fieldLink RX6 63 "FerryQuayModel" "berths" "I", .methodLink RX6 73 yX6_isGate, .instanceMethod yX6_isGate, .selects RX6 yX6_isGate yX6_isGate, .code yX6_isGate cX6_isGate 2 (some .boolean), .fieldLink RX6 56 "FerryQuayModel" "gates" "I"] ++ wsX60)
def wsX6_lay : List Cond := .code yX6_lay cX6_lay 4 (some .int) :: ([.fieldLink RX6 32 "FerryQuayModel" "rampOf" "[I", .methodLink RX6 69 yX6_isBerth, .instanceMethod yX6_isBerth, .selects RX6 yX6_isBerth yX6_isBerth, .initialized RX6, .code yX6_isBerth cX6_isBerth 2 (some .boolean), .fieldLink RX6 63 "FerryQuayModel" "berths" "I", .methodLink RX6 76 yX6_isRamp, .instanceMethod yX6_isRamp, .selects RX6 yX6_isRamp yX6_isRamp, .code yX6_isRamp cX6_isRamp 2 (some .boolean), .fieldLink RX6 60 "FerryQuayModel" "ramps" "I"] ++ wsX60)
def wsX6_shut : List Cond := .code yX6_shut cX6_shut 4 (some .int) :: ([.fieldLink RX6 7 "FerryQuayModel" "isShut" "[Z", .methodLink RX6 73 yX6_isGate, .instanceMethod yX6_isGate, .selects RX6 yX6_isGate yX6_isGate, .initialized RX6, .code yX6_isGate cX6_isGate 2 (some .boolean), .fieldLink RX6 56 "FerryQuayModel" "gates" "I"] ++ wsX60)
def wsX6_comes : List Cond := .code yX6_comes cX6_comes 3 none :: ([.fieldLink RX6 41 "FerryQuayModel" "lane" "[I", .fieldLink RX6 38 "FerryQuayModel" "waits" "[I"] ++ wsX60)
def wsX6_arrive : List Cond := .code yX6_arrive cX6_arrive 3 (some .int) :: ([.fieldLink RX6 38 "FerryQuayModel" "waits" "[I", .fieldLink RX6 83 "FerryQuayModel" "arrived" "I", .methodLink RX6 69 yX6_isBerth, .instanceMethod yX6_isBerth, .selects RX6 yX6_isBerth yX6_isBerth, .initialized RX6, .code yX6_isBerth cX6_isBerth 2 (some .boolean), .fieldLink RX6 63 "FerryQuayModel" "berths" "I", .methodLink RX6 79 yX6_comes, .instanceMethod yX6_comes, .selects RX6 yX6_comes yX6_comes, .code yX6_comes cX6_comes 3 none, .fieldLink RX6 41 "FerryQuayModel" "lane" "[I"] ++ wsX60)
def wsX6_goes : List Cond := .code yX6_goes cX6_goes 4 (some .int) :: ([.fieldLink RX6 41 "FerryQuayModel" "lane" "[I", .fieldLink RX6 38 "FerryQuayModel" "waits" "[I"] ++ wsX60)
def wsX6_board_r1 : List Cond := [Cond.fieldLink RX6 29 "FerryQuayModel" "gateOf" "[I", Cond.fieldLink RX6 13 "FerryQuayModel" "gateTaken" "[I", Cond.fieldLink RX6 7 "FerryQuayModel" "isShut" "[Z", Cond.fieldLink RX6 35 "FerryQuayModel" "ferryOf" "[I", Cond.fieldLink RX6 38 "FerryQuayModel" "waits" "[I", Cond.fieldLink RX6 32 "FerryQuayModel" "rampOf" "[I", Cond.fieldLink RX6 26 "FerryQuayModel" "rampTaken" "[I", Cond.fieldLink RX6 41 "FerryQuayModel" "lane" "[I", Cond.fieldLink RX6 90 "FerryQuayModel" "towed" "I", Cond.fieldLink RX6 20 "FerryQuayModel" "limit" "[I", Cond.fieldLink RX6 47 "FerryQuayModel" "load" "[I", Cond.fieldLink RX6 44 "FerryQuayModel" "room" "[I", Cond.fieldLink RX6 50 "FerryQuayModel" "many" "[I", Cond.fieldLink RX6 53 "FerryQuayModel" "deck" "[I", Cond.fieldLink RX6 17 "FerryQuayModel" "passed" "[I", Cond.fieldLink RX6 23 "FerryQuayModel" "wear" "[I", Cond.methodLink RX6 69 yX6_isBerth, Cond.instanceMethod yX6_isBerth, Cond.selects RX6 yX6_isBerth yX6_isBerth, Cond.initialized RX6, Cond.code yX6_isBerth cX6_isBerth 2 (some .boolean), Cond.fieldLink RX6 63 "FerryQuayModel" "berths" "I", Cond.methodLink RX6 86 yX6_goes, Cond.instanceMethod yX6_goes]
def wsX6_board_r2 : List Cond := [Cond.selects RX6 yX6_goes yX6_goes, Cond.code yX6_goes cX6_goes 4 (some .int), Cond.methodLink RX6 93 yX6_alarm, Cond.instanceMethod yX6_alarm, Cond.selects RX6 yX6_alarm yX6_alarm, Cond.code yX6_alarm cX6_alarm 2 (some .int), Cond.fieldLink RX6 66 "FerryQuayModel" "alarms" "I", Cond.methodLink RX6 79 yX6_comes, Cond.instanceMethod yX6_comes, Cond.selects RX6 yX6_comes yX6_comes, Cond.code yX6_comes cX6_comes 3 none]
def wsX6_board : List Cond := .code yX6_board cX6_board 10 (some .int) :: ((wsX6_board_r1 ++ wsX6_board_r2) ++ wsX60)
def wsX6_land : List Cond := .code yX6_land cX6_land 8 (some .int) :: ([.fieldLink RX6 32 "FerryQuayModel" "rampOf" "[I", .fieldLink RX6 26 "FerryQuayModel" "rampTaken" "[I", .fieldLink RX6 35 "FerryQuayModel" "ferryOf" "[I", .fieldLink RX6 50 "FerryQuayModel" "many" "[I", .fieldLink RX6 29 "FerryQuayModel" "gateOf" "[I", .fieldLink RX6 13 "FerryQuayModel" "gateTaken" "[I", .fieldLink RX6 7 "FerryQuayModel" "isShut" "[Z", .fieldLink RX6 53 "FerryQuayModel" "deck" "[I", .fieldLink RX6 20 "FerryQuayModel" "limit" "[I", .fieldLink RX6 47 "FerryQuayModel" "load" "[I", .fieldLink RX6 96 "FerryQuayModel" "gone" "I", .fieldLink RX6 17 "FerryQuayModel" "passed" "[I", .fieldLink RX6 23 "FerryQuayModel" "wear" "[I", .methodLink RX6 69 yX6_isBerth, .instanceMethod yX6_isBerth, .selects RX6 yX6_isBerth yX6_isBerth, .initialized RX6, .code yX6_isBerth cX6_isBerth 2 (some .boolean), .fieldLink RX6 63 "FerryQuayModel" "berths" "I", .methodLink RX6 93 yX6_alarm, .instanceMethod yX6_alarm, .selects RX6 yX6_alarm yX6_alarm, .code yX6_alarm cX6_alarm 2 (some .int), .fieldLink RX6 66 "FerryQuayModel" "alarms" "I"] ++ wsX60)
def wsX6_swap : List Cond := .code yX6_swap cX6_swap 6 (some .int) :: ([.fieldLink RX6 29 "FerryQuayModel" "gateOf" "[I", .fieldLink RX6 13 "FerryQuayModel" "gateTaken" "[I", .fieldLink RX6 7 "FerryQuayModel" "isShut" "[Z", .fieldLink RX6 35 "FerryQuayModel" "ferryOf" "[I", .fieldLink RX6 47 "FerryQuayModel" "load" "[I", .methodLink RX6 69 yX6_isBerth, .instanceMethod yX6_isBerth, .selects RX6 yX6_isBerth yX6_isBerth, .initialized RX6, .code yX6_isBerth cX6_isBerth 2 (some .boolean), .fieldLink RX6 63 "FerryQuayModel" "berths" "I"] ++ wsX60)
def wsX6_round : List Cond := .code yX6_round cX6_round 6 (some .int) :: ([.fieldLink RX6 63 "FerryQuayModel" "berths" "I", .fieldLink RX6 29 "FerryQuayModel" "gateOf" "[I", .fieldLink RX6 13 "FerryQuayModel" "gateTaken" "[I", .fieldLink RX6 7 "FerryQuayModel" "isShut" "[Z", .fieldLink RX6 47 "FerryQuayModel" "load" "[I", .fieldLink RX6 35 "FerryQuayModel" "ferryOf" "[I", .methodLink RX6 69 yX6_isBerth, .instanceMethod yX6_isBerth, .selects RX6 yX6_isBerth yX6_isBerth, .initialized RX6, .code yX6_isBerth cX6_isBerth 2 (some .boolean), .methodLink RX6 93 yX6_alarm, .instanceMethod yX6_alarm, .selects RX6 yX6_alarm yX6_alarm, .code yX6_alarm cX6_alarm 2 (some .int), .fieldLink RX6 66 "FerryQuayModel" "alarms" "I"] ++ wsX60)
def wsX6_tend : List Cond := .code yX6_tend cX6_tend 3 (some .int) :: ([.fieldLink RX6 26 "FerryQuayModel" "rampTaken" "[I", .fieldLink RX6 23 "FerryQuayModel" "wear" "[I", .methodLink RX6 76 yX6_isRamp, .instanceMethod yX6_isRamp, .selects RX6 yX6_isRamp yX6_isRamp, .initialized RX6, .code yX6_isRamp cX6_isRamp 2 (some .boolean), .fieldLink RX6 60 "FerryQuayModel" "ramps" "I", .methodLink RX6 93 yX6_alarm, .instanceMethod yX6_alarm, .selects RX6 yX6_alarm yX6_alarm, .code yX6_alarm cX6_alarm 2 (some .int), .fieldLink RX6 66 "FerryQuayModel" "alarms" "I"] ++ wsX60)
def wsX6_shift : List Cond := .code yX6_shift cX6_shift 8 (some .int) :: ([.fieldLink RX6 29 "FerryQuayModel" "gateOf" "[I", .fieldLink RX6 13 "FerryQuayModel" "gateTaken" "[I", .fieldLink RX6 7 "FerryQuayModel" "isShut" "[Z", .fieldLink RX6 38 "FerryQuayModel" "waits" "[I", .fieldLink RX6 17 "FerryQuayModel" "passed" "[I", .methodLink RX6 69 yX6_isBerth, .instanceMethod yX6_isBerth, .selects RX6 yX6_isBerth yX6_isBerth, .initialized RX6, .code yX6_isBerth cX6_isBerth 2 (some .boolean), .fieldLink RX6 63 "FerryQuayModel" "berths" "I", .methodLink RX6 86 yX6_goes, .instanceMethod yX6_goes, .selects RX6 yX6_goes yX6_goes, .code yX6_goes cX6_goes 4 (some .int), .fieldLink RX6 41 "FerryQuayModel" "lane" "[I", .methodLink RX6 79 yX6_comes, .instanceMethod yX6_comes, .selects RX6 yX6_comes yX6_comes, .code yX6_comes cX6_comes 3 none] ++ wsX60)
def wsX6_state : List Cond := .code yX6_state cX6_state 4 (some .int) :: ([.fieldLink RX6 35 "FerryQuayModel" "ferryOf" "[I", .fieldLink RX6 29 "FerryQuayModel" "gateOf" "[I", .fieldLink RX6 32 "FerryQuayModel" "rampOf" "[I", .fieldLink RX6 38 "FerryQuayModel" "waits" "[I", .fieldLink RX6 50 "FerryQuayModel" "many" "[I", .fieldLink RX6 47 "FerryQuayModel" "load" "[I", .fieldLink RX6 44 "FerryQuayModel" "room" "[I", .methodLink RX6 69 yX6_isBerth, .instanceMethod yX6_isBerth, .selects RX6 yX6_isBerth yX6_isBerth, .initialized RX6, .code yX6_isBerth cX6_isBerth 2 (some .boolean), .fieldLink RX6 63 "FerryQuayModel" "berths" "I"] ++ wsX60)
def wsX6_waiting : List Cond := .code yX6_waiting cX6_waiting 3 (some .int) :: ([.fieldLink RX6 38 "FerryQuayModel" "waits" "[I", .fieldLink RX6 41 "FerryQuayModel" "lane" "[I", .methodLink RX6 69 yX6_isBerth, .instanceMethod yX6_isBerth, .selects RX6 yX6_isBerth yX6_isBerth, .initialized RX6, .code yX6_isBerth cX6_isBerth 2 (some .boolean), .fieldLink RX6 63 "FerryQuayModel" "berths" "I"] ++ wsX60)
def wsX6_aboard : List Cond := .code yX6_aboard cX6_aboard 4 (some .int) :: ([.fieldLink RX6 35 "FerryQuayModel" "ferryOf" "[I", .fieldLink RX6 50 "FerryQuayModel" "many" "[I", .fieldLink RX6 53 "FerryQuayModel" "deck" "[I", .methodLink RX6 69 yX6_isBerth, .instanceMethod yX6_isBerth, .selects RX6 yX6_isBerth yX6_isBerth, .initialized RX6, .code yX6_isBerth cX6_isBerth 2 (some .boolean), .fieldLink RX6 63 "FerryQuayModel" "berths" "I"] ++ wsX60)
def wsX6_ofGate : List Cond := .code yX6_ofGate cX6_ofGate 3 (some .int) :: ([.fieldLink RX6 13 "FerryQuayModel" "gateTaken" "[I", .fieldLink RX6 17 "FerryQuayModel" "passed" "[I", .fieldLink RX6 7 "FerryQuayModel" "isShut" "[Z", .methodLink RX6 73 yX6_isGate, .instanceMethod yX6_isGate, .selects RX6 yX6_isGate yX6_isGate, .initialized RX6, .code yX6_isGate cX6_isGate 2 (some .boolean), .fieldLink RX6 56 "FerryQuayModel" "gates" "I"] ++ wsX60)
def wsX6_ofRamp : List Cond := .code yX6_ofRamp cX6_ofRamp 3 (some .int) :: ([.fieldLink RX6 26 "FerryQuayModel" "rampTaken" "[I", .fieldLink RX6 23 "FerryQuayModel" "wear" "[I", .fieldLink RX6 20 "FerryQuayModel" "limit" "[I", .methodLink RX6 76 yX6_isRamp, .instanceMethod yX6_isRamp, .selects RX6 yX6_isRamp yX6_isRamp, .initialized RX6, .code yX6_isRamp cX6_isRamp 2 (some .boolean), .fieldLink RX6 60 "FerryQuayModel" "ramps" "I"] ++ wsX60)
def wsX6_count : List Cond := .code yX6_count cX6_count 2 (some .int) :: ([.fieldLink RX6 56 "FerryQuayModel" "gates" "I", .fieldLink RX6 60 "FerryQuayModel" "ramps" "I", .fieldLink RX6 63 "FerryQuayModel" "berths" "I", .fieldLink RX6 83 "FerryQuayModel" "arrived" "I", .fieldLink RX6 96 "FerryQuayModel" "gone" "I", .fieldLink RX6 90 "FerryQuayModel" "towed" "I", .fieldLink RX6 66 "FerryQuayModel" "alarms" "I"] ++ wsX60)
def wsJ9_max_7cf53 : List Cond := .code yJ9_max_7cf53 cJ9_max_7cf53 2 (some .int) :: ([])
def wsL_law_r1 : List Cond := [Cond.classLink RL 7 RX5, Cond.instantiable RX5 10, Cond.initialized RX5, Cond.classLink RL 10 RX6, Cond.instantiable RX6 22, Cond.initialized RX6, Cond.methodLink RL 9 yX5_init, Cond.instanceMethod yX5_init, Cond.code yX5_init cX5_init 1 none, Cond.methodLink RX5 1 objectInit, Cond.instanceMethod objectInit, Cond.code objectInit ⟨#[0xb1]⟩ 1 none, Cond.classLink RX5 9 RX2, Cond.fieldLink RX5 11 "FerryQuay" "gates" "[LFerryQuay$Gate;", Cond.classLink RX5 15 RX3, Cond.fieldLink RX5 17 "FerryQuay" "ramps" "[LFerryQuay$Ramp;", Cond.classLink RX5 21 RX0, Cond.fieldLink RX5 23 "FerryQuay" "berths" "[LFerryQuay$Berth;", Cond.methodLink RL 12 yX6_init, Cond.instanceMethod yX6_init, Cond.code yX6_init cX6_init 1 none, Cond.methodLink RX6 1 objectInit, Cond.arrayClass .boolean, Cond.fieldLink RX6 7 "FerryQuayModel" "isShut" "[Z"]
def wsL_law_r2 : List Cond := [Cond.arrayClass .int, Cond.fieldLink RX6 13 "FerryQuayModel" "gateTaken" "[I", Cond.fieldLink RX6 17 "FerryQuayModel" "passed" "[I", Cond.fieldLink RX6 20 "FerryQuayModel" "limit" "[I", Cond.fieldLink RX6 23 "FerryQuayModel" "wear" "[I", Cond.fieldLink RX6 26 "FerryQuayModel" "rampTaken" "[I", Cond.fieldLink RX6 29 "FerryQuayModel" "gateOf" "[I", Cond.fieldLink RX6 32 "FerryQuayModel" "rampOf" "[I", Cond.fieldLink RX6 35 "FerryQuayModel" "ferryOf" "[I", Cond.fieldLink RX6 38 "FerryQuayModel" "waits" "[I", Cond.fieldLink RX6 41 "FerryQuayModel" "lane" "[I", Cond.fieldLink RX6 44 "FerryQuayModel" "room" "[I", Cond.fieldLink RX6 47 "FerryQuayModel" "load" "[I", Cond.fieldLink RX6 50 "FerryQuayModel" "many" "[I", Cond.fieldLink RX6 53 "FerryQuayModel" "deck" "[I", Cond.methodLink RL 13 yX5_gate, Cond.instanceMethod yX5_gate, Cond.selects RX5 yX5_gate yX5_gate, Cond.code yX5_gate cX5_gate 2 (some .int), Cond.fieldLink RX5 27 "FerryQuay" "gateCount" "I", Cond.instantiable RX2 4, Cond.initialized RX2, Cond.methodLink RX5 31 yX2_init, Cond.instanceMethod yX2_init]
def wsL_law_r3 : List Cond := [Cond.code yX2_init cX2_init 2 none, Cond.methodLink RX2 1 objectInit, Cond.fieldLink RX2 7 "FerryQuay$Gate" "number" "I", Cond.methodLink RL 17 yX6_gate, Cond.instanceMethod yX6_gate, Cond.selects RX6 yX6_gate yX6_gate, Cond.code yX6_gate cX6_gate 1 (some .int), Cond.fieldLink RX6 56 "FerryQuayModel" "gates" "I", Cond.methodLink RL 18 yX5_ramp, Cond.instanceMethod yX5_ramp, Cond.selects RX5 yX5_ramp yX5_ramp, Cond.code yX5_ramp cX5_ramp 3 (some .int), Cond.fieldLink RX5 38 "FerryQuay" "rampCount" "I", Cond.instantiable RX3 4, Cond.initialized RX3, Cond.methodLink RX5 34 yX5_isWithin, Cond.static yX5_isWithin, Cond.code yX5_isWithin cX5_isWithin 3 (some .boolean), Cond.methodLink RX5 41 yX3_init, Cond.instanceMethod yX3_init, Cond.code yX3_init cX3_init 3 none, Cond.methodLink RX3 1 objectInit, Cond.fieldLink RX3 7 "FerryQuay$Ramp" "number" "I", Cond.fieldLink RX3 13 "FerryQuay$Ramp" "limit" "I"]
def wsL_law_r4 : List Cond := [Cond.methodLink RL 22 yX6_ramp, Cond.instanceMethod yX6_ramp, Cond.selects RX6 yX6_ramp yX6_ramp, Cond.code yX6_ramp cX6_ramp 2 (some .int), Cond.fieldLink RX6 60 "FerryQuayModel" "ramps" "I", Cond.methodLink RL 23 yX5_berth, Cond.instanceMethod yX5_berth, Cond.selects RX5 yX5_berth yX5_berth, Cond.code yX5_berth cX5_berth 3 (some .int), Cond.fieldLink RX5 44 "FerryQuay" "berthCount" "I", Cond.instantiable RX0 4, Cond.initialized RX0, Cond.methodLink RX5 47 yX0_init, Cond.instanceMethod yX0_init, Cond.code yX0_init cX0_init 2 none, Cond.methodLink RX0 3 objectInit, Cond.classLink RX0 9 RX4, Cond.instantiable RX4 2, Cond.initialized RX4, Cond.fieldLink RX0 14 "FerryQuay$Berth" "lane" "LFerryQuay$Row;", Cond.classLink RX0 20 RX1, Cond.instantiable RX1 3, Cond.initialized RX1, Cond.fieldLink RX0 23 "FerryQuay$Berth" "ferry" "LFerryQuay$Ferry;"]
def wsL_law_r5 : List Cond := [Cond.methodLink RX0 11 yX4_init, Cond.instanceMethod yX4_init, Cond.code yX4_init cX4_init 2 none, Cond.methodLink RX4 3 objectInit, Cond.methodLink RX4 9 Lib.Math.max.name, Cond.static Lib.Math.max.name, Cond.initialized "java/lang/Math", Cond.code Lib.Math.max.name Lib.Math.max.code 2 (some .int), Cond.fieldLink RX4 15 "FerryQuay$Row" "weights" "[I", Cond.methodLink RX0 22 yX1_init, Cond.instanceMethod yX1_init, Cond.code yX1_init cX1_init 2 none, Cond.methodLink RX1 3 objectInit, Cond.fieldLink RX1 9 "FerryQuay$Ferry" "room" "I", Cond.classLink RX1 15 RX4, Cond.fieldLink RX1 20 "FerryQuay$Ferry" "vehicles" "LFerryQuay$Row;", Cond.methodLink RX1 17 yX4_init, Cond.methodLink RL 26 yX6_berth, Cond.instanceMethod yX6_berth, Cond.selects RX6 yX6_berth yX6_berth, Cond.code yX6_berth cX6_berth 2 (some .int), Cond.fieldLink RX6 63 "FerryQuayModel" "berths" "I", Cond.methodLink RL 27 yX5_hinge, Cond.instanceMethod yX5_hinge]
def wsL_law_r6 : List Cond := [Cond.selects RX5 yX5_hinge yX5_hinge, Cond.code yX5_hinge cX5_hinge 6 (some .int), Cond.fieldLink RX5 60 "FerryQuay$Berth" "gate" "LFerryQuay$Gate;", Cond.methodLink RX5 48 yX5_berthAt, Cond.instanceMethod yX5_berthAt, Cond.selects RX5 yX5_berthAt yX5_berthAt, Cond.code yX5_berthAt cX5_berthAt 2 (some (.object "FerryQuay$Berth")), Cond.methodLink RX5 52 yX5_gateAt, Cond.instanceMethod yX5_gateAt, Cond.selects RX5 yX5_gateAt yX5_gateAt, Cond.code yX5_gateAt cX5_gateAt 2 (some (.object "FerryQuay$Gate")), Cond.methodLink RX5 56 yX0_gateNumber, Cond.instanceMethod yX0_gateNumber, Cond.selects RX0 yX0_gateNumber yX0_gateNumber, Cond.code yX0_gateNumber cX0_gateNumber 1 (some .int), Cond.fieldLink RX0 27 "FerryQuay$Berth" "gate" "LFerryQuay$Gate;", Cond.fieldLink RX0 31 "FerryQuay$Gate" "number" "I", Cond.methodLink RL 31 yX6_hinge, Cond.instanceMethod yX6_hinge, Cond.selects RX6 yX6_hinge yX6_hinge, Cond.code yX6_hinge cX6_hinge 4 (some .int), Cond.methodLink RX6 69 yX6_isBerth, Cond.instanceMethod yX6_isBerth, Cond.selects RX6 yX6_isBerth yX6_isBerth]
def wsL_law_r7 : List Cond := [Cond.code yX6_isBerth cX6_isBerth 2 (some .boolean), Cond.methodLink RX6 73 yX6_isGate, Cond.instanceMethod yX6_isGate, Cond.selects RX6 yX6_isGate yX6_isGate, Cond.code yX6_isGate cX6_isGate 2 (some .boolean), Cond.methodLink RL 32 yX5_lay, Cond.instanceMethod yX5_lay, Cond.selects RX5 yX5_lay yX5_lay, Cond.code yX5_lay cX5_lay 6 (some .int), Cond.fieldLink RX5 71 "FerryQuay$Berth" "ramp" "LFerryQuay$Ramp;", Cond.methodLink RX5 64 yX5_rampAt, Cond.instanceMethod yX5_rampAt, Cond.selects RX5 yX5_rampAt yX5_rampAt, Cond.code yX5_rampAt cX5_rampAt 2 (some (.object "FerryQuay$Ramp")), Cond.methodLink RX5 68 yX0_rampNumber, Cond.instanceMethod yX0_rampNumber, Cond.selects RX0 yX0_rampNumber yX0_rampNumber, Cond.code yX0_rampNumber cX0_rampNumber 1 (some .int), Cond.fieldLink RX0 37 "FerryQuay$Berth" "ramp" "LFerryQuay$Ramp;", Cond.fieldLink RX0 41 "FerryQuay$Ramp" "number" "I", Cond.methodLink RL 35 yX6_lay, Cond.instanceMethod yX6_lay, Cond.selects RX6 yX6_lay yX6_lay, Cond.code yX6_lay cX6_lay 4 (some .int)]
def wsL_law_r8 : List Cond := [Cond.methodLink RX6 76 yX6_isRamp, Cond.instanceMethod yX6_isRamp, Cond.selects RX6 yX6_isRamp yX6_isRamp, Cond.code yX6_isRamp cX6_isRamp 2 (some .boolean), Cond.methodLink RL 36 yX5_shut, Cond.instanceMethod yX5_shut, Cond.selects RX5 yX5_shut yX5_shut, Cond.code yX5_shut cX5_shut 5 (some .int), Cond.fieldLink RX5 78 "FerryQuay$Gate" "isShut" "Z", Cond.methodLink RX5 75 yX2_shutAsNumber, Cond.instanceMethod yX2_shutAsNumber, Cond.selects RX2 yX2_shutAsNumber yX2_shutAsNumber, Cond.code yX2_shutAsNumber cX2_shutAsNumber 1 (some .int), Cond.fieldLink RX2 13 "FerryQuay$Gate" "isShut" "Z", Cond.methodLink RL 40 yX6_shut, Cond.instanceMethod yX6_shut, Cond.selects RX6 yX6_shut yX6_shut, Cond.code yX6_shut cX6_shut 4 (some .int), Cond.methodLink RL 41 yX5_arrive, Cond.instanceMethod yX5_arrive, Cond.selects RX5 yX5_arrive yX5_arrive, Cond.code yX5_arrive cX5_arrive 4 (some .int), Cond.fieldLink RX5 82 "FerryQuay$Berth" "lane" "LFerryQuay$Row;", Cond.fieldLink RX5 95 "FerryQuay" "arrived" "I"]
def wsL_law_r9 : List Cond := [Cond.fieldLink RX5 98 "FerryQuay$Row" "size" "I", Cond.methodLink RX5 86 yX4_isFull, Cond.instanceMethod yX4_isFull, Cond.selects RX4 yX4_isFull yX4_isFull, Cond.code yX4_isFull cX4_isFull 1 (some .boolean), Cond.fieldLink RX4 21 "FerryQuay$Row" "size" "I", Cond.methodLink RX5 92 yX4_addLast, Cond.instanceMethod yX4_addLast, Cond.selects RX4 yX4_addLast yX4_addLast, Cond.code yX4_addLast cX4_addLast 2 none, Cond.methodLink RL 44 yX6_arrive, Cond.instanceMethod yX6_arrive, Cond.selects RX6 yX6_arrive yX6_arrive, Cond.code yX6_arrive cX6_arrive 3 (some .int), Cond.fieldLink RX6 83 "FerryQuayModel" "arrived" "I", Cond.methodLink RX6 79 yX6_comes, Cond.instanceMethod yX6_comes, Cond.selects RX6 yX6_comes yX6_comes, Cond.code yX6_comes cX6_comes 3 none, Cond.methodLink RL 45 yX5_board, Cond.instanceMethod yX5_board, Cond.selects RX5 yX5_board yX5_board, Cond.code yX5_board cX5_board 5 (some .int), Cond.fieldLink RX5 101 "FerryQuay$Gate" "taken" "I"]
def wsL_law_r10 : List Cond := [Cond.methodLink RX5 104 yX5_boardThrough, Cond.instanceMethod yX5_boardThrough, Cond.selects RX5 yX5_boardThrough yX5_boardThrough, Cond.code yX5_boardThrough cX5_boardThrough 10 (some .int), Cond.fieldLink RX5 108 "FerryQuay$Ramp" "taken" "I", Cond.fieldLink RX5 116 "FerryQuay" "towed" "I", Cond.fieldLink RX5 122 "FerryQuay$Ramp" "limit" "I", Cond.fieldLink RX5 125 "FerryQuay$Berth" "ferry" "LFerryQuay$Ferry;", Cond.fieldLink RX5 138 "FerryQuay$Gate" "passed" "I", Cond.fieldLink RX5 141 "FerryQuay$Ramp" "wear" "I", Cond.methodLink RX5 109 yX4_weightAt, Cond.instanceMethod yX4_weightAt, Cond.selects RX4 yX4_weightAt yX4_weightAt, Cond.code yX4_weightAt cX4_weightAt 2 (some .int), Cond.methodLink RX5 113 yX4_removeFirst, Cond.instanceMethod yX4_removeFirst, Cond.selects RX4 yX4_removeFirst yX4_removeFirst, Cond.code yX4_removeFirst cX4_removeFirst 1 none, Cond.methodLink RX4 25 arraycopyName, Cond.native arraycopyName, Cond.static arraycopyName, Cond.initialized "java/lang/System", Cond.methodLink RX5 119 yX5_alarm, Cond.instanceMethod yX5_alarm]
def wsL_law_r11 : List Cond := [Cond.selects RX5 yX5_alarm yX5_alarm, Cond.code yX5_alarm cX5_alarm 2 (some .int), Cond.fieldLink RX5 170 "FerryQuay" "alarms" "I", Cond.methodLink RX5 129 yX1_hasRoomFor, Cond.instanceMethod yX1_hasRoomFor, Cond.selects RX1 yX1_hasRoomFor yX1_hasRoomFor, Cond.code yX1_hasRoomFor cX1_hasRoomFor 2 (some .boolean), Cond.fieldLink RX1 28 "FerryQuay$Ferry" "load" "I", Cond.methodLink RX1 24 yX4_isFull, Cond.methodLink RX5 135 yX1_takeAboard, Cond.instanceMethod yX1_takeAboard, Cond.selects RX1 yX1_takeAboard yX1_takeAboard, Cond.code yX1_takeAboard cX1_takeAboard 2 none, Cond.methodLink RX1 31 yX4_addLast, Cond.methodLink RL 48 yX6_board, Cond.instanceMethod yX6_board, Cond.selects RX6 yX6_board yX6_board, Cond.code yX6_board cX6_board 10 (some .int), Cond.fieldLink RX6 90 "FerryQuayModel" "towed" "I", Cond.methodLink RX6 86 yX6_goes, Cond.instanceMethod yX6_goes, Cond.selects RX6 yX6_goes yX6_goes, Cond.code yX6_goes cX6_goes 4 (some .int), Cond.methodLink RX6 93 yX6_alarm]
def wsL_law_r12 : List Cond := [Cond.instanceMethod yX6_alarm, Cond.selects RX6 yX6_alarm yX6_alarm, Cond.code yX6_alarm cX6_alarm 2 (some .int), Cond.fieldLink RX6 66 "FerryQuayModel" "alarms" "I", Cond.methodLink RL 49 yX5_land, Cond.instanceMethod yX5_land, Cond.selects RX5 yX5_land yX5_land, Cond.code yX5_land cX5_land 5 (some .int), Cond.methodLink RX5 144 yX5_landOver, Cond.instanceMethod yX5_landOver, Cond.selects RX5 yX5_landOver yX5_landOver, Cond.code yX5_landOver cX5_landOver 8 (some .int), Cond.fieldLink RX5 148 "FerryQuay$Ferry" "vehicles" "LFerryQuay$Row;", Cond.fieldLink RX5 157 "FerryQuay" "gone" "I", Cond.methodLink RX5 151 yX1_weightOfLast, Cond.instanceMethod yX1_weightOfLast, Cond.selects RX1 yX1_weightOfLast yX1_weightOfLast, Cond.code yX1_weightOfLast cX1_weightOfLast 1 (some .int), Cond.fieldLink RX1 34 "FerryQuay$Row" "size" "I", Cond.methodLink RX1 37 yX4_weightAt, Cond.methodLink RX5 154 yX1_putLastAshore, Cond.instanceMethod yX1_putLastAshore, Cond.selects RX1 yX1_putLastAshore yX1_putLastAshore, Cond.code yX1_putLastAshore cX1_putLastAshore 1 none]
def wsL_law_r13 : List Cond := [Cond.methodLink RX1 41 yX1_weightOfLast, Cond.methodLink RX1 45 yX4_removeLast, Cond.instanceMethod yX4_removeLast, Cond.selects RX4 yX4_removeLast yX4_removeLast, Cond.code yX4_removeLast cX4_removeLast 1 none, Cond.methodLink RL 52 yX6_land, Cond.instanceMethod yX6_land, Cond.selects RX6 yX6_land yX6_land, Cond.code yX6_land cX6_land 8 (some .int), Cond.fieldLink RX6 96 "FerryQuayModel" "gone" "I", Cond.methodLink RL 53 yX5_swap, Cond.instanceMethod yX5_swap, Cond.selects RX5 yX5_swap yX5_swap, Cond.code yX5_swap cX5_swap 8 (some .int), Cond.fieldLink RX5 160 "FerryQuay$Ferry" "load" "I", Cond.methodLink RL 56 yX6_swap, Cond.instanceMethod yX6_swap, Cond.selects RX6 yX6_swap yX6_swap, Cond.code yX6_swap cX6_swap 6 (some .int), Cond.methodLink RL 57 yX5_round, Cond.instanceMethod yX5_round, Cond.selects RX5 yX5_round yX5_round, Cond.code yX5_round cX5_round 7 (some .int), Cond.methodLink RL 60 yX6_round]
def wsL_law_r14 : List Cond := [Cond.instanceMethod yX6_round, Cond.selects RX6 yX6_round yX6_round, Cond.code yX6_round cX6_round 6 (some .int), Cond.methodLink RL 61 yX5_tend, Cond.instanceMethod yX5_tend, Cond.selects RX5 yX5_tend yX5_tend, Cond.code yX5_tend cX5_tend 4 (some .int), Cond.methodLink RL 64 yX6_tend, Cond.instanceMethod yX6_tend, Cond.selects RX6 yX6_tend yX6_tend, Cond.code yX6_tend cX6_tend 3 (some .int), Cond.methodLink RL 65 yX5_shift, Cond.instanceMethod yX5_shift, Cond.selects RX5 yX5_shift yX5_shift, Cond.code yX5_shift cX5_shift 7 (some .int), Cond.methodLink RX5 163 yX5_shiftThrough, Cond.instanceMethod yX5_shiftThrough, Cond.selects RX5 yX5_shiftThrough yX5_shiftThrough, Cond.code yX5_shiftThrough cX5_shiftThrough 7 (some .int), Cond.methodLink RL 69 yX6_shift, Cond.instanceMethod yX6_shift, Cond.selects RX6 yX6_shift yX6_shift, Cond.code yX6_shift cX6_shift 8 (some .int), Cond.methodLink RL 70 yX5_state]
def wsL_law_r15 : List Cond := [Cond.instanceMethod yX5_state, Cond.selects RX5 yX5_state yX5_state, Cond.code yX5_state cX5_state 4 (some .int), Cond.fieldLink RX5 167 "FerryQuay$Ferry" "room" "I", Cond.methodLink RL 73 yX6_state, Cond.instanceMethod yX6_state, Cond.selects RX6 yX6_state yX6_state, Cond.code yX6_state cX6_state 4 (some .int), Cond.methodLink RL 74 yX5_waiting, Cond.instanceMethod yX5_waiting, Cond.selects RX5 yX5_waiting yX5_waiting, Cond.code yX5_waiting cX5_waiting 4 (some .int), Cond.methodLink RL 77 yX6_waiting, Cond.instanceMethod yX6_waiting, Cond.selects RX6 yX6_waiting yX6_waiting, Cond.code yX6_waiting cX6_waiting 3 (some .int), Cond.methodLink RL 78 yX5_aboard, Cond.instanceMethod yX5_aboard, Cond.selects RX5 yX5_aboard yX5_aboard, Cond.code yX5_aboard cX5_aboard 4 (some .int), Cond.methodLink RL 81 yX6_aboard, Cond.instanceMethod yX6_aboard, Cond.selects RX6 yX6_aboard yX6_aboard, Cond.code yX6_aboard cX6_aboard 4 (some .int)]
def wsL_law_r16 : List Cond := [Cond.methodLink RL 82 yX5_ofGate, Cond.instanceMethod yX5_ofGate, Cond.selects RX5 yX5_ofGate yX5_ofGate, Cond.code yX5_ofGate cX5_ofGate 4 (some .int), Cond.methodLink RL 85 yX6_ofGate, Cond.instanceMethod yX6_ofGate, Cond.selects RX6 yX6_ofGate yX6_ofGate, Cond.code yX6_ofGate cX6_ofGate 3 (some .int), Cond.methodLink RL 86 yX5_ofRamp, Cond.instanceMethod yX5_ofRamp, Cond.selects RX5 yX5_ofRamp yX5_ofRamp, Cond.code yX5_ofRamp cX5_ofRamp 4 (some .int), Cond.methodLink RL 89 yX6_ofRamp, Cond.instanceMethod yX6_ofRamp, Cond.selects RX6 yX6_ofRamp yX6_ofRamp, Cond.code yX6_ofRamp cX6_ofRamp 3 (some .int), Cond.methodLink RL 90 yX5_count, Cond.instanceMethod yX5_count, Cond.selects RX5 yX5_count yX5_count, Cond.code yX5_count cX5_count 2 (some .int), Cond.methodLink RL 93 yX6_count, Cond.instanceMethod yX6_count, Cond.selects RX6 yX6_count yX6_count, Cond.code yX6_count cX6_count 2 (some .int)]
def wsL_law : List Cond := (wsL_law_r1 ++ (wsL_law_r2 ++ (wsL_law_r3 ++ (wsL_law_r4 ++ (wsL_law_r5 ++ (wsL_law_r6 ++ (wsL_law_r7 ++ (wsL_law_r8 ++ (wsL_law_r9 ++ (wsL_law_r10 ++ (wsL_law_r11 ++ (wsL_law_r12 ++ (wsL_law_r13 ++ (wsL_law_r14 ++ (wsL_law_r15 ++ wsL_law_r16))))))))))))))) ++ wsX50 ++ wsX60 ++ wsX20 ++ wsX30 ++ wsX00 ++ wsX40 ++ wsX10 ++ ([] : List Cond)
theorem inlX0 : ∀ w ∈ wsX00, w ∈ wsL_law := fun _ h => List.mem_append_left _ (List.mem_append_left _ (List.mem_append_left _ (List.mem_append_right _ h)))
theorem inlX1 : ∀ w ∈ wsX10, w ∈ wsL_law := fun _ h => List.mem_append_left _ (List.mem_append_right _ h)
theorem inlX2 : ∀ w ∈ wsX20, w ∈ wsL_law := fun _ h => List.mem_append_left _ (List.mem_append_left _ (List.mem_append_left _ (List.mem_append_left _ (List.mem_append_left _ (List.mem_append_right _ h)))))
theorem inlX3 : ∀ w ∈ wsX30, w ∈ wsL_law := fun _ h => List.mem_append_left _ (List.mem_append_left _ (List.mem_append_left _ (List.mem_append_left _ (List.mem_append_right _ h))))
theorem inlX4 : ∀ w ∈ wsX40, w ∈ wsL_law := fun _ h => List.mem_append_left _ (List.mem_append_left _ (List.mem_append_right _ h))
theorem inlX5 : ∀ w ∈ wsX50, w ∈ wsL_law := fun _ h => List.mem_append_left _ (List.mem_append_left _ (List.mem_append_left _ (List.mem_append_left _ (List.mem_append_left _ (List.mem_append_left _ (List.mem_append_left _ (List.mem_append_right _ h)))))))
theorem inlX6 : ∀ w ∈ wsX60, w ∈ wsL_law := fun _ h => List.mem_append_left _ (List.mem_append_left _ (List.mem_append_left _ (List.mem_append_left _ (List.mem_append_left _ (List.mem_append_left _ (List.mem_append_right _ h))))))
abbrev vwCl : List vw_C := [(RX0, TX0, 4), (RX1, TX1, 3), (RX2, TX2, 4), (RX3, TX3, 4), (RX4, TX4, 2), (RX5, TX5, 10), (RX6, TX6, 22)]
end
section
set_option maxRecDepth 20000 in
theorem ggX0_init_X4_init : GoodIn wsX0_init wsX4_init := goodIn_r _ [14, 15, 2, 3, 16, 17, 18, 19, 20, 21, 30, 31] (by decide +kernel) (by decide +kernel)
set_option maxRecDepth 20000 in
theorem gX0_init_X4_init : GoodIn wsX0_init (wsX4_init) := ggX0_init_X4_init
set_option maxRecDepth 20000 in
theorem ggX0_init_X1_init : GoodIn wsX0_init wsX1_init := goodIn_r _ [24, 25, 2, 3, 26, 27, 5, 6, 28, 29, 13, 14, 15, 16, 17, 18, 19, 20, 21, 36, 37, 38, 30, 31] (by decide +kernel) (by decide +kernel)
set_option maxRecDepth 20000 in
theorem gX0_init_X1_init : GoodIn wsX0_init (wsX1_init) := ggX0_init_X1_init
theorem dX0_init_0 : decode cX0_init 0 = .ok (.aload_n 0, 1) := by decide +kernel
theorem dX0_init_1 : decode cX0_init 1 = .ok (.invokespecial 3, 3) := by decide +kernel
theorem dX0_init_4 : decode cX0_init 4 = .ok (.aload_n 0, 1) := by decide +kernel
theorem dX0_init_5 : decode cX0_init 5 = .ok (.new 9, 3) := by decide +kernel
theorem dX0_init_8 : decode cX0_init 8 = .ok (.dup, 1) := by decide +kernel
theorem dX0_init_9 : decode cX0_init 9 = .ok (.bipush 30, 2) := by decide +kernel
theorem dX0_init_11 : decode cX0_init 11 = .ok (.invokespecial 11, 3) := by decide +kernel
theorem dX0_init_14 : decode cX0_init 14 = .ok (.putfield 14, 3) := by decide +kernel
theorem dX0_init_17 : decode cX0_init 17 = .ok (.aload_n 0, 1) := by decide +kernel
theorem dX0_init_18 : decode cX0_init 18 = .ok (.new 20, 3) := by decide +kernel
theorem dX0_init_21 : decode cX0_init 21 = .ok (.dup, 1) := by decide +kernel
theorem dX0_init_22 : decode cX0_init 22 = .ok (.iload_n 1, 1) := by decide +kernel
theorem dX0_init_23 : decode cX0_init 23 = .ok (.invokespecial 22, 3) := by decide +kernel
theorem dX0_init_26 : decode cX0_init 26 = .ok (.putfield 23, 3) := by decide +kernel
theorem dX0_init_29 : decode cX0_init 29 = .ok (.return_, 1) := by decide +kernel
theorem dX0_gateNumber_0 : decode cX0_gateNumber 0 = .ok (.aload_n 0, 1) := by decide +kernel
theorem dX0_gateNumber_1 : decode cX0_gateNumber 1 = .ok (.getfield 27, 3) := by decide +kernel
theorem dX0_gateNumber_4 : decode cX0_gateNumber 4 = .ok (.ifnonnull 7, 3) := by decide +kernel
theorem dX0_gateNumber_7 : decode cX0_gateNumber 7 = .ok (.iconst (-1), 1) := by decide +kernel
theorem dX0_gateNumber_8 : decode cX0_gateNumber 8 = .ok (.goto 10, 3) := by decide +kernel
theorem dX0_gateNumber_11 : decode cX0_gateNumber 11 = .ok (.aload_n 0, 1) := by decide +kernel
theorem dX0_gateNumber_12 : decode cX0_gateNumber 12 = .ok (.getfield 27, 3) := by decide +kernel
theorem dX0_gateNumber_15 : decode cX0_gateNumber 15 = .ok (.getfield 31, 3) := by decide +kernel
theorem dX0_gateNumber_18 : decode cX0_gateNumber 18 = .ok (.ireturn, 1) := by decide +kernel
theorem dX0_rampNumber_0 : decode cX0_rampNumber 0 = .ok (.aload_n 0, 1) := by decide +kernel
theorem dX0_rampNumber_1 : decode cX0_rampNumber 1 = .ok (.getfield 37, 3) := by decide +kernel
theorem dX0_rampNumber_4 : decode cX0_rampNumber 4 = .ok (.ifnonnull 7, 3) := by decide +kernel
theorem dX0_rampNumber_7 : decode cX0_rampNumber 7 = .ok (.iconst (-1), 1) := by decide +kernel
theorem dX0_rampNumber_8 : decode cX0_rampNumber 8 = .ok (.goto 10, 3) := by decide +kernel
theorem dX0_rampNumber_11 : decode cX0_rampNumber 11 = .ok (.aload_n 0, 1) := by decide +kernel
theorem dX0_rampNumber_12 : decode cX0_rampNumber 12 = .ok (.getfield 37, 3) := by decide +kernel
theorem dX0_rampNumber_15 : decode cX0_rampNumber 15 = .ok (.getfield 41, 3) := by decide +kernel
theorem dX0_rampNumber_18 : decode cX0_rampNumber 18 = .ok (.ireturn, 1) := by decide +kernel
set_option maxRecDepth 20000 in
theorem ggX1_init_X4_init : GoodIn wsX1_init wsX4_init := goodIn_r _ [11, 12, 2, 3, 13, 14, 15, 16, 17, 18, 22, 23] (by decide +kernel) (by decide +kernel)
set_option maxRecDepth 20000 in
theorem gX1_init_X4_init : GoodIn wsX1_init (wsX4_init) := ggX1_init_X4_init
theorem dX1_init_0 : decode cX1_init 0 = .ok (.aload_n 0, 1) := by decide +kernel
theorem dX1_init_1 : decode cX1_init 1 = .ok (.invokespecial 3, 3) := by decide +kernel
theorem dX1_init_4 : decode cX1_init 4 = .ok (.aload_n 0, 1) := by decide +kernel
theorem dX1_init_5 : decode cX1_init 5 = .ok (.iload_n 1, 1) := by decide +kernel
theorem dX1_init_6 : decode cX1_init 6 = .ok (.putfield 9, 3) := by decide +kernel
theorem dX1_init_9 : decode cX1_init 9 = .ok (.aload_n 0, 1) := by decide +kernel
theorem dX1_init_10 : decode cX1_init 10 = .ok (.new 15, 3) := by decide +kernel
theorem dX1_init_13 : decode cX1_init 13 = .ok (.dup, 1) := by decide +kernel
theorem dX1_init_14 : decode cX1_init 14 = .ok (.bipush 40, 2) := by decide +kernel
theorem dX1_init_16 : decode cX1_init 16 = .ok (.invokespecial 17, 3) := by decide +kernel
theorem dX1_init_19 : decode cX1_init 19 = .ok (.putfield 20, 3) := by decide +kernel
theorem dX1_init_22 : decode cX1_init 22 = .ok (.return_, 1) := by decide +kernel
set_option maxRecDepth 20000 in
theorem ggX1_hasRoomFor_X4_isFull : GoodIn wsX1_hasRoomFor wsX4_isFull := goodIn_r _ [8, 9, 10, 14, 15] (by decide +kernel) (by decide +kernel)
set_option maxRecDepth 20000 in
theorem gX1_hasRoomFor_X4_isFull : GoodIn wsX1_hasRoomFor (wsV RX1 24 RX4 yX4_isFull wsX4_isFull) := goodIn_app (goodIn_of _ (by decide +kernel)) ggX1_hasRoomFor_X4_isFull
theorem dX1_hasRoomFor_0 : decode cX1_hasRoomFor 0 = .ok (.aload_n 0, 1) := by decide +kernel
theorem dX1_hasRoomFor_1 : decode cX1_hasRoomFor 1 = .ok (.getfield 20, 3) := by decide +kernel
theorem dX1_hasRoomFor_4 : decode cX1_hasRoomFor 4 = .ok (.invokevirtual 24, 3) := by decide +kernel
theorem dX1_hasRoomFor_7 : decode cX1_hasRoomFor 7 = .ok (.ifCond .ne 20, 3) := by decide +kernel
theorem dX1_hasRoomFor_10 : decode cX1_hasRoomFor 10 = .ok (.aload_n 0, 1) := by decide +kernel
theorem dX1_hasRoomFor_11 : decode cX1_hasRoomFor 11 = .ok (.getfield 28, 3) := by decide +kernel
theorem dX1_hasRoomFor_14 : decode cX1_hasRoomFor 14 = .ok (.iload_n 1, 1) := by decide +kernel
theorem dX1_hasRoomFor_15 : decode cX1_hasRoomFor 15 = .ok (.iadd, 1) := by decide +kernel
theorem dX1_hasRoomFor_16 : decode cX1_hasRoomFor 16 = .ok (.aload_n 0, 1) := by decide +kernel
theorem dX1_hasRoomFor_17 : decode cX1_hasRoomFor 17 = .ok (.getfield 9, 3) := by decide +kernel
theorem dX1_hasRoomFor_20 : decode cX1_hasRoomFor 20 = .ok (.if_icmp .gt 7, 3) := by decide +kernel
theorem dX1_hasRoomFor_23 : decode cX1_hasRoomFor 23 = .ok (.iconst 1, 1) := by decide +kernel
theorem dX1_hasRoomFor_24 : decode cX1_hasRoomFor 24 = .ok (.goto 4, 3) := by decide +kernel
theorem dX1_hasRoomFor_27 : decode cX1_hasRoomFor 27 = .ok (.iconst 0, 1) := by decide +kernel
theorem dX1_hasRoomFor_28 : decode cX1_hasRoomFor 28 = .ok (.ireturn, 1) := by decide +kernel
set_option maxRecDepth 20000 in
theorem ggX1_takeAboard_X4_addLast : GoodIn wsX1_takeAboard wsX4_addLast := goodIn_r _ [7, 8, 9, 13, 14] (by decide +kernel) (by decide +kernel)
set_option maxRecDepth 20000 in
theorem gX1_takeAboard_X4_addLast : GoodIn wsX1_takeAboard (wsV RX1 31 RX4 yX4_addLast wsX4_addLast) := goodIn_app (goodIn_of _ (by decide +kernel)) ggX1_takeAboard_X4_addLast
theorem dX1_takeAboard_0 : decode cX1_takeAboard 0 = .ok (.aload_n 0, 1) := by decide +kernel
theorem dX1_takeAboard_1 : decode cX1_takeAboard 1 = .ok (.getfield 20, 3) := by decide +kernel
theorem dX1_takeAboard_4 : decode cX1_takeAboard 4 = .ok (.iload_n 1, 1) := by decide +kernel
theorem dX1_takeAboard_5 : decode cX1_takeAboard 5 = .ok (.invokevirtual 31, 3) := by decide +kernel
theorem dX1_takeAboard_8 : decode cX1_takeAboard 8 = .ok (.aload_n 0, 1) := by decide +kernel
theorem dX1_takeAboard_9 : decode cX1_takeAboard 9 = .ok (.dup, 1) := by decide +kernel
theorem dX1_takeAboard_10 : decode cX1_takeAboard 10 = .ok (.getfield 28, 3) := by decide +kernel
theorem dX1_takeAboard_13 : decode cX1_takeAboard 13 = .ok (.iload_n 1, 1) := by decide +kernel
theorem dX1_takeAboard_14 : decode cX1_takeAboard 14 = .ok (.iadd, 1) := by decide +kernel
theorem dX1_takeAboard_15 : decode cX1_takeAboard 15 = .ok (.putfield 28, 3) := by decide +kernel
theorem dX1_takeAboard_18 : decode cX1_takeAboard 18 = .ok (.return_, 1) := by decide +kernel
set_option maxRecDepth 20000 in
theorem ggX1_weightOfLast_X4_weightAt : GoodIn wsX1_weightOfLast wsX4_weightAt := goodIn_r _ [7, 8, 9, 13, 14] (by decide +kernel) (by decide +kernel)
set_option maxRecDepth 20000 in
theorem gX1_weightOfLast_X4_weightAt : GoodIn wsX1_weightOfLast (wsV RX1 37 RX4 yX4_weightAt wsX4_weightAt) := goodIn_app (goodIn_of _ (by decide +kernel)) ggX1_weightOfLast_X4_weightAt
theorem dX1_weightOfLast_0 : decode cX1_weightOfLast 0 = .ok (.aload_n 0, 1) := by decide +kernel
theorem dX1_weightOfLast_1 : decode cX1_weightOfLast 1 = .ok (.getfield 20, 3) := by decide +kernel
theorem dX1_weightOfLast_4 : decode cX1_weightOfLast 4 = .ok (.aload_n 0, 1) := by decide +kernel
theorem dX1_weightOfLast_5 : decode cX1_weightOfLast 5 = .ok (.getfield 20, 3) := by decide +kernel
theorem dX1_weightOfLast_8 : decode cX1_weightOfLast 8 = .ok (.getfield 34, 3) := by decide +kernel
theorem dX1_weightOfLast_11 : decode cX1_weightOfLast 11 = .ok (.iconst 1, 1) := by decide +kernel
theorem dX1_weightOfLast_12 : decode cX1_weightOfLast 12 = .ok (.isub, 1) := by decide +kernel
theorem dX1_weightOfLast_13 : decode cX1_weightOfLast 13 = .ok (.invokevirtual 37, 3) := by decide +kernel
theorem dX1_weightOfLast_16 : decode cX1_weightOfLast 16 = .ok (.ireturn, 1) := by decide +kernel
set_option maxRecDepth 20000 in
theorem ggX1_putLastAshore_X1_weightOfLast : GoodIn wsX1_putLastAshore wsX1_weightOfLast := goodIn_r _ [8, 1, 2, 9, 10, 11, 12, 13, 14, 15, 20, 21, 22, 23, 24] (by decide +kernel) (by decide +kernel)
set_option maxRecDepth 20000 in
theorem gX1_putLastAshore_X1_weightOfLast : GoodIn wsX1_putLastAshore (wsV RX1 41 RX1 yX1_weightOfLast wsX1_weightOfLast) := goodIn_app (goodIn_of _ (by decide +kernel)) ggX1_putLastAshore_X1_weightOfLast
set_option maxRecDepth 20000 in
theorem ggX1_putLastAshore_X4_removeLast : GoodIn wsX1_putLastAshore wsX4_removeLast := goodIn_r _ [19, 14, 23, 24] (by decide +kernel) (by decide +kernel)
set_option maxRecDepth 20000 in
theorem gX1_putLastAshore_X4_removeLast : GoodIn wsX1_putLastAshore (wsV RX1 45 RX4 yX4_removeLast wsX4_removeLast) := goodIn_app (goodIn_of _ (by decide +kernel)) ggX1_putLastAshore_X4_removeLast
theorem dX1_putLastAshore_0 : decode cX1_putLastAshore 0 = .ok (.aload_n 0, 1) := by decide +kernel
theorem dX1_putLastAshore_1 : decode cX1_putLastAshore 1 = .ok (.getfield 20, 3) := by decide +kernel
theorem dX1_putLastAshore_4 : decode cX1_putLastAshore 4 = .ok (.getfield 34, 3) := by decide +kernel
theorem dX1_putLastAshore_7 : decode cX1_putLastAshore 7 = .ok (.ifCond .le 23, 3) := by decide +kernel
theorem dX1_putLastAshore_10 : decode cX1_putLastAshore 10 = .ok (.aload_n 0, 1) := by decide +kernel
theorem dX1_putLastAshore_11 : decode cX1_putLastAshore 11 = .ok (.dup, 1) := by decide +kernel
theorem dX1_putLastAshore_12 : decode cX1_putLastAshore 12 = .ok (.getfield 28, 3) := by decide +kernel
theorem dX1_putLastAshore_15 : decode cX1_putLastAshore 15 = .ok (.aload_n 0, 1) := by decide +kernel
theorem dX1_putLastAshore_16 : decode cX1_putLastAshore 16 = .ok (.invokevirtual 41, 3) := by decide +kernel
theorem dX1_putLastAshore_19 : decode cX1_putLastAshore 19 = .ok (.isub, 1) := by decide +kernel
theorem dX1_putLastAshore_20 : decode cX1_putLastAshore 20 = .ok (.putfield 28, 3) := by decide +kernel
theorem dX1_putLastAshore_23 : decode cX1_putLastAshore 23 = .ok (.aload_n 0, 1) := by decide +kernel
theorem dX1_putLastAshore_24 : decode cX1_putLastAshore 24 = .ok (.getfield 20, 3) := by decide +kernel
theorem dX1_putLastAshore_27 : decode cX1_putLastAshore 27 = .ok (.invokevirtual 45, 3) := by decide +kernel
theorem dX1_putLastAshore_30 : decode cX1_putLastAshore 30 = .ok (.return_, 1) := by decide +kernel
theorem dX2_init_0 : decode cX2_init 0 = .ok (.aload_n 0, 1) := by decide +kernel
theorem dX2_init_1 : decode cX2_init 1 = .ok (.invokespecial 1, 3) := by decide +kernel
theorem dX2_init_4 : decode cX2_init 4 = .ok (.aload_n 0, 1) := by decide +kernel
theorem dX2_init_5 : decode cX2_init 5 = .ok (.iload_n 1, 1) := by decide +kernel
theorem dX2_init_6 : decode cX2_init 6 = .ok (.putfield 7, 3) := by decide +kernel
theorem dX2_init_9 : decode cX2_init 9 = .ok (.return_, 1) := by decide +kernel
theorem dX2_shutAsNumber_0 : decode cX2_shutAsNumber 0 = .ok (.aload_n 0, 1) := by decide +kernel
theorem dX2_shutAsNumber_1 : decode cX2_shutAsNumber 1 = .ok (.getfield 13, 3) := by decide +kernel
theorem dX2_shutAsNumber_4 : decode cX2_shutAsNumber 4 = .ok (.ifCond .eq 7, 3) := by decide +kernel
theorem dX2_shutAsNumber_7 : decode cX2_shutAsNumber 7 = .ok (.iconst 1, 1) := by decide +kernel
theorem dX2_shutAsNumber_8 : decode cX2_shutAsNumber 8 = .ok (.goto 4, 3) := by decide +kernel
theorem dX2_shutAsNumber_11 : decode cX2_shutAsNumber 11 = .ok (.iconst 0, 1) := by decide +kernel
theorem dX2_shutAsNumber_12 : decode cX2_shutAsNumber 12 = .ok (.ireturn, 1) := by decide +kernel
theorem dX3_init_0 : decode cX3_init 0 = .ok (.aload_n 0, 1) := by decide +kernel
theorem dX3_init_1 : decode cX3_init 1 = .ok (.invokespecial 1, 3) := by decide +kernel
theorem dX3_init_4 : decode cX3_init 4 = .ok (.aload_n 0, 1) := by decide +kernel
theorem dX3_init_5 : decode cX3_init 5 = .ok (.iload_n 1, 1) := by decide +kernel
theorem dX3_init_6 : decode cX3_init 6 = .ok (.putfield 7, 3) := by decide +kernel
theorem dX3_init_9 : decode cX3_init 9 = .ok (.aload_n 0, 1) := by decide +kernel
theorem dX3_init_10 : decode cX3_init 10 = .ok (.iload_n 2, 1) := by decide +kernel
theorem dX3_init_11 : decode cX3_init 11 = .ok (.putfield 13, 3) := by decide +kernel
theorem dX3_init_14 : decode cX3_init 14 = .ok (.return_, 1) := by decide +kernel
theorem dX4_init_0 : decode cX4_init 0 = .ok (.aload_n 0, 1) := by decide +kernel
theorem dX4_init_1 : decode cX4_init 1 = .ok (.invokespecial 3, 3) := by decide +kernel
theorem dX4_init_4 : decode cX4_init 4 = .ok (.aload_n 0, 1) := by decide +kernel
theorem dX4_init_5 : decode cX4_init 5 = .ok (.iload_n 1, 1) := by decide +kernel
theorem dX4_init_6 : decode cX4_init 6 = .ok (.iconst 0, 1) := by decide +kernel
theorem dX4_init_7 : decode cX4_init 7 = .ok (.invokestatic 9, 3) := by decide +kernel
theorem dX4_init_10 : decode cX4_init 10 = .ok (.newarray .int, 2) := by decide +kernel
theorem dX4_init_12 : decode cX4_init 12 = .ok (.putfield 15, 3) := by decide +kernel
theorem dX4_init_15 : decode cX4_init 15 = .ok (.return_, 1) := by decide +kernel
theorem dX4_isFull_0 : decode cX4_isFull 0 = .ok (.aload_n 0, 1) := by decide +kernel
theorem dX4_isFull_1 : decode cX4_isFull 1 = .ok (.getfield 21, 3) := by decide +kernel
theorem dX4_isFull_4 : decode cX4_isFull 4 = .ok (.aload_n 0, 1) := by decide +kernel
theorem dX4_isFull_5 : decode cX4_isFull 5 = .ok (.getfield 15, 3) := by decide +kernel
theorem dX4_isFull_8 : decode cX4_isFull 8 = .ok (.arraylength, 1) := by decide +kernel
theorem dX4_isFull_9 : decode cX4_isFull 9 = .ok (.if_icmp .lt 7, 3) := by decide +kernel
theorem dX4_isFull_12 : decode cX4_isFull 12 = .ok (.iconst 1, 1) := by decide +kernel
theorem dX4_isFull_13 : decode cX4_isFull 13 = .ok (.goto 4, 3) := by decide +kernel
theorem dX4_isFull_16 : decode cX4_isFull 16 = .ok (.iconst 0, 1) := by decide +kernel
theorem dX4_isFull_17 : decode cX4_isFull 17 = .ok (.ireturn, 1) := by decide +kernel
theorem dX4_weightAt_0 : decode cX4_weightAt 0 = .ok (.iload_n 1, 1) := by decide +kernel
theorem dX4_weightAt_1 : decode cX4_weightAt 1 = .ok (.ifCond .lt 29, 3) := by decide +kernel
theorem dX4_weightAt_4 : decode cX4_weightAt 4 = .ok (.iload_n 1, 1) := by decide +kernel
theorem dX4_weightAt_5 : decode cX4_weightAt 5 = .ok (.aload_n 0, 1) := by decide +kernel
theorem dX4_weightAt_6 : decode cX4_weightAt 6 = .ok (.getfield 21, 3) := by decide +kernel
theorem dX4_weightAt_9 : decode cX4_weightAt 9 = .ok (.if_icmp .ge 21, 3) := by decide +kernel
theorem dX4_weightAt_12 : decode cX4_weightAt 12 = .ok (.iload_n 1, 1) := by decide +kernel
theorem dX4_weightAt_13 : decode cX4_weightAt 13 = .ok (.aload_n 0, 1) := by decide +kernel
theorem dX4_weightAt_14 : decode cX4_weightAt 14 = .ok (.getfield 15, 3) := by decide +kernel
theorem dX4_weightAt_17 : decode cX4_weightAt 17 = .ok (.arraylength, 1) := by decide +kernel
theorem dX4_weightAt_18 : decode cX4_weightAt 18 = .ok (.if_icmp .ge 12, 3) := by decide +kernel
theorem dX4_weightAt_21 : decode cX4_weightAt 21 = .ok (.aload_n 0, 1) := by decide +kernel
theorem dX4_weightAt_22 : decode cX4_weightAt 22 = .ok (.getfield 15, 3) := by decide +kernel
theorem dX4_weightAt_25 : decode cX4_weightAt 25 = .ok (.iload_n 1, 1) := by decide +kernel
theorem dX4_weightAt_26 : decode cX4_weightAt 26 = .ok (.iaload, 1) := by decide +kernel
theorem dX4_weightAt_27 : decode cX4_weightAt 27 = .ok (.goto 4, 3) := by decide +kernel
theorem dX4_weightAt_30 : decode cX4_weightAt 30 = .ok (.iconst (-1), 1) := by decide +kernel
theorem dX4_weightAt_31 : decode cX4_weightAt 31 = .ok (.ireturn, 1) := by decide +kernel
theorem dX4_addLast_0 : decode cX4_addLast 0 = .ok (.aload_n 0, 1) := by decide +kernel
theorem dX4_addLast_1 : decode cX4_addLast 1 = .ok (.getfield 21, 3) := by decide +kernel
theorem dX4_addLast_4 : decode cX4_addLast 4 = .ok (.ifCond .lt 35, 3) := by decide +kernel
theorem dX4_addLast_7 : decode cX4_addLast 7 = .ok (.aload_n 0, 1) := by decide +kernel
theorem dX4_addLast_8 : decode cX4_addLast 8 = .ok (.getfield 21, 3) := by decide +kernel
theorem dX4_addLast_11 : decode cX4_addLast 11 = .ok (.aload_n 0, 1) := by decide +kernel
theorem dX4_addLast_12 : decode cX4_addLast 12 = .ok (.getfield 15, 3) := by decide +kernel
theorem dX4_addLast_15 : decode cX4_addLast 15 = .ok (.arraylength, 1) := by decide +kernel
theorem dX4_addLast_16 : decode cX4_addLast 16 = .ok (.if_icmp .ge 23, 3) := by decide +kernel
theorem dX4_addLast_19 : decode cX4_addLast 19 = .ok (.aload_n 0, 1) := by decide +kernel
theorem dX4_addLast_20 : decode cX4_addLast 20 = .ok (.getfield 15, 3) := by decide +kernel
theorem dX4_addLast_23 : decode cX4_addLast 23 = .ok (.aload_n 0, 1) := by decide +kernel
theorem dX4_addLast_24 : decode cX4_addLast 24 = .ok (.getfield 21, 3) := by decide +kernel
theorem dX4_addLast_27 : decode cX4_addLast 27 = .ok (.iload_n 1, 1) := by decide +kernel
theorem dX4_addLast_28 : decode cX4_addLast 28 = .ok (.iastore, 1) := by decide +kernel
theorem dX4_addLast_29 : decode cX4_addLast 29 = .ok (.aload_n 0, 1) := by decide +kernel
theorem dX4_addLast_30 : decode cX4_addLast 30 = .ok (.dup, 1) := by decide +kernel
theorem dX4_addLast_31 : decode cX4_addLast 31 = .ok (.getfield 21, 3) := by decide +kernel
theorem dX4_addLast_34 : decode cX4_addLast 34 = .ok (.iconst 1, 1) := by decide +kernel
theorem dX4_addLast_35 : decode cX4_addLast 35 = .ok (.iadd, 1) := by decide +kernel
theorem dX4_addLast_36 : decode cX4_addLast 36 = .ok (.putfield 21, 3) := by decide +kernel
theorem dX4_addLast_39 : decode cX4_addLast 39 = .ok (.return_, 1) := by decide +kernel
theorem dX4_removeFirst_0 : decode cX4_removeFirst 0 = .ok (.aload_n 0, 1) := by decide +kernel
theorem dX4_removeFirst_1 : decode cX4_removeFirst 1 = .ok (.getfield 21, 3) := by decide +kernel
theorem dX4_removeFirst_4 : decode cX4_removeFirst 4 = .ok (.ifCond .le 42, 3) := by decide +kernel
theorem dX4_removeFirst_7 : decode cX4_removeFirst 7 = .ok (.aload_n 0, 1) := by decide +kernel
theorem dX4_removeFirst_8 : decode cX4_removeFirst 8 = .ok (.getfield 21, 3) := by decide +kernel
theorem dX4_removeFirst_11 : decode cX4_removeFirst 11 = .ok (.aload_n 0, 1) := by decide +kernel
theorem dX4_removeFirst_12 : decode cX4_removeFirst 12 = .ok (.getfield 15, 3) := by decide +kernel
theorem dX4_removeFirst_15 : decode cX4_removeFirst 15 = .ok (.arraylength, 1) := by decide +kernel
theorem dX4_removeFirst_16 : decode cX4_removeFirst 16 = .ok (.if_icmp .gt 30, 3) := by decide +kernel
theorem dX4_removeFirst_19 : decode cX4_removeFirst 19 = .ok (.aload_n 0, 1) := by decide +kernel
theorem dX4_removeFirst_20 : decode cX4_removeFirst 20 = .ok (.dup, 1) := by decide +kernel
theorem dX4_removeFirst_21 : decode cX4_removeFirst 21 = .ok (.getfield 21, 3) := by decide +kernel
theorem dX4_removeFirst_24 : decode cX4_removeFirst 24 = .ok (.iconst 1, 1) := by decide +kernel
theorem dX4_removeFirst_25 : decode cX4_removeFirst 25 = .ok (.isub, 1) := by decide +kernel
theorem dX4_removeFirst_26 : decode cX4_removeFirst 26 = .ok (.putfield 21, 3) := by decide +kernel
theorem dX4_removeFirst_29 : decode cX4_removeFirst 29 = .ok (.aload_n 0, 1) := by decide +kernel
theorem dX4_removeFirst_30 : decode cX4_removeFirst 30 = .ok (.getfield 15, 3) := by decide +kernel
theorem dX4_removeFirst_33 : decode cX4_removeFirst 33 = .ok (.iconst 1, 1) := by decide +kernel
theorem dX4_removeFirst_34 : decode cX4_removeFirst 34 = .ok (.aload_n 0, 1) := by decide +kernel
theorem dX4_removeFirst_35 : decode cX4_removeFirst 35 = .ok (.getfield 15, 3) := by decide +kernel
theorem dX4_removeFirst_38 : decode cX4_removeFirst 38 = .ok (.iconst 0, 1) := by decide +kernel
theorem dX4_removeFirst_39 : decode cX4_removeFirst 39 = .ok (.aload_n 0, 1) := by decide +kernel
theorem dX4_removeFirst_40 : decode cX4_removeFirst 40 = .ok (.getfield 21, 3) := by decide +kernel
theorem dX4_removeFirst_43 : decode cX4_removeFirst 43 = .ok (.invokestatic 25, 3) := by decide +kernel
theorem dX4_removeFirst_46 : decode cX4_removeFirst 46 = .ok (.return_, 1) := by decide +kernel
theorem dX4_removeLast_0 : decode cX4_removeLast 0 = .ok (.aload_n 0, 1) := by decide +kernel
theorem dX4_removeLast_1 : decode cX4_removeLast 1 = .ok (.getfield 21, 3) := by decide +kernel
theorem dX4_removeLast_4 : decode cX4_removeLast 4 = .ok (.ifCond .le 13, 3) := by decide +kernel
theorem dX4_removeLast_7 : decode cX4_removeLast 7 = .ok (.aload_n 0, 1) := by decide +kernel
theorem dX4_removeLast_8 : decode cX4_removeLast 8 = .ok (.dup, 1) := by decide +kernel
theorem dX4_removeLast_9 : decode cX4_removeLast 9 = .ok (.getfield 21, 3) := by decide +kernel
theorem dX4_removeLast_12 : decode cX4_removeLast 12 = .ok (.iconst 1, 1) := by decide +kernel
theorem dX4_removeLast_13 : decode cX4_removeLast 13 = .ok (.isub, 1) := by decide +kernel
theorem dX4_removeLast_14 : decode cX4_removeLast 14 = .ok (.putfield 21, 3) := by decide +kernel
theorem dX4_removeLast_17 : decode cX4_removeLast 17 = .ok (.return_, 1) := by decide +kernel
theorem dJ9_max_7cf53_0 : decode cJ9_max_7cf53 0 = .ok (.iload_n 0, 1) := by decide +kernel
theorem dJ9_max_7cf53_1 : decode cJ9_max_7cf53 1 = .ok (.iload_n 1, 1) := by decide +kernel
theorem dJ9_max_7cf53_2 : decode cJ9_max_7cf53 2 = .ok (.if_icmp .lt 7, 3) := by decide +kernel
theorem dJ9_max_7cf53_5 : decode cJ9_max_7cf53 5 = .ok (.iload_n 0, 1) := by decide +kernel
theorem dJ9_max_7cf53_6 : decode cJ9_max_7cf53 6 = .ok (.goto 4, 3) := by decide +kernel
theorem dJ9_max_7cf53_9 : decode cJ9_max_7cf53 9 = .ok (.iload_n 1, 1) := by decide +kernel
theorem dJ9_max_7cf53_10 : decode cJ9_max_7cf53 10 = .ok (.ireturn, 1) := by decide +kernel
end
section
theorem dX5_init_0 : decode cX5_init 0 = .ok (.aload_n 0, 1) := by decide +kernel
theorem dX5_init_1 : decode cX5_init 1 = .ok (.invokespecial 1, 3) := by decide +kernel
theorem dX5_init_4 : decode cX5_init 4 = .ok (.aload_n 0, 1) := by decide +kernel
theorem dX5_init_5 : decode cX5_init 5 = .ok (.bipush 16, 2) := by decide +kernel
theorem dX5_init_7 : decode cX5_init 7 = .ok (.anewarray 9, 3) := by decide +kernel
theorem dX5_init_10 : decode cX5_init 10 = .ok (.putfield 11, 3) := by decide +kernel
theorem dX5_init_13 : decode cX5_init 13 = .ok (.aload_n 0, 1) := by decide +kernel
theorem dX5_init_14 : decode cX5_init 14 = .ok (.bipush 16, 2) := by decide +kernel
theorem dX5_init_16 : decode cX5_init 16 = .ok (.anewarray 15, 3) := by decide +kernel
theorem dX5_init_19 : decode cX5_init 19 = .ok (.putfield 17, 3) := by decide +kernel
theorem dX5_init_22 : decode cX5_init 22 = .ok (.aload_n 0, 1) := by decide +kernel
theorem dX5_init_23 : decode cX5_init 23 = .ok (.bipush 8, 2) := by decide +kernel
theorem dX5_init_25 : decode cX5_init 25 = .ok (.anewarray 21, 3) := by decide +kernel
theorem dX5_init_28 : decode cX5_init 28 = .ok (.putfield 23, 3) := by decide +kernel
theorem dX5_init_31 : decode cX5_init 31 = .ok (.return_, 1) := by decide +kernel
set_option maxRecDepth 20000 in
theorem ggX5_gate_X2_init : GoodIn wsX5_gate wsX2_init := goodIn_r _ [8, 9, 10, 11, 12, 23, 24, 25, 26] (by decide +kernel) (by decide +kernel)
set_option maxRecDepth 20000 in
theorem gX5_gate_X2_init : GoodIn wsX5_gate (wsX2_init) := ggX5_gate_X2_init
theorem dX5_gate_0 : decode cX5_gate 0 = .ok (.aload_n 0, 1) := by decide +kernel
theorem dX5_gate_1 : decode cX5_gate 1 = .ok (.getfield 27, 3) := by decide +kernel
theorem dX5_gate_4 : decode cX5_gate 4 = .ok (.bipush 16, 2) := by decide +kernel
theorem dX5_gate_6 : decode cX5_gate 6 = .ok (.if_icmp .lt 6, 3) := by decide +kernel
theorem dX5_gate_9 : decode cX5_gate 9 = .ok (.bipush (-3), 2) := by decide +kernel
theorem dX5_gate_11 : decode cX5_gate 11 = .ok (.ireturn, 1) := by decide +kernel
theorem dX5_gate_12 : decode cX5_gate 12 = .ok (.aload_n 0, 1) := by decide +kernel
theorem dX5_gate_13 : decode cX5_gate 13 = .ok (.getfield 27, 3) := by decide +kernel
theorem dX5_gate_16 : decode cX5_gate 16 = .ok (.istore_n 1, 1) := by decide +kernel
theorem dX5_gate_17 : decode cX5_gate 17 = .ok (.aload_n 0, 1) := by decide +kernel
theorem dX5_gate_18 : decode cX5_gate 18 = .ok (.getfield 11, 3) := by decide +kernel
theorem dX5_gate_21 : decode cX5_gate 21 = .ok (.iload_n 1, 1) := by decide +kernel
theorem dX5_gate_22 : decode cX5_gate 22 = .ok (.new 9, 3) := by decide +kernel
theorem dX5_gate_25 : decode cX5_gate 25 = .ok (.dup, 1) := by decide +kernel
theorem dX5_gate_26 : decode cX5_gate 26 = .ok (.iload_n 1, 1) := by decide +kernel
theorem dX5_gate_27 : decode cX5_gate 27 = .ok (.invokespecial 31, 3) := by decide +kernel
theorem dX5_gate_30 : decode cX5_gate 30 = .ok (.aastore, 1) := by decide +kernel
theorem dX5_gate_31 : decode cX5_gate 31 = .ok (.aload_n 0, 1) := by decide +kernel
theorem dX5_gate_32 : decode cX5_gate 32 = .ok (.dup, 1) := by decide +kernel
theorem dX5_gate_33 : decode cX5_gate 33 = .ok (.getfield 27, 3) := by decide +kernel
theorem dX5_gate_36 : decode cX5_gate 36 = .ok (.iconst 1, 1) := by decide +kernel
theorem dX5_gate_37 : decode cX5_gate 37 = .ok (.iadd, 1) := by decide +kernel
theorem dX5_gate_38 : decode cX5_gate 38 = .ok (.putfield 27, 3) := by decide +kernel
theorem dX5_gate_41 : decode cX5_gate 41 = .ok (.iload_n 1, 1) := by decide +kernel
theorem dX5_gate_42 : decode cX5_gate 42 = .ok (.ireturn, 1) := by decide +kernel
set_option maxRecDepth 20000 in
theorem ggX5_ramp_X5_isWithin : GoodIn wsX5_ramp wsX5_isWithin := goodIn_r _ [9] (by decide +kernel) (by decide +kernel)
set_option maxRecDepth 20000 in
theorem gX5_ramp_X5_isWithin : GoodIn wsX5_ramp (va_wsS RX5 34 yX5_isWithin wsX5_isWithin) := goodIn_app (goodIn_of _ (by decide +kernel)) ggX5_ramp_X5_isWithin
set_option maxRecDepth 20000 in
theorem ggX5_ramp_X3_init : GoodIn wsX5_ramp wsX3_init := goodIn_r _ [12, 13, 14, 15, 16, 17, 28, 29, 30, 31] (by decide +kernel) (by decide +kernel)
set_option maxRecDepth 20000 in
theorem gX5_ramp_X3_init : GoodIn wsX5_ramp (wsX3_init) := ggX5_ramp_X3_init
theorem dX5_ramp_0 : decode cX5_ramp 0 = .ok (.iload_n 1, 1) := by decide +kernel
theorem dX5_ramp_1 : decode cX5_ramp 1 = .ok (.iconst 1, 1) := by decide +kernel
theorem dX5_ramp_2 : decode cX5_ramp 2 = .ok (.sipush 1000, 3) := by decide +kernel
theorem dX5_ramp_5 : decode cX5_ramp 5 = .ok (.invokestatic 34, 3) := by decide +kernel
theorem dX5_ramp_8 : decode cX5_ramp 8 = .ok (.ifCond .ne 6, 3) := by decide +kernel
theorem dX5_ramp_11 : decode cX5_ramp 11 = .ok (.bipush (-2), 2) := by decide +kernel
theorem dX5_ramp_13 : decode cX5_ramp 13 = .ok (.ireturn, 1) := by decide +kernel
theorem dX5_ramp_14 : decode cX5_ramp 14 = .ok (.aload_n 0, 1) := by decide +kernel
theorem dX5_ramp_15 : decode cX5_ramp 15 = .ok (.getfield 38, 3) := by decide +kernel
theorem dX5_ramp_18 : decode cX5_ramp 18 = .ok (.bipush 16, 2) := by decide +kernel
theorem dX5_ramp_20 : decode cX5_ramp 20 = .ok (.if_icmp .lt 6, 3) := by decide +kernel
theorem dX5_ramp_23 : decode cX5_ramp 23 = .ok (.bipush (-3), 2) := by decide +kernel
theorem dX5_ramp_25 : decode cX5_ramp 25 = .ok (.ireturn, 1) := by decide +kernel
theorem dX5_ramp_26 : decode cX5_ramp 26 = .ok (.aload_n 0, 1) := by decide +kernel
theorem dX5_ramp_27 : decode cX5_ramp 27 = .ok (.getfield 38, 3) := by decide +kernel
theorem dX5_ramp_30 : decode cX5_ramp 30 = .ok (.istore_n 2, 1) := by decide +kernel
theorem dX5_ramp_31 : decode cX5_ramp 31 = .ok (.aload_n 0, 1) := by decide +kernel
theorem dX5_ramp_32 : decode cX5_ramp 32 = .ok (.getfield 17, 3) := by decide +kernel
theorem dX5_ramp_35 : decode cX5_ramp 35 = .ok (.iload_n 2, 1) := by decide +kernel
theorem dX5_ramp_36 : decode cX5_ramp 36 = .ok (.new 15, 3) := by decide +kernel
theorem dX5_ramp_39 : decode cX5_ramp 39 = .ok (.dup, 1) := by decide +kernel
theorem dX5_ramp_40 : decode cX5_ramp 40 = .ok (.iload_n 2, 1) := by decide +kernel
theorem dX5_ramp_41 : decode cX5_ramp 41 = .ok (.iload_n 1, 1) := by decide +kernel
theorem dX5_ramp_42 : decode cX5_ramp 42 = .ok (.invokespecial 41, 3) := by decide +kernel
theorem dX5_ramp_45 : decode cX5_ramp 45 = .ok (.aastore, 1) := by decide +kernel
theorem dX5_ramp_46 : decode cX5_ramp 46 = .ok (.aload_n 0, 1) := by decide +kernel
theorem dX5_ramp_47 : decode cX5_ramp 47 = .ok (.dup, 1) := by decide +kernel
theorem dX5_ramp_48 : decode cX5_ramp 48 = .ok (.getfield 38, 3) := by decide +kernel
theorem dX5_ramp_51 : decode cX5_ramp 51 = .ok (.iconst 1, 1) := by decide +kernel
theorem dX5_ramp_52 : decode cX5_ramp 52 = .ok (.iadd, 1) := by decide +kernel
theorem dX5_ramp_53 : decode cX5_ramp 53 = .ok (.putfield 38, 3) := by decide +kernel
theorem dX5_ramp_56 : decode cX5_ramp 56 = .ok (.iload_n 2, 1) := by decide +kernel
theorem dX5_ramp_57 : decode cX5_ramp 57 = .ok (.ireturn, 1) := by decide +kernel
set_option maxRecDepth 20000 in
theorem ggX5_berth_X5_isWithin : GoodIn wsX5_berth wsX5_isWithin := goodIn_r _ [9] (by decide +kernel) (by decide +kernel)
set_option maxRecDepth 20000 in
theorem gX5_berth_X5_isWithin : GoodIn wsX5_berth (va_wsS RX5 34 yX5_isWithin wsX5_isWithin) := goodIn_app (goodIn_of _ (by decide +kernel)) ggX5_berth_X5_isWithin
set_option maxRecDepth 20000 in
theorem ggX5_berth_X0_init : GoodIn wsX5_berth wsX0_init := goodIn_r _ [12, 13, 14, 15, 16, 17, 18, 19, 20, 21, 22, 23, 24, 25, 26, 27, 28, 29, 30, 31, 32, 33, 34, 35, 36, 37, 38, 39, 40, 41, 56, 57, 52, 53, 54, 55, 58, 59, 60] (by decide +kernel) (by decide +kernel)
set_option maxRecDepth 20000 in
theorem gX5_berth_X0_init : GoodIn wsX5_berth (wsX0_init) := ggX5_berth_X0_init
theorem dX5_berth_0 : decode cX5_berth 0 = .ok (.iload_n 1, 1) := by decide +kernel
theorem dX5_berth_1 : decode cX5_berth 1 = .ok (.iconst 0, 1) := by decide +kernel
theorem dX5_berth_2 : decode cX5_berth 2 = .ok (.sipush 10000, 3) := by decide +kernel
theorem dX5_berth_5 : decode cX5_berth 5 = .ok (.invokestatic 34, 3) := by decide +kernel
theorem dX5_berth_8 : decode cX5_berth 8 = .ok (.ifCond .ne 6, 3) := by decide +kernel
theorem dX5_berth_11 : decode cX5_berth 11 = .ok (.bipush (-2), 2) := by decide +kernel
theorem dX5_berth_13 : decode cX5_berth 13 = .ok (.ireturn, 1) := by decide +kernel
theorem dX5_berth_14 : decode cX5_berth 14 = .ok (.aload_n 0, 1) := by decide +kernel
theorem dX5_berth_15 : decode cX5_berth 15 = .ok (.getfield 44, 3) := by decide +kernel
theorem dX5_berth_18 : decode cX5_berth 18 = .ok (.bipush 8, 2) := by decide +kernel
theorem dX5_berth_20 : decode cX5_berth 20 = .ok (.if_icmp .lt 6, 3) := by decide +kernel
theorem dX5_berth_23 : decode cX5_berth 23 = .ok (.bipush (-3), 2) := by decide +kernel
theorem dX5_berth_25 : decode cX5_berth 25 = .ok (.ireturn, 1) := by decide +kernel
theorem dX5_berth_26 : decode cX5_berth 26 = .ok (.aload_n 0, 1) := by decide +kernel
theorem dX5_berth_27 : decode cX5_berth 27 = .ok (.getfield 44, 3) := by decide +kernel
theorem dX5_berth_30 : decode cX5_berth 30 = .ok (.istore_n 2, 1) := by decide +kernel
theorem dX5_berth_31 : decode cX5_berth 31 = .ok (.aload_n 0, 1) := by decide +kernel
theorem dX5_berth_32 : decode cX5_berth 32 = .ok (.getfield 23, 3) := by decide +kernel
theorem dX5_berth_35 : decode cX5_berth 35 = .ok (.iload_n 2, 1) := by decide +kernel
theorem dX5_berth_36 : decode cX5_berth 36 = .ok (.new 21, 3) := by decide +kernel
theorem dX5_berth_39 : decode cX5_berth 39 = .ok (.dup, 1) := by decide +kernel
theorem dX5_berth_40 : decode cX5_berth 40 = .ok (.iload_n 1, 1) := by decide +kernel
theorem dX5_berth_41 : decode cX5_berth 41 = .ok (.invokespecial 47, 3) := by decide +kernel
theorem dX5_berth_44 : decode cX5_berth 44 = .ok (.aastore, 1) := by decide +kernel
theorem dX5_berth_45 : decode cX5_berth 45 = .ok (.aload_n 0, 1) := by decide +kernel
theorem dX5_berth_46 : decode cX5_berth 46 = .ok (.dup, 1) := by decide +kernel
theorem dX5_berth_47 : decode cX5_berth 47 = .ok (.getfield 44, 3) := by decide +kernel
theorem dX5_berth_50 : decode cX5_berth 50 = .ok (.iconst 1, 1) := by decide +kernel
theorem dX5_berth_51 : decode cX5_berth 51 = .ok (.iadd, 1) := by decide +kernel
theorem dX5_berth_52 : decode cX5_berth 52 = .ok (.putfield 44, 3) := by decide +kernel
theorem dX5_berth_55 : decode cX5_berth 55 = .ok (.iload_n 2, 1) := by decide +kernel
theorem dX5_berth_56 : decode cX5_berth 56 = .ok (.ireturn, 1) := by decide +kernel
set_option maxRecDepth 20000 in
theorem ggX5_hinge_X5_berthAt : GoodIn wsX5_hinge wsX5_berthAt := goodIn_r _ [6, 7, 8, 26, 27, 28, 29, 30, 31, 32, 33, 34, 35] (by decide +kernel) (by decide +kernel)
set_option maxRecDepth 20000 in
theorem gX5_hinge_X5_berthAt : GoodIn wsX5_hinge (wsV RX5 48 RX5 yX5_berthAt wsX5_berthAt) := goodIn_app (goodIn_of _ (by decide +kernel)) ggX5_hinge_X5_berthAt
set_option maxRecDepth 20000 in
theorem ggX5_hinge_X5_gateAt : GoodIn wsX5_hinge wsX5_gateAt := goodIn_r _ [12, 13, 14, 26, 27, 28, 29, 30, 31, 32, 33, 34, 35] (by decide +kernel) (by decide +kernel)
set_option maxRecDepth 20000 in
theorem gX5_hinge_X5_gateAt : GoodIn wsX5_hinge (wsV RX5 52 RX5 yX5_gateAt wsX5_gateAt) := goodIn_app (goodIn_of _ (by decide +kernel)) ggX5_hinge_X5_gateAt
set_option maxRecDepth 20000 in
theorem ggX5_hinge_X0_gateNumber : GoodIn wsX5_hinge wsX0_gateNumber := goodIn_r _ [19, 20, 21, 22, 23, 24, 25, 36, 37, 38, 39] (by decide +kernel) (by decide +kernel)
set_option maxRecDepth 20000 in
theorem gX5_hinge_X0_gateNumber : GoodIn wsX5_hinge (wsV RX5 56 RX0 yX0_gateNumber wsX0_gateNumber) := goodIn_app (goodIn_of _ (by decide +kernel)) ggX5_hinge_X0_gateNumber
theorem dX5_hinge_0 : decode cX5_hinge 0 = .ok (.aload_n 0, 1) := by decide +kernel
theorem dX5_hinge_1 : decode cX5_hinge 1 = .ok (.iload_n 1, 1) := by decide +kernel
theorem dX5_hinge_2 : decode cX5_hinge 2 = .ok (.invokevirtual 48, 3) := by decide +kernel
theorem dX5_hinge_5 : decode cX5_hinge 5 = .ok (.astore_n 3, 1) := by decide +kernel
theorem dX5_hinge_6 : decode cX5_hinge 6 = .ok (.aload_n 0, 1) := by decide +kernel
theorem dX5_hinge_7 : decode cX5_hinge 7 = .ok (.iload_n 2, 1) := by decide +kernel
theorem dX5_hinge_8 : decode cX5_hinge 8 = .ok (.invokevirtual 52, 3) := by decide +kernel
theorem dX5_hinge_11 : decode cX5_hinge 11 = .ok (.astore 4, 2) := by decide +kernel
theorem dX5_hinge_13 : decode cX5_hinge 13 = .ok (.aload_n 3, 1) := by decide +kernel
theorem dX5_hinge_14 : decode cX5_hinge 14 = .ok (.ifnull 13, 3) := by decide +kernel
theorem dX5_hinge_17 : decode cX5_hinge 17 = .ok (.aload 4, 2) := by decide +kernel
theorem dX5_hinge_19 : decode cX5_hinge 19 = .ok (.ifnonnull 11, 3) := by decide +kernel
theorem dX5_hinge_22 : decode cX5_hinge 22 = .ok (.iload_n 2, 1) := by decide +kernel
theorem dX5_hinge_23 : decode cX5_hinge 23 = .ok (.iconst (-1), 1) := by decide +kernel
theorem dX5_hinge_24 : decode cX5_hinge 24 = .ok (.if_icmp .eq 6, 3) := by decide +kernel
theorem dX5_hinge_27 : decode cX5_hinge 27 = .ok (.bipush (-2), 2) := by decide +kernel
theorem dX5_hinge_29 : decode cX5_hinge 29 = .ok (.ireturn, 1) := by decide +kernel
theorem dX5_hinge_30 : decode cX5_hinge 30 = .ok (.aload_n 3, 1) := by decide +kernel
theorem dX5_hinge_31 : decode cX5_hinge 31 = .ok (.invokevirtual 56, 3) := by decide +kernel
theorem dX5_hinge_34 : decode cX5_hinge 34 = .ok (.istore 5, 2) := by decide +kernel
theorem dX5_hinge_36 : decode cX5_hinge 36 = .ok (.aload_n 3, 1) := by decide +kernel
theorem dX5_hinge_37 : decode cX5_hinge 37 = .ok (.aload 4, 2) := by decide +kernel
theorem dX5_hinge_39 : decode cX5_hinge 39 = .ok (.putfield 60, 3) := by decide +kernel
theorem dX5_hinge_42 : decode cX5_hinge 42 = .ok (.iload 5, 2) := by decide +kernel
theorem dX5_hinge_44 : decode cX5_hinge 44 = .ok (.ireturn, 1) := by decide +kernel
set_option maxRecDepth 20000 in
theorem ggX5_lay_X5_berthAt : GoodIn wsX5_lay wsX5_berthAt := goodIn_r _ [6, 7, 8, 26, 27, 28, 29, 30, 31, 32, 33, 34, 35] (by decide +kernel) (by decide +kernel)
set_option maxRecDepth 20000 in
theorem gX5_lay_X5_berthAt : GoodIn wsX5_lay (wsV RX5 48 RX5 yX5_berthAt wsX5_berthAt) := goodIn_app (goodIn_of _ (by decide +kernel)) ggX5_lay_X5_berthAt
set_option maxRecDepth 20000 in
theorem ggX5_lay_X5_rampAt : GoodIn wsX5_lay wsX5_rampAt := goodIn_r _ [12, 13, 14, 26, 27, 28, 29, 30, 31, 32, 33, 34, 35] (by decide +kernel) (by decide +kernel)
set_option maxRecDepth 20000 in
theorem gX5_lay_X5_rampAt : GoodIn wsX5_lay (wsV RX5 64 RX5 yX5_rampAt wsX5_rampAt) := goodIn_app (goodIn_of _ (by decide +kernel)) ggX5_lay_X5_rampAt
set_option maxRecDepth 20000 in
theorem ggX5_lay_X0_rampNumber : GoodIn wsX5_lay wsX0_rampNumber := goodIn_r _ [19, 20, 21, 22, 23, 24, 25, 36, 37, 38, 39] (by decide +kernel) (by decide +kernel)
set_option maxRecDepth 20000 in
theorem gX5_lay_X0_rampNumber : GoodIn wsX5_lay (wsV RX5 68 RX0 yX0_rampNumber wsX0_rampNumber) := goodIn_app (goodIn_of _ (by decide +kernel)) ggX5_lay_X0_rampNumber
theorem dX5_lay_0 : decode cX5_lay 0 = .ok (.aload_n 0, 1) := by decide +kernel
theorem dX5_lay_1 : decode cX5_lay 1 = .ok (.iload_n 1, 1) := by decide +kernel
theorem dX5_lay_2 : decode cX5_lay 2 = .ok (.invokevirtual 48, 3) := by decide +kernel
theorem dX5_lay_5 : decode cX5_lay 5 = .ok (.astore_n 3, 1) := by decide +kernel
theorem dX5_lay_6 : decode cX5_lay 6 = .ok (.aload_n 0, 1) := by decide +kernel
theorem dX5_lay_7 : decode cX5_lay 7 = .ok (.iload_n 2, 1) := by decide +kernel
theorem dX5_lay_8 : decode cX5_lay 8 = .ok (.invokevirtual 64, 3) := by decide +kernel
theorem dX5_lay_11 : decode cX5_lay 11 = .ok (.astore 4, 2) := by decide +kernel
theorem dX5_lay_13 : decode cX5_lay 13 = .ok (.aload_n 3, 1) := by decide +kernel
theorem dX5_lay_14 : decode cX5_lay 14 = .ok (.ifnull 13, 3) := by decide +kernel
theorem dX5_lay_17 : decode cX5_lay 17 = .ok (.aload 4, 2) := by decide +kernel
theorem dX5_lay_19 : decode cX5_lay 19 = .ok (.ifnonnull 11, 3) := by decide +kernel
theorem dX5_lay_22 : decode cX5_lay 22 = .ok (.iload_n 2, 1) := by decide +kernel
theorem dX5_lay_23 : decode cX5_lay 23 = .ok (.iconst (-1), 1) := by decide +kernel
theorem dX5_lay_24 : decode cX5_lay 24 = .ok (.if_icmp .eq 6, 3) := by decide +kernel
theorem dX5_lay_27 : decode cX5_lay 27 = .ok (.bipush (-2), 2) := by decide +kernel
theorem dX5_lay_29 : decode cX5_lay 29 = .ok (.ireturn, 1) := by decide +kernel
theorem dX5_lay_30 : decode cX5_lay 30 = .ok (.aload_n 3, 1) := by decide +kernel
theorem dX5_lay_31 : decode cX5_lay 31 = .ok (.invokevirtual 68, 3) := by decide +kernel
theorem dX5_lay_34 : decode cX5_lay 34 = .ok (.istore 5, 2) := by decide +kernel
theorem dX5_lay_36 : decode cX5_lay 36 = .ok (.aload_n 3, 1) := by decide +kernel
theorem dX5_lay_37 : decode cX5_lay 37 = .ok (.aload 4, 2) := by decide +kernel
theorem dX5_lay_39 : decode cX5_lay 39 = .ok (.putfield 71, 3) := by decide +kernel
theorem dX5_lay_42 : decode cX5_lay 42 = .ok (.iload 5, 2) := by decide +kernel
theorem dX5_lay_44 : decode cX5_lay 44 = .ok (.ireturn, 1) := by decide +kernel
set_option maxRecDepth 20000 in
theorem ggX5_shut_X5_gateAt : GoodIn wsX5_shut wsX5_gateAt := goodIn_r _ [6, 7, 8, 19, 20, 21, 22, 23, 24, 25, 26, 27, 28] (by decide +kernel) (by decide +kernel)
set_option maxRecDepth 20000 in
theorem gX5_shut_X5_gateAt : GoodIn wsX5_shut (wsV RX5 52 RX5 yX5_gateAt wsX5_gateAt) := goodIn_app (goodIn_of _ (by decide +kernel)) ggX5_shut_X5_gateAt
set_option maxRecDepth 20000 in
theorem ggX5_shut_X2_shutAsNumber : GoodIn wsX5_shut wsX2_shutAsNumber := goodIn_r _ [13, 14, 15, 16, 17, 18] (by decide +kernel) (by decide +kernel)
set_option maxRecDepth 20000 in
theorem gX5_shut_X2_shutAsNumber : GoodIn wsX5_shut (wsV RX5 75 RX2 yX2_shutAsNumber wsX2_shutAsNumber) := goodIn_app (goodIn_of _ (by decide +kernel)) ggX5_shut_X2_shutAsNumber
theorem dX5_shut_0 : decode cX5_shut 0 = .ok (.aload_n 0, 1) := by decide +kernel
theorem dX5_shut_1 : decode cX5_shut 1 = .ok (.iload_n 1, 1) := by decide +kernel
theorem dX5_shut_2 : decode cX5_shut 2 = .ok (.invokevirtual 52, 3) := by decide +kernel
theorem dX5_shut_5 : decode cX5_shut 5 = .ok (.astore_n 3, 1) := by decide +kernel
theorem dX5_shut_6 : decode cX5_shut 6 = .ok (.aload_n 3, 1) := by decide +kernel
theorem dX5_shut_7 : decode cX5_shut 7 = .ok (.ifnonnull 6, 3) := by decide +kernel
theorem dX5_shut_10 : decode cX5_shut 10 = .ok (.bipush (-2), 2) := by decide +kernel
theorem dX5_shut_12 : decode cX5_shut 12 = .ok (.ireturn, 1) := by decide +kernel
theorem dX5_shut_13 : decode cX5_shut 13 = .ok (.aload_n 3, 1) := by decide +kernel
theorem dX5_shut_14 : decode cX5_shut 14 = .ok (.invokevirtual 75, 3) := by decide +kernel
theorem dX5_shut_17 : decode cX5_shut 17 = .ok (.istore 4, 2) := by decide +kernel
theorem dX5_shut_19 : decode cX5_shut 19 = .ok (.aload_n 3, 1) := by decide +kernel
theorem dX5_shut_20 : decode cX5_shut 20 = .ok (.iload_n 2, 1) := by decide +kernel
theorem dX5_shut_21 : decode cX5_shut 21 = .ok (.putfield 78, 3) := by decide +kernel
theorem dX5_shut_24 : decode cX5_shut 24 = .ok (.iload 4, 2) := by decide +kernel
theorem dX5_shut_26 : decode cX5_shut 26 = .ok (.ireturn, 1) := by decide +kernel
set_option maxRecDepth 20000 in
theorem ggX5_arrive_X5_berthAt : GoodIn wsX5_arrive wsX5_berthAt := goodIn_r _ [8, 9, 10, 29, 30, 31, 32, 33, 34, 35, 36, 37, 38] (by decide +kernel) (by decide +kernel)
set_option maxRecDepth 20000 in
theorem gX5_arrive_X5_berthAt : GoodIn wsX5_arrive (wsV RX5 48 RX5 yX5_berthAt wsX5_berthAt) := goodIn_app (goodIn_of _ (by decide +kernel)) ggX5_arrive_X5_berthAt
set_option maxRecDepth 20000 in
theorem ggX5_arrive_X5_isWithin : GoodIn wsX5_arrive wsX5_isWithin := goodIn_r _ [13] (by decide +kernel) (by decide +kernel)
set_option maxRecDepth 20000 in
theorem gX5_arrive_X5_isWithin : GoodIn wsX5_arrive (va_wsS RX5 34 yX5_isWithin wsX5_isWithin) := goodIn_app (goodIn_of _ (by decide +kernel)) ggX5_arrive_X5_isWithin
set_option maxRecDepth 20000 in
theorem ggX5_arrive_X4_isFull : GoodIn wsX5_arrive wsX4_isFull := goodIn_r _ [18, 19, 20, 39, 40] (by decide +kernel) (by decide +kernel)
set_option maxRecDepth 20000 in
theorem gX5_arrive_X4_isFull : GoodIn wsX5_arrive (wsV RX5 86 RX4 yX4_isFull wsX4_isFull) := goodIn_app (goodIn_of _ (by decide +kernel)) ggX5_arrive_X4_isFull
set_option maxRecDepth 20000 in
theorem ggX5_arrive_X4_addLast : GoodIn wsX5_arrive wsX4_addLast := goodIn_r _ [24, 19, 20, 39, 40] (by decide +kernel) (by decide +kernel)
set_option maxRecDepth 20000 in
theorem gX5_arrive_X4_addLast : GoodIn wsX5_arrive (wsV RX5 92 RX4 yX4_addLast wsX4_addLast) := goodIn_app (goodIn_of _ (by decide +kernel)) ggX5_arrive_X4_addLast
theorem dX5_arrive_0 : decode cX5_arrive 0 = .ok (.aload_n 0, 1) := by decide +kernel
theorem dX5_arrive_1 : decode cX5_arrive 1 = .ok (.iload_n 1, 1) := by decide +kernel
theorem dX5_arrive_2 : decode cX5_arrive 2 = .ok (.invokevirtual 48, 3) := by decide +kernel
theorem dX5_arrive_5 : decode cX5_arrive 5 = .ok (.astore_n 3, 1) := by decide +kernel
theorem dX5_arrive_6 : decode cX5_arrive 6 = .ok (.aload_n 3, 1) := by decide +kernel
theorem dX5_arrive_7 : decode cX5_arrive 7 = .ok (.ifnull 14, 3) := by decide +kernel
theorem dX5_arrive_10 : decode cX5_arrive 10 = .ok (.iload_n 2, 1) := by decide +kernel
theorem dX5_arrive_11 : decode cX5_arrive 11 = .ok (.iconst 0, 1) := by decide +kernel
theorem dX5_arrive_12 : decode cX5_arrive 12 = .ok (.sipush 2000, 3) := by decide +kernel
theorem dX5_arrive_15 : decode cX5_arrive 15 = .ok (.invokestatic 34, 3) := by decide +kernel
theorem dX5_arrive_18 : decode cX5_arrive 18 = .ok (.ifCond .ne 6, 3) := by decide +kernel
theorem dX5_arrive_21 : decode cX5_arrive 21 = .ok (.bipush (-2), 2) := by decide +kernel
theorem dX5_arrive_23 : decode cX5_arrive 23 = .ok (.ireturn, 1) := by decide +kernel
theorem dX5_arrive_24 : decode cX5_arrive 24 = .ok (.aload_n 3, 1) := by decide +kernel
theorem dX5_arrive_25 : decode cX5_arrive 25 = .ok (.getfield 82, 3) := by decide +kernel
theorem dX5_arrive_28 : decode cX5_arrive 28 = .ok (.invokevirtual 86, 3) := by decide +kernel
theorem dX5_arrive_31 : decode cX5_arrive 31 = .ok (.ifCond .eq 6, 3) := by decide +kernel
theorem dX5_arrive_34 : decode cX5_arrive 34 = .ok (.bipush (-3), 2) := by decide +kernel
theorem dX5_arrive_36 : decode cX5_arrive 36 = .ok (.ireturn, 1) := by decide +kernel
theorem dX5_arrive_37 : decode cX5_arrive 37 = .ok (.aload_n 3, 1) := by decide +kernel
theorem dX5_arrive_38 : decode cX5_arrive 38 = .ok (.getfield 82, 3) := by decide +kernel
theorem dX5_arrive_41 : decode cX5_arrive 41 = .ok (.iload_n 2, 1) := by decide +kernel
theorem dX5_arrive_42 : decode cX5_arrive 42 = .ok (.invokevirtual 92, 3) := by decide +kernel
theorem dX5_arrive_45 : decode cX5_arrive 45 = .ok (.aload_n 0, 1) := by decide +kernel
theorem dX5_arrive_46 : decode cX5_arrive 46 = .ok (.dup, 1) := by decide +kernel
theorem dX5_arrive_47 : decode cX5_arrive 47 = .ok (.getfield 95, 3) := by decide +kernel
theorem dX5_arrive_50 : decode cX5_arrive 50 = .ok (.iconst 1, 1) := by decide +kernel
theorem dX5_arrive_51 : decode cX5_arrive 51 = .ok (.iadd, 1) := by decide +kernel
theorem dX5_arrive_52 : decode cX5_arrive 52 = .ok (.putfield 95, 3) := by decide +kernel
theorem dX5_arrive_55 : decode cX5_arrive 55 = .ok (.aload_n 3, 1) := by decide +kernel
theorem dX5_arrive_56 : decode cX5_arrive 56 = .ok (.getfield 82, 3) := by decide +kernel
theorem dX5_arrive_59 : decode cX5_arrive 59 = .ok (.getfield 98, 3) := by decide +kernel
theorem dX5_arrive_62 : decode cX5_arrive 62 = .ok (.ireturn, 1) := by decide +kernel
set_option maxRecDepth 20000 in
theorem ggX5_board_X5_berthAt : GoodIn wsX5_board wsX5_berthAt := goodIn_r _ [8, 9, 10, 76, 77, 78, 79, 80, 81, 82, 83, 84, 85] (by decide +kernel) (by decide +kernel)
set_option maxRecDepth 20000 in
theorem gX5_board_X5_berthAt : GoodIn wsX5_board (wsV RX5 48 RX5 yX5_berthAt wsX5_berthAt) := goodIn_app (goodIn_of _ (by decide +kernel)) ggX5_board_X5_berthAt
set_option maxRecDepth 20000 in
theorem ggX5_board_X5_isWithin : GoodIn wsX5_board wsX5_isWithin := goodIn_r _ [13] (by decide +kernel) (by decide +kernel)
set_option maxRecDepth 20000 in
theorem gX5_board_X5_isWithin : GoodIn wsX5_board (va_wsS RX5 34 yX5_isWithin wsX5_isWithin) := goodIn_app (goodIn_of _ (by decide +kernel)) ggX5_board_X5_isWithin
set_option maxRecDepth 20000 in
theorem ggX5_board_X5_boardThrough : GoodIn wsX5_board wsX5_boardThrough := goodIn_r _ [17, 18, 19, 20, 21, 22, 23, 24, 25, 26, 27, 28, 29, 30, 31, 32, 33, 34, 35, 36, 37, 38, 39, 40, 41, 42, 43, 44, 7, 45, 46, 47, 48, 49, 50, 51, 52, 53, 54, 55, 56, 57, 58, 59, 60, 61, 62, 63, 64, 65, 66, 67, 68, 69, 70, 71, 86, 87, 88, 89, 90, 91, 76, 77, 78, 79, 80, 81, 82, 83, 84, 85, 72, 73, 74, 75, 92, 93, 94] (by decide +kernel) (by decide +kernel)
set_option maxRecDepth 20000 in
theorem gX5_board_X5_boardThrough : GoodIn wsX5_board (wsV RX5 104 RX5 yX5_boardThrough wsX5_boardThrough) := goodIn_app (goodIn_of _ (by decide +kernel)) ggX5_board_X5_boardThrough
theorem dX5_board_0 : decode cX5_board 0 = .ok (.aload_n 0, 1) := by decide +kernel
theorem dX5_board_1 : decode cX5_board 1 = .ok (.iload_n 1, 1) := by decide +kernel
theorem dX5_board_2 : decode cX5_board 2 = .ok (.invokevirtual 48, 3) := by decide +kernel
theorem dX5_board_5 : decode cX5_board 5 = .ok (.astore_n 3, 1) := by decide +kernel
theorem dX5_board_6 : decode cX5_board 6 = .ok (.aload_n 3, 1) := by decide +kernel
theorem dX5_board_7 : decode cX5_board 7 = .ok (.ifnull 13, 3) := by decide +kernel
theorem dX5_board_10 : decode cX5_board 10 = .ok (.iload_n 2, 1) := by decide +kernel
theorem dX5_board_11 : decode cX5_board 11 = .ok (.iconst 1, 1) := by decide +kernel
theorem dX5_board_12 : decode cX5_board 12 = .ok (.bipush 30, 2) := by decide +kernel
theorem dX5_board_14 : decode cX5_board 14 = .ok (.invokestatic 34, 3) := by decide +kernel
theorem dX5_board_17 : decode cX5_board 17 = .ok (.ifCond .ne 6, 3) := by decide +kernel
theorem dX5_board_20 : decode cX5_board 20 = .ok (.bipush (-2), 2) := by decide +kernel
theorem dX5_board_22 : decode cX5_board 22 = .ok (.ireturn, 1) := by decide +kernel
theorem dX5_board_23 : decode cX5_board 23 = .ok (.aload_n 3, 1) := by decide +kernel
theorem dX5_board_24 : decode cX5_board 24 = .ok (.getfield 60, 3) := by decide +kernel
theorem dX5_board_27 : decode cX5_board 27 = .ok (.astore 4, 2) := by decide +kernel
theorem dX5_board_29 : decode cX5_board 29 = .ok (.aload 4, 2) := by decide +kernel
theorem dX5_board_31 : decode cX5_board 31 = .ok (.ifnonnull 6, 3) := by decide +kernel
theorem dX5_board_34 : decode cX5_board 34 = .ok (.bipush (-4), 2) := by decide +kernel
theorem dX5_board_36 : decode cX5_board 36 = .ok (.ireturn, 1) := by decide +kernel
theorem dX5_board_37 : decode cX5_board 37 = .ok (.aload 4, 2) := by decide +kernel
theorem dX5_board_39 : decode cX5_board 39 = .ok (.dup, 1) := by decide +kernel
theorem dX5_board_40 : decode cX5_board 40 = .ok (.getfield 101, 3) := by decide +kernel
theorem dX5_board_43 : decode cX5_board 43 = .ok (.iconst 1, 1) := by decide +kernel
theorem dX5_board_44 : decode cX5_board 44 = .ok (.iadd, 1) := by decide +kernel
theorem dX5_board_45 : decode cX5_board 45 = .ok (.putfield 101, 3) := by decide +kernel
theorem dX5_board_48 : decode cX5_board 48 = .ok (.aload 4, 2) := by decide +kernel
theorem dX5_board_50 : decode cX5_board 50 = .ok (.getfield 78, 3) := by decide +kernel
theorem dX5_board_53 : decode cX5_board 53 = .ok (.ifCond .eq 6, 3) := by decide +kernel
theorem dX5_board_56 : decode cX5_board 56 = .ok (.bipush (-5), 2) := by decide +kernel
theorem dX5_board_58 : decode cX5_board 58 = .ok (.ireturn, 1) := by decide +kernel
theorem dX5_board_59 : decode cX5_board 59 = .ok (.aload_n 0, 1) := by decide +kernel
theorem dX5_board_60 : decode cX5_board 60 = .ok (.aload 4, 2) := by decide +kernel
theorem dX5_board_62 : decode cX5_board 62 = .ok (.aload_n 3, 1) := by decide +kernel
theorem dX5_board_63 : decode cX5_board 63 = .ok (.iload_n 2, 1) := by decide +kernel
theorem dX5_board_64 : decode cX5_board 64 = .ok (.invokevirtual 104, 3) := by decide +kernel
theorem dX5_board_67 : decode cX5_board 67 = .ok (.ireturn, 1) := by decide +kernel
set_option maxRecDepth 20000 in
theorem ggX5_boardThrough_X4_weightAt : GoodIn wsX5_boardThrough wsX4_weightAt := goodIn_r _ [14, 15, 16, 56, 57] (by decide +kernel) (by decide +kernel)
set_option maxRecDepth 20000 in
theorem gX5_boardThrough_X4_weightAt : GoodIn wsX5_boardThrough (wsV RX5 109 RX4 yX4_weightAt wsX4_weightAt) := goodIn_app (goodIn_of _ (by decide +kernel)) ggX5_boardThrough_X4_weightAt
set_option maxRecDepth 20000 in
theorem ggX5_boardThrough_X4_removeFirst : GoodIn wsX5_boardThrough wsX4_removeFirst := goodIn_r _ [20, 15, 16, 21, 22, 23, 24, 56, 57] (by decide +kernel) (by decide +kernel)
set_option maxRecDepth 20000 in
theorem gX5_boardThrough_X4_removeFirst : GoodIn wsX5_boardThrough (wsV RX5 113 RX4 yX4_removeFirst wsX4_removeFirst) := goodIn_app (goodIn_of _ (by decide +kernel)) ggX5_boardThrough_X4_removeFirst
set_option maxRecDepth 20000 in
theorem ggX5_boardThrough_X5_alarm : GoodIn wsX5_boardThrough wsX5_alarm := goodIn_r _ [29, 30, 62, 63, 64, 65, 66, 67, 68, 69, 70, 71] (by decide +kernel) (by decide +kernel)
set_option maxRecDepth 20000 in
theorem gX5_boardThrough_X5_alarm : GoodIn wsX5_boardThrough (wsV RX5 119 RX5 yX5_alarm wsX5_alarm) := goodIn_app (goodIn_of _ (by decide +kernel)) ggX5_boardThrough_X5_alarm
set_option maxRecDepth 20000 in
theorem ggX5_boardThrough_X4_addLast : GoodIn wsX5_boardThrough wsX4_addLast := goodIn_r _ [34, 15, 16, 56, 57] (by decide +kernel) (by decide +kernel)
set_option maxRecDepth 20000 in
theorem gX5_boardThrough_X4_addLast : GoodIn wsX5_boardThrough (wsV RX5 92 RX4 yX4_addLast wsX4_addLast) := goodIn_app (goodIn_of _ (by decide +kernel)) ggX5_boardThrough_X4_addLast
set_option maxRecDepth 20000 in
theorem ggX5_boardThrough_X1_hasRoomFor : GoodIn wsX5_boardThrough wsX1_hasRoomFor := goodIn_r _ [39, 40, 41, 42, 43, 44, 45, 13, 46, 15, 16, 76, 77, 78, 56, 57] (by decide +kernel) (by decide +kernel)
set_option maxRecDepth 20000 in
theorem gX5_boardThrough_X1_hasRoomFor : GoodIn wsX5_boardThrough (wsV RX5 129 RX1 yX1_hasRoomFor wsX1_hasRoomFor) := goodIn_app (goodIn_of _ (by decide +kernel)) ggX5_boardThrough_X1_hasRoomFor
set_option maxRecDepth 20000 in
theorem ggX5_boardThrough_X1_takeAboard : GoodIn wsX5_boardThrough wsX1_takeAboard := goodIn_r _ [50, 40, 41, 51, 32, 33, 13, 34, 15, 16, 76, 77, 78, 56, 57] (by decide +kernel) (by decide +kernel)
set_option maxRecDepth 20000 in
theorem gX5_boardThrough_X1_takeAboard : GoodIn wsX5_boardThrough (wsV RX5 135 RX1 yX1_takeAboard wsX1_takeAboard) := goodIn_app (goodIn_of _ (by decide +kernel)) ggX5_boardThrough_X1_takeAboard
theorem dX5_boardThrough_0 : decode cX5_boardThrough 0 = .ok (.aload_n 2, 1) := by decide +kernel
theorem dX5_boardThrough_1 : decode cX5_boardThrough 1 = .ok (.getfield 82, 3) := by decide +kernel
theorem dX5_boardThrough_4 : decode cX5_boardThrough 4 = .ok (.astore 4, 2) := by decide +kernel
theorem dX5_boardThrough_6 : decode cX5_boardThrough 6 = .ok (.aload_n 2, 1) := by decide +kernel
theorem dX5_boardThrough_7 : decode cX5_boardThrough 7 = .ok (.getfield 71, 3) := by decide +kernel
theorem dX5_boardThrough_10 : decode cX5_boardThrough 10 = .ok (.astore 5, 2) := by decide +kernel
theorem dX5_boardThrough_12 : decode cX5_boardThrough 12 = .ok (.aload 4, 2) := by decide +kernel
theorem dX5_boardThrough_14 : decode cX5_boardThrough 14 = .ok (.getfield 98, 3) := by decide +kernel
theorem dX5_boardThrough_17 : decode cX5_boardThrough 17 = .ok (.istore 6, 2) := by decide +kernel
theorem dX5_boardThrough_19 : decode cX5_boardThrough 19 = .ok (.iconst 0, 1) := by decide +kernel
theorem dX5_boardThrough_20 : decode cX5_boardThrough 20 = .ok (.istore 7, 2) := by decide +kernel
theorem dX5_boardThrough_22 : decode cX5_boardThrough 22 = .ok (.iconst 0, 1) := by decide +kernel
theorem dX5_boardThrough_23 : decode cX5_boardThrough 23 = .ok (.istore 8, 2) := by decide +kernel
theorem dX5_boardThrough_25 : decode cX5_boardThrough 25 = .ok (.iload 8, 2) := by decide +kernel
theorem dX5_boardThrough_27 : decode cX5_boardThrough 27 = .ok (.iload 6, 2) := by decide +kernel
theorem dX5_boardThrough_29 : decode cX5_boardThrough 29 = .ok (.if_icmp .ge 151, 3) := by decide +kernel
theorem dX5_boardThrough_32 : decode cX5_boardThrough 32 = .ok (.aload 5, 2) := by decide +kernel
theorem dX5_boardThrough_34 : decode cX5_boardThrough 34 = .ok (.ifnonnull 6, 3) := by decide +kernel
theorem dX5_boardThrough_37 : decode cX5_boardThrough 37 = .ok (.bipush (-4), 2) := by decide +kernel
theorem dX5_boardThrough_39 : decode cX5_boardThrough 39 = .ok (.ireturn, 1) := by decide +kernel
theorem dX5_boardThrough_40 : decode cX5_boardThrough 40 = .ok (.aload 5, 2) := by decide +kernel
theorem dX5_boardThrough_42 : decode cX5_boardThrough 42 = .ok (.dup, 1) := by decide +kernel
theorem dX5_boardThrough_43 : decode cX5_boardThrough 43 = .ok (.getfield 108, 3) := by decide +kernel
theorem dX5_boardThrough_46 : decode cX5_boardThrough 46 = .ok (.iconst 1, 1) := by decide +kernel
theorem dX5_boardThrough_47 : decode cX5_boardThrough 47 = .ok (.iadd, 1) := by decide +kernel
theorem dX5_boardThrough_48 : decode cX5_boardThrough 48 = .ok (.putfield 108, 3) := by decide +kernel
theorem dX5_boardThrough_51 : decode cX5_boardThrough 51 = .ok (.aload 4, 2) := by decide +kernel
theorem dX5_boardThrough_53 : decode cX5_boardThrough 53 = .ok (.iconst 0, 1) := by decide +kernel
theorem dX5_boardThrough_54 : decode cX5_boardThrough 54 = .ok (.invokevirtual 109, 3) := by decide +kernel
theorem dX5_boardThrough_57 : decode cX5_boardThrough 57 = .ok (.istore 9, 2) := by decide +kernel
theorem dX5_boardThrough_59 : decode cX5_boardThrough 59 = .ok (.iload 9, 2) := by decide +kernel
theorem dX5_boardThrough_61 : decode cX5_boardThrough 61 = .ok (.ifCond .ne 25, 3) := by decide +kernel
theorem dX5_boardThrough_64 : decode cX5_boardThrough 64 = .ok (.aload 4, 2) := by decide +kernel
theorem dX5_boardThrough_66 : decode cX5_boardThrough 66 = .ok (.invokevirtual 113, 3) := by decide +kernel
theorem dX5_boardThrough_69 : decode cX5_boardThrough 69 = .ok (.aload_n 0, 1) := by decide +kernel
theorem dX5_boardThrough_70 : decode cX5_boardThrough 70 = .ok (.dup, 1) := by decide +kernel
theorem dX5_boardThrough_71 : decode cX5_boardThrough 71 = .ok (.getfield 116, 3) := by decide +kernel
theorem dX5_boardThrough_74 : decode cX5_boardThrough 74 = .ok (.iconst 1, 1) := by decide +kernel
theorem dX5_boardThrough_75 : decode cX5_boardThrough 75 = .ok (.iadd, 1) := by decide +kernel
theorem dX5_boardThrough_76 : decode cX5_boardThrough 76 = .ok (.putfield 116, 3) := by decide +kernel
theorem dX5_boardThrough_79 : decode cX5_boardThrough 79 = .ok (.aload_n 0, 1) := by decide +kernel
theorem dX5_boardThrough_80 : decode cX5_boardThrough 80 = .ok (.bipush (-6), 2) := by decide +kernel
theorem dX5_boardThrough_82 : decode cX5_boardThrough 82 = .ok (.invokevirtual 119, 3) := by decide +kernel
theorem dX5_boardThrough_85 : decode cX5_boardThrough 85 = .ok (.ireturn, 1) := by decide +kernel
theorem dX5_boardThrough_86 : decode cX5_boardThrough 86 = .ok (.iload 9, 2) := by decide +kernel
theorem dX5_boardThrough_88 : decode cX5_boardThrough 88 = .ok (.aload 5, 2) := by decide +kernel
theorem dX5_boardThrough_90 : decode cX5_boardThrough 90 = .ok (.getfield 122, 3) := by decide +kernel
theorem dX5_boardThrough_93 : decode cX5_boardThrough 93 = .ok (.if_icmp .le 18, 3) := by decide +kernel
theorem dX5_boardThrough_96 : decode cX5_boardThrough 96 = .ok (.aload 4, 2) := by decide +kernel
theorem dX5_boardThrough_98 : decode cX5_boardThrough 98 = .ok (.invokevirtual 113, 3) := by decide +kernel
theorem dX5_boardThrough_101 : decode cX5_boardThrough 101 = .ok (.aload 4, 2) := by decide +kernel
theorem dX5_boardThrough_103 : decode cX5_boardThrough 103 = .ok (.iload 9, 2) := by decide +kernel
theorem dX5_boardThrough_105 : decode cX5_boardThrough 105 = .ok (.invokevirtual 92, 3) := by decide +kernel
theorem dX5_boardThrough_108 : decode cX5_boardThrough 108 = .ok (.goto 66, 3) := by decide +kernel
theorem dX5_boardThrough_111 : decode cX5_boardThrough 111 = .ok (.aload_n 2, 1) := by decide +kernel
theorem dX5_boardThrough_112 : decode cX5_boardThrough 112 = .ok (.getfield 125, 3) := by decide +kernel
theorem dX5_boardThrough_115 : decode cX5_boardThrough 115 = .ok (.iload 9, 2) := by decide +kernel
theorem dX5_boardThrough_117 : decode cX5_boardThrough 117 = .ok (.invokevirtual 129, 3) := by decide +kernel
theorem dX5_boardThrough_120 : decode cX5_boardThrough 120 = .ok (.ifCond .ne 6, 3) := by decide +kernel
theorem dX5_boardThrough_123 : decode cX5_boardThrough 123 = .ok (.iload 7, 2) := by decide +kernel
theorem dX5_boardThrough_125 : decode cX5_boardThrough 125 = .ok (.ireturn, 1) := by decide +kernel
theorem dX5_boardThrough_126 : decode cX5_boardThrough 126 = .ok (.aload 4, 2) := by decide +kernel
theorem dX5_boardThrough_128 : decode cX5_boardThrough 128 = .ok (.invokevirtual 113, 3) := by decide +kernel
theorem dX5_boardThrough_131 : decode cX5_boardThrough 131 = .ok (.aload_n 2, 1) := by decide +kernel
theorem dX5_boardThrough_132 : decode cX5_boardThrough 132 = .ok (.getfield 125, 3) := by decide +kernel
theorem dX5_boardThrough_135 : decode cX5_boardThrough 135 = .ok (.iload 9, 2) := by decide +kernel
theorem dX5_boardThrough_137 : decode cX5_boardThrough 137 = .ok (.invokevirtual 135, 3) := by decide +kernel
theorem dX5_boardThrough_140 : decode cX5_boardThrough 140 = .ok (.aload_n 1, 1) := by decide +kernel
theorem dX5_boardThrough_141 : decode cX5_boardThrough 141 = .ok (.dup, 1) := by decide +kernel
theorem dX5_boardThrough_142 : decode cX5_boardThrough 142 = .ok (.getfield 138, 3) := by decide +kernel
theorem dX5_boardThrough_145 : decode cX5_boardThrough 145 = .ok (.iconst 1, 1) := by decide +kernel
theorem dX5_boardThrough_146 : decode cX5_boardThrough 146 = .ok (.iadd, 1) := by decide +kernel
theorem dX5_boardThrough_147 : decode cX5_boardThrough 147 = .ok (.putfield 138, 3) := by decide +kernel
theorem dX5_boardThrough_150 : decode cX5_boardThrough 150 = .ok (.aload 5, 2) := by decide +kernel
theorem dX5_boardThrough_152 : decode cX5_boardThrough 152 = .ok (.dup, 1) := by decide +kernel
theorem dX5_boardThrough_153 : decode cX5_boardThrough 153 = .ok (.getfield 141, 3) := by decide +kernel
theorem dX5_boardThrough_156 : decode cX5_boardThrough 156 = .ok (.iload 9, 2) := by decide +kernel
theorem dX5_boardThrough_158 : decode cX5_boardThrough 158 = .ok (.iadd, 1) := by decide +kernel
theorem dX5_boardThrough_159 : decode cX5_boardThrough 159 = .ok (.putfield 141, 3) := by decide +kernel
theorem dX5_boardThrough_162 : decode cX5_boardThrough 162 = .ok (.iinc 7 1, 3) := by decide +kernel
theorem dX5_boardThrough_165 : decode cX5_boardThrough 165 = .ok (.iload 7, 2) := by decide +kernel
theorem dX5_boardThrough_167 : decode cX5_boardThrough 167 = .ok (.iload_n 3, 1) := by decide +kernel
theorem dX5_boardThrough_168 : decode cX5_boardThrough 168 = .ok (.if_icmp .ne 6, 3) := by decide +kernel
theorem dX5_boardThrough_171 : decode cX5_boardThrough 171 = .ok (.iload 7, 2) := by decide +kernel
theorem dX5_boardThrough_173 : decode cX5_boardThrough 173 = .ok (.ireturn, 1) := by decide +kernel
theorem dX5_boardThrough_174 : decode cX5_boardThrough 174 = .ok (.iinc 8 1, 3) := by decide +kernel
theorem dX5_boardThrough_177 : decode cX5_boardThrough 177 = .ok (.goto (-152), 3) := by decide +kernel
theorem dX5_boardThrough_180 : decode cX5_boardThrough 180 = .ok (.iload 7, 2) := by decide +kernel
theorem dX5_boardThrough_182 : decode cX5_boardThrough 182 = .ok (.ireturn, 1) := by decide +kernel
set_option maxRecDepth 20000 in
theorem ggX5_land_X5_berthAt : GoodIn wsX5_land wsX5_berthAt := goodIn_r _ [7, 8, 9, 64, 65, 66, 67, 68, 69, 70, 71, 72, 73] (by decide +kernel) (by decide +kernel)
set_option maxRecDepth 20000 in
theorem gX5_land_X5_berthAt : GoodIn wsX5_land (wsV RX5 48 RX5 yX5_berthAt wsX5_berthAt) := goodIn_app (goodIn_of _ (by decide +kernel)) ggX5_land_X5_berthAt
set_option maxRecDepth 20000 in
theorem ggX5_land_X5_isWithin : GoodIn wsX5_land wsX5_isWithin := goodIn_r _ [12] (by decide +kernel) (by decide +kernel)
set_option maxRecDepth 20000 in
theorem gX5_land_X5_isWithin : GoodIn wsX5_land (va_wsS RX5 34 yX5_isWithin wsX5_isWithin) := goodIn_app (goodIn_of _ (by decide +kernel)) ggX5_land_X5_isWithin
set_option maxRecDepth 20000 in
theorem ggX5_land_X5_landOver : GoodIn wsX5_land wsX5_landOver := goodIn_r _ [16, 17, 18, 19, 20, 21, 22, 23, 24, 25, 26, 27, 28, 29, 30, 31, 32, 33, 34, 35, 36, 37, 38, 39, 40, 41, 42, 43, 6, 44, 45, 46, 47, 48, 49, 50, 51, 52, 53, 54, 55, 56, 57, 58, 59, 74, 75, 76, 77, 78, 79, 80, 81, 82, 60, 61, 62, 63, 64, 65, 66, 67, 68, 69, 70, 71, 72, 73] (by decide +kernel) (by decide +kernel)
set_option maxRecDepth 20000 in
theorem gX5_land_X5_landOver : GoodIn wsX5_land (wsV RX5 144 RX5 yX5_landOver wsX5_landOver) := goodIn_app (goodIn_of _ (by decide +kernel)) ggX5_land_X5_landOver
theorem dX5_land_0 : decode cX5_land 0 = .ok (.aload_n 0, 1) := by decide +kernel
theorem dX5_land_1 : decode cX5_land 1 = .ok (.iload_n 1, 1) := by decide +kernel
theorem dX5_land_2 : decode cX5_land 2 = .ok (.invokevirtual 48, 3) := by decide +kernel
theorem dX5_land_5 : decode cX5_land 5 = .ok (.astore_n 3, 1) := by decide +kernel
theorem dX5_land_6 : decode cX5_land 6 = .ok (.aload_n 3, 1) := by decide +kernel
theorem dX5_land_7 : decode cX5_land 7 = .ok (.ifnull 13, 3) := by decide +kernel
theorem dX5_land_10 : decode cX5_land 10 = .ok (.iload_n 2, 1) := by decide +kernel
theorem dX5_land_11 : decode cX5_land 11 = .ok (.iconst 1, 1) := by decide +kernel
theorem dX5_land_12 : decode cX5_land 12 = .ok (.bipush 40, 2) := by decide +kernel
theorem dX5_land_14 : decode cX5_land 14 = .ok (.invokestatic 34, 3) := by decide +kernel
theorem dX5_land_17 : decode cX5_land 17 = .ok (.ifCond .ne 6, 3) := by decide +kernel
theorem dX5_land_20 : decode cX5_land 20 = .ok (.bipush (-2), 2) := by decide +kernel
theorem dX5_land_22 : decode cX5_land 22 = .ok (.ireturn, 1) := by decide +kernel
theorem dX5_land_23 : decode cX5_land 23 = .ok (.aload_n 3, 1) := by decide +kernel
theorem dX5_land_24 : decode cX5_land 24 = .ok (.getfield 71, 3) := by decide +kernel
theorem dX5_land_27 : decode cX5_land 27 = .ok (.astore 4, 2) := by decide +kernel
theorem dX5_land_29 : decode cX5_land 29 = .ok (.aload 4, 2) := by decide +kernel
theorem dX5_land_31 : decode cX5_land 31 = .ok (.ifnonnull 6, 3) := by decide +kernel
theorem dX5_land_34 : decode cX5_land 34 = .ok (.bipush (-4), 2) := by decide +kernel
theorem dX5_land_36 : decode cX5_land 36 = .ok (.ireturn, 1) := by decide +kernel
theorem dX5_land_37 : decode cX5_land 37 = .ok (.aload 4, 2) := by decide +kernel
theorem dX5_land_39 : decode cX5_land 39 = .ok (.dup, 1) := by decide +kernel
theorem dX5_land_40 : decode cX5_land 40 = .ok (.getfield 108, 3) := by decide +kernel
theorem dX5_land_43 : decode cX5_land 43 = .ok (.iconst 1, 1) := by decide +kernel
theorem dX5_land_44 : decode cX5_land 44 = .ok (.iadd, 1) := by decide +kernel
theorem dX5_land_45 : decode cX5_land 45 = .ok (.putfield 108, 3) := by decide +kernel
theorem dX5_land_48 : decode cX5_land 48 = .ok (.aload_n 0, 1) := by decide +kernel
theorem dX5_land_49 : decode cX5_land 49 = .ok (.aload 4, 2) := by decide +kernel
theorem dX5_land_51 : decode cX5_land 51 = .ok (.aload_n 3, 1) := by decide +kernel
theorem dX5_land_52 : decode cX5_land 52 = .ok (.iload_n 2, 1) := by decide +kernel
theorem dX5_land_53 : decode cX5_land 53 = .ok (.invokevirtual 144, 3) := by decide +kernel
theorem dX5_land_56 : decode cX5_land 56 = .ok (.ireturn, 1) := by decide +kernel
set_option maxRecDepth 20000 in
theorem ggX5_landOver_X1_weightOfLast : GoodIn wsX5_landOver wsX1_weightOfLast := goodIn_r _ [15, 16, 17, 18, 19, 20, 21, 22, 23, 24, 45, 46, 47, 48, 49] (by decide +kernel) (by decide +kernel)
set_option maxRecDepth 20000 in
theorem gX5_landOver_X1_weightOfLast : GoodIn wsX5_landOver (wsV RX5 151 RX1 yX1_weightOfLast wsX1_weightOfLast) := goodIn_app (goodIn_of _ (by decide +kernel)) ggX5_landOver_X1_weightOfLast
set_option maxRecDepth 20000 in
theorem ggX5_landOver_X5_alarm : GoodIn wsX5_landOver wsX5_alarm := goodIn_r _ [29, 30, 58, 59, 60, 61, 62, 63, 64, 65, 66, 67] (by decide +kernel) (by decide +kernel)
set_option maxRecDepth 20000 in
theorem gX5_landOver_X5_alarm : GoodIn wsX5_landOver (wsV RX5 119 RX5 yX5_alarm wsX5_alarm) := goodIn_app (goodIn_of _ (by decide +kernel)) ggX5_landOver_X5_alarm
set_option maxRecDepth 20000 in
theorem ggX5_landOver_X1_putLastAshore : GoodIn wsX5_landOver wsX1_putLastAshore := goodIn_r _ [34, 16, 17, 35, 36, 12, 13, 14, 15, 18, 19, 20, 21, 22, 23, 24, 37, 38, 39, 40, 45, 46, 47, 48, 49] (by decide +kernel) (by decide +kernel)
set_option maxRecDepth 20000 in
theorem gX5_landOver_X1_putLastAshore : GoodIn wsX5_landOver (wsV RX5 154 RX1 yX1_putLastAshore wsX1_putLastAshore) := goodIn_app (goodIn_of _ (by decide +kernel)) ggX5_landOver_X1_putLastAshore
theorem dX5_landOver_0 : decode cX5_landOver 0 = .ok (.aload_n 2, 1) := by decide +kernel
theorem dX5_landOver_1 : decode cX5_landOver 1 = .ok (.getfield 125, 3) := by decide +kernel
theorem dX5_landOver_4 : decode cX5_landOver 4 = .ok (.astore 4, 2) := by decide +kernel
theorem dX5_landOver_6 : decode cX5_landOver 6 = .ok (.aload_n 2, 1) := by decide +kernel
theorem dX5_landOver_7 : decode cX5_landOver 7 = .ok (.getfield 60, 3) := by decide +kernel
theorem dX5_landOver_10 : decode cX5_landOver 10 = .ok (.astore 5, 2) := by decide +kernel
theorem dX5_landOver_12 : decode cX5_landOver 12 = .ok (.iconst 0, 1) := by decide +kernel
theorem dX5_landOver_13 : decode cX5_landOver 13 = .ok (.istore 6, 2) := by decide +kernel
theorem dX5_landOver_15 : decode cX5_landOver 15 = .ok (.iload 6, 2) := by decide +kernel
theorem dX5_landOver_17 : decode cX5_landOver 17 = .ok (.iload_n 3, 1) := by decide +kernel
theorem dX5_landOver_18 : decode cX5_landOver 18 = .ok (.if_icmp .ge 126, 3) := by decide +kernel
theorem dX5_landOver_21 : decode cX5_landOver 21 = .ok (.aload 4, 2) := by decide +kernel
theorem dX5_landOver_23 : decode cX5_landOver 23 = .ok (.getfield 148, 3) := by decide +kernel
theorem dX5_landOver_26 : decode cX5_landOver 26 = .ok (.getfield 98, 3) := by decide +kernel
theorem dX5_landOver_29 : decode cX5_landOver 29 = .ok (.ifCond .le 115, 3) := by decide +kernel
theorem dX5_landOver_32 : decode cX5_landOver 32 = .ok (.aload 5, 2) := by decide +kernel
theorem dX5_landOver_34 : decode cX5_landOver 34 = .ok (.ifnonnull 6, 3) := by decide +kernel
theorem dX5_landOver_37 : decode cX5_landOver 37 = .ok (.bipush (-4), 2) := by decide +kernel
theorem dX5_landOver_39 : decode cX5_landOver 39 = .ok (.ireturn, 1) := by decide +kernel
theorem dX5_landOver_40 : decode cX5_landOver 40 = .ok (.aload 5, 2) := by decide +kernel
theorem dX5_landOver_42 : decode cX5_landOver 42 = .ok (.dup, 1) := by decide +kernel
theorem dX5_landOver_43 : decode cX5_landOver 43 = .ok (.getfield 101, 3) := by decide +kernel
theorem dX5_landOver_46 : decode cX5_landOver 46 = .ok (.iconst 1, 1) := by decide +kernel
theorem dX5_landOver_47 : decode cX5_landOver 47 = .ok (.iadd, 1) := by decide +kernel
theorem dX5_landOver_48 : decode cX5_landOver 48 = .ok (.putfield 101, 3) := by decide +kernel
theorem dX5_landOver_51 : decode cX5_landOver 51 = .ok (.aload 5, 2) := by decide +kernel
theorem dX5_landOver_53 : decode cX5_landOver 53 = .ok (.getfield 78, 3) := by decide +kernel
theorem dX5_landOver_56 : decode cX5_landOver 56 = .ok (.ifCond .eq 6, 3) := by decide +kernel
theorem dX5_landOver_59 : decode cX5_landOver 59 = .ok (.iload 6, 2) := by decide +kernel
theorem dX5_landOver_61 : decode cX5_landOver 61 = .ok (.ireturn, 1) := by decide +kernel
theorem dX5_landOver_62 : decode cX5_landOver 62 = .ok (.aload 4, 2) := by decide +kernel
theorem dX5_landOver_64 : decode cX5_landOver 64 = .ok (.invokevirtual 151, 3) := by decide +kernel
theorem dX5_landOver_67 : decode cX5_landOver 67 = .ok (.istore 7, 2) := by decide +kernel
theorem dX5_landOver_69 : decode cX5_landOver 69 = .ok (.iload 7, 2) := by decide +kernel
theorem dX5_landOver_71 : decode cX5_landOver 71 = .ok (.aload_n 1, 1) := by decide +kernel
theorem dX5_landOver_72 : decode cX5_landOver 72 = .ok (.getfield 122, 3) := by decide +kernel
theorem dX5_landOver_75 : decode cX5_landOver 75 = .ok (.if_icmp .le 10, 3) := by decide +kernel
theorem dX5_landOver_78 : decode cX5_landOver 78 = .ok (.aload_n 0, 1) := by decide +kernel
theorem dX5_landOver_79 : decode cX5_landOver 79 = .ok (.bipush (-6), 2) := by decide +kernel
theorem dX5_landOver_81 : decode cX5_landOver 81 = .ok (.invokevirtual 119, 3) := by decide +kernel
theorem dX5_landOver_84 : decode cX5_landOver 84 = .ok (.ireturn, 1) := by decide +kernel
theorem dX5_landOver_85 : decode cX5_landOver 85 = .ok (.aload 4, 2) := by decide +kernel
theorem dX5_landOver_87 : decode cX5_landOver 87 = .ok (.invokevirtual 154, 3) := by decide +kernel
theorem dX5_landOver_90 : decode cX5_landOver 90 = .ok (.aload_n 0, 1) := by decide +kernel
theorem dX5_landOver_91 : decode cX5_landOver 91 = .ok (.dup, 1) := by decide +kernel
theorem dX5_landOver_92 : decode cX5_landOver 92 = .ok (.getfield 157, 3) := by decide +kernel
theorem dX5_landOver_95 : decode cX5_landOver 95 = .ok (.iconst 1, 1) := by decide +kernel
theorem dX5_landOver_96 : decode cX5_landOver 96 = .ok (.iadd, 1) := by decide +kernel
theorem dX5_landOver_97 : decode cX5_landOver 97 = .ok (.putfield 157, 3) := by decide +kernel
theorem dX5_landOver_100 : decode cX5_landOver 100 = .ok (.iinc 6 1, 3) := by decide +kernel
theorem dX5_landOver_103 : decode cX5_landOver 103 = .ok (.iload 7, 2) := by decide +kernel
theorem dX5_landOver_105 : decode cX5_landOver 105 = .ok (.ifCond .eq 36, 3) := by decide +kernel
theorem dX5_landOver_108 : decode cX5_landOver 108 = .ok (.iload 7, 2) := by decide +kernel
theorem dX5_landOver_110 : decode cX5_landOver 110 = .ok (.aload_n 1, 1) := by decide +kernel
theorem dX5_landOver_111 : decode cX5_landOver 111 = .ok (.getfield 122, 3) := by decide +kernel
theorem dX5_landOver_114 : decode cX5_landOver 114 = .ok (.iconst 2, 1) := by decide +kernel
theorem dX5_landOver_115 : decode cX5_landOver 115 = .ok (.idiv, 1) := by decide +kernel
theorem dX5_landOver_116 : decode cX5_landOver 116 = .ok (.if_icmp .gt 25, 3) := by decide +kernel
theorem dX5_landOver_119 : decode cX5_landOver 119 = .ok (.aload 5, 2) := by decide +kernel
theorem dX5_landOver_121 : decode cX5_landOver 121 = .ok (.dup, 1) := by decide +kernel
theorem dX5_landOver_122 : decode cX5_landOver 122 = .ok (.getfield 138, 3) := by decide +kernel
theorem dX5_landOver_125 : decode cX5_landOver 125 = .ok (.iconst 1, 1) := by decide +kernel
theorem dX5_landOver_126 : decode cX5_landOver 126 = .ok (.iadd, 1) := by decide +kernel
theorem dX5_landOver_127 : decode cX5_landOver 127 = .ok (.putfield 138, 3) := by decide +kernel
theorem dX5_landOver_130 : decode cX5_landOver 130 = .ok (.aload_n 1, 1) := by decide +kernel
theorem dX5_landOver_131 : decode cX5_landOver 131 = .ok (.dup, 1) := by decide +kernel
theorem dX5_landOver_132 : decode cX5_landOver 132 = .ok (.getfield 141, 3) := by decide +kernel
theorem dX5_landOver_135 : decode cX5_landOver 135 = .ok (.iload 7, 2) := by decide +kernel
theorem dX5_landOver_137 : decode cX5_landOver 137 = .ok (.iadd, 1) := by decide +kernel
theorem dX5_landOver_138 : decode cX5_landOver 138 = .ok (.putfield 141, 3) := by decide +kernel
theorem dX5_landOver_141 : decode cX5_landOver 141 = .ok (.goto (-126), 3) := by decide +kernel
theorem dX5_landOver_144 : decode cX5_landOver 144 = .ok (.iload 6, 2) := by decide +kernel
theorem dX5_landOver_146 : decode cX5_landOver 146 = .ok (.ireturn, 1) := by decide +kernel
set_option maxRecDepth 20000 in
theorem ggX5_swap_X5_berthAt : GoodIn wsX5_swap wsX5_berthAt := goodIn_r _ [10, 11, 12, 24, 25, 26, 27, 28, 29, 30, 31, 32, 33] (by decide +kernel) (by decide +kernel)
set_option maxRecDepth 20000 in
theorem gX5_swap_X5_berthAt : GoodIn wsX5_swap (wsV RX5 48 RX5 yX5_berthAt wsX5_berthAt) := goodIn_app (goodIn_of _ (by decide +kernel)) ggX5_swap_X5_berthAt
theorem dX5_swap_0 : decode cX5_swap 0 = .ok (.aload_n 0, 1) := by decide +kernel
theorem dX5_swap_1 : decode cX5_swap 1 = .ok (.iload_n 1, 1) := by decide +kernel
theorem dX5_swap_2 : decode cX5_swap 2 = .ok (.invokevirtual 48, 3) := by decide +kernel
theorem dX5_swap_5 : decode cX5_swap 5 = .ok (.astore_n 3, 1) := by decide +kernel
theorem dX5_swap_6 : decode cX5_swap 6 = .ok (.aload_n 0, 1) := by decide +kernel
theorem dX5_swap_7 : decode cX5_swap 7 = .ok (.iload_n 2, 1) := by decide +kernel
theorem dX5_swap_8 : decode cX5_swap 8 = .ok (.invokevirtual 48, 3) := by decide +kernel
theorem dX5_swap_11 : decode cX5_swap 11 = .ok (.astore 4, 2) := by decide +kernel
theorem dX5_swap_13 : decode cX5_swap 13 = .ok (.aload_n 3, 1) := by decide +kernel
theorem dX5_swap_14 : decode cX5_swap 14 = .ok (.ifnull 8, 3) := by decide +kernel
theorem dX5_swap_17 : decode cX5_swap 17 = .ok (.aload 4, 2) := by decide +kernel
theorem dX5_swap_19 : decode cX5_swap 19 = .ok (.ifnonnull 6, 3) := by decide +kernel
theorem dX5_swap_22 : decode cX5_swap 22 = .ok (.bipush (-2), 2) := by decide +kernel
theorem dX5_swap_24 : decode cX5_swap 24 = .ok (.ireturn, 1) := by decide +kernel
theorem dX5_swap_25 : decode cX5_swap 25 = .ok (.aload_n 3, 1) := by decide +kernel
theorem dX5_swap_26 : decode cX5_swap 26 = .ok (.getfield 60, 3) := by decide +kernel
theorem dX5_swap_29 : decode cX5_swap 29 = .ok (.astore 5, 2) := by decide +kernel
theorem dX5_swap_31 : decode cX5_swap 31 = .ok (.aload 5, 2) := by decide +kernel
theorem dX5_swap_33 : decode cX5_swap 33 = .ok (.ifnonnull 6, 3) := by decide +kernel
theorem dX5_swap_36 : decode cX5_swap 36 = .ok (.bipush (-4), 2) := by decide +kernel
theorem dX5_swap_38 : decode cX5_swap 38 = .ok (.ireturn, 1) := by decide +kernel
theorem dX5_swap_39 : decode cX5_swap 39 = .ok (.aload 5, 2) := by decide +kernel
theorem dX5_swap_41 : decode cX5_swap 41 = .ok (.dup, 1) := by decide +kernel
theorem dX5_swap_42 : decode cX5_swap 42 = .ok (.getfield 101, 3) := by decide +kernel
theorem dX5_swap_45 : decode cX5_swap 45 = .ok (.iconst 1, 1) := by decide +kernel
theorem dX5_swap_46 : decode cX5_swap 46 = .ok (.iadd, 1) := by decide +kernel
theorem dX5_swap_47 : decode cX5_swap 47 = .ok (.putfield 101, 3) := by decide +kernel
theorem dX5_swap_50 : decode cX5_swap 50 = .ok (.aload 4, 2) := by decide +kernel
theorem dX5_swap_52 : decode cX5_swap 52 = .ok (.getfield 60, 3) := by decide +kernel
theorem dX5_swap_55 : decode cX5_swap 55 = .ok (.astore 6, 2) := by decide +kernel
theorem dX5_swap_57 : decode cX5_swap 57 = .ok (.aload 6, 2) := by decide +kernel
theorem dX5_swap_59 : decode cX5_swap 59 = .ok (.ifnonnull 6, 3) := by decide +kernel
theorem dX5_swap_62 : decode cX5_swap 62 = .ok (.bipush (-4), 2) := by decide +kernel
theorem dX5_swap_64 : decode cX5_swap 64 = .ok (.ireturn, 1) := by decide +kernel
theorem dX5_swap_65 : decode cX5_swap 65 = .ok (.aload 6, 2) := by decide +kernel
theorem dX5_swap_67 : decode cX5_swap 67 = .ok (.dup, 1) := by decide +kernel
theorem dX5_swap_68 : decode cX5_swap 68 = .ok (.getfield 101, 3) := by decide +kernel
theorem dX5_swap_71 : decode cX5_swap 71 = .ok (.iconst 1, 1) := by decide +kernel
theorem dX5_swap_72 : decode cX5_swap 72 = .ok (.iadd, 1) := by decide +kernel
theorem dX5_swap_73 : decode cX5_swap 73 = .ok (.putfield 101, 3) := by decide +kernel
theorem dX5_swap_76 : decode cX5_swap 76 = .ok (.aload 5, 2) := by decide +kernel
theorem dX5_swap_78 : decode cX5_swap 78 = .ok (.getfield 78, 3) := by decide +kernel
theorem dX5_swap_81 : decode cX5_swap 81 = .ok (.ifCond .ne 11, 3) := by decide +kernel
theorem dX5_swap_84 : decode cX5_swap 84 = .ok (.aload 6, 2) := by decide +kernel
theorem dX5_swap_86 : decode cX5_swap 86 = .ok (.getfield 78, 3) := by decide +kernel
theorem dX5_swap_89 : decode cX5_swap 89 = .ok (.ifCond .eq 6, 3) := by decide +kernel
theorem dX5_swap_92 : decode cX5_swap 92 = .ok (.bipush (-5), 2) := by decide +kernel
theorem dX5_swap_94 : decode cX5_swap 94 = .ok (.ireturn, 1) := by decide +kernel
theorem dX5_swap_95 : decode cX5_swap 95 = .ok (.aload_n 3, 1) := by decide +kernel
theorem dX5_swap_96 : decode cX5_swap 96 = .ok (.getfield 125, 3) := by decide +kernel
theorem dX5_swap_99 : decode cX5_swap 99 = .ok (.astore 7, 2) := by decide +kernel
theorem dX5_swap_101 : decode cX5_swap 101 = .ok (.aload_n 3, 1) := by decide +kernel
theorem dX5_swap_102 : decode cX5_swap 102 = .ok (.aload 4, 2) := by decide +kernel
theorem dX5_swap_104 : decode cX5_swap 104 = .ok (.getfield 125, 3) := by decide +kernel
theorem dX5_swap_107 : decode cX5_swap 107 = .ok (.putfield 125, 3) := by decide +kernel
theorem dX5_swap_110 : decode cX5_swap 110 = .ok (.aload 4, 2) := by decide +kernel
theorem dX5_swap_112 : decode cX5_swap 112 = .ok (.aload 7, 2) := by decide +kernel
theorem dX5_swap_114 : decode cX5_swap 114 = .ok (.putfield 125, 3) := by decide +kernel
theorem dX5_swap_117 : decode cX5_swap 117 = .ok (.aload_n 3, 1) := by decide +kernel
theorem dX5_swap_118 : decode cX5_swap 118 = .ok (.getfield 125, 3) := by decide +kernel
theorem dX5_swap_121 : decode cX5_swap 121 = .ok (.getfield 160, 3) := by decide +kernel
theorem dX5_swap_124 : decode cX5_swap 124 = .ok (.ireturn, 1) := by decide +kernel
set_option maxRecDepth 20000 in
theorem ggX5_round_X5_berthAt : GoodIn wsX5_round wsX5_berthAt := goodIn_r _ [10, 11, 12, 32, 33, 34, 35, 36, 37, 38, 39, 40, 41] (by decide +kernel) (by decide +kernel)
set_option maxRecDepth 20000 in
theorem gX5_round_X5_berthAt : GoodIn wsX5_round (wsV RX5 48 RX5 yX5_berthAt wsX5_berthAt) := goodIn_app (goodIn_of _ (by decide +kernel)) ggX5_round_X5_berthAt
set_option maxRecDepth 20000 in
theorem ggX5_round_X5_isWithin : GoodIn wsX5_round wsX5_isWithin := goodIn_r _ [15] (by decide +kernel) (by decide +kernel)
set_option maxRecDepth 20000 in
theorem gX5_round_X5_isWithin : GoodIn wsX5_round (va_wsS RX5 34 yX5_isWithin wsX5_isWithin) := goodIn_app (goodIn_of _ (by decide +kernel)) ggX5_round_X5_isWithin
set_option maxRecDepth 20000 in
theorem ggX5_round_X5_alarm : GoodIn wsX5_round wsX5_alarm := goodIn_r _ [19, 20, 32, 33, 34, 35, 36, 37, 38, 39, 40, 41] (by decide +kernel) (by decide +kernel)
set_option maxRecDepth 20000 in
theorem gX5_round_X5_alarm : GoodIn wsX5_round (wsV RX5 119 RX5 yX5_alarm wsX5_alarm) := goodIn_app (goodIn_of _ (by decide +kernel)) ggX5_round_X5_alarm
theorem dX5_round_0 : decode cX5_round 0 = .ok (.aload_n 0, 1) := by decide +kernel
theorem dX5_round_1 : decode cX5_round 1 = .ok (.iload_n 1, 1) := by decide +kernel
theorem dX5_round_2 : decode cX5_round 2 = .ok (.invokevirtual 48, 3) := by decide +kernel
theorem dX5_round_5 : decode cX5_round 5 = .ok (.ifnull 13, 3) := by decide +kernel
theorem dX5_round_8 : decode cX5_round 8 = .ok (.iload_n 2, 1) := by decide +kernel
theorem dX5_round_9 : decode cX5_round 9 = .ok (.iconst 1, 1) := by decide +kernel
theorem dX5_round_10 : decode cX5_round 10 = .ok (.bipush 8, 2) := by decide +kernel
theorem dX5_round_12 : decode cX5_round 12 = .ok (.invokestatic 34, 3) := by decide +kernel
theorem dX5_round_15 : decode cX5_round 15 = .ok (.ifCond .ne 6, 3) := by decide +kernel
theorem dX5_round_18 : decode cX5_round 18 = .ok (.bipush (-2), 2) := by decide +kernel
theorem dX5_round_20 : decode cX5_round 20 = .ok (.ireturn, 1) := by decide +kernel
theorem dX5_round_21 : decode cX5_round 21 = .ok (.iconst 0, 1) := by decide +kernel
theorem dX5_round_22 : decode cX5_round 22 = .ok (.istore_n 3, 1) := by decide +kernel
theorem dX5_round_23 : decode cX5_round 23 = .ok (.iconst 0, 1) := by decide +kernel
theorem dX5_round_24 : decode cX5_round 24 = .ok (.istore 4, 2) := by decide +kernel
theorem dX5_round_26 : decode cX5_round 26 = .ok (.iload 4, 2) := by decide +kernel
theorem dX5_round_28 : decode cX5_round 28 = .ok (.iload_n 2, 1) := by decide +kernel
theorem dX5_round_29 : decode cX5_round 29 = .ok (.if_icmp .ge 77, 3) := by decide +kernel
theorem dX5_round_32 : decode cX5_round 32 = .ok (.aload_n 0, 1) := by decide +kernel
theorem dX5_round_33 : decode cX5_round 33 = .ok (.iload_n 1, 1) := by decide +kernel
theorem dX5_round_34 : decode cX5_round 34 = .ok (.iload 4, 2) := by decide +kernel
theorem dX5_round_36 : decode cX5_round 36 = .ok (.iadd, 1) := by decide +kernel
theorem dX5_round_37 : decode cX5_round 37 = .ok (.invokevirtual 48, 3) := by decide +kernel
theorem dX5_round_40 : decode cX5_round 40 = .ok (.astore 5, 2) := by decide +kernel
theorem dX5_round_42 : decode cX5_round 42 = .ok (.aload 5, 2) := by decide +kernel
theorem dX5_round_44 : decode cX5_round 44 = .ok (.ifnonnull 5, 3) := by decide +kernel
theorem dX5_round_47 : decode cX5_round 47 = .ok (.iload_n 3, 1) := by decide +kernel
theorem dX5_round_48 : decode cX5_round 48 = .ok (.ireturn, 1) := by decide +kernel
theorem dX5_round_49 : decode cX5_round 49 = .ok (.aload 5, 2) := by decide +kernel
theorem dX5_round_51 : decode cX5_round 51 = .ok (.getfield 60, 3) := by decide +kernel
theorem dX5_round_54 : decode cX5_round 54 = .ok (.astore 6, 2) := by decide +kernel
theorem dX5_round_56 : decode cX5_round 56 = .ok (.aload 6, 2) := by decide +kernel
theorem dX5_round_58 : decode cX5_round 58 = .ok (.ifnonnull 5, 3) := by decide +kernel
theorem dX5_round_61 : decode cX5_round 61 = .ok (.iload_n 3, 1) := by decide +kernel
theorem dX5_round_62 : decode cX5_round 62 = .ok (.ireturn, 1) := by decide +kernel
theorem dX5_round_63 : decode cX5_round 63 = .ok (.aload 6, 2) := by decide +kernel
theorem dX5_round_65 : decode cX5_round 65 = .ok (.dup, 1) := by decide +kernel
theorem dX5_round_66 : decode cX5_round 66 = .ok (.getfield 101, 3) := by decide +kernel
theorem dX5_round_69 : decode cX5_round 69 = .ok (.iconst 1, 1) := by decide +kernel
theorem dX5_round_70 : decode cX5_round 70 = .ok (.iadd, 1) := by decide +kernel
theorem dX5_round_71 : decode cX5_round 71 = .ok (.putfield 101, 3) := by decide +kernel
theorem dX5_round_74 : decode cX5_round 74 = .ok (.aload 6, 2) := by decide +kernel
theorem dX5_round_76 : decode cX5_round 76 = .ok (.getfield 78, 3) := by decide +kernel
theorem dX5_round_79 : decode cX5_round 79 = .ok (.ifCond .eq 10, 3) := by decide +kernel
theorem dX5_round_82 : decode cX5_round 82 = .ok (.aload_n 0, 1) := by decide +kernel
theorem dX5_round_83 : decode cX5_round 83 = .ok (.bipush (-5), 2) := by decide +kernel
theorem dX5_round_85 : decode cX5_round 85 = .ok (.invokevirtual 119, 3) := by decide +kernel
theorem dX5_round_88 : decode cX5_round 88 = .ok (.ireturn, 1) := by decide +kernel
theorem dX5_round_89 : decode cX5_round 89 = .ok (.iload_n 3, 1) := by decide +kernel
theorem dX5_round_90 : decode cX5_round 90 = .ok (.aload 5, 2) := by decide +kernel
theorem dX5_round_92 : decode cX5_round 92 = .ok (.getfield 125, 3) := by decide +kernel
theorem dX5_round_95 : decode cX5_round 95 = .ok (.getfield 160, 3) := by decide +kernel
theorem dX5_round_98 : decode cX5_round 98 = .ok (.iadd, 1) := by decide +kernel
theorem dX5_round_99 : decode cX5_round 99 = .ok (.istore_n 3, 1) := by decide +kernel
theorem dX5_round_100 : decode cX5_round 100 = .ok (.iinc 4 1, 3) := by decide +kernel
theorem dX5_round_103 : decode cX5_round 103 = .ok (.goto (-77), 3) := by decide +kernel
theorem dX5_round_106 : decode cX5_round 106 = .ok (.iload_n 3, 1) := by decide +kernel
theorem dX5_round_107 : decode cX5_round 107 = .ok (.ireturn, 1) := by decide +kernel
set_option maxRecDepth 20000 in
theorem ggX5_tend_X5_rampAt : GoodIn wsX5_tend wsX5_rampAt := goodIn_r _ [7, 8, 9, 19, 20, 21, 22, 23, 24, 25, 26, 27, 28] (by decide +kernel) (by decide +kernel)
set_option maxRecDepth 20000 in
theorem gX5_tend_X5_rampAt : GoodIn wsX5_tend (wsV RX5 64 RX5 yX5_rampAt wsX5_rampAt) := goodIn_app (goodIn_of _ (by decide +kernel)) ggX5_tend_X5_rampAt
set_option maxRecDepth 20000 in
theorem ggX5_tend_X5_alarm : GoodIn wsX5_tend wsX5_alarm := goodIn_r _ [13, 14, 19, 20, 21, 22, 23, 24, 25, 26, 27, 28] (by decide +kernel) (by decide +kernel)
set_option maxRecDepth 20000 in
theorem gX5_tend_X5_alarm : GoodIn wsX5_tend (wsV RX5 119 RX5 yX5_alarm wsX5_alarm) := goodIn_app (goodIn_of _ (by decide +kernel)) ggX5_tend_X5_alarm
theorem dX5_tend_0 : decode cX5_tend 0 = .ok (.aload_n 0, 1) := by decide +kernel
theorem dX5_tend_1 : decode cX5_tend 1 = .ok (.iload_n 1, 1) := by decide +kernel
theorem dX5_tend_2 : decode cX5_tend 2 = .ok (.invokevirtual 64, 3) := by decide +kernel
theorem dX5_tend_5 : decode cX5_tend 5 = .ok (.astore_n 2, 1) := by decide +kernel
theorem dX5_tend_6 : decode cX5_tend 6 = .ok (.aload_n 2, 1) := by decide +kernel
theorem dX5_tend_7 : decode cX5_tend 7 = .ok (.ifnonnull 6, 3) := by decide +kernel
theorem dX5_tend_10 : decode cX5_tend 10 = .ok (.bipush (-2), 2) := by decide +kernel
theorem dX5_tend_12 : decode cX5_tend 12 = .ok (.ireturn, 1) := by decide +kernel
theorem dX5_tend_13 : decode cX5_tend 13 = .ok (.aload_n 2, 1) := by decide +kernel
theorem dX5_tend_14 : decode cX5_tend 14 = .ok (.dup, 1) := by decide +kernel
theorem dX5_tend_15 : decode cX5_tend 15 = .ok (.getfield 108, 3) := by decide +kernel
theorem dX5_tend_18 : decode cX5_tend 18 = .ok (.iconst 1, 1) := by decide +kernel
theorem dX5_tend_19 : decode cX5_tend 19 = .ok (.iadd, 1) := by decide +kernel
theorem dX5_tend_20 : decode cX5_tend 20 = .ok (.putfield 108, 3) := by decide +kernel
theorem dX5_tend_23 : decode cX5_tend 23 = .ok (.aload_n 2, 1) := by decide +kernel
theorem dX5_tend_24 : decode cX5_tend 24 = .ok (.getfield 141, 3) := by decide +kernel
theorem dX5_tend_27 : decode cX5_tend 27 = .ok (.ifCond .ne 10, 3) := by decide +kernel
theorem dX5_tend_30 : decode cX5_tend 30 = .ok (.aload_n 0, 1) := by decide +kernel
theorem dX5_tend_31 : decode cX5_tend 31 = .ok (.bipush (-5), 2) := by decide +kernel
theorem dX5_tend_33 : decode cX5_tend 33 = .ok (.invokevirtual 119, 3) := by decide +kernel
theorem dX5_tend_36 : decode cX5_tend 36 = .ok (.ireturn, 1) := by decide +kernel
theorem dX5_tend_37 : decode cX5_tend 37 = .ok (.aload_n 2, 1) := by decide +kernel
theorem dX5_tend_38 : decode cX5_tend 38 = .ok (.getfield 141, 3) := by decide +kernel
theorem dX5_tend_41 : decode cX5_tend 41 = .ok (.istore_n 3, 1) := by decide +kernel
theorem dX5_tend_42 : decode cX5_tend 42 = .ok (.aload_n 2, 1) := by decide +kernel
theorem dX5_tend_43 : decode cX5_tend 43 = .ok (.iconst 0, 1) := by decide +kernel
theorem dX5_tend_44 : decode cX5_tend 44 = .ok (.putfield 141, 3) := by decide +kernel
theorem dX5_tend_47 : decode cX5_tend 47 = .ok (.iload_n 3, 1) := by decide +kernel
theorem dX5_tend_48 : decode cX5_tend 48 = .ok (.ireturn, 1) := by decide +kernel
set_option maxRecDepth 20000 in
theorem ggX5_shift_X5_berthAt : GoodIn wsX5_shift wsX5_berthAt := goodIn_r _ [9, 10, 11, 52, 53, 54, 55, 56, 57, 58, 59, 60, 61] (by decide +kernel) (by decide +kernel)
set_option maxRecDepth 20000 in
theorem gX5_shift_X5_berthAt : GoodIn wsX5_shift (wsV RX5 48 RX5 yX5_berthAt wsX5_berthAt) := goodIn_app (goodIn_of _ (by decide +kernel)) ggX5_shift_X5_berthAt
set_option maxRecDepth 20000 in
theorem ggX5_shift_X5_isWithin : GoodIn wsX5_shift wsX5_isWithin := goodIn_r _ [14] (by decide +kernel) (by decide +kernel)
set_option maxRecDepth 20000 in
theorem gX5_shift_X5_isWithin : GoodIn wsX5_shift (va_wsS RX5 34 yX5_isWithin wsX5_isWithin) := goodIn_app (goodIn_of _ (by decide +kernel)) ggX5_shift_X5_isWithin
set_option maxRecDepth 20000 in
theorem ggX5_shift_X5_shiftThrough : GoodIn wsX5_shift wsX5_shiftThrough := goodIn_r _ [18, 1, 2, 3, 4, 19, 20, 21, 22, 23, 24, 25, 26, 27, 28, 29, 30, 31, 32, 33, 34, 35, 36, 37, 38, 39, 40, 41, 42, 43, 44, 45, 46, 47, 48, 49, 50, 51, 62, 63] (by decide +kernel) (by decide +kernel)
set_option maxRecDepth 20000 in
theorem gX5_shift_X5_shiftThrough : GoodIn wsX5_shift (wsV RX5 163 RX5 yX5_shiftThrough wsX5_shiftThrough) := goodIn_app (goodIn_of _ (by decide +kernel)) ggX5_shift_X5_shiftThrough
theorem dX5_shift_0 : decode cX5_shift 0 = .ok (.aload_n 0, 1) := by decide +kernel
theorem dX5_shift_1 : decode cX5_shift 1 = .ok (.iload_n 1, 1) := by decide +kernel
theorem dX5_shift_2 : decode cX5_shift 2 = .ok (.invokevirtual 48, 3) := by decide +kernel
theorem dX5_shift_5 : decode cX5_shift 5 = .ok (.astore 4, 2) := by decide +kernel
theorem dX5_shift_7 : decode cX5_shift 7 = .ok (.aload_n 0, 1) := by decide +kernel
theorem dX5_shift_8 : decode cX5_shift 8 = .ok (.iload_n 2, 1) := by decide +kernel
theorem dX5_shift_9 : decode cX5_shift 9 = .ok (.invokevirtual 48, 3) := by decide +kernel
theorem dX5_shift_12 : decode cX5_shift 12 = .ok (.astore 5, 2) := by decide +kernel
theorem dX5_shift_14 : decode cX5_shift 14 = .ok (.aload 4, 2) := by decide +kernel
theorem dX5_shift_16 : decode cX5_shift 16 = .ok (.ifnull 23, 3) := by decide +kernel
theorem dX5_shift_19 : decode cX5_shift 19 = .ok (.aload 5, 2) := by decide +kernel
theorem dX5_shift_21 : decode cX5_shift 21 = .ok (.ifnull 18, 3) := by decide +kernel
theorem dX5_shift_24 : decode cX5_shift 24 = .ok (.iload_n 1, 1) := by decide +kernel
theorem dX5_shift_25 : decode cX5_shift 25 = .ok (.iload_n 2, 1) := by decide +kernel
theorem dX5_shift_26 : decode cX5_shift 26 = .ok (.if_icmp .eq 13, 3) := by decide +kernel
theorem dX5_shift_29 : decode cX5_shift 29 = .ok (.iload_n 3, 1) := by decide +kernel
theorem dX5_shift_30 : decode cX5_shift 30 = .ok (.iconst 1, 1) := by decide +kernel
theorem dX5_shift_31 : decode cX5_shift 31 = .ok (.bipush 30, 2) := by decide +kernel
theorem dX5_shift_33 : decode cX5_shift 33 = .ok (.invokestatic 34, 3) := by decide +kernel
theorem dX5_shift_36 : decode cX5_shift 36 = .ok (.ifCond .ne 6, 3) := by decide +kernel
theorem dX5_shift_39 : decode cX5_shift 39 = .ok (.bipush (-2), 2) := by decide +kernel
theorem dX5_shift_41 : decode cX5_shift 41 = .ok (.ireturn, 1) := by decide +kernel
theorem dX5_shift_42 : decode cX5_shift 42 = .ok (.aload 4, 2) := by decide +kernel
theorem dX5_shift_44 : decode cX5_shift 44 = .ok (.getfield 60, 3) := by decide +kernel
theorem dX5_shift_47 : decode cX5_shift 47 = .ok (.astore 6, 2) := by decide +kernel
theorem dX5_shift_49 : decode cX5_shift 49 = .ok (.aload 6, 2) := by decide +kernel
theorem dX5_shift_51 : decode cX5_shift 51 = .ok (.ifnonnull 6, 3) := by decide +kernel
theorem dX5_shift_54 : decode cX5_shift 54 = .ok (.bipush (-4), 2) := by decide +kernel
theorem dX5_shift_56 : decode cX5_shift 56 = .ok (.ireturn, 1) := by decide +kernel
theorem dX5_shift_57 : decode cX5_shift 57 = .ok (.aload 6, 2) := by decide +kernel
theorem dX5_shift_59 : decode cX5_shift 59 = .ok (.dup, 1) := by decide +kernel
theorem dX5_shift_60 : decode cX5_shift 60 = .ok (.getfield 101, 3) := by decide +kernel
theorem dX5_shift_63 : decode cX5_shift 63 = .ok (.iconst 1, 1) := by decide +kernel
theorem dX5_shift_64 : decode cX5_shift 64 = .ok (.iadd, 1) := by decide +kernel
theorem dX5_shift_65 : decode cX5_shift 65 = .ok (.putfield 101, 3) := by decide +kernel
theorem dX5_shift_68 : decode cX5_shift 68 = .ok (.aload 6, 2) := by decide +kernel
theorem dX5_shift_70 : decode cX5_shift 70 = .ok (.getfield 78, 3) := by decide +kernel
theorem dX5_shift_73 : decode cX5_shift 73 = .ok (.ifCond .eq 6, 3) := by decide +kernel
theorem dX5_shift_76 : decode cX5_shift 76 = .ok (.bipush (-5), 2) := by decide +kernel
theorem dX5_shift_78 : decode cX5_shift 78 = .ok (.ireturn, 1) := by decide +kernel
theorem dX5_shift_79 : decode cX5_shift 79 = .ok (.aload_n 0, 1) := by decide +kernel
theorem dX5_shift_80 : decode cX5_shift 80 = .ok (.aload 6, 2) := by decide +kernel
theorem dX5_shift_82 : decode cX5_shift 82 = .ok (.aload 4, 2) := by decide +kernel
theorem dX5_shift_84 : decode cX5_shift 84 = .ok (.getfield 82, 3) := by decide +kernel
theorem dX5_shift_87 : decode cX5_shift 87 = .ok (.aload 5, 2) := by decide +kernel
theorem dX5_shift_89 : decode cX5_shift 89 = .ok (.iload_n 3, 1) := by decide +kernel
theorem dX5_shift_90 : decode cX5_shift 90 = .ok (.invokevirtual 163, 3) := by decide +kernel
theorem dX5_shift_93 : decode cX5_shift 93 = .ok (.ireturn, 1) := by decide +kernel
set_option maxRecDepth 20000 in
theorem ggX5_shiftThrough_X4_isFull : GoodIn wsX5_shiftThrough wsX4_isFull := goodIn_r _ [11, 12, 13, 38, 39] (by decide +kernel) (by decide +kernel)
set_option maxRecDepth 20000 in
theorem gX5_shiftThrough_X4_isFull : GoodIn wsX5_shiftThrough (wsV RX5 86 RX4 yX4_isFull wsX4_isFull) := goodIn_app (goodIn_of _ (by decide +kernel)) ggX5_shiftThrough_X4_isFull
set_option maxRecDepth 20000 in
theorem ggX5_shiftThrough_X4_weightAt : GoodIn wsX5_shiftThrough wsX4_weightAt := goodIn_r _ [17, 12, 13, 38, 39] (by decide +kernel) (by decide +kernel)
set_option maxRecDepth 20000 in
theorem gX5_shiftThrough_X4_weightAt : GoodIn wsX5_shiftThrough (wsV RX5 109 RX4 yX4_weightAt wsX4_weightAt) := goodIn_app (goodIn_of _ (by decide +kernel)) ggX5_shiftThrough_X4_weightAt
set_option maxRecDepth 20000 in
theorem ggX5_shiftThrough_X4_addLast : GoodIn wsX5_shiftThrough wsX4_addLast := goodIn_r _ [21, 12, 13, 38, 39] (by decide +kernel) (by decide +kernel)
set_option maxRecDepth 20000 in
theorem gX5_shiftThrough_X4_addLast : GoodIn wsX5_shiftThrough (wsV RX5 92 RX4 yX4_addLast wsX4_addLast) := goodIn_app (goodIn_of _ (by decide +kernel)) ggX5_shiftThrough_X4_addLast
set_option maxRecDepth 20000 in
theorem ggX5_shiftThrough_X4_removeFirst : GoodIn wsX5_shiftThrough wsX4_removeFirst := goodIn_r _ [25, 12, 13, 26, 27, 28, 29, 38, 39] (by decide +kernel) (by decide +kernel)
set_option maxRecDepth 20000 in
theorem gX5_shiftThrough_X4_removeFirst : GoodIn wsX5_shiftThrough (wsV RX5 113 RX4 yX4_removeFirst wsX4_removeFirst) := goodIn_app (goodIn_of _ (by decide +kernel)) ggX5_shiftThrough_X4_removeFirst
theorem dX5_shiftThrough_0 : decode cX5_shiftThrough 0 = .ok (.aload_n 3, 1) := by decide +kernel
theorem dX5_shiftThrough_1 : decode cX5_shiftThrough 1 = .ok (.getfield 60, 3) := by decide +kernel
theorem dX5_shiftThrough_4 : decode cX5_shiftThrough 4 = .ok (.astore 5, 2) := by decide +kernel
theorem dX5_shiftThrough_6 : decode cX5_shiftThrough 6 = .ok (.iconst 0, 1) := by decide +kernel
theorem dX5_shiftThrough_7 : decode cX5_shiftThrough 7 = .ok (.istore 6, 2) := by decide +kernel
theorem dX5_shiftThrough_9 : decode cX5_shiftThrough 9 = .ok (.iload 6, 2) := by decide +kernel
theorem dX5_shiftThrough_11 : decode cX5_shiftThrough 11 = .ok (.iload 4, 2) := by decide +kernel
theorem dX5_shiftThrough_13 : decode cX5_shiftThrough 13 = .ok (.if_icmp .ge 93, 3) := by decide +kernel
theorem dX5_shiftThrough_16 : decode cX5_shiftThrough 16 = .ok (.aload 5, 2) := by decide +kernel
theorem dX5_shiftThrough_18 : decode cX5_shiftThrough 18 = .ok (.ifnonnull 6, 3) := by decide +kernel
theorem dX5_shiftThrough_21 : decode cX5_shiftThrough 21 = .ok (.bipush (-4), 2) := by decide +kernel
theorem dX5_shiftThrough_23 : decode cX5_shiftThrough 23 = .ok (.ireturn, 1) := by decide +kernel
theorem dX5_shiftThrough_24 : decode cX5_shiftThrough 24 = .ok (.aload 5, 2) := by decide +kernel
theorem dX5_shiftThrough_26 : decode cX5_shiftThrough 26 = .ok (.dup, 1) := by decide +kernel
theorem dX5_shiftThrough_27 : decode cX5_shiftThrough 27 = .ok (.getfield 101, 3) := by decide +kernel
theorem dX5_shiftThrough_30 : decode cX5_shiftThrough 30 = .ok (.iconst 1, 1) := by decide +kernel
theorem dX5_shiftThrough_31 : decode cX5_shiftThrough 31 = .ok (.iadd, 1) := by decide +kernel
theorem dX5_shiftThrough_32 : decode cX5_shiftThrough 32 = .ok (.putfield 101, 3) := by decide +kernel
theorem dX5_shiftThrough_35 : decode cX5_shiftThrough 35 = .ok (.aload 5, 2) := by decide +kernel
theorem dX5_shiftThrough_37 : decode cX5_shiftThrough 37 = .ok (.getfield 78, 3) := by decide +kernel
theorem dX5_shiftThrough_40 : decode cX5_shiftThrough 40 = .ok (.ifCond .ne 20, 3) := by decide +kernel
theorem dX5_shiftThrough_43 : decode cX5_shiftThrough 43 = .ok (.aload_n 3, 1) := by decide +kernel
theorem dX5_shiftThrough_44 : decode cX5_shiftThrough 44 = .ok (.getfield 82, 3) := by decide +kernel
theorem dX5_shiftThrough_47 : decode cX5_shiftThrough 47 = .ok (.invokevirtual 86, 3) := by decide +kernel
theorem dX5_shiftThrough_50 : decode cX5_shiftThrough 50 = .ok (.ifCond .ne 10, 3) := by decide +kernel
theorem dX5_shiftThrough_53 : decode cX5_shiftThrough 53 = .ok (.aload_n 2, 1) := by decide +kernel
theorem dX5_shiftThrough_54 : decode cX5_shiftThrough 54 = .ok (.getfield 98, 3) := by decide +kernel
theorem dX5_shiftThrough_57 : decode cX5_shiftThrough 57 = .ok (.ifCond .ne 6, 3) := by decide +kernel
theorem dX5_shiftThrough_60 : decode cX5_shiftThrough 60 = .ok (.iload 6, 2) := by decide +kernel
theorem dX5_shiftThrough_62 : decode cX5_shiftThrough 62 = .ok (.ireturn, 1) := by decide +kernel
theorem dX5_shiftThrough_63 : decode cX5_shiftThrough 63 = .ok (.aload_n 3, 1) := by decide +kernel
theorem dX5_shiftThrough_64 : decode cX5_shiftThrough 64 = .ok (.getfield 82, 3) := by decide +kernel
theorem dX5_shiftThrough_67 : decode cX5_shiftThrough 67 = .ok (.aload_n 2, 1) := by decide +kernel
theorem dX5_shiftThrough_68 : decode cX5_shiftThrough 68 = .ok (.iconst 0, 1) := by decide +kernel
theorem dX5_shiftThrough_69 : decode cX5_shiftThrough 69 = .ok (.invokevirtual 109, 3) := by decide +kernel
theorem dX5_shiftThrough_72 : decode cX5_shiftThrough 72 = .ok (.invokevirtual 92, 3) := by decide +kernel
theorem dX5_shiftThrough_75 : decode cX5_shiftThrough 75 = .ok (.aload_n 2, 1) := by decide +kernel
theorem dX5_shiftThrough_76 : decode cX5_shiftThrough 76 = .ok (.invokevirtual 113, 3) := by decide +kernel
theorem dX5_shiftThrough_79 : decode cX5_shiftThrough 79 = .ok (.aload_n 1, 1) := by decide +kernel
theorem dX5_shiftThrough_80 : decode cX5_shiftThrough 80 = .ok (.dup, 1) := by decide +kernel
theorem dX5_shiftThrough_81 : decode cX5_shiftThrough 81 = .ok (.getfield 138, 3) := by decide +kernel
theorem dX5_shiftThrough_84 : decode cX5_shiftThrough 84 = .ok (.iconst 1, 1) := by decide +kernel
theorem dX5_shiftThrough_85 : decode cX5_shiftThrough 85 = .ok (.iadd, 1) := by decide +kernel
theorem dX5_shiftThrough_86 : decode cX5_shiftThrough 86 = .ok (.putfield 138, 3) := by decide +kernel
theorem dX5_shiftThrough_89 : decode cX5_shiftThrough 89 = .ok (.aload 5, 2) := by decide +kernel
theorem dX5_shiftThrough_91 : decode cX5_shiftThrough 91 = .ok (.dup, 1) := by decide +kernel
theorem dX5_shiftThrough_92 : decode cX5_shiftThrough 92 = .ok (.getfield 138, 3) := by decide +kernel
theorem dX5_shiftThrough_95 : decode cX5_shiftThrough 95 = .ok (.iconst 1, 1) := by decide +kernel
theorem dX5_shiftThrough_96 : decode cX5_shiftThrough 96 = .ok (.iadd, 1) := by decide +kernel
theorem dX5_shiftThrough_97 : decode cX5_shiftThrough 97 = .ok (.putfield 138, 3) := by decide +kernel
theorem dX5_shiftThrough_100 : decode cX5_shiftThrough 100 = .ok (.iinc 6 1, 3) := by decide +kernel
theorem dX5_shiftThrough_103 : decode cX5_shiftThrough 103 = .ok (.goto (-94), 3) := by decide +kernel
theorem dX5_shiftThrough_106 : decode cX5_shiftThrough 106 = .ok (.iload 4, 2) := by decide +kernel
theorem dX5_shiftThrough_108 : decode cX5_shiftThrough 108 = .ok (.ireturn, 1) := by decide +kernel
set_option maxRecDepth 20000 in
theorem ggX5_state_X5_berthAt : GoodIn wsX5_state wsX5_berthAt := goodIn_r _ [11, 12, 13, 36, 37, 38, 39, 40, 41, 42, 43, 44, 45] (by decide +kernel) (by decide +kernel)
set_option maxRecDepth 20000 in
theorem gX5_state_X5_berthAt : GoodIn wsX5_state (wsV RX5 48 RX5 yX5_berthAt wsX5_berthAt) := goodIn_app (goodIn_of _ (by decide +kernel)) ggX5_state_X5_berthAt
set_option maxRecDepth 20000 in
theorem ggX5_state_X0_gateNumber : GoodIn wsX5_state wsX0_gateNumber := goodIn_r _ [18, 19, 20, 27, 28, 29, 30, 46, 47, 48, 49] (by decide +kernel) (by decide +kernel)
set_option maxRecDepth 20000 in
theorem gX5_state_X0_gateNumber : GoodIn wsX5_state (wsV RX5 56 RX0 yX0_gateNumber wsX0_gateNumber) := goodIn_app (goodIn_of _ (by decide +kernel)) ggX5_state_X0_gateNumber
set_option maxRecDepth 20000 in
theorem ggX5_state_X0_rampNumber : GoodIn wsX5_state wsX0_rampNumber := goodIn_r _ [24, 25, 26, 27, 28, 29, 30, 50, 51, 52, 53] (by decide +kernel) (by decide +kernel)
set_option maxRecDepth 20000 in
theorem gX5_state_X0_rampNumber : GoodIn wsX5_state (wsV RX5 68 RX0 yX0_rampNumber wsX0_rampNumber) := goodIn_app (goodIn_of _ (by decide +kernel)) ggX5_state_X0_rampNumber
theorem dX5_state_0 : decode cX5_state 0 = .ok (.aload_n 0, 1) := by decide +kernel
theorem dX5_state_1 : decode cX5_state 1 = .ok (.iload_n 1, 1) := by decide +kernel
theorem dX5_state_2 : decode cX5_state 2 = .ok (.invokevirtual 48, 3) := by decide +kernel
theorem dX5_state_5 : decode cX5_state 5 = .ok (.astore_n 3, 1) := by decide +kernel
theorem dX5_state_6 : decode cX5_state 6 = .ok (.aload_n 3, 1) := by decide +kernel
theorem dX5_state_7 : decode cX5_state 7 = .ok (.ifnonnull 6, 3) := by decide +kernel
theorem dX5_state_10 : decode cX5_state 10 = .ok (.bipush (-2), 2) := by decide +kernel
theorem dX5_state_12 : decode cX5_state 12 = .ok (.ireturn, 1) := by decide +kernel
theorem dX5_state_13 : decode cX5_state 13 = .ok (.iload_n 2, 1) := by decide +kernel
theorem dX5_state_14 : decode cX5_state 14 = .ok (.tableswitch 83 0 5 #[38, 43, 48, 56, 67, 75], 38) := by decide +kernel
theorem dX5_state_52 : decode cX5_state 52 = .ok (.aload_n 3, 1) := by decide +kernel
theorem dX5_state_53 : decode cX5_state 53 = .ok (.invokevirtual 56, 3) := by decide +kernel
theorem dX5_state_56 : decode cX5_state 56 = .ok (.ireturn, 1) := by decide +kernel
theorem dX5_state_57 : decode cX5_state 57 = .ok (.aload_n 3, 1) := by decide +kernel
theorem dX5_state_58 : decode cX5_state 58 = .ok (.invokevirtual 68, 3) := by decide +kernel
theorem dX5_state_61 : decode cX5_state 61 = .ok (.ireturn, 1) := by decide +kernel
theorem dX5_state_62 : decode cX5_state 62 = .ok (.aload_n 3, 1) := by decide +kernel
theorem dX5_state_63 : decode cX5_state 63 = .ok (.getfield 82, 3) := by decide +kernel
theorem dX5_state_66 : decode cX5_state 66 = .ok (.getfield 98, 3) := by decide +kernel
theorem dX5_state_69 : decode cX5_state 69 = .ok (.ireturn, 1) := by decide +kernel
theorem dX5_state_70 : decode cX5_state 70 = .ok (.aload_n 3, 1) := by decide +kernel
theorem dX5_state_71 : decode cX5_state 71 = .ok (.getfield 125, 3) := by decide +kernel
theorem dX5_state_74 : decode cX5_state 74 = .ok (.getfield 148, 3) := by decide +kernel
theorem dX5_state_77 : decode cX5_state 77 = .ok (.getfield 98, 3) := by decide +kernel
theorem dX5_state_80 : decode cX5_state 80 = .ok (.ireturn, 1) := by decide +kernel
theorem dX5_state_81 : decode cX5_state 81 = .ok (.aload_n 3, 1) := by decide +kernel
theorem dX5_state_82 : decode cX5_state 82 = .ok (.getfield 125, 3) := by decide +kernel
theorem dX5_state_85 : decode cX5_state 85 = .ok (.getfield 160, 3) := by decide +kernel
theorem dX5_state_88 : decode cX5_state 88 = .ok (.ireturn, 1) := by decide +kernel
theorem dX5_state_89 : decode cX5_state 89 = .ok (.aload_n 3, 1) := by decide +kernel
theorem dX5_state_90 : decode cX5_state 90 = .ok (.getfield 125, 3) := by decide +kernel
theorem dX5_state_93 : decode cX5_state 93 = .ok (.getfield 167, 3) := by decide +kernel
theorem dX5_state_96 : decode cX5_state 96 = .ok (.ireturn, 1) := by decide +kernel
theorem dX5_state_97 : decode cX5_state 97 = .ok (.bipush (-2), 2) := by decide +kernel
theorem dX5_state_99 : decode cX5_state 99 = .ok (.ireturn, 1) := by decide +kernel
set_option maxRecDepth 20000 in
theorem ggX5_waiting_X5_berthAt : GoodIn wsX5_waiting wsX5_berthAt := goodIn_r _ [6, 7, 8, 20, 21, 22, 23, 24, 25, 26, 27, 28, 29] (by decide +kernel) (by decide +kernel)
set_option maxRecDepth 20000 in
theorem gX5_waiting_X5_berthAt : GoodIn wsX5_waiting (wsV RX5 48 RX5 yX5_berthAt wsX5_berthAt) := goodIn_app (goodIn_of _ (by decide +kernel)) ggX5_waiting_X5_berthAt
set_option maxRecDepth 20000 in
theorem ggX5_waiting_X4_weightAt : GoodIn wsX5_waiting wsX4_weightAt := goodIn_r _ [13, 14, 15, 30, 31] (by decide +kernel) (by decide +kernel)
set_option maxRecDepth 20000 in
theorem gX5_waiting_X4_weightAt : GoodIn wsX5_waiting (wsV RX5 109 RX4 yX4_weightAt wsX4_weightAt) := goodIn_app (goodIn_of _ (by decide +kernel)) ggX5_waiting_X4_weightAt
theorem dX5_waiting_0 : decode cX5_waiting 0 = .ok (.aload_n 0, 1) := by decide +kernel
theorem dX5_waiting_1 : decode cX5_waiting 1 = .ok (.iload_n 1, 1) := by decide +kernel
theorem dX5_waiting_2 : decode cX5_waiting 2 = .ok (.invokevirtual 48, 3) := by decide +kernel
theorem dX5_waiting_5 : decode cX5_waiting 5 = .ok (.astore_n 3, 1) := by decide +kernel
theorem dX5_waiting_6 : decode cX5_waiting 6 = .ok (.aload_n 3, 1) := by decide +kernel
theorem dX5_waiting_7 : decode cX5_waiting 7 = .ok (.ifnonnull 8, 3) := by decide +kernel
theorem dX5_waiting_10 : decode cX5_waiting 10 = .ok (.bipush (-2), 2) := by decide +kernel
theorem dX5_waiting_12 : decode cX5_waiting 12 = .ok (.goto 11, 3) := by decide +kernel
theorem dX5_waiting_15 : decode cX5_waiting 15 = .ok (.aload_n 3, 1) := by decide +kernel
theorem dX5_waiting_16 : decode cX5_waiting 16 = .ok (.getfield 82, 3) := by decide +kernel
theorem dX5_waiting_19 : decode cX5_waiting 19 = .ok (.iload_n 2, 1) := by decide +kernel
theorem dX5_waiting_20 : decode cX5_waiting 20 = .ok (.invokevirtual 109, 3) := by decide +kernel
theorem dX5_waiting_23 : decode cX5_waiting 23 = .ok (.ireturn, 1) := by decide +kernel
set_option maxRecDepth 20000 in
theorem ggX5_aboard_X5_berthAt : GoodIn wsX5_aboard wsX5_berthAt := goodIn_r _ [7, 8, 9, 24, 25, 26, 27, 28, 29, 30, 31, 32, 33] (by decide +kernel) (by decide +kernel)
set_option maxRecDepth 20000 in
theorem gX5_aboard_X5_berthAt : GoodIn wsX5_aboard (wsV RX5 48 RX5 yX5_berthAt wsX5_berthAt) := goodIn_app (goodIn_of _ (by decide +kernel)) ggX5_aboard_X5_berthAt
set_option maxRecDepth 20000 in
theorem ggX5_aboard_X4_weightAt : GoodIn wsX5_aboard wsX4_weightAt := goodIn_r _ [14, 15, 16, 34, 35] (by decide +kernel) (by decide +kernel)
set_option maxRecDepth 20000 in
theorem gX5_aboard_X4_weightAt : GoodIn wsX5_aboard (wsV RX5 109 RX4 yX4_weightAt wsX4_weightAt) := goodIn_app (goodIn_of _ (by decide +kernel)) ggX5_aboard_X4_weightAt
theorem dX5_aboard_0 : decode cX5_aboard 0 = .ok (.aload_n 0, 1) := by decide +kernel
theorem dX5_aboard_1 : decode cX5_aboard 1 = .ok (.iload_n 1, 1) := by decide +kernel
theorem dX5_aboard_2 : decode cX5_aboard 2 = .ok (.invokevirtual 48, 3) := by decide +kernel
theorem dX5_aboard_5 : decode cX5_aboard 5 = .ok (.astore_n 3, 1) := by decide +kernel
theorem dX5_aboard_6 : decode cX5_aboard 6 = .ok (.aload_n 3, 1) := by decide +kernel
theorem dX5_aboard_7 : decode cX5_aboard 7 = .ok (.ifnonnull 8, 3) := by decide +kernel
theorem dX5_aboard_10 : decode cX5_aboard 10 = .ok (.bipush (-2), 2) := by decide +kernel
theorem dX5_aboard_12 : decode cX5_aboard 12 = .ok (.goto 14, 3) := by decide +kernel
theorem dX5_aboard_15 : decode cX5_aboard 15 = .ok (.aload_n 3, 1) := by decide +kernel
theorem dX5_aboard_16 : decode cX5_aboard 16 = .ok (.getfield 125, 3) := by decide +kernel
theorem dX5_aboard_19 : decode cX5_aboard 19 = .ok (.getfield 148, 3) := by decide +kernel
theorem dX5_aboard_22 : decode cX5_aboard 22 = .ok (.iload_n 2, 1) := by decide +kernel
theorem dX5_aboard_23 : decode cX5_aboard 23 = .ok (.invokevirtual 109, 3) := by decide +kernel
theorem dX5_aboard_26 : decode cX5_aboard 26 = .ok (.ireturn, 1) := by decide +kernel
set_option maxRecDepth 20000 in
theorem ggX5_ofGate_X5_gateAt : GoodIn wsX5_ofGate wsX5_gateAt := goodIn_r _ [7, 8, 9, 20, 21, 22, 23, 24, 25, 26, 27, 28, 29] (by decide +kernel) (by decide +kernel)
set_option maxRecDepth 20000 in
theorem gX5_ofGate_X5_gateAt : GoodIn wsX5_ofGate (wsV RX5 52 RX5 yX5_gateAt wsX5_gateAt) := goodIn_app (goodIn_of _ (by decide +kernel)) ggX5_ofGate_X5_gateAt
set_option maxRecDepth 20000 in
theorem ggX5_ofGate_X2_shutAsNumber : GoodIn wsX5_ofGate wsX2_shutAsNumber := goodIn_r _ [14, 15, 16, 17, 18, 19] (by decide +kernel) (by decide +kernel)
set_option maxRecDepth 20000 in
theorem gX5_ofGate_X2_shutAsNumber : GoodIn wsX5_ofGate (wsV RX5 75 RX2 yX2_shutAsNumber wsX2_shutAsNumber) := goodIn_app (goodIn_of _ (by decide +kernel)) ggX5_ofGate_X2_shutAsNumber
theorem dX5_ofGate_0 : decode cX5_ofGate 0 = .ok (.aload_n 0, 1) := by decide +kernel
theorem dX5_ofGate_1 : decode cX5_ofGate 1 = .ok (.iload_n 1, 1) := by decide +kernel
theorem dX5_ofGate_2 : decode cX5_ofGate 2 = .ok (.invokevirtual 52, 3) := by decide +kernel
theorem dX5_ofGate_5 : decode cX5_ofGate 5 = .ok (.astore_n 3, 1) := by decide +kernel
theorem dX5_ofGate_6 : decode cX5_ofGate 6 = .ok (.aload_n 3, 1) := by decide +kernel
theorem dX5_ofGate_7 : decode cX5_ofGate 7 = .ok (.ifnonnull 6, 3) := by decide +kernel
theorem dX5_ofGate_10 : decode cX5_ofGate 10 = .ok (.bipush (-2), 2) := by decide +kernel
theorem dX5_ofGate_12 : decode cX5_ofGate 12 = .ok (.ireturn, 1) := by decide +kernel
theorem dX5_ofGate_13 : decode cX5_ofGate 13 = .ok (.iload_n 2, 1) := by decide +kernel
theorem dX5_ofGate_14 : decode cX5_ofGate 14 = .ok (.tableswitch 41 0 2 #[26, 31, 36], 26) := by decide +kernel
theorem dX5_ofGate_40 : decode cX5_ofGate 40 = .ok (.aload_n 3, 1) := by decide +kernel
theorem dX5_ofGate_41 : decode cX5_ofGate 41 = .ok (.getfield 101, 3) := by decide +kernel
theorem dX5_ofGate_44 : decode cX5_ofGate 44 = .ok (.ireturn, 1) := by decide +kernel
theorem dX5_ofGate_45 : decode cX5_ofGate 45 = .ok (.aload_n 3, 1) := by decide +kernel
theorem dX5_ofGate_46 : decode cX5_ofGate 46 = .ok (.getfield 138, 3) := by decide +kernel
theorem dX5_ofGate_49 : decode cX5_ofGate 49 = .ok (.ireturn, 1) := by decide +kernel
theorem dX5_ofGate_50 : decode cX5_ofGate 50 = .ok (.aload_n 3, 1) := by decide +kernel
theorem dX5_ofGate_51 : decode cX5_ofGate 51 = .ok (.invokevirtual 75, 3) := by decide +kernel
theorem dX5_ofGate_54 : decode cX5_ofGate 54 = .ok (.ireturn, 1) := by decide +kernel
theorem dX5_ofGate_55 : decode cX5_ofGate 55 = .ok (.bipush (-2), 2) := by decide +kernel
theorem dX5_ofGate_57 : decode cX5_ofGate 57 = .ok (.ireturn, 1) := by decide +kernel
set_option maxRecDepth 20000 in
theorem ggX5_ofRamp_X5_rampAt : GoodIn wsX5_ofRamp wsX5_rampAt := goodIn_r _ [8, 9, 10, 15, 16, 17, 18, 19, 20, 21, 22, 23, 24] (by decide +kernel) (by decide +kernel)
set_option maxRecDepth 20000 in
theorem gX5_ofRamp_X5_rampAt : GoodIn wsX5_ofRamp (wsV RX5 64 RX5 yX5_rampAt wsX5_rampAt) := goodIn_app (goodIn_of _ (by decide +kernel)) ggX5_ofRamp_X5_rampAt
theorem dX5_ofRamp_0 : decode cX5_ofRamp 0 = .ok (.aload_n 0, 1) := by decide +kernel
theorem dX5_ofRamp_1 : decode cX5_ofRamp 1 = .ok (.iload_n 1, 1) := by decide +kernel
theorem dX5_ofRamp_2 : decode cX5_ofRamp 2 = .ok (.invokevirtual 64, 3) := by decide +kernel
theorem dX5_ofRamp_5 : decode cX5_ofRamp 5 = .ok (.astore_n 3, 1) := by decide +kernel
theorem dX5_ofRamp_6 : decode cX5_ofRamp 6 = .ok (.aload_n 3, 1) := by decide +kernel
theorem dX5_ofRamp_7 : decode cX5_ofRamp 7 = .ok (.ifnonnull 6, 3) := by decide +kernel
theorem dX5_ofRamp_10 : decode cX5_ofRamp 10 = .ok (.bipush (-2), 2) := by decide +kernel
theorem dX5_ofRamp_12 : decode cX5_ofRamp 12 = .ok (.ireturn, 1) := by decide +kernel
theorem dX5_ofRamp_13 : decode cX5_ofRamp 13 = .ok (.iload_n 2, 1) := by decide +kernel
theorem dX5_ofRamp_14 : decode cX5_ofRamp 14 = .ok (.tableswitch 41 0 2 #[26, 31, 36], 26) := by decide +kernel
theorem dX5_ofRamp_40 : decode cX5_ofRamp 40 = .ok (.aload_n 3, 1) := by decide +kernel
theorem dX5_ofRamp_41 : decode cX5_ofRamp 41 = .ok (.getfield 108, 3) := by decide +kernel
theorem dX5_ofRamp_44 : decode cX5_ofRamp 44 = .ok (.ireturn, 1) := by decide +kernel
theorem dX5_ofRamp_45 : decode cX5_ofRamp 45 = .ok (.aload_n 3, 1) := by decide +kernel
theorem dX5_ofRamp_46 : decode cX5_ofRamp 46 = .ok (.getfield 141, 3) := by decide +kernel
theorem dX5_ofRamp_49 : decode cX5_ofRamp 49 = .ok (.ireturn, 1) := by decide +kernel
theorem dX5_ofRamp_50 : decode cX5_ofRamp 50 = .ok (.aload_n 3, 1) := by decide +kernel
theorem dX5_ofRamp_51 : decode cX5_ofRamp 51 = .ok (.getfield 122, 3) := by decide +kernel
theorem dX5_ofRamp_54 : decode cX5_ofRamp 54 = .ok (.ireturn, 1) := by decide +kernel
theorem dX5_ofRamp_55 : decode cX5_ofRamp 55 = .ok (.bipush (-2), 2) := by decide +kernel
theorem dX5_ofRamp_57 : decode cX5_ofRamp 57 = .ok (.ireturn, 1) := by decide +kernel
theorem dX5_count_0 : decode cX5_count 0 = .ok (.iload_n 1, 1) := by decide +kernel
theorem dX5_count_1 : decode cX5_count 1 = .ok (.tableswitch 78 0 6 #[43, 48, 53, 58, 63, 68, 73], 43) := by decide +kernel
theorem dX5_count_44 : decode cX5_count 44 = .ok (.aload_n 0, 1) := by decide +kernel
theorem dX5_count_45 : decode cX5_count 45 = .ok (.getfield 27, 3) := by decide +kernel
theorem dX5_count_48 : decode cX5_count 48 = .ok (.ireturn, 1) := by decide +kernel
theorem dX5_count_49 : decode cX5_count 49 = .ok (.aload_n 0, 1) := by decide +kernel
theorem dX5_count_50 : decode cX5_count 50 = .ok (.getfield 38, 3) := by decide +kernel
theorem dX5_count_53 : decode cX5_count 53 = .ok (.ireturn, 1) := by decide +kernel
theorem dX5_count_54 : decode cX5_count 54 = .ok (.aload_n 0, 1) := by decide +kernel
theorem dX5_count_55 : decode cX5_count 55 = .ok (.getfield 44, 3) := by decide +kernel
theorem dX5_count_58 : decode cX5_count 58 = .ok (.ireturn, 1) := by decide +kernel
theorem dX5_count_59 : decode cX5_count 59 = .ok (.aload_n 0, 1) := by decide +kernel
theorem dX5_count_60 : decode cX5_count 60 = .ok (.getfield 95, 3) := by decide +kernel
theorem dX5_count_63 : decode cX5_count 63 = .ok (.ireturn, 1) := by decide +kernel
theorem dX5_count_64 : decode cX5_count 64 = .ok (.aload_n 0, 1) := by decide +kernel
theorem dX5_count_65 : decode cX5_count 65 = .ok (.getfield 157, 3) := by decide +kernel
theorem dX5_count_68 : decode cX5_count 68 = .ok (.ireturn, 1) := by decide +kernel
theorem dX5_count_69 : decode cX5_count 69 = .ok (.aload_n 0, 1) := by decide +kernel
theorem dX5_count_70 : decode cX5_count 70 = .ok (.getfield 116, 3) := by decide +kernel
theorem dX5_count_73 : decode cX5_count 73 = .ok (.ireturn, 1) := by decide +kernel
theorem dX5_count_74 : decode cX5_count 74 = .ok (.aload_n 0, 1) := by decide +kernel
theorem dX5_count_75 : decode cX5_count 75 = .ok (.getfield 170, 3) := by decide +kernel
theorem dX5_count_78 : decode cX5_count 78 = .ok (.ireturn, 1) := by decide +kernel
theorem dX5_count_79 : decode cX5_count 79 = .ok (.bipush (-2), 2) := by decide +kernel
theorem dX5_count_81 : decode cX5_count 81 = .ok (.ireturn, 1) := by decide +kernel
theorem dX5_alarm_0 : decode cX5_alarm 0 = .ok (.aload_n 0, 1) := by decide +kernel
theorem dX5_alarm_1 : decode cX5_alarm 1 = .ok (.dup, 1) := by decide +kernel
theorem dX5_alarm_2 : decode cX5_alarm 2 = .ok (.getfield 170, 3) := by decide +kernel
theorem dX5_alarm_5 : decode cX5_alarm 5 = .ok (.iconst 1, 1) := by decide +kernel
theorem dX5_alarm_6 : decode cX5_alarm 6 = .ok (.iadd, 1) := by decide +kernel
theorem dX5_alarm_7 : decode cX5_alarm 7 = .ok (.putfield 170, 3) := by decide +kernel
theorem dX5_alarm_10 : decode cX5_alarm 10 = .ok (.iload_n 1, 1) := by decide +kernel
theorem dX5_alarm_11 : decode cX5_alarm 11 = .ok (.ireturn, 1) := by decide +kernel
theorem dX5_gateAt_0 : decode cX5_gateAt 0 = .ok (.iload_n 1, 1) := by decide +kernel
theorem dX5_gateAt_1 : decode cX5_gateAt 1 = .ok (.ifCond .lt 29, 3) := by decide +kernel
theorem dX5_gateAt_4 : decode cX5_gateAt 4 = .ok (.iload_n 1, 1) := by decide +kernel
theorem dX5_gateAt_5 : decode cX5_gateAt 5 = .ok (.aload_n 0, 1) := by decide +kernel
theorem dX5_gateAt_6 : decode cX5_gateAt 6 = .ok (.getfield 27, 3) := by decide +kernel
theorem dX5_gateAt_9 : decode cX5_gateAt 9 = .ok (.if_icmp .ge 21, 3) := by decide +kernel
theorem dX5_gateAt_12 : decode cX5_gateAt 12 = .ok (.iload_n 1, 1) := by decide +kernel
theorem dX5_gateAt_13 : decode cX5_gateAt 13 = .ok (.aload_n 0, 1) := by decide +kernel
theorem dX5_gateAt_14 : decode cX5_gateAt 14 = .ok (.getfield 11, 3) := by decide +kernel
theorem dX5_gateAt_17 : decode cX5_gateAt 17 = .ok (.arraylength, 1) := by decide +kernel
theorem dX5_gateAt_18 : decode cX5_gateAt 18 = .ok (.if_icmp .ge 12, 3) := by decide +kernel
theorem dX5_gateAt_21 : decode cX5_gateAt 21 = .ok (.aload_n 0, 1) := by decide +kernel
theorem dX5_gateAt_22 : decode cX5_gateAt 22 = .ok (.getfield 11, 3) := by decide +kernel
theorem dX5_gateAt_25 : decode cX5_gateAt 25 = .ok (.iload_n 1, 1) := by decide +kernel
theorem dX5_gateAt_26 : decode cX5_gateAt 26 = .ok (.aaload, 1) := by decide +kernel
theorem dX5_gateAt_27 : decode cX5_gateAt 27 = .ok (.goto 4, 3) := by decide +kernel
theorem dX5_gateAt_30 : decode cX5_gateAt 30 = .ok (.aconst_null, 1) := by decide +kernel
theorem dX5_gateAt_31 : decode cX5_gateAt 31 = .ok (.areturn, 1) := by decide +kernel
theorem dX5_rampAt_0 : decode cX5_rampAt 0 = .ok (.iload_n 1, 1) := by decide +kernel
theorem dX5_rampAt_1 : decode cX5_rampAt 1 = .ok (.ifCond .lt 29, 3) := by decide +kernel
theorem dX5_rampAt_4 : decode cX5_rampAt 4 = .ok (.iload_n 1, 1) := by decide +kernel
theorem dX5_rampAt_5 : decode cX5_rampAt 5 = .ok (.aload_n 0, 1) := by decide +kernel
theorem dX5_rampAt_6 : decode cX5_rampAt 6 = .ok (.getfield 38, 3) := by decide +kernel
theorem dX5_rampAt_9 : decode cX5_rampAt 9 = .ok (.if_icmp .ge 21, 3) := by decide +kernel
theorem dX5_rampAt_12 : decode cX5_rampAt 12 = .ok (.iload_n 1, 1) := by decide +kernel
theorem dX5_rampAt_13 : decode cX5_rampAt 13 = .ok (.aload_n 0, 1) := by decide +kernel
theorem dX5_rampAt_14 : decode cX5_rampAt 14 = .ok (.getfield 17, 3) := by decide +kernel
theorem dX5_rampAt_17 : decode cX5_rampAt 17 = .ok (.arraylength, 1) := by decide +kernel
theorem dX5_rampAt_18 : decode cX5_rampAt 18 = .ok (.if_icmp .ge 12, 3) := by decide +kernel
theorem dX5_rampAt_21 : decode cX5_rampAt 21 = .ok (.aload_n 0, 1) := by decide +kernel
theorem dX5_rampAt_22 : decode cX5_rampAt 22 = .ok (.getfield 17, 3) := by decide +kernel
theorem dX5_rampAt_25 : decode cX5_rampAt 25 = .ok (.iload_n 1, 1) := by decide +kernel
theorem dX5_rampAt_26 : decode cX5_rampAt 26 = .ok (.aaload, 1) := by decide +kernel
theorem dX5_rampAt_27 : decode cX5_rampAt 27 = .ok (.goto 4, 3) := by decide +kernel
theorem dX5_rampAt_30 : decode cX5_rampAt 30 = .ok (.aconst_null, 1) := by decide +kernel
theorem dX5_rampAt_31 : decode cX5_rampAt 31 = .ok (.areturn, 1) := by decide +kernel
theorem dX5_berthAt_0 : decode cX5_berthAt 0 = .ok (.iload_n 1, 1) := by decide +kernel
theorem dX5_berthAt_1 : decode cX5_berthAt 1 = .ok (.ifCond .lt 29, 3) := by decide +kernel
theorem dX5_berthAt_4 : decode cX5_berthAt 4 = .ok (.iload_n 1, 1) := by decide +kernel
theorem dX5_berthAt_5 : decode cX5_berthAt 5 = .ok (.aload_n 0, 1) := by decide +kernel
theorem dX5_berthAt_6 : decode cX5_berthAt 6 = .ok (.getfield 44, 3) := by decide +kernel
theorem dX5_berthAt_9 : decode cX5_berthAt 9 = .ok (.if_icmp .ge 21, 3) := by decide +kernel
theorem dX5_berthAt_12 : decode cX5_berthAt 12 = .ok (.iload_n 1, 1) := by decide +kernel
theorem dX5_berthAt_13 : decode cX5_berthAt 13 = .ok (.aload_n 0, 1) := by decide +kernel
theorem dX5_berthAt_14 : decode cX5_berthAt 14 = .ok (.getfield 23, 3) := by decide +kernel
theorem dX5_berthAt_17 : decode cX5_berthAt 17 = .ok (.arraylength, 1) := by decide +kernel
theorem dX5_berthAt_18 : decode cX5_berthAt 18 = .ok (.if_icmp .ge 12, 3) := by decide +kernel
theorem dX5_berthAt_21 : decode cX5_berthAt 21 = .ok (.aload_n 0, 1) := by decide +kernel
theorem dX5_berthAt_22 : decode cX5_berthAt 22 = .ok (.getfield 23, 3) := by decide +kernel
theorem dX5_berthAt_25 : decode cX5_berthAt 25 = .ok (.iload_n 1, 1) := by decide +kernel
theorem dX5_berthAt_26 : decode cX5_berthAt 26 = .ok (.aaload, 1) := by decide +kernel
theorem dX5_berthAt_27 : decode cX5_berthAt 27 = .ok (.goto 4, 3) := by decide +kernel
theorem dX5_berthAt_30 : decode cX5_berthAt 30 = .ok (.aconst_null, 1) := by decide +kernel
theorem dX5_berthAt_31 : decode cX5_berthAt 31 = .ok (.areturn, 1) := by decide +kernel
theorem dX5_isWithin_0 : decode cX5_isWithin 0 = .ok (.iload_n 0, 1) := by decide +kernel
theorem dX5_isWithin_1 : decode cX5_isWithin 1 = .ok (.iload_n 1, 1) := by decide +kernel
theorem dX5_isWithin_2 : decode cX5_isWithin 2 = .ok (.if_icmp .lt 12, 3) := by decide +kernel
theorem dX5_isWithin_5 : decode cX5_isWithin 5 = .ok (.iload_n 0, 1) := by decide +kernel
theorem dX5_isWithin_6 : decode cX5_isWithin 6 = .ok (.iload_n 2, 1) := by decide +kernel
theorem dX5_isWithin_7 : decode cX5_isWithin 7 = .ok (.if_icmp .gt 7, 3) := by decide +kernel
theorem dX5_isWithin_10 : decode cX5_isWithin 10 = .ok (.iconst 1, 1) := by decide +kernel
theorem dX5_isWithin_11 : decode cX5_isWithin 11 = .ok (.goto 4, 3) := by decide +kernel
theorem dX5_isWithin_14 : decode cX5_isWithin 14 = .ok (.iconst 0, 1) := by decide +kernel
theorem dX5_isWithin_15 : decode cX5_isWithin 15 = .ok (.ireturn, 1) := by decide +kernel
end
section
theorem dX6_init_0 : decode cX6_init 0 = .ok (.aload_n 0, 1) := by decide +kernel
theorem dX6_init_1 : decode cX6_init 1 = .ok (.invokespecial 1, 3) := by decide +kernel
theorem dX6_init_4 : decode cX6_init 4 = .ok (.aload_n 0, 1) := by decide +kernel
theorem dX6_init_5 : decode cX6_init 5 = .ok (.bipush 16, 2) := by decide +kernel
theorem dX6_init_7 : decode cX6_init 7 = .ok (.newarray .boolean, 2) := by decide +kernel
theorem dX6_init_9 : decode cX6_init 9 = .ok (.putfield 7, 3) := by decide +kernel
theorem dX6_init_12 : decode cX6_init 12 = .ok (.aload_n 0, 1) := by decide +kernel
theorem dX6_init_13 : decode cX6_init 13 = .ok (.bipush 16, 2) := by decide +kernel
theorem dX6_init_15 : decode cX6_init 15 = .ok (.newarray .int, 2) := by decide +kernel
theorem dX6_init_17 : decode cX6_init 17 = .ok (.putfield 13, 3) := by decide +kernel
theorem dX6_init_20 : decode cX6_init 20 = .ok (.aload_n 0, 1) := by decide +kernel
theorem dX6_init_21 : decode cX6_init 21 = .ok (.bipush 16, 2) := by decide +kernel
theorem dX6_init_23 : decode cX6_init 23 = .ok (.newarray .int, 2) := by decide +kernel
theorem dX6_init_25 : decode cX6_init 25 = .ok (.putfield 17, 3) := by decide +kernel
theorem dX6_init_28 : decode cX6_init 28 = .ok (.aload_n 0, 1) := by decide +kernel
theorem dX6_init_29 : decode cX6_init 29 = .ok (.bipush 16, 2) := by decide +kernel
theorem dX6_init_31 : decode cX6_init 31 = .ok (.newarray .int, 2) := by decide +kernel
theorem dX6_init_33 : decode cX6_init 33 = .ok (.putfield 20, 3) := by decide +kernel
theorem dX6_init_36 : decode cX6_init 36 = .ok (.aload_n 0, 1) := by decide +kernel
theorem dX6_init_37 : decode cX6_init 37 = .ok (.bipush 16, 2) := by decide +kernel
theorem dX6_init_39 : decode cX6_init 39 = .ok (.newarray .int, 2) := by decide +kernel
theorem dX6_init_41 : decode cX6_init 41 = .ok (.putfield 23, 3) := by decide +kernel
theorem dX6_init_44 : decode cX6_init 44 = .ok (.aload_n 0, 1) := by decide +kernel
theorem dX6_init_45 : decode cX6_init 45 = .ok (.bipush 16, 2) := by decide +kernel
theorem dX6_init_47 : decode cX6_init 47 = .ok (.newarray .int, 2) := by decide +kernel
theorem dX6_init_49 : decode cX6_init 49 = .ok (.putfield 26, 3) := by decide +kernel
theorem dX6_init_52 : decode cX6_init 52 = .ok (.aload_n 0, 1) := by decide +kernel
theorem dX6_init_53 : decode cX6_init 53 = .ok (.bipush 8, 2) := by decide +kernel
theorem dX6_init_55 : decode cX6_init 55 = .ok (.newarray .int, 2) := by decide +kernel
theorem dX6_init_57 : decode cX6_init 57 = .ok (.putfield 29, 3) := by decide +kernel
theorem dX6_init_60 : decode cX6_init 60 = .ok (.aload_n 0, 1) := by decide +kernel
theorem dX6_init_61 : decode cX6_init 61 = .ok (.bipush 8, 2) := by decide +kernel
theorem dX6_init_63 : decode cX6_init 63 = .ok (.newarray .int, 2) := by decide +kernel
theorem dX6_init_65 : decode cX6_init 65 = .ok (.putfield 32, 3) := by decide +kernel
theorem dX6_init_68 : decode cX6_init 68 = .ok (.aload_n 0, 1) := by decide +kernel
theorem dX6_init_69 : decode cX6_init 69 = .ok (.bipush 8, 2) := by decide +kernel
theorem dX6_init_71 : decode cX6_init 71 = .ok (.newarray .int, 2) := by decide +kernel
theorem dX6_init_73 : decode cX6_init 73 = .ok (.putfield 35, 3) := by decide +kernel
theorem dX6_init_76 : decode cX6_init 76 = .ok (.aload_n 0, 1) := by decide +kernel
theorem dX6_init_77 : decode cX6_init 77 = .ok (.bipush 8, 2) := by decide +kernel
theorem dX6_init_79 : decode cX6_init 79 = .ok (.newarray .int, 2) := by decide +kernel
theorem dX6_init_81 : decode cX6_init 81 = .ok (.putfield 38, 3) := by decide +kernel
theorem dX6_init_84 : decode cX6_init 84 = .ok (.aload_n 0, 1) := by decide +kernel
theorem dX6_init_85 : decode cX6_init 85 = .ok (.sipush 240, 3) := by decide +kernel
theorem dX6_init_88 : decode cX6_init 88 = .ok (.newarray .int, 2) := by decide +kernel
theorem dX6_init_90 : decode cX6_init 90 = .ok (.putfield 41, 3) := by decide +kernel
theorem dX6_init_93 : decode cX6_init 93 = .ok (.aload_n 0, 1) := by decide +kernel
theorem dX6_init_94 : decode cX6_init 94 = .ok (.bipush 8, 2) := by decide +kernel
theorem dX6_init_96 : decode cX6_init 96 = .ok (.newarray .int, 2) := by decide +kernel
theorem dX6_init_98 : decode cX6_init 98 = .ok (.putfield 44, 3) := by decide +kernel
theorem dX6_init_101 : decode cX6_init 101 = .ok (.aload_n 0, 1) := by decide +kernel
theorem dX6_init_102 : decode cX6_init 102 = .ok (.bipush 8, 2) := by decide +kernel
theorem dX6_init_104 : decode cX6_init 104 = .ok (.newarray .int, 2) := by decide +kernel
theorem dX6_init_106 : decode cX6_init 106 = .ok (.putfield 47, 3) := by decide +kernel
theorem dX6_init_109 : decode cX6_init 109 = .ok (.aload_n 0, 1) := by decide +kernel
theorem dX6_init_110 : decode cX6_init 110 = .ok (.bipush 8, 2) := by decide +kernel
theorem dX6_init_112 : decode cX6_init 112 = .ok (.newarray .int, 2) := by decide +kernel
theorem dX6_init_114 : decode cX6_init 114 = .ok (.putfield 50, 3) := by decide +kernel
theorem dX6_init_117 : decode cX6_init 117 = .ok (.aload_n 0, 1) := by decide +kernel
theorem dX6_init_118 : decode cX6_init 118 = .ok (.sipush 320, 3) := by decide +kernel
theorem dX6_init_121 : decode cX6_init 121 = .ok (.newarray .int, 2) := by decide +kernel
theorem dX6_init_123 : decode cX6_init 123 = .ok (.putfield 53, 3) := by decide +kernel
theorem dX6_init_126 : decode cX6_init 126 = .ok (.return_, 1) := by decide +kernel
theorem dX6_isGate_0 : decode cX6_isGate 0 = .ok (.iload_n 1, 1) := by decide +kernel
theorem dX6_isGate_1 : decode cX6_isGate 1 = .ok (.ifCond .lt 15, 3) := by decide +kernel
theorem dX6_isGate_4 : decode cX6_isGate 4 = .ok (.iload_n 1, 1) := by decide +kernel
theorem dX6_isGate_5 : decode cX6_isGate 5 = .ok (.aload_n 0, 1) := by decide +kernel
theorem dX6_isGate_6 : decode cX6_isGate 6 = .ok (.getfield 56, 3) := by decide +kernel
theorem dX6_isGate_9 : decode cX6_isGate 9 = .ok (.if_icmp .ge 7, 3) := by decide +kernel
theorem dX6_isGate_12 : decode cX6_isGate 12 = .ok (.iconst 1, 1) := by decide +kernel
theorem dX6_isGate_13 : decode cX6_isGate 13 = .ok (.goto 4, 3) := by decide +kernel
theorem dX6_isGate_16 : decode cX6_isGate 16 = .ok (.iconst 0, 1) := by decide +kernel
theorem dX6_isGate_17 : decode cX6_isGate 17 = .ok (.ireturn, 1) := by decide +kernel
theorem dX6_isRamp_0 : decode cX6_isRamp 0 = .ok (.iload_n 1, 1) := by decide +kernel
theorem dX6_isRamp_1 : decode cX6_isRamp 1 = .ok (.ifCond .lt 15, 3) := by decide +kernel
theorem dX6_isRamp_4 : decode cX6_isRamp 4 = .ok (.iload_n 1, 1) := by decide +kernel
theorem dX6_isRamp_5 : decode cX6_isRamp 5 = .ok (.aload_n 0, 1) := by decide +kernel
theorem dX6_isRamp_6 : decode cX6_isRamp 6 = .ok (.getfield 60, 3) := by decide +kernel
theorem dX6_isRamp_9 : decode cX6_isRamp 9 = .ok (.if_icmp .ge 7, 3) := by decide +kernel
theorem dX6_isRamp_12 : decode cX6_isRamp 12 = .ok (.iconst 1, 1) := by decide +kernel
theorem dX6_isRamp_13 : decode cX6_isRamp 13 = .ok (.goto 4, 3) := by decide +kernel
theorem dX6_isRamp_16 : decode cX6_isRamp 16 = .ok (.iconst 0, 1) := by decide +kernel
theorem dX6_isRamp_17 : decode cX6_isRamp 17 = .ok (.ireturn, 1) := by decide +kernel
theorem dX6_isBerth_0 : decode cX6_isBerth 0 = .ok (.iload_n 1, 1) := by decide +kernel
theorem dX6_isBerth_1 : decode cX6_isBerth 1 = .ok (.ifCond .lt 15, 3) := by decide +kernel
theorem dX6_isBerth_4 : decode cX6_isBerth 4 = .ok (.iload_n 1, 1) := by decide +kernel
theorem dX6_isBerth_5 : decode cX6_isBerth 5 = .ok (.aload_n 0, 1) := by decide +kernel
theorem dX6_isBerth_6 : decode cX6_isBerth 6 = .ok (.getfield 63, 3) := by decide +kernel
theorem dX6_isBerth_9 : decode cX6_isBerth 9 = .ok (.if_icmp .ge 7, 3) := by decide +kernel
theorem dX6_isBerth_12 : decode cX6_isBerth 12 = .ok (.iconst 1, 1) := by decide +kernel
theorem dX6_isBerth_13 : decode cX6_isBerth 13 = .ok (.goto 4, 3) := by decide +kernel
theorem dX6_isBerth_16 : decode cX6_isBerth 16 = .ok (.iconst 0, 1) := by decide +kernel
theorem dX6_isBerth_17 : decode cX6_isBerth 17 = .ok (.ireturn, 1) := by decide +kernel
theorem dX6_alarm_0 : decode cX6_alarm 0 = .ok (.aload_n 0, 1) := by decide +kernel
theorem dX6_alarm_1 : decode cX6_alarm 1 = .ok (.dup, 1) := by decide +kernel
theorem dX6_alarm_2 : decode cX6_alarm 2 = .ok (.getfield 66, 3) := by decide +kernel
theorem dX6_alarm_5 : decode cX6_alarm 5 = .ok (.iconst 1, 1) := by decide +kernel
theorem dX6_alarm_6 : decode cX6_alarm 6 = .ok (.iadd, 1) := by decide +kernel
theorem dX6_alarm_7 : decode cX6_alarm 7 = .ok (.putfield 66, 3) := by decide +kernel
theorem dX6_alarm_10 : decode cX6_alarm 10 = .ok (.iload_n 1, 1) := by decide +kernel
theorem dX6_alarm_11 : decode cX6_alarm 11 = .ok (.ireturn, 1) := by decide +kernel
theorem dX6_gate_0 : decode cX6_gate 0 = .ok (.aload_n 0, 1) := by decide +kernel
theorem dX6_gate_1 : decode cX6_gate 1 = .ok (.getfield 56, 3) := by decide +kernel
theorem dX6_gate_4 : decode cX6_gate 4 = .ok (.bipush 16, 2) := by decide +kernel
theorem dX6_gate_6 : decode cX6_gate 6 = .ok (.if_icmp .ne 6, 3) := by decide +kernel
theorem dX6_gate_9 : decode cX6_gate 9 = .ok (.bipush (-3), 2) := by decide +kernel
theorem dX6_gate_11 : decode cX6_gate 11 = .ok (.ireturn, 1) := by decide +kernel
theorem dX6_gate_12 : decode cX6_gate 12 = .ok (.aload_n 0, 1) := by decide +kernel
theorem dX6_gate_13 : decode cX6_gate 13 = .ok (.dup, 1) := by decide +kernel
theorem dX6_gate_14 : decode cX6_gate 14 = .ok (.getfield 56, 3) := by decide +kernel
theorem dX6_gate_17 : decode cX6_gate 17 = .ok (.iconst 1, 1) := by decide +kernel
theorem dX6_gate_18 : decode cX6_gate 18 = .ok (.iadd, 1) := by decide +kernel
theorem dX6_gate_19 : decode cX6_gate 19 = .ok (.putfield 56, 3) := by decide +kernel
theorem dX6_gate_22 : decode cX6_gate 22 = .ok (.aload_n 0, 1) := by decide +kernel
theorem dX6_gate_23 : decode cX6_gate 23 = .ok (.getfield 56, 3) := by decide +kernel
theorem dX6_gate_26 : decode cX6_gate 26 = .ok (.iconst 1, 1) := by decide +kernel
theorem dX6_gate_27 : decode cX6_gate 27 = .ok (.isub, 1) := by decide +kernel
theorem dX6_gate_28 : decode cX6_gate 28 = .ok (.ireturn, 1) := by decide +kernel
theorem dX6_ramp_0 : decode cX6_ramp 0 = .ok (.iload_n 1, 1) := by decide +kernel
theorem dX6_ramp_1 : decode cX6_ramp 1 = .ok (.iconst 1, 1) := by decide +kernel
theorem dX6_ramp_2 : decode cX6_ramp 2 = .ok (.if_icmp .lt 10, 3) := by decide +kernel
theorem dX6_ramp_5 : decode cX6_ramp 5 = .ok (.iload_n 1, 1) := by decide +kernel
theorem dX6_ramp_6 : decode cX6_ramp 6 = .ok (.sipush 1000, 3) := by decide +kernel
theorem dX6_ramp_9 : decode cX6_ramp 9 = .ok (.if_icmp .le 6, 3) := by decide +kernel
theorem dX6_ramp_12 : decode cX6_ramp 12 = .ok (.bipush (-2), 2) := by decide +kernel
theorem dX6_ramp_14 : decode cX6_ramp 14 = .ok (.ireturn, 1) := by decide +kernel
theorem dX6_ramp_15 : decode cX6_ramp 15 = .ok (.aload_n 0, 1) := by decide +kernel
theorem dX6_ramp_16 : decode cX6_ramp 16 = .ok (.getfield 60, 3) := by decide +kernel
theorem dX6_ramp_19 : decode cX6_ramp 19 = .ok (.bipush 16, 2) := by decide +kernel
theorem dX6_ramp_21 : decode cX6_ramp 21 = .ok (.if_icmp .ne 6, 3) := by decide +kernel
theorem dX6_ramp_24 : decode cX6_ramp 24 = .ok (.bipush (-3), 2) := by decide +kernel
theorem dX6_ramp_26 : decode cX6_ramp 26 = .ok (.ireturn, 1) := by decide +kernel
theorem dX6_ramp_27 : decode cX6_ramp 27 = .ok (.aload_n 0, 1) := by decide +kernel
theorem dX6_ramp_28 : decode cX6_ramp 28 = .ok (.getfield 20, 3) := by decide +kernel
theorem dX6_ramp_31 : decode cX6_ramp 31 = .ok (.aload_n 0, 1) := by decide +kernel
theorem dX6_ramp_32 : decode cX6_ramp 32 = .ok (.getfield 60, 3) := by decide +kernel
theorem dX6_ramp_35 : decode cX6_ramp 35 = .ok (.iload_n 1, 1) := by decide +kernel
theorem dX6_ramp_36 : decode cX6_ramp 36 = .ok (.iastore, 1) := by decide +kernel
theorem dX6_ramp_37 : decode cX6_ramp 37 = .ok (.aload_n 0, 1) := by decide +kernel
theorem dX6_ramp_38 : decode cX6_ramp 38 = .ok (.dup, 1) := by decide +kernel
theorem dX6_ramp_39 : decode cX6_ramp 39 = .ok (.getfield 60, 3) := by decide +kernel
theorem dX6_ramp_42 : decode cX6_ramp 42 = .ok (.iconst 1, 1) := by decide +kernel
theorem dX6_ramp_43 : decode cX6_ramp 43 = .ok (.iadd, 1) := by decide +kernel
theorem dX6_ramp_44 : decode cX6_ramp 44 = .ok (.putfield 60, 3) := by decide +kernel
theorem dX6_ramp_47 : decode cX6_ramp 47 = .ok (.aload_n 0, 1) := by decide +kernel
theorem dX6_ramp_48 : decode cX6_ramp 48 = .ok (.getfield 60, 3) := by decide +kernel
theorem dX6_ramp_51 : decode cX6_ramp 51 = .ok (.iconst 1, 1) := by decide +kernel
theorem dX6_ramp_52 : decode cX6_ramp 52 = .ok (.isub, 1) := by decide +kernel
theorem dX6_ramp_53 : decode cX6_ramp 53 = .ok (.ireturn, 1) := by decide +kernel
theorem dX6_berth_0 : decode cX6_berth 0 = .ok (.iload_n 1, 1) := by decide +kernel
theorem dX6_berth_1 : decode cX6_berth 1 = .ok (.ifCond .lt 10, 3) := by decide +kernel
theorem dX6_berth_4 : decode cX6_berth 4 = .ok (.iload_n 1, 1) := by decide +kernel
theorem dX6_berth_5 : decode cX6_berth 5 = .ok (.sipush 10000, 3) := by decide +kernel
theorem dX6_berth_8 : decode cX6_berth 8 = .ok (.if_icmp .le 6, 3) := by decide +kernel
theorem dX6_berth_11 : decode cX6_berth 11 = .ok (.bipush (-2), 2) := by decide +kernel
theorem dX6_berth_13 : decode cX6_berth 13 = .ok (.ireturn, 1) := by decide +kernel
theorem dX6_berth_14 : decode cX6_berth 14 = .ok (.aload_n 0, 1) := by decide +kernel
theorem dX6_berth_15 : decode cX6_berth 15 = .ok (.getfield 63, 3) := by decide +kernel
theorem dX6_berth_18 : decode cX6_berth 18 = .ok (.bipush 8, 2) := by decide +kernel
theorem dX6_berth_20 : decode cX6_berth 20 = .ok (.if_icmp .ne 6, 3) := by decide +kernel
theorem dX6_berth_23 : decode cX6_berth 23 = .ok (.bipush (-3), 2) := by decide +kernel
theorem dX6_berth_25 : decode cX6_berth 25 = .ok (.ireturn, 1) := by decide +kernel
theorem dX6_berth_26 : decode cX6_berth 26 = .ok (.aload_n 0, 1) := by decide +kernel
theorem dX6_berth_27 : decode cX6_berth 27 = .ok (.getfield 44, 3) := by decide +kernel
theorem dX6_berth_30 : decode cX6_berth 30 = .ok (.aload_n 0, 1) := by decide +kernel
theorem dX6_berth_31 : decode cX6_berth 31 = .ok (.getfield 63, 3) := by decide +kernel
theorem dX6_berth_34 : decode cX6_berth 34 = .ok (.iload_n 1, 1) := by decide +kernel
theorem dX6_berth_35 : decode cX6_berth 35 = .ok (.iastore, 1) := by decide +kernel
theorem dX6_berth_36 : decode cX6_berth 36 = .ok (.aload_n 0, 1) := by decide +kernel
theorem dX6_berth_37 : decode cX6_berth 37 = .ok (.getfield 29, 3) := by decide +kernel
theorem dX6_berth_40 : decode cX6_berth 40 = .ok (.aload_n 0, 1) := by decide +kernel
theorem dX6_berth_41 : decode cX6_berth 41 = .ok (.getfield 63, 3) := by decide +kernel
theorem dX6_berth_44 : decode cX6_berth 44 = .ok (.iconst (-1), 1) := by decide +kernel
theorem dX6_berth_45 : decode cX6_berth 45 = .ok (.iastore, 1) := by decide +kernel
theorem dX6_berth_46 : decode cX6_berth 46 = .ok (.aload_n 0, 1) := by decide +kernel
theorem dX6_berth_47 : decode cX6_berth 47 = .ok (.getfield 32, 3) := by decide +kernel
theorem dX6_berth_50 : decode cX6_berth 50 = .ok (.aload_n 0, 1) := by decide +kernel
theorem dX6_berth_51 : decode cX6_berth 51 = .ok (.getfield 63, 3) := by decide +kernel
theorem dX6_berth_54 : decode cX6_berth 54 = .ok (.iconst (-1), 1) := by decide +kernel
theorem dX6_berth_55 : decode cX6_berth 55 = .ok (.iastore, 1) := by decide +kernel
theorem dX6_berth_56 : decode cX6_berth 56 = .ok (.aload_n 0, 1) := by decide +kernel
theorem dX6_berth_57 : decode cX6_berth 57 = .ok (.getfield 35, 3) := by decide +kernel
theorem dX6_berth_60 : decode cX6_berth 60 = .ok (.aload_n 0, 1) := by decide +kernel
theorem dX6_berth_61 : decode cX6_berth 61 = .ok (.getfield 63, 3) := by decide +kernel
theorem dX6_berth_64 : decode cX6_berth 64 = .ok (.aload_n 0, 1) := by decide +kernel
theorem dX6_berth_65 : decode cX6_berth 65 = .ok (.getfield 63, 3) := by decide +kernel
theorem dX6_berth_68 : decode cX6_berth 68 = .ok (.iastore, 1) := by decide +kernel
theorem dX6_berth_69 : decode cX6_berth 69 = .ok (.aload_n 0, 1) := by decide +kernel
theorem dX6_berth_70 : decode cX6_berth 70 = .ok (.dup, 1) := by decide +kernel
theorem dX6_berth_71 : decode cX6_berth 71 = .ok (.getfield 63, 3) := by decide +kernel
theorem dX6_berth_74 : decode cX6_berth 74 = .ok (.iconst 1, 1) := by decide +kernel
theorem dX6_berth_75 : decode cX6_berth 75 = .ok (.iadd, 1) := by decide +kernel
theorem dX6_berth_76 : decode cX6_berth 76 = .ok (.putfield 63, 3) := by decide +kernel
theorem dX6_berth_79 : decode cX6_berth 79 = .ok (.aload_n 0, 1) := by decide +kernel
theorem dX6_berth_80 : decode cX6_berth 80 = .ok (.getfield 63, 3) := by decide +kernel
theorem dX6_berth_83 : decode cX6_berth 83 = .ok (.iconst 1, 1) := by decide +kernel
theorem dX6_berth_84 : decode cX6_berth 84 = .ok (.isub, 1) := by decide +kernel
theorem dX6_berth_85 : decode cX6_berth 85 = .ok (.ireturn, 1) := by decide +kernel
set_option maxRecDepth 20000 in
theorem ggX6_hinge_X6_isBerth : GoodIn wsX6_hinge wsX6_isBerth := goodIn_r _ [6, 7, 13, 14, 15, 16, 17, 18, 19, 20, 21, 22, 23, 24, 25, 26, 27, 28, 29, 30, 31, 32, 33, 34] (by decide +kernel) (by decide +kernel)
set_option maxRecDepth 20000 in
theorem gX6_hinge_X6_isBerth : GoodIn wsX6_hinge (wsV RX6 69 RX6 yX6_isBerth wsX6_isBerth) := goodIn_app (goodIn_of _ (by decide +kernel)) ggX6_hinge_X6_isBerth
set_option maxRecDepth 20000 in
theorem ggX6_hinge_X6_isGate : GoodIn wsX6_hinge wsX6_isGate := goodIn_r _ [11, 12, 13, 14, 15, 16, 17, 18, 19, 20, 21, 22, 23, 24, 25, 26, 27, 28, 29, 30, 31, 32, 33, 34] (by decide +kernel) (by decide +kernel)
set_option maxRecDepth 20000 in
theorem gX6_hinge_X6_isGate : GoodIn wsX6_hinge (wsV RX6 73 RX6 yX6_isGate wsX6_isGate) := goodIn_app (goodIn_of _ (by decide +kernel)) ggX6_hinge_X6_isGate
theorem dX6_hinge_0 : decode cX6_hinge 0 = .ok (.aload_n 0, 1) := by decide +kernel
theorem dX6_hinge_1 : decode cX6_hinge 1 = .ok (.iload_n 1, 1) := by decide +kernel
theorem dX6_hinge_2 : decode cX6_hinge 2 = .ok (.invokevirtual 69, 3) := by decide +kernel
theorem dX6_hinge_5 : decode cX6_hinge 5 = .ok (.ifCond .eq 16, 3) := by decide +kernel
theorem dX6_hinge_8 : decode cX6_hinge 8 = .ok (.iload_n 2, 1) := by decide +kernel
theorem dX6_hinge_9 : decode cX6_hinge 9 = .ok (.iconst (-1), 1) := by decide +kernel
theorem dX6_hinge_10 : decode cX6_hinge 10 = .ok (.if_icmp .eq 14, 3) := by decide +kernel
theorem dX6_hinge_13 : decode cX6_hinge 13 = .ok (.aload_n 0, 1) := by decide +kernel
theorem dX6_hinge_14 : decode cX6_hinge 14 = .ok (.iload_n 2, 1) := by decide +kernel
theorem dX6_hinge_15 : decode cX6_hinge 15 = .ok (.invokevirtual 73, 3) := by decide +kernel
theorem dX6_hinge_18 : decode cX6_hinge 18 = .ok (.ifCond .ne 6, 3) := by decide +kernel
theorem dX6_hinge_21 : decode cX6_hinge 21 = .ok (.bipush (-2), 2) := by decide +kernel
theorem dX6_hinge_23 : decode cX6_hinge 23 = .ok (.ireturn, 1) := by decide +kernel
theorem dX6_hinge_24 : decode cX6_hinge 24 = .ok (.aload_n 0, 1) := by decide +kernel
theorem dX6_hinge_25 : decode cX6_hinge 25 = .ok (.getfield 29, 3) := by decide +kernel
theorem dX6_hinge_28 : decode cX6_hinge 28 = .ok (.iload_n 1, 1) := by decide +kernel
theorem dX6_hinge_29 : decode cX6_hinge 29 = .ok (.iaload, 1) := by decide +kernel
theorem dX6_hinge_30 : decode cX6_hinge 30 = .ok (.istore_n 3, 1) := by decide +kernel
theorem dX6_hinge_31 : decode cX6_hinge 31 = .ok (.aload_n 0, 1) := by decide +kernel
theorem dX6_hinge_32 : decode cX6_hinge 32 = .ok (.getfield 29, 3) := by decide +kernel
theorem dX6_hinge_35 : decode cX6_hinge 35 = .ok (.iload_n 1, 1) := by decide +kernel
theorem dX6_hinge_36 : decode cX6_hinge 36 = .ok (.iload_n 2, 1) := by decide +kernel
theorem dX6_hinge_37 : decode cX6_hinge 37 = .ok (.iastore, 1) := by decide +kernel
theorem dX6_hinge_38 : decode cX6_hinge 38 = .ok (.iload_n 3, 1) := by decide +kernel
theorem dX6_hinge_39 : decode cX6_hinge 39 = .ok (.ireturn, 1) := by decide +kernel
set_option maxRecDepth 20000 in
theorem ggX6_lay_X6_isBerth : GoodIn wsX6_lay wsX6_isBerth := goodIn_r _ [6, 7, 13, 14, 15, 16, 17, 18, 19, 20, 21, 22, 23, 24, 25, 26, 27, 28, 29, 30, 31, 32, 33, 34] (by decide +kernel) (by decide +kernel)
set_option maxRecDepth 20000 in
theorem gX6_lay_X6_isBerth : GoodIn wsX6_lay (wsV RX6 69 RX6 yX6_isBerth wsX6_isBerth) := goodIn_app (goodIn_of _ (by decide +kernel)) ggX6_lay_X6_isBerth
set_option maxRecDepth 20000 in
theorem ggX6_lay_X6_isRamp : GoodIn wsX6_lay wsX6_isRamp := goodIn_r _ [11, 12, 13, 14, 15, 16, 17, 18, 19, 20, 21, 22, 23, 24, 25, 26, 27, 28, 29, 30, 31, 32, 33, 34] (by decide +kernel) (by decide +kernel)
set_option maxRecDepth 20000 in
theorem gX6_lay_X6_isRamp : GoodIn wsX6_lay (wsV RX6 76 RX6 yX6_isRamp wsX6_isRamp) := goodIn_app (goodIn_of _ (by decide +kernel)) ggX6_lay_X6_isRamp
theorem dX6_lay_0 : decode cX6_lay 0 = .ok (.aload_n 0, 1) := by decide +kernel
theorem dX6_lay_1 : decode cX6_lay 1 = .ok (.iload_n 1, 1) := by decide +kernel
theorem dX6_lay_2 : decode cX6_lay 2 = .ok (.invokevirtual 69, 3) := by decide +kernel
theorem dX6_lay_5 : decode cX6_lay 5 = .ok (.ifCond .eq 16, 3) := by decide +kernel
theorem dX6_lay_8 : decode cX6_lay 8 = .ok (.iload_n 2, 1) := by decide +kernel
theorem dX6_lay_9 : decode cX6_lay 9 = .ok (.iconst (-1), 1) := by decide +kernel
theorem dX6_lay_10 : decode cX6_lay 10 = .ok (.if_icmp .eq 14, 3) := by decide +kernel
theorem dX6_lay_13 : decode cX6_lay 13 = .ok (.aload_n 0, 1) := by decide +kernel
theorem dX6_lay_14 : decode cX6_lay 14 = .ok (.iload_n 2, 1) := by decide +kernel
theorem dX6_lay_15 : decode cX6_lay 15 = .ok (.invokevirtual 76, 3) := by decide +kernel
theorem dX6_lay_18 : decode cX6_lay 18 = .ok (.ifCond .ne 6, 3) := by decide +kernel
theorem dX6_lay_21 : decode cX6_lay 21 = .ok (.bipush (-2), 2) := by decide +kernel
theorem dX6_lay_23 : decode cX6_lay 23 = .ok (.ireturn, 1) := by decide +kernel
theorem dX6_lay_24 : decode cX6_lay 24 = .ok (.aload_n 0, 1) := by decide +kernel
theorem dX6_lay_25 : decode cX6_lay 25 = .ok (.getfield 32, 3) := by decide +kernel
theorem dX6_lay_28 : decode cX6_lay 28 = .ok (.iload_n 1, 1) := by decide +kernel
theorem dX6_lay_29 : decode cX6_lay 29 = .ok (.iaload, 1) := by decide +kernel
theorem dX6_lay_30 : decode cX6_lay 30 = .ok (.istore_n 3, 1) := by decide +kernel
theorem dX6_lay_31 : decode cX6_lay 31 = .ok (.aload_n 0, 1) := by decide +kernel
theorem dX6_lay_32 : decode cX6_lay 32 = .ok (.getfield 32, 3) := by decide +kernel
theorem dX6_lay_35 : decode cX6_lay 35 = .ok (.iload_n 1, 1) := by decide +kernel
theorem dX6_lay_36 : decode cX6_lay 36 = .ok (.iload_n 2, 1) := by decide +kernel
theorem dX6_lay_37 : decode cX6_lay 37 = .ok (.iastore, 1) := by decide +kernel
theorem dX6_lay_38 : decode cX6_lay 38 = .ok (.iload_n 3, 1) := by decide +kernel
theorem dX6_lay_39 : decode cX6_lay 39 = .ok (.ireturn, 1) := by decide +kernel
set_option maxRecDepth 20000 in
theorem ggX6_shut_X6_isGate : GoodIn wsX6_shut wsX6_isGate := goodIn_r _ [6, 7, 8, 9, 10, 11, 12, 13, 14, 15, 16, 17, 18, 19, 20, 21, 22, 23, 24, 25, 26, 27, 28, 29] (by decide +kernel) (by decide +kernel)
set_option maxRecDepth 20000 in
theorem gX6_shut_X6_isGate : GoodIn wsX6_shut (wsV RX6 73 RX6 yX6_isGate wsX6_isGate) := goodIn_app (goodIn_of _ (by decide +kernel)) ggX6_shut_X6_isGate
theorem dX6_shut_0 : decode cX6_shut 0 = .ok (.aload_n 0, 1) := by decide +kernel
theorem dX6_shut_1 : decode cX6_shut 1 = .ok (.iload_n 1, 1) := by decide +kernel
theorem dX6_shut_2 : decode cX6_shut 2 = .ok (.invokevirtual 73, 3) := by decide +kernel
theorem dX6_shut_5 : decode cX6_shut 5 = .ok (.ifCond .ne 6, 3) := by decide +kernel
theorem dX6_shut_8 : decode cX6_shut 8 = .ok (.bipush (-2), 2) := by decide +kernel
theorem dX6_shut_10 : decode cX6_shut 10 = .ok (.ireturn, 1) := by decide +kernel
theorem dX6_shut_11 : decode cX6_shut 11 = .ok (.aload_n 0, 1) := by decide +kernel
theorem dX6_shut_12 : decode cX6_shut 12 = .ok (.getfield 7, 3) := by decide +kernel
theorem dX6_shut_15 : decode cX6_shut 15 = .ok (.iload_n 1, 1) := by decide +kernel
theorem dX6_shut_16 : decode cX6_shut 16 = .ok (.baload, 1) := by decide +kernel
theorem dX6_shut_17 : decode cX6_shut 17 = .ok (.ifCond .eq 7, 3) := by decide +kernel
theorem dX6_shut_20 : decode cX6_shut 20 = .ok (.iconst 1, 1) := by decide +kernel
theorem dX6_shut_21 : decode cX6_shut 21 = .ok (.goto 4, 3) := by decide +kernel
theorem dX6_shut_24 : decode cX6_shut 24 = .ok (.iconst 0, 1) := by decide +kernel
theorem dX6_shut_25 : decode cX6_shut 25 = .ok (.istore_n 3, 1) := by decide +kernel
theorem dX6_shut_26 : decode cX6_shut 26 = .ok (.aload_n 0, 1) := by decide +kernel
theorem dX6_shut_27 : decode cX6_shut 27 = .ok (.getfield 7, 3) := by decide +kernel
theorem dX6_shut_30 : decode cX6_shut 30 = .ok (.iload_n 1, 1) := by decide +kernel
theorem dX6_shut_31 : decode cX6_shut 31 = .ok (.iload_n 2, 1) := by decide +kernel
theorem dX6_shut_32 : decode cX6_shut 32 = .ok (.bastore, 1) := by decide +kernel
theorem dX6_shut_33 : decode cX6_shut 33 = .ok (.iload_n 3, 1) := by decide +kernel
theorem dX6_shut_34 : decode cX6_shut 34 = .ok (.ireturn, 1) := by decide +kernel
set_option maxRecDepth 20000 in
theorem ggX6_arrive_X6_isBerth : GoodIn wsX6_arrive wsX6_isBerth := goodIn_r _ [7, 8, 14, 15, 16, 17, 18, 19, 20, 21, 22, 23, 24, 25, 26, 27, 28, 29, 30, 31, 32, 33, 34, 35] (by decide +kernel) (by decide +kernel)
set_option maxRecDepth 20000 in
theorem gX6_arrive_X6_isBerth : GoodIn wsX6_arrive (wsV RX6 69 RX6 yX6_isBerth wsX6_isBerth) := goodIn_app (goodIn_of _ (by decide +kernel)) ggX6_arrive_X6_isBerth
set_option maxRecDepth 20000 in
theorem ggX6_arrive_X6_comes : GoodIn wsX6_arrive wsX6_comes := goodIn_r _ [12, 13, 1, 14, 15, 16, 17, 18, 19, 20, 21, 22, 23, 24, 25, 26, 27, 28, 29, 30, 31, 32, 33, 34, 35] (by decide +kernel) (by decide +kernel)
set_option maxRecDepth 20000 in
theorem gX6_arrive_X6_comes : GoodIn wsX6_arrive (wsV RX6 79 RX6 yX6_comes wsX6_comes) := goodIn_app (goodIn_of _ (by decide +kernel)) ggX6_arrive_X6_comes
theorem dX6_arrive_0 : decode cX6_arrive 0 = .ok (.aload_n 0, 1) := by decide +kernel
theorem dX6_arrive_1 : decode cX6_arrive 1 = .ok (.iload_n 1, 1) := by decide +kernel
theorem dX6_arrive_2 : decode cX6_arrive 2 = .ok (.invokevirtual 69, 3) := by decide +kernel
theorem dX6_arrive_5 : decode cX6_arrive 5 = .ok (.ifCond .eq 14, 3) := by decide +kernel
theorem dX6_arrive_8 : decode cX6_arrive 8 = .ok (.iload_n 2, 1) := by decide +kernel
theorem dX6_arrive_9 : decode cX6_arrive 9 = .ok (.ifCond .lt 10, 3) := by decide +kernel
theorem dX6_arrive_12 : decode cX6_arrive 12 = .ok (.iload_n 2, 1) := by decide +kernel
theorem dX6_arrive_13 : decode cX6_arrive 13 = .ok (.sipush 2000, 3) := by decide +kernel
theorem dX6_arrive_16 : decode cX6_arrive 16 = .ok (.if_icmp .le 6, 3) := by decide +kernel
theorem dX6_arrive_19 : decode cX6_arrive 19 = .ok (.bipush (-2), 2) := by decide +kernel
theorem dX6_arrive_21 : decode cX6_arrive 21 = .ok (.ireturn, 1) := by decide +kernel
theorem dX6_arrive_22 : decode cX6_arrive 22 = .ok (.aload_n 0, 1) := by decide +kernel
theorem dX6_arrive_23 : decode cX6_arrive 23 = .ok (.getfield 38, 3) := by decide +kernel
theorem dX6_arrive_26 : decode cX6_arrive 26 = .ok (.iload_n 1, 1) := by decide +kernel
theorem dX6_arrive_27 : decode cX6_arrive 27 = .ok (.iaload, 1) := by decide +kernel
theorem dX6_arrive_28 : decode cX6_arrive 28 = .ok (.bipush 30, 2) := by decide +kernel
theorem dX6_arrive_30 : decode cX6_arrive 30 = .ok (.if_icmp .ne 6, 3) := by decide +kernel
theorem dX6_arrive_33 : decode cX6_arrive 33 = .ok (.bipush (-3), 2) := by decide +kernel
theorem dX6_arrive_35 : decode cX6_arrive 35 = .ok (.ireturn, 1) := by decide +kernel
theorem dX6_arrive_36 : decode cX6_arrive 36 = .ok (.aload_n 0, 1) := by decide +kernel
theorem dX6_arrive_37 : decode cX6_arrive 37 = .ok (.iload_n 1, 1) := by decide +kernel
theorem dX6_arrive_38 : decode cX6_arrive 38 = .ok (.iload_n 2, 1) := by decide +kernel
theorem dX6_arrive_39 : decode cX6_arrive 39 = .ok (.invokevirtual 79, 3) := by decide +kernel
theorem dX6_arrive_42 : decode cX6_arrive 42 = .ok (.aload_n 0, 1) := by decide +kernel
theorem dX6_arrive_43 : decode cX6_arrive 43 = .ok (.dup, 1) := by decide +kernel
theorem dX6_arrive_44 : decode cX6_arrive 44 = .ok (.getfield 83, 3) := by decide +kernel
theorem dX6_arrive_47 : decode cX6_arrive 47 = .ok (.iconst 1, 1) := by decide +kernel
theorem dX6_arrive_48 : decode cX6_arrive 48 = .ok (.iadd, 1) := by decide +kernel
theorem dX6_arrive_49 : decode cX6_arrive 49 = .ok (.putfield 83, 3) := by decide +kernel
theorem dX6_arrive_52 : decode cX6_arrive 52 = .ok (.aload_n 0, 1) := by decide +kernel
theorem dX6_arrive_53 : decode cX6_arrive 53 = .ok (.getfield 38, 3) := by decide +kernel
theorem dX6_arrive_56 : decode cX6_arrive 56 = .ok (.iload_n 1, 1) := by decide +kernel
theorem dX6_arrive_57 : decode cX6_arrive 57 = .ok (.iaload, 1) := by decide +kernel
theorem dX6_arrive_58 : decode cX6_arrive 58 = .ok (.ireturn, 1) := by decide +kernel
theorem dX6_comes_0 : decode cX6_comes 0 = .ok (.aload_n 0, 1) := by decide +kernel
theorem dX6_comes_1 : decode cX6_comes 1 = .ok (.getfield 41, 3) := by decide +kernel
theorem dX6_comes_4 : decode cX6_comes 4 = .ok (.bipush 30, 2) := by decide +kernel
theorem dX6_comes_6 : decode cX6_comes 6 = .ok (.iload_n 1, 1) := by decide +kernel
theorem dX6_comes_7 : decode cX6_comes 7 = .ok (.imul, 1) := by decide +kernel
theorem dX6_comes_8 : decode cX6_comes 8 = .ok (.aload_n 0, 1) := by decide +kernel
theorem dX6_comes_9 : decode cX6_comes 9 = .ok (.getfield 38, 3) := by decide +kernel
theorem dX6_comes_12 : decode cX6_comes 12 = .ok (.iload_n 1, 1) := by decide +kernel
theorem dX6_comes_13 : decode cX6_comes 13 = .ok (.iaload, 1) := by decide +kernel
theorem dX6_comes_14 : decode cX6_comes 14 = .ok (.iadd, 1) := by decide +kernel
theorem dX6_comes_15 : decode cX6_comes 15 = .ok (.iload_n 2, 1) := by decide +kernel
theorem dX6_comes_16 : decode cX6_comes 16 = .ok (.iastore, 1) := by decide +kernel
theorem dX6_comes_17 : decode cX6_comes 17 = .ok (.aload_n 0, 1) := by decide +kernel
theorem dX6_comes_18 : decode cX6_comes 18 = .ok (.getfield 38, 3) := by decide +kernel
theorem dX6_comes_21 : decode cX6_comes 21 = .ok (.iload_n 1, 1) := by decide +kernel
theorem dX6_comes_22 : decode cX6_comes 22 = .ok (.dup2, 1) := by decide +kernel
theorem dX6_comes_23 : decode cX6_comes 23 = .ok (.iaload, 1) := by decide +kernel
theorem dX6_comes_24 : decode cX6_comes 24 = .ok (.iconst 1, 1) := by decide +kernel
theorem dX6_comes_25 : decode cX6_comes 25 = .ok (.iadd, 1) := by decide +kernel
theorem dX6_comes_26 : decode cX6_comes 26 = .ok (.iastore, 1) := by decide +kernel
theorem dX6_comes_27 : decode cX6_comes 27 = .ok (.return_, 1) := by decide +kernel
theorem dX6_goes_0 : decode cX6_goes 0 = .ok (.aload_n 0, 1) := by decide +kernel
theorem dX6_goes_1 : decode cX6_goes 1 = .ok (.getfield 41, 3) := by decide +kernel
theorem dX6_goes_4 : decode cX6_goes 4 = .ok (.bipush 30, 2) := by decide +kernel
theorem dX6_goes_6 : decode cX6_goes 6 = .ok (.iload_n 1, 1) := by decide +kernel
theorem dX6_goes_7 : decode cX6_goes 7 = .ok (.imul, 1) := by decide +kernel
theorem dX6_goes_8 : decode cX6_goes 8 = .ok (.iaload, 1) := by decide +kernel
theorem dX6_goes_9 : decode cX6_goes 9 = .ok (.istore_n 2, 1) := by decide +kernel
theorem dX6_goes_10 : decode cX6_goes 10 = .ok (.aload_n 0, 1) := by decide +kernel
theorem dX6_goes_11 : decode cX6_goes 11 = .ok (.getfield 38, 3) := by decide +kernel
theorem dX6_goes_14 : decode cX6_goes 14 = .ok (.iload_n 1, 1) := by decide +kernel
theorem dX6_goes_15 : decode cX6_goes 15 = .ok (.dup2, 1) := by decide +kernel
theorem dX6_goes_16 : decode cX6_goes 16 = .ok (.iaload, 1) := by decide +kernel
theorem dX6_goes_17 : decode cX6_goes 17 = .ok (.iconst 1, 1) := by decide +kernel
theorem dX6_goes_18 : decode cX6_goes 18 = .ok (.isub, 1) := by decide +kernel
theorem dX6_goes_19 : decode cX6_goes 19 = .ok (.iastore, 1) := by decide +kernel
theorem dX6_goes_20 : decode cX6_goes 20 = .ok (.iconst 0, 1) := by decide +kernel
theorem dX6_goes_21 : decode cX6_goes 21 = .ok (.istore_n 3, 1) := by decide +kernel
theorem dX6_goes_22 : decode cX6_goes 22 = .ok (.iload_n 3, 1) := by decide +kernel
theorem dX6_goes_23 : decode cX6_goes 23 = .ok (.aload_n 0, 1) := by decide +kernel
theorem dX6_goes_24 : decode cX6_goes 24 = .ok (.getfield 38, 3) := by decide +kernel
theorem dX6_goes_27 : decode cX6_goes 27 = .ok (.iload_n 1, 1) := by decide +kernel
theorem dX6_goes_28 : decode cX6_goes 28 = .ok (.iaload, 1) := by decide +kernel
theorem dX6_goes_29 : decode cX6_goes 29 = .ok (.if_icmp .ge 33, 3) := by decide +kernel
theorem dX6_goes_32 : decode cX6_goes 32 = .ok (.aload_n 0, 1) := by decide +kernel
theorem dX6_goes_33 : decode cX6_goes 33 = .ok (.getfield 41, 3) := by decide +kernel
theorem dX6_goes_36 : decode cX6_goes 36 = .ok (.bipush 30, 2) := by decide +kernel
theorem dX6_goes_38 : decode cX6_goes 38 = .ok (.iload_n 1, 1) := by decide +kernel
theorem dX6_goes_39 : decode cX6_goes 39 = .ok (.imul, 1) := by decide +kernel
theorem dX6_goes_40 : decode cX6_goes 40 = .ok (.iload_n 3, 1) := by decide +kernel
theorem dX6_goes_41 : decode cX6_goes 41 = .ok (.iadd, 1) := by decide +kernel
theorem dX6_goes_42 : decode cX6_goes 42 = .ok (.aload_n 0, 1) := by decide +kernel
theorem dX6_goes_43 : decode cX6_goes 43 = .ok (.getfield 41, 3) := by decide +kernel
theorem dX6_goes_46 : decode cX6_goes 46 = .ok (.bipush 30, 2) := by decide +kernel
theorem dX6_goes_48 : decode cX6_goes 48 = .ok (.iload_n 1, 1) := by decide +kernel
theorem dX6_goes_49 : decode cX6_goes 49 = .ok (.imul, 1) := by decide +kernel
theorem dX6_goes_50 : decode cX6_goes 50 = .ok (.iload_n 3, 1) := by decide +kernel
theorem dX6_goes_51 : decode cX6_goes 51 = .ok (.iadd, 1) := by decide +kernel
theorem dX6_goes_52 : decode cX6_goes 52 = .ok (.iconst 1, 1) := by decide +kernel
theorem dX6_goes_53 : decode cX6_goes 53 = .ok (.iadd, 1) := by decide +kernel
theorem dX6_goes_54 : decode cX6_goes 54 = .ok (.iaload, 1) := by decide +kernel
theorem dX6_goes_55 : decode cX6_goes 55 = .ok (.iastore, 1) := by decide +kernel
theorem dX6_goes_56 : decode cX6_goes 56 = .ok (.iinc 3 1, 3) := by decide +kernel
theorem dX6_goes_59 : decode cX6_goes 59 = .ok (.goto (-37), 3) := by decide +kernel
theorem dX6_goes_62 : decode cX6_goes 62 = .ok (.iload_n 2, 1) := by decide +kernel
theorem dX6_goes_63 : decode cX6_goes 63 = .ok (.ireturn, 1) := by decide +kernel
set_option maxRecDepth 20000 in
theorem ggX6_board_X6_isBerth : GoodIn wsX6_board wsX6_isBerth := goodIn_r _ [21, 22, 36, 37, 38, 39, 40, 41, 42, 43, 44, 45, 46, 47, 48, 49, 50, 51, 52, 53, 54, 55, 56, 57] (by decide +kernel) (by decide +kernel)
set_option maxRecDepth 20000 in
theorem gX6_board_X6_isBerth : GoodIn wsX6_board (wsV RX6 69 RX6 yX6_isBerth wsX6_isBerth) := goodIn_app (goodIn_of _ (by decide +kernel)) ggX6_board_X6_isBerth
set_option maxRecDepth 20000 in
theorem ggX6_board_X6_goes : GoodIn wsX6_board wsX6_goes := goodIn_r _ [26, 8, 5, 36, 37, 38, 39, 40, 41, 42, 43, 44, 45, 46, 47, 48, 49, 50, 51, 52, 53, 54, 55, 56, 57] (by decide +kernel) (by decide +kernel)
set_option maxRecDepth 20000 in
theorem gX6_board_X6_goes : GoodIn wsX6_board (wsV RX6 86 RX6 yX6_goes wsX6_goes) := goodIn_app (goodIn_of _ (by decide +kernel)) ggX6_board_X6_goes
set_option maxRecDepth 20000 in
theorem ggX6_board_X6_alarm : GoodIn wsX6_board wsX6_alarm := goodIn_r _ [30, 31, 36, 37, 38, 39, 40, 41, 42, 43, 44, 45, 46, 47, 48, 49, 50, 51, 52, 53, 54, 55, 56, 57] (by decide +kernel) (by decide +kernel)
set_option maxRecDepth 20000 in
theorem gX6_board_X6_alarm : GoodIn wsX6_board (wsV RX6 93 RX6 yX6_alarm wsX6_alarm) := goodIn_app (goodIn_of _ (by decide +kernel)) ggX6_board_X6_alarm
set_option maxRecDepth 20000 in
theorem ggX6_board_X6_comes : GoodIn wsX6_board wsX6_comes := goodIn_r _ [35, 8, 5, 36, 37, 38, 39, 40, 41, 42, 43, 44, 45, 46, 47, 48, 49, 50, 51, 52, 53, 54, 55, 56, 57] (by decide +kernel) (by decide +kernel)
set_option maxRecDepth 20000 in
theorem gX6_board_X6_comes : GoodIn wsX6_board (wsV RX6 79 RX6 yX6_comes wsX6_comes) := goodIn_app (goodIn_of _ (by decide +kernel)) ggX6_board_X6_comes
theorem dX6_board_0 : decode cX6_board 0 = .ok (.aload_n 0, 1) := by decide +kernel
theorem dX6_board_1 : decode cX6_board 1 = .ok (.iload_n 1, 1) := by decide +kernel
theorem dX6_board_2 : decode cX6_board 2 = .ok (.invokevirtual 69, 3) := by decide +kernel
theorem dX6_board_5 : decode cX6_board 5 = .ok (.ifCond .eq 14, 3) := by decide +kernel
theorem dX6_board_8 : decode cX6_board 8 = .ok (.iload_n 2, 1) := by decide +kernel
theorem dX6_board_9 : decode cX6_board 9 = .ok (.iconst 1, 1) := by decide +kernel
theorem dX6_board_10 : decode cX6_board 10 = .ok (.if_icmp .lt 9, 3) := by decide +kernel
theorem dX6_board_13 : decode cX6_board 13 = .ok (.iload_n 2, 1) := by decide +kernel
theorem dX6_board_14 : decode cX6_board 14 = .ok (.bipush 30, 2) := by decide +kernel
theorem dX6_board_16 : decode cX6_board 16 = .ok (.if_icmp .le 6, 3) := by decide +kernel
theorem dX6_board_19 : decode cX6_board 19 = .ok (.bipush (-2), 2) := by decide +kernel
theorem dX6_board_21 : decode cX6_board 21 = .ok (.ireturn, 1) := by decide +kernel
theorem dX6_board_22 : decode cX6_board 22 = .ok (.aload_n 0, 1) := by decide +kernel
theorem dX6_board_23 : decode cX6_board 23 = .ok (.getfield 29, 3) := by decide +kernel
theorem dX6_board_26 : decode cX6_board 26 = .ok (.iload_n 1, 1) := by decide +kernel
theorem dX6_board_27 : decode cX6_board 27 = .ok (.iaload, 1) := by decide +kernel
theorem dX6_board_28 : decode cX6_board 28 = .ok (.istore_n 3, 1) := by decide +kernel
theorem dX6_board_29 : decode cX6_board 29 = .ok (.iload_n 3, 1) := by decide +kernel
theorem dX6_board_30 : decode cX6_board 30 = .ok (.iconst (-1), 1) := by decide +kernel
theorem dX6_board_31 : decode cX6_board 31 = .ok (.if_icmp .ne 6, 3) := by decide +kernel
theorem dX6_board_34 : decode cX6_board 34 = .ok (.bipush (-4), 2) := by decide +kernel
theorem dX6_board_36 : decode cX6_board 36 = .ok (.ireturn, 1) := by decide +kernel
theorem dX6_board_37 : decode cX6_board 37 = .ok (.aload_n 0, 1) := by decide +kernel
theorem dX6_board_38 : decode cX6_board 38 = .ok (.getfield 13, 3) := by decide +kernel
theorem dX6_board_41 : decode cX6_board 41 = .ok (.iload_n 3, 1) := by decide +kernel
theorem dX6_board_42 : decode cX6_board 42 = .ok (.dup2, 1) := by decide +kernel
theorem dX6_board_43 : decode cX6_board 43 = .ok (.iaload, 1) := by decide +kernel
theorem dX6_board_44 : decode cX6_board 44 = .ok (.iconst 1, 1) := by decide +kernel
theorem dX6_board_45 : decode cX6_board 45 = .ok (.iadd, 1) := by decide +kernel
theorem dX6_board_46 : decode cX6_board 46 = .ok (.iastore, 1) := by decide +kernel
theorem dX6_board_47 : decode cX6_board 47 = .ok (.aload_n 0, 1) := by decide +kernel
theorem dX6_board_48 : decode cX6_board 48 = .ok (.getfield 7, 3) := by decide +kernel
theorem dX6_board_51 : decode cX6_board 51 = .ok (.iload_n 3, 1) := by decide +kernel
theorem dX6_board_52 : decode cX6_board 52 = .ok (.baload, 1) := by decide +kernel
theorem dX6_board_53 : decode cX6_board 53 = .ok (.ifCond .eq 6, 3) := by decide +kernel
theorem dX6_board_56 : decode cX6_board 56 = .ok (.bipush (-5), 2) := by decide +kernel
theorem dX6_board_58 : decode cX6_board 58 = .ok (.ireturn, 1) := by decide +kernel
theorem dX6_board_59 : decode cX6_board 59 = .ok (.aload_n 0, 1) := by decide +kernel
theorem dX6_board_60 : decode cX6_board 60 = .ok (.getfield 35, 3) := by decide +kernel
theorem dX6_board_63 : decode cX6_board 63 = .ok (.iload_n 1, 1) := by decide +kernel
theorem dX6_board_64 : decode cX6_board 64 = .ok (.iaload, 1) := by decide +kernel
theorem dX6_board_65 : decode cX6_board 65 = .ok (.istore 4, 2) := by decide +kernel
theorem dX6_board_67 : decode cX6_board 67 = .ok (.iconst 0, 1) := by decide +kernel
theorem dX6_board_68 : decode cX6_board 68 = .ok (.istore 5, 2) := by decide +kernel
theorem dX6_board_70 : decode cX6_board 70 = .ok (.aload_n 0, 1) := by decide +kernel
theorem dX6_board_71 : decode cX6_board 71 = .ok (.getfield 38, 3) := by decide +kernel
theorem dX6_board_74 : decode cX6_board 74 = .ok (.iload_n 1, 1) := by decide +kernel
theorem dX6_board_75 : decode cX6_board 75 = .ok (.iaload, 1) := by decide +kernel
theorem dX6_board_76 : decode cX6_board 76 = .ok (.istore 6, 2) := by decide +kernel
theorem dX6_board_78 : decode cX6_board 78 = .ok (.iconst 0, 1) := by decide +kernel
theorem dX6_board_79 : decode cX6_board 79 = .ok (.istore 7, 2) := by decide +kernel
theorem dX6_board_81 : decode cX6_board 81 = .ok (.iload 7, 2) := by decide +kernel
theorem dX6_board_83 : decode cX6_board 83 = .ok (.iload 6, 2) := by decide +kernel
theorem dX6_board_85 : decode cX6_board 85 = .ok (.if_icmp .ge 224, 3) := by decide +kernel
theorem dX6_board_88 : decode cX6_board 88 = .ok (.aload_n 0, 1) := by decide +kernel
theorem dX6_board_89 : decode cX6_board 89 = .ok (.getfield 32, 3) := by decide +kernel
theorem dX6_board_92 : decode cX6_board 92 = .ok (.iload_n 1, 1) := by decide +kernel
theorem dX6_board_93 : decode cX6_board 93 = .ok (.iaload, 1) := by decide +kernel
theorem dX6_board_94 : decode cX6_board 94 = .ok (.istore 8, 2) := by decide +kernel
theorem dX6_board_96 : decode cX6_board 96 = .ok (.iload 8, 2) := by decide +kernel
theorem dX6_board_98 : decode cX6_board 98 = .ok (.iconst (-1), 1) := by decide +kernel
theorem dX6_board_99 : decode cX6_board 99 = .ok (.if_icmp .ne 6, 3) := by decide +kernel
theorem dX6_board_102 : decode cX6_board 102 = .ok (.bipush (-4), 2) := by decide +kernel
theorem dX6_board_104 : decode cX6_board 104 = .ok (.ireturn, 1) := by decide +kernel
theorem dX6_board_105 : decode cX6_board 105 = .ok (.aload_n 0, 1) := by decide +kernel
theorem dX6_board_106 : decode cX6_board 106 = .ok (.getfield 26, 3) := by decide +kernel
theorem dX6_board_109 : decode cX6_board 109 = .ok (.iload 8, 2) := by decide +kernel
theorem dX6_board_111 : decode cX6_board 111 = .ok (.dup2, 1) := by decide +kernel
theorem dX6_board_112 : decode cX6_board 112 = .ok (.iaload, 1) := by decide +kernel
theorem dX6_board_113 : decode cX6_board 113 = .ok (.iconst 1, 1) := by decide +kernel
theorem dX6_board_114 : decode cX6_board 114 = .ok (.iadd, 1) := by decide +kernel
theorem dX6_board_115 : decode cX6_board 115 = .ok (.iastore, 1) := by decide +kernel
theorem dX6_board_116 : decode cX6_board 116 = .ok (.aload_n 0, 1) := by decide +kernel
theorem dX6_board_117 : decode cX6_board 117 = .ok (.getfield 41, 3) := by decide +kernel
theorem dX6_board_120 : decode cX6_board 120 = .ok (.bipush 30, 2) := by decide +kernel
theorem dX6_board_122 : decode cX6_board 122 = .ok (.iload_n 1, 1) := by decide +kernel
theorem dX6_board_123 : decode cX6_board 123 = .ok (.imul, 1) := by decide +kernel
theorem dX6_board_124 : decode cX6_board 124 = .ok (.iaload, 1) := by decide +kernel
theorem dX6_board_125 : decode cX6_board 125 = .ok (.istore 9, 2) := by decide +kernel
theorem dX6_board_127 : decode cX6_board 127 = .ok (.iload 9, 2) := by decide +kernel
theorem dX6_board_129 : decode cX6_board 129 = .ok (.ifCond .ne 27, 3) := by decide +kernel
theorem dX6_board_132 : decode cX6_board 132 = .ok (.aload_n 0, 1) := by decide +kernel
theorem dX6_board_133 : decode cX6_board 133 = .ok (.iload_n 1, 1) := by decide +kernel
theorem dX6_board_134 : decode cX6_board 134 = .ok (.invokevirtual 86, 3) := by decide +kernel
theorem dX6_board_137 : decode cX6_board 137 = .ok (.istore 9, 2) := by decide +kernel
theorem dX6_board_139 : decode cX6_board 139 = .ok (.aload_n 0, 1) := by decide +kernel
theorem dX6_board_140 : decode cX6_board 140 = .ok (.dup, 1) := by decide +kernel
theorem dX6_board_141 : decode cX6_board 141 = .ok (.getfield 90, 3) := by decide +kernel
theorem dX6_board_144 : decode cX6_board 144 = .ok (.iconst 1, 1) := by decide +kernel
theorem dX6_board_145 : decode cX6_board 145 = .ok (.iadd, 1) := by decide +kernel
theorem dX6_board_146 : decode cX6_board 146 = .ok (.putfield 90, 3) := by decide +kernel
theorem dX6_board_149 : decode cX6_board 149 = .ok (.aload_n 0, 1) := by decide +kernel
theorem dX6_board_150 : decode cX6_board 150 = .ok (.bipush (-6), 2) := by decide +kernel
theorem dX6_board_152 : decode cX6_board 152 = .ok (.invokevirtual 93, 3) := by decide +kernel
theorem dX6_board_155 : decode cX6_board 155 = .ok (.ireturn, 1) := by decide +kernel
theorem dX6_board_156 : decode cX6_board 156 = .ok (.iload 9, 2) := by decide +kernel
theorem dX6_board_158 : decode cX6_board 158 = .ok (.aload_n 0, 1) := by decide +kernel
theorem dX6_board_159 : decode cX6_board 159 = .ok (.getfield 20, 3) := by decide +kernel
theorem dX6_board_162 : decode cX6_board 162 = .ok (.iload 8, 2) := by decide +kernel
theorem dX6_board_164 : decode cX6_board 164 = .ok (.iaload, 1) := by decide +kernel
theorem dX6_board_165 : decode cX6_board 165 = .ok (.if_icmp .le 20, 3) := by decide +kernel
theorem dX6_board_168 : decode cX6_board 168 = .ok (.aload_n 0, 1) := by decide +kernel
theorem dX6_board_169 : decode cX6_board 169 = .ok (.iload_n 1, 1) := by decide +kernel
theorem dX6_board_170 : decode cX6_board 170 = .ok (.invokevirtual 86, 3) := by decide +kernel
theorem dX6_board_173 : decode cX6_board 173 = .ok (.istore 9, 2) := by decide +kernel
theorem dX6_board_175 : decode cX6_board 175 = .ok (.aload_n 0, 1) := by decide +kernel
theorem dX6_board_176 : decode cX6_board 176 = .ok (.iload_n 1, 1) := by decide +kernel
theorem dX6_board_177 : decode cX6_board 177 = .ok (.iload 9, 2) := by decide +kernel
theorem dX6_board_179 : decode cX6_board 179 = .ok (.invokevirtual 79, 3) := by decide +kernel
theorem dX6_board_182 : decode cX6_board 182 = .ok (.goto 121, 3) := by decide +kernel
theorem dX6_board_185 : decode cX6_board 185 = .ok (.aload_n 0, 1) := by decide +kernel
theorem dX6_board_186 : decode cX6_board 186 = .ok (.getfield 47, 3) := by decide +kernel
theorem dX6_board_189 : decode cX6_board 189 = .ok (.iload 4, 2) := by decide +kernel
theorem dX6_board_191 : decode cX6_board 191 = .ok (.iaload, 1) := by decide +kernel
theorem dX6_board_192 : decode cX6_board 192 = .ok (.iload 9, 2) := by decide +kernel
theorem dX6_board_194 : decode cX6_board 194 = .ok (.iadd, 1) := by decide +kernel
theorem dX6_board_195 : decode cX6_board 195 = .ok (.aload_n 0, 1) := by decide +kernel
theorem dX6_board_196 : decode cX6_board 196 = .ok (.getfield 44, 3) := by decide +kernel
theorem dX6_board_199 : decode cX6_board 199 = .ok (.iload 4, 2) := by decide +kernel
theorem dX6_board_201 : decode cX6_board 201 = .ok (.iaload, 1) := by decide +kernel
theorem dX6_board_202 : decode cX6_board 202 = .ok (.if_icmp .gt 15, 3) := by decide +kernel
theorem dX6_board_205 : decode cX6_board 205 = .ok (.aload_n 0, 1) := by decide +kernel
theorem dX6_board_206 : decode cX6_board 206 = .ok (.getfield 50, 3) := by decide +kernel
theorem dX6_board_209 : decode cX6_board 209 = .ok (.iload 4, 2) := by decide +kernel
theorem dX6_board_211 : decode cX6_board 211 = .ok (.iaload, 1) := by decide +kernel
theorem dX6_board_212 : decode cX6_board 212 = .ok (.bipush 40, 2) := by decide +kernel
theorem dX6_board_214 : decode cX6_board 214 = .ok (.if_icmp .ne 6, 3) := by decide +kernel
theorem dX6_board_217 : decode cX6_board 217 = .ok (.iload 5, 2) := by decide +kernel
theorem dX6_board_219 : decode cX6_board 219 = .ok (.ireturn, 1) := by decide +kernel
theorem dX6_board_220 : decode cX6_board 220 = .ok (.aload_n 0, 1) := by decide +kernel
theorem dX6_board_221 : decode cX6_board 221 = .ok (.iload_n 1, 1) := by decide +kernel
theorem dX6_board_222 : decode cX6_board 222 = .ok (.invokevirtual 86, 3) := by decide +kernel
theorem dX6_board_225 : decode cX6_board 225 = .ok (.istore 9, 2) := by decide +kernel
theorem dX6_board_227 : decode cX6_board 227 = .ok (.aload_n 0, 1) := by decide +kernel
theorem dX6_board_228 : decode cX6_board 228 = .ok (.getfield 53, 3) := by decide +kernel
theorem dX6_board_231 : decode cX6_board 231 = .ok (.bipush 40, 2) := by decide +kernel
theorem dX6_board_233 : decode cX6_board 233 = .ok (.iload 4, 2) := by decide +kernel
theorem dX6_board_235 : decode cX6_board 235 = .ok (.imul, 1) := by decide +kernel
theorem dX6_board_236 : decode cX6_board 236 = .ok (.aload_n 0, 1) := by decide +kernel
theorem dX6_board_237 : decode cX6_board 237 = .ok (.getfield 50, 3) := by decide +kernel
theorem dX6_board_240 : decode cX6_board 240 = .ok (.iload 4, 2) := by decide +kernel
theorem dX6_board_242 : decode cX6_board 242 = .ok (.iaload, 1) := by decide +kernel
theorem dX6_board_243 : decode cX6_board 243 = .ok (.iadd, 1) := by decide +kernel
theorem dX6_board_244 : decode cX6_board 244 = .ok (.iload 9, 2) := by decide +kernel
theorem dX6_board_246 : decode cX6_board 246 = .ok (.iastore, 1) := by decide +kernel
theorem dX6_board_247 : decode cX6_board 247 = .ok (.aload_n 0, 1) := by decide +kernel
theorem dX6_board_248 : decode cX6_board 248 = .ok (.getfield 50, 3) := by decide +kernel
theorem dX6_board_251 : decode cX6_board 251 = .ok (.iload 4, 2) := by decide +kernel
theorem dX6_board_253 : decode cX6_board 253 = .ok (.dup2, 1) := by decide +kernel
theorem dX6_board_254 : decode cX6_board 254 = .ok (.iaload, 1) := by decide +kernel
theorem dX6_board_255 : decode cX6_board 255 = .ok (.iconst 1, 1) := by decide +kernel
theorem dX6_board_256 : decode cX6_board 256 = .ok (.iadd, 1) := by decide +kernel
theorem dX6_board_257 : decode cX6_board 257 = .ok (.iastore, 1) := by decide +kernel
theorem dX6_board_258 : decode cX6_board 258 = .ok (.aload_n 0, 1) := by decide +kernel
theorem dX6_board_259 : decode cX6_board 259 = .ok (.getfield 47, 3) := by decide +kernel
theorem dX6_board_262 : decode cX6_board 262 = .ok (.iload 4, 2) := by decide +kernel
theorem dX6_board_264 : decode cX6_board 264 = .ok (.dup2, 1) := by decide +kernel
theorem dX6_board_265 : decode cX6_board 265 = .ok (.iaload, 1) := by decide +kernel
theorem dX6_board_266 : decode cX6_board 266 = .ok (.iload 9, 2) := by decide +kernel
theorem dX6_board_268 : decode cX6_board 268 = .ok (.iadd, 1) := by decide +kernel
theorem dX6_board_269 : decode cX6_board 269 = .ok (.iastore, 1) := by decide +kernel
theorem dX6_board_270 : decode cX6_board 270 = .ok (.aload_n 0, 1) := by decide +kernel
theorem dX6_board_271 : decode cX6_board 271 = .ok (.getfield 17, 3) := by decide +kernel
theorem dX6_board_274 : decode cX6_board 274 = .ok (.iload_n 3, 1) := by decide +kernel
theorem dX6_board_275 : decode cX6_board 275 = .ok (.dup2, 1) := by decide +kernel
theorem dX6_board_276 : decode cX6_board 276 = .ok (.iaload, 1) := by decide +kernel
theorem dX6_board_277 : decode cX6_board 277 = .ok (.iconst 1, 1) := by decide +kernel
theorem dX6_board_278 : decode cX6_board 278 = .ok (.iadd, 1) := by decide +kernel
theorem dX6_board_279 : decode cX6_board 279 = .ok (.iastore, 1) := by decide +kernel
theorem dX6_board_280 : decode cX6_board 280 = .ok (.aload_n 0, 1) := by decide +kernel
theorem dX6_board_281 : decode cX6_board 281 = .ok (.getfield 23, 3) := by decide +kernel
theorem dX6_board_284 : decode cX6_board 284 = .ok (.iload 8, 2) := by decide +kernel
theorem dX6_board_286 : decode cX6_board 286 = .ok (.dup2, 1) := by decide +kernel
theorem dX6_board_287 : decode cX6_board 287 = .ok (.iaload, 1) := by decide +kernel
theorem dX6_board_288 : decode cX6_board 288 = .ok (.iload 9, 2) := by decide +kernel
theorem dX6_board_290 : decode cX6_board 290 = .ok (.iadd, 1) := by decide +kernel
theorem dX6_board_291 : decode cX6_board 291 = .ok (.iastore, 1) := by decide +kernel
theorem dX6_board_292 : decode cX6_board 292 = .ok (.iinc 5 1, 3) := by decide +kernel
theorem dX6_board_295 : decode cX6_board 295 = .ok (.iload 5, 2) := by decide +kernel
theorem dX6_board_297 : decode cX6_board 297 = .ok (.iload_n 2, 1) := by decide +kernel
theorem dX6_board_298 : decode cX6_board 298 = .ok (.if_icmp .ne 5, 3) := by decide +kernel
theorem dX6_board_301 : decode cX6_board 301 = .ok (.iload_n 2, 1) := by decide +kernel
theorem dX6_board_302 : decode cX6_board 302 = .ok (.ireturn, 1) := by decide +kernel
theorem dX6_board_303 : decode cX6_board 303 = .ok (.iinc 7 1, 3) := by decide +kernel
theorem dX6_board_306 : decode cX6_board 306 = .ok (.goto (-225), 3) := by decide +kernel
theorem dX6_board_309 : decode cX6_board 309 = .ok (.iload 5, 2) := by decide +kernel
theorem dX6_board_311 : decode cX6_board 311 = .ok (.ireturn, 1) := by decide +kernel
set_option maxRecDepth 20000 in
theorem ggX6_land_X6_isBerth : GoodIn wsX6_land wsX6_isBerth := goodIn_r _ [18, 19, 25, 26, 27, 28, 29, 30, 31, 32, 33, 34, 35, 36, 37, 38, 39, 40, 41, 42, 43, 44, 45, 46] (by decide +kernel) (by decide +kernel)
set_option maxRecDepth 20000 in
theorem gX6_land_X6_isBerth : GoodIn wsX6_land (wsV RX6 69 RX6 yX6_isBerth wsX6_isBerth) := goodIn_app (goodIn_of _ (by decide +kernel)) ggX6_land_X6_isBerth
set_option maxRecDepth 20000 in
theorem ggX6_land_X6_alarm : GoodIn wsX6_land wsX6_alarm := goodIn_r _ [23, 24, 25, 26, 27, 28, 29, 30, 31, 32, 33, 34, 35, 36, 37, 38, 39, 40, 41, 42, 43, 44, 45, 46] (by decide +kernel) (by decide +kernel)
set_option maxRecDepth 20000 in
theorem gX6_land_X6_alarm : GoodIn wsX6_land (wsV RX6 93 RX6 yX6_alarm wsX6_alarm) := goodIn_app (goodIn_of _ (by decide +kernel)) ggX6_land_X6_alarm
theorem dX6_land_0 : decode cX6_land 0 = .ok (.aload_n 0, 1) := by decide +kernel
theorem dX6_land_1 : decode cX6_land 1 = .ok (.iload_n 1, 1) := by decide +kernel
theorem dX6_land_2 : decode cX6_land 2 = .ok (.invokevirtual 69, 3) := by decide +kernel
theorem dX6_land_5 : decode cX6_land 5 = .ok (.ifCond .eq 14, 3) := by decide +kernel
theorem dX6_land_8 : decode cX6_land 8 = .ok (.iload_n 2, 1) := by decide +kernel
theorem dX6_land_9 : decode cX6_land 9 = .ok (.iconst 1, 1) := by decide +kernel
theorem dX6_land_10 : decode cX6_land 10 = .ok (.if_icmp .lt 9, 3) := by decide +kernel
theorem dX6_land_13 : decode cX6_land 13 = .ok (.iload_n 2, 1) := by decide +kernel
theorem dX6_land_14 : decode cX6_land 14 = .ok (.bipush 40, 2) := by decide +kernel
theorem dX6_land_16 : decode cX6_land 16 = .ok (.if_icmp .le 6, 3) := by decide +kernel
theorem dX6_land_19 : decode cX6_land 19 = .ok (.bipush (-2), 2) := by decide +kernel
theorem dX6_land_21 : decode cX6_land 21 = .ok (.ireturn, 1) := by decide +kernel
theorem dX6_land_22 : decode cX6_land 22 = .ok (.aload_n 0, 1) := by decide +kernel
theorem dX6_land_23 : decode cX6_land 23 = .ok (.getfield 32, 3) := by decide +kernel
theorem dX6_land_26 : decode cX6_land 26 = .ok (.iload_n 1, 1) := by decide +kernel
theorem dX6_land_27 : decode cX6_land 27 = .ok (.iaload, 1) := by decide +kernel
theorem dX6_land_28 : decode cX6_land 28 = .ok (.istore_n 3, 1) := by decide +kernel
theorem dX6_land_29 : decode cX6_land 29 = .ok (.iload_n 3, 1) := by decide +kernel
theorem dX6_land_30 : decode cX6_land 30 = .ok (.iconst (-1), 1) := by decide +kernel
theorem dX6_land_31 : decode cX6_land 31 = .ok (.if_icmp .ne 6, 3) := by decide +kernel
theorem dX6_land_34 : decode cX6_land 34 = .ok (.bipush (-4), 2) := by decide +kernel
theorem dX6_land_36 : decode cX6_land 36 = .ok (.ireturn, 1) := by decide +kernel
theorem dX6_land_37 : decode cX6_land 37 = .ok (.aload_n 0, 1) := by decide +kernel
theorem dX6_land_38 : decode cX6_land 38 = .ok (.getfield 26, 3) := by decide +kernel
theorem dX6_land_41 : decode cX6_land 41 = .ok (.iload_n 3, 1) := by decide +kernel
theorem dX6_land_42 : decode cX6_land 42 = .ok (.dup2, 1) := by decide +kernel
theorem dX6_land_43 : decode cX6_land 43 = .ok (.iaload, 1) := by decide +kernel
theorem dX6_land_44 : decode cX6_land 44 = .ok (.iconst 1, 1) := by decide +kernel
theorem dX6_land_45 : decode cX6_land 45 = .ok (.iadd, 1) := by decide +kernel
theorem dX6_land_46 : decode cX6_land 46 = .ok (.iastore, 1) := by decide +kernel
theorem dX6_land_47 : decode cX6_land 47 = .ok (.aload_n 0, 1) := by decide +kernel
theorem dX6_land_48 : decode cX6_land 48 = .ok (.getfield 35, 3) := by decide +kernel
theorem dX6_land_51 : decode cX6_land 51 = .ok (.iload_n 1, 1) := by decide +kernel
theorem dX6_land_52 : decode cX6_land 52 = .ok (.iaload, 1) := by decide +kernel
theorem dX6_land_53 : decode cX6_land 53 = .ok (.istore 4, 2) := by decide +kernel
theorem dX6_land_55 : decode cX6_land 55 = .ok (.iconst 0, 1) := by decide +kernel
theorem dX6_land_56 : decode cX6_land 56 = .ok (.istore 5, 2) := by decide +kernel
theorem dX6_land_58 : decode cX6_land 58 = .ok (.iload 5, 2) := by decide +kernel
theorem dX6_land_60 : decode cX6_land 60 = .ok (.iload_n 2, 1) := by decide +kernel
theorem dX6_land_61 : decode cX6_land 61 = .ok (.if_icmp .ge 176, 3) := by decide +kernel
theorem dX6_land_64 : decode cX6_land 64 = .ok (.aload_n 0, 1) := by decide +kernel
theorem dX6_land_65 : decode cX6_land 65 = .ok (.getfield 50, 3) := by decide +kernel
theorem dX6_land_68 : decode cX6_land 68 = .ok (.iload 4, 2) := by decide +kernel
theorem dX6_land_70 : decode cX6_land 70 = .ok (.iaload, 1) := by decide +kernel
theorem dX6_land_71 : decode cX6_land 71 = .ok (.ifCond .le 166, 3) := by decide +kernel
theorem dX6_land_74 : decode cX6_land 74 = .ok (.aload_n 0, 1) := by decide +kernel
theorem dX6_land_75 : decode cX6_land 75 = .ok (.getfield 29, 3) := by decide +kernel
theorem dX6_land_78 : decode cX6_land 78 = .ok (.iload_n 1, 1) := by decide +kernel
theorem dX6_land_79 : decode cX6_land 79 = .ok (.iaload, 1) := by decide +kernel
theorem dX6_land_80 : decode cX6_land 80 = .ok (.istore 6, 2) := by decide +kernel
theorem dX6_land_82 : decode cX6_land 82 = .ok (.iload 6, 2) := by decide +kernel
theorem dX6_land_84 : decode cX6_land 84 = .ok (.iconst (-1), 1) := by decide +kernel
theorem dX6_land_85 : decode cX6_land 85 = .ok (.if_icmp .ne 6, 3) := by decide +kernel
theorem dX6_land_88 : decode cX6_land 88 = .ok (.bipush (-4), 2) := by decide +kernel
theorem dX6_land_90 : decode cX6_land 90 = .ok (.ireturn, 1) := by decide +kernel
theorem dX6_land_91 : decode cX6_land 91 = .ok (.aload_n 0, 1) := by decide +kernel
theorem dX6_land_92 : decode cX6_land 92 = .ok (.getfield 13, 3) := by decide +kernel
theorem dX6_land_95 : decode cX6_land 95 = .ok (.iload 6, 2) := by decide +kernel
theorem dX6_land_97 : decode cX6_land 97 = .ok (.dup2, 1) := by decide +kernel
theorem dX6_land_98 : decode cX6_land 98 = .ok (.iaload, 1) := by decide +kernel
theorem dX6_land_99 : decode cX6_land 99 = .ok (.iconst 1, 1) := by decide +kernel
theorem dX6_land_100 : decode cX6_land 100 = .ok (.iadd, 1) := by decide +kernel
theorem dX6_land_101 : decode cX6_land 101 = .ok (.iastore, 1) := by decide +kernel
theorem dX6_land_102 : decode cX6_land 102 = .ok (.aload_n 0, 1) := by decide +kernel
theorem dX6_land_103 : decode cX6_land 103 = .ok (.getfield 7, 3) := by decide +kernel
theorem dX6_land_106 : decode cX6_land 106 = .ok (.iload 6, 2) := by decide +kernel
theorem dX6_land_108 : decode cX6_land 108 = .ok (.baload, 1) := by decide +kernel
theorem dX6_land_109 : decode cX6_land 109 = .ok (.ifCond .eq 6, 3) := by decide +kernel
theorem dX6_land_112 : decode cX6_land 112 = .ok (.iload 5, 2) := by decide +kernel
theorem dX6_land_114 : decode cX6_land 114 = .ok (.ireturn, 1) := by decide +kernel
theorem dX6_land_115 : decode cX6_land 115 = .ok (.aload_n 0, 1) := by decide +kernel
theorem dX6_land_116 : decode cX6_land 116 = .ok (.getfield 53, 3) := by decide +kernel
theorem dX6_land_119 : decode cX6_land 119 = .ok (.bipush 40, 2) := by decide +kernel
theorem dX6_land_121 : decode cX6_land 121 = .ok (.iload 4, 2) := by decide +kernel
theorem dX6_land_123 : decode cX6_land 123 = .ok (.imul, 1) := by decide +kernel
theorem dX6_land_124 : decode cX6_land 124 = .ok (.aload_n 0, 1) := by decide +kernel
theorem dX6_land_125 : decode cX6_land 125 = .ok (.getfield 50, 3) := by decide +kernel
theorem dX6_land_128 : decode cX6_land 128 = .ok (.iload 4, 2) := by decide +kernel
theorem dX6_land_130 : decode cX6_land 130 = .ok (.iaload, 1) := by decide +kernel
theorem dX6_land_131 : decode cX6_land 131 = .ok (.iadd, 1) := by decide +kernel
theorem dX6_land_132 : decode cX6_land 132 = .ok (.iconst 1, 1) := by decide +kernel
theorem dX6_land_133 : decode cX6_land 133 = .ok (.isub, 1) := by decide +kernel
theorem dX6_land_134 : decode cX6_land 134 = .ok (.iaload, 1) := by decide +kernel
theorem dX6_land_135 : decode cX6_land 135 = .ok (.istore 7, 2) := by decide +kernel
theorem dX6_land_137 : decode cX6_land 137 = .ok (.iload 7, 2) := by decide +kernel
theorem dX6_land_139 : decode cX6_land 139 = .ok (.aload_n 0, 1) := by decide +kernel
theorem dX6_land_140 : decode cX6_land 140 = .ok (.getfield 20, 3) := by decide +kernel
theorem dX6_land_143 : decode cX6_land 143 = .ok (.iload_n 3, 1) := by decide +kernel
theorem dX6_land_144 : decode cX6_land 144 = .ok (.iaload, 1) := by decide +kernel
theorem dX6_land_145 : decode cX6_land 145 = .ok (.if_icmp .le 10, 3) := by decide +kernel
theorem dX6_land_148 : decode cX6_land 148 = .ok (.aload_n 0, 1) := by decide +kernel
theorem dX6_land_149 : decode cX6_land 149 = .ok (.bipush (-6), 2) := by decide +kernel
theorem dX6_land_151 : decode cX6_land 151 = .ok (.invokevirtual 93, 3) := by decide +kernel
theorem dX6_land_154 : decode cX6_land 154 = .ok (.ireturn, 1) := by decide +kernel
theorem dX6_land_155 : decode cX6_land 155 = .ok (.aload_n 0, 1) := by decide +kernel
theorem dX6_land_156 : decode cX6_land 156 = .ok (.getfield 50, 3) := by decide +kernel
theorem dX6_land_159 : decode cX6_land 159 = .ok (.iload 4, 2) := by decide +kernel
theorem dX6_land_161 : decode cX6_land 161 = .ok (.dup2, 1) := by decide +kernel
theorem dX6_land_162 : decode cX6_land 162 = .ok (.iaload, 1) := by decide +kernel
theorem dX6_land_163 : decode cX6_land 163 = .ok (.iconst 1, 1) := by decide +kernel
theorem dX6_land_164 : decode cX6_land 164 = .ok (.isub, 1) := by decide +kernel
theorem dX6_land_165 : decode cX6_land 165 = .ok (.iastore, 1) := by decide +kernel
theorem dX6_land_166 : decode cX6_land 166 = .ok (.aload_n 0, 1) := by decide +kernel
theorem dX6_land_167 : decode cX6_land 167 = .ok (.getfield 47, 3) := by decide +kernel
theorem dX6_land_170 : decode cX6_land 170 = .ok (.iload 4, 2) := by decide +kernel
theorem dX6_land_172 : decode cX6_land 172 = .ok (.dup2, 1) := by decide +kernel
theorem dX6_land_173 : decode cX6_land 173 = .ok (.iaload, 1) := by decide +kernel
theorem dX6_land_174 : decode cX6_land 174 = .ok (.iload 7, 2) := by decide +kernel
theorem dX6_land_176 : decode cX6_land 176 = .ok (.isub, 1) := by decide +kernel
theorem dX6_land_177 : decode cX6_land 177 = .ok (.iastore, 1) := by decide +kernel
theorem dX6_land_178 : decode cX6_land 178 = .ok (.aload_n 0, 1) := by decide +kernel
theorem dX6_land_179 : decode cX6_land 179 = .ok (.dup, 1) := by decide +kernel
theorem dX6_land_180 : decode cX6_land 180 = .ok (.getfield 96, 3) := by decide +kernel
theorem dX6_land_183 : decode cX6_land 183 = .ok (.iconst 1, 1) := by decide +kernel
theorem dX6_land_184 : decode cX6_land 184 = .ok (.iadd, 1) := by decide +kernel
theorem dX6_land_185 : decode cX6_land 185 = .ok (.putfield 96, 3) := by decide +kernel
theorem dX6_land_188 : decode cX6_land 188 = .ok (.iinc 5 1, 3) := by decide +kernel
theorem dX6_land_191 : decode cX6_land 191 = .ok (.iload 7, 2) := by decide +kernel
theorem dX6_land_193 : decode cX6_land 193 = .ok (.ifCond .eq (-135), 3) := by decide +kernel
theorem dX6_land_196 : decode cX6_land 196 = .ok (.iload 7, 2) := by decide +kernel
theorem dX6_land_198 : decode cX6_land 198 = .ok (.aload_n 0, 1) := by decide +kernel
theorem dX6_land_199 : decode cX6_land 199 = .ok (.getfield 20, 3) := by decide +kernel
theorem dX6_land_202 : decode cX6_land 202 = .ok (.iload_n 3, 1) := by decide +kernel
theorem dX6_land_203 : decode cX6_land 203 = .ok (.iaload, 1) := by decide +kernel
theorem dX6_land_204 : decode cX6_land 204 = .ok (.iconst 2, 1) := by decide +kernel
theorem dX6_land_205 : decode cX6_land 205 = .ok (.idiv, 1) := by decide +kernel
theorem dX6_land_206 : decode cX6_land 206 = .ok (.if_icmp .le 6, 3) := by decide +kernel
theorem dX6_land_209 : decode cX6_land 209 = .ok (.goto (-151), 3) := by decide +kernel
theorem dX6_land_212 : decode cX6_land 212 = .ok (.aload_n 0, 1) := by decide +kernel
theorem dX6_land_213 : decode cX6_land 213 = .ok (.getfield 17, 3) := by decide +kernel
theorem dX6_land_216 : decode cX6_land 216 = .ok (.iload 6, 2) := by decide +kernel
theorem dX6_land_218 : decode cX6_land 218 = .ok (.dup2, 1) := by decide +kernel
theorem dX6_land_219 : decode cX6_land 219 = .ok (.iaload, 1) := by decide +kernel
theorem dX6_land_220 : decode cX6_land 220 = .ok (.iconst 1, 1) := by decide +kernel
theorem dX6_land_221 : decode cX6_land 221 = .ok (.iadd, 1) := by decide +kernel
theorem dX6_land_222 : decode cX6_land 222 = .ok (.iastore, 1) := by decide +kernel
theorem dX6_land_223 : decode cX6_land 223 = .ok (.aload_n 0, 1) := by decide +kernel
theorem dX6_land_224 : decode cX6_land 224 = .ok (.getfield 23, 3) := by decide +kernel
theorem dX6_land_227 : decode cX6_land 227 = .ok (.iload_n 3, 1) := by decide +kernel
theorem dX6_land_228 : decode cX6_land 228 = .ok (.dup2, 1) := by decide +kernel
theorem dX6_land_229 : decode cX6_land 229 = .ok (.iaload, 1) := by decide +kernel
theorem dX6_land_230 : decode cX6_land 230 = .ok (.iload 7, 2) := by decide +kernel
theorem dX6_land_232 : decode cX6_land 232 = .ok (.iadd, 1) := by decide +kernel
theorem dX6_land_233 : decode cX6_land 233 = .ok (.iastore, 1) := by decide +kernel
theorem dX6_land_234 : decode cX6_land 234 = .ok (.goto (-176), 3) := by decide +kernel
theorem dX6_land_237 : decode cX6_land 237 = .ok (.iload 5, 2) := by decide +kernel
theorem dX6_land_239 : decode cX6_land 239 = .ok (.ireturn, 1) := by decide +kernel
set_option maxRecDepth 20000 in
theorem ggX6_swap_X6_isBerth : GoodIn wsX6_swap wsX6_isBerth := goodIn_r _ [10, 11, 12, 13, 14, 15, 16, 17, 18, 19, 20, 21, 22, 23, 24, 25, 26, 27, 28, 29, 30, 31, 32, 33] (by decide +kernel) (by decide +kernel)
set_option maxRecDepth 20000 in
theorem gX6_swap_X6_isBerth : GoodIn wsX6_swap (wsV RX6 69 RX6 yX6_isBerth wsX6_isBerth) := goodIn_app (goodIn_of _ (by decide +kernel)) ggX6_swap_X6_isBerth
theorem dX6_swap_0 : decode cX6_swap 0 = .ok (.aload_n 0, 1) := by decide +kernel
theorem dX6_swap_1 : decode cX6_swap 1 = .ok (.iload_n 1, 1) := by decide +kernel
theorem dX6_swap_2 : decode cX6_swap 2 = .ok (.invokevirtual 69, 3) := by decide +kernel
theorem dX6_swap_5 : decode cX6_swap 5 = .ok (.ifCond .eq 11, 3) := by decide +kernel
theorem dX6_swap_8 : decode cX6_swap 8 = .ok (.aload_n 0, 1) := by decide +kernel
theorem dX6_swap_9 : decode cX6_swap 9 = .ok (.iload_n 2, 1) := by decide +kernel
theorem dX6_swap_10 : decode cX6_swap 10 = .ok (.invokevirtual 69, 3) := by decide +kernel
theorem dX6_swap_13 : decode cX6_swap 13 = .ok (.ifCond .ne 6, 3) := by decide +kernel
theorem dX6_swap_16 : decode cX6_swap 16 = .ok (.bipush (-2), 2) := by decide +kernel
theorem dX6_swap_18 : decode cX6_swap 18 = .ok (.ireturn, 1) := by decide +kernel
theorem dX6_swap_19 : decode cX6_swap 19 = .ok (.aload_n 0, 1) := by decide +kernel
theorem dX6_swap_20 : decode cX6_swap 20 = .ok (.getfield 29, 3) := by decide +kernel
theorem dX6_swap_23 : decode cX6_swap 23 = .ok (.iload_n 1, 1) := by decide +kernel
theorem dX6_swap_24 : decode cX6_swap 24 = .ok (.iaload, 1) := by decide +kernel
theorem dX6_swap_25 : decode cX6_swap 25 = .ok (.istore_n 3, 1) := by decide +kernel
theorem dX6_swap_26 : decode cX6_swap 26 = .ok (.iload_n 3, 1) := by decide +kernel
theorem dX6_swap_27 : decode cX6_swap 27 = .ok (.iconst (-1), 1) := by decide +kernel
theorem dX6_swap_28 : decode cX6_swap 28 = .ok (.if_icmp .ne 6, 3) := by decide +kernel
theorem dX6_swap_31 : decode cX6_swap 31 = .ok (.bipush (-4), 2) := by decide +kernel
theorem dX6_swap_33 : decode cX6_swap 33 = .ok (.ireturn, 1) := by decide +kernel
theorem dX6_swap_34 : decode cX6_swap 34 = .ok (.aload_n 0, 1) := by decide +kernel
theorem dX6_swap_35 : decode cX6_swap 35 = .ok (.getfield 13, 3) := by decide +kernel
theorem dX6_swap_38 : decode cX6_swap 38 = .ok (.iload_n 3, 1) := by decide +kernel
theorem dX6_swap_39 : decode cX6_swap 39 = .ok (.dup2, 1) := by decide +kernel
theorem dX6_swap_40 : decode cX6_swap 40 = .ok (.iaload, 1) := by decide +kernel
theorem dX6_swap_41 : decode cX6_swap 41 = .ok (.iconst 1, 1) := by decide +kernel
theorem dX6_swap_42 : decode cX6_swap 42 = .ok (.iadd, 1) := by decide +kernel
theorem dX6_swap_43 : decode cX6_swap 43 = .ok (.iastore, 1) := by decide +kernel
theorem dX6_swap_44 : decode cX6_swap 44 = .ok (.aload_n 0, 1) := by decide +kernel
theorem dX6_swap_45 : decode cX6_swap 45 = .ok (.getfield 29, 3) := by decide +kernel
theorem dX6_swap_48 : decode cX6_swap 48 = .ok (.iload_n 2, 1) := by decide +kernel
theorem dX6_swap_49 : decode cX6_swap 49 = .ok (.iaload, 1) := by decide +kernel
theorem dX6_swap_50 : decode cX6_swap 50 = .ok (.istore 4, 2) := by decide +kernel
theorem dX6_swap_52 : decode cX6_swap 52 = .ok (.iload 4, 2) := by decide +kernel
theorem dX6_swap_54 : decode cX6_swap 54 = .ok (.iconst (-1), 1) := by decide +kernel
theorem dX6_swap_55 : decode cX6_swap 55 = .ok (.if_icmp .ne 6, 3) := by decide +kernel
theorem dX6_swap_58 : decode cX6_swap 58 = .ok (.bipush (-4), 2) := by decide +kernel
theorem dX6_swap_60 : decode cX6_swap 60 = .ok (.ireturn, 1) := by decide +kernel
theorem dX6_swap_61 : decode cX6_swap 61 = .ok (.aload_n 0, 1) := by decide +kernel
theorem dX6_swap_62 : decode cX6_swap 62 = .ok (.getfield 13, 3) := by decide +kernel
theorem dX6_swap_65 : decode cX6_swap 65 = .ok (.iload 4, 2) := by decide +kernel
theorem dX6_swap_67 : decode cX6_swap 67 = .ok (.dup2, 1) := by decide +kernel
theorem dX6_swap_68 : decode cX6_swap 68 = .ok (.iaload, 1) := by decide +kernel
theorem dX6_swap_69 : decode cX6_swap 69 = .ok (.iconst 1, 1) := by decide +kernel
theorem dX6_swap_70 : decode cX6_swap 70 = .ok (.iadd, 1) := by decide +kernel
theorem dX6_swap_71 : decode cX6_swap 71 = .ok (.iastore, 1) := by decide +kernel
theorem dX6_swap_72 : decode cX6_swap 72 = .ok (.aload_n 0, 1) := by decide +kernel
theorem dX6_swap_73 : decode cX6_swap 73 = .ok (.getfield 7, 3) := by decide +kernel
theorem dX6_swap_76 : decode cX6_swap 76 = .ok (.iload_n 3, 1) := by decide +kernel
theorem dX6_swap_77 : decode cX6_swap 77 = .ok (.baload, 1) := by decide +kernel
theorem dX6_swap_78 : decode cX6_swap 78 = .ok (.ifCond .ne 13, 3) := by decide +kernel
theorem dX6_swap_81 : decode cX6_swap 81 = .ok (.aload_n 0, 1) := by decide +kernel
theorem dX6_swap_82 : decode cX6_swap 82 = .ok (.getfield 7, 3) := by decide +kernel
theorem dX6_swap_85 : decode cX6_swap 85 = .ok (.iload 4, 2) := by decide +kernel
theorem dX6_swap_87 : decode cX6_swap 87 = .ok (.baload, 1) := by decide +kernel
theorem dX6_swap_88 : decode cX6_swap 88 = .ok (.ifCond .eq 6, 3) := by decide +kernel
theorem dX6_swap_91 : decode cX6_swap 91 = .ok (.bipush (-5), 2) := by decide +kernel
theorem dX6_swap_93 : decode cX6_swap 93 = .ok (.ireturn, 1) := by decide +kernel
theorem dX6_swap_94 : decode cX6_swap 94 = .ok (.aload_n 0, 1) := by decide +kernel
theorem dX6_swap_95 : decode cX6_swap 95 = .ok (.getfield 35, 3) := by decide +kernel
theorem dX6_swap_98 : decode cX6_swap 98 = .ok (.iload_n 1, 1) := by decide +kernel
theorem dX6_swap_99 : decode cX6_swap 99 = .ok (.iaload, 1) := by decide +kernel
theorem dX6_swap_100 : decode cX6_swap 100 = .ok (.istore 5, 2) := by decide +kernel
theorem dX6_swap_102 : decode cX6_swap 102 = .ok (.aload_n 0, 1) := by decide +kernel
theorem dX6_swap_103 : decode cX6_swap 103 = .ok (.getfield 35, 3) := by decide +kernel
theorem dX6_swap_106 : decode cX6_swap 106 = .ok (.iload_n 1, 1) := by decide +kernel
theorem dX6_swap_107 : decode cX6_swap 107 = .ok (.aload_n 0, 1) := by decide +kernel
theorem dX6_swap_108 : decode cX6_swap 108 = .ok (.getfield 35, 3) := by decide +kernel
theorem dX6_swap_111 : decode cX6_swap 111 = .ok (.iload_n 2, 1) := by decide +kernel
theorem dX6_swap_112 : decode cX6_swap 112 = .ok (.iaload, 1) := by decide +kernel
theorem dX6_swap_113 : decode cX6_swap 113 = .ok (.iastore, 1) := by decide +kernel
theorem dX6_swap_114 : decode cX6_swap 114 = .ok (.aload_n 0, 1) := by decide +kernel
theorem dX6_swap_115 : decode cX6_swap 115 = .ok (.getfield 35, 3) := by decide +kernel
theorem dX6_swap_118 : decode cX6_swap 118 = .ok (.iload_n 2, 1) := by decide +kernel
theorem dX6_swap_119 : decode cX6_swap 119 = .ok (.iload 5, 2) := by decide +kernel
theorem dX6_swap_121 : decode cX6_swap 121 = .ok (.iastore, 1) := by decide +kernel
theorem dX6_swap_122 : decode cX6_swap 122 = .ok (.aload_n 0, 1) := by decide +kernel
theorem dX6_swap_123 : decode cX6_swap 123 = .ok (.getfield 47, 3) := by decide +kernel
theorem dX6_swap_126 : decode cX6_swap 126 = .ok (.aload_n 0, 1) := by decide +kernel
theorem dX6_swap_127 : decode cX6_swap 127 = .ok (.getfield 35, 3) := by decide +kernel
theorem dX6_swap_130 : decode cX6_swap 130 = .ok (.iload_n 1, 1) := by decide +kernel
theorem dX6_swap_131 : decode cX6_swap 131 = .ok (.iaload, 1) := by decide +kernel
theorem dX6_swap_132 : decode cX6_swap 132 = .ok (.iaload, 1) := by decide +kernel
theorem dX6_swap_133 : decode cX6_swap 133 = .ok (.ireturn, 1) := by decide +kernel
set_option maxRecDepth 20000 in
theorem ggX6_round_X6_isBerth : GoodIn wsX6_round wsX6_isBerth := goodIn_r _ [11, 1, 17, 18, 19, 20, 21, 22, 23, 24, 25, 26, 27, 28, 29, 30, 31, 32, 33, 34, 35, 36, 37, 38] (by decide +kernel) (by decide +kernel)
set_option maxRecDepth 20000 in
theorem gX6_round_X6_isBerth : GoodIn wsX6_round (wsV RX6 69 RX6 yX6_isBerth wsX6_isBerth) := goodIn_app (goodIn_of _ (by decide +kernel)) ggX6_round_X6_isBerth
set_option maxRecDepth 20000 in
theorem ggX6_round_X6_alarm : GoodIn wsX6_round wsX6_alarm := goodIn_r _ [15, 16, 17, 18, 19, 20, 21, 22, 23, 24, 25, 26, 27, 28, 29, 30, 31, 32, 33, 34, 35, 36, 37, 38] (by decide +kernel) (by decide +kernel)
set_option maxRecDepth 20000 in
theorem gX6_round_X6_alarm : GoodIn wsX6_round (wsV RX6 93 RX6 yX6_alarm wsX6_alarm) := goodIn_app (goodIn_of _ (by decide +kernel)) ggX6_round_X6_alarm
theorem dX6_round_0 : decode cX6_round 0 = .ok (.aload_n 0, 1) := by decide +kernel
theorem dX6_round_1 : decode cX6_round 1 = .ok (.iload_n 1, 1) := by decide +kernel
theorem dX6_round_2 : decode cX6_round 2 = .ok (.invokevirtual 69, 3) := by decide +kernel
theorem dX6_round_5 : decode cX6_round 5 = .ok (.ifCond .eq 14, 3) := by decide +kernel
theorem dX6_round_8 : decode cX6_round 8 = .ok (.iload_n 2, 1) := by decide +kernel
theorem dX6_round_9 : decode cX6_round 9 = .ok (.iconst 1, 1) := by decide +kernel
theorem dX6_round_10 : decode cX6_round 10 = .ok (.if_icmp .lt 9, 3) := by decide +kernel
theorem dX6_round_13 : decode cX6_round 13 = .ok (.iload_n 2, 1) := by decide +kernel
theorem dX6_round_14 : decode cX6_round 14 = .ok (.bipush 8, 2) := by decide +kernel
theorem dX6_round_16 : decode cX6_round 16 = .ok (.if_icmp .le 6, 3) := by decide +kernel
theorem dX6_round_19 : decode cX6_round 19 = .ok (.bipush (-2), 2) := by decide +kernel
theorem dX6_round_21 : decode cX6_round 21 = .ok (.ireturn, 1) := by decide +kernel
theorem dX6_round_22 : decode cX6_round 22 = .ok (.iconst 0, 1) := by decide +kernel
theorem dX6_round_23 : decode cX6_round 23 = .ok (.istore_n 3, 1) := by decide +kernel
theorem dX6_round_24 : decode cX6_round 24 = .ok (.iload_n 1, 1) := by decide +kernel
theorem dX6_round_25 : decode cX6_round 25 = .ok (.istore 4, 2) := by decide +kernel
theorem dX6_round_27 : decode cX6_round 27 = .ok (.iload 4, 2) := by decide +kernel
theorem dX6_round_29 : decode cX6_round 29 = .ok (.aload_n 0, 1) := by decide +kernel
theorem dX6_round_30 : decode cX6_round 30 = .ok (.getfield 63, 3) := by decide +kernel
theorem dX6_round_33 : decode cX6_round 33 = .ok (.if_icmp .ge 77, 3) := by decide +kernel
theorem dX6_round_36 : decode cX6_round 36 = .ok (.iload 4, 2) := by decide +kernel
theorem dX6_round_38 : decode cX6_round 38 = .ok (.iload_n 1, 1) := by decide +kernel
theorem dX6_round_39 : decode cX6_round 39 = .ok (.iload_n 2, 1) := by decide +kernel
theorem dX6_round_40 : decode cX6_round 40 = .ok (.iadd, 1) := by decide +kernel
theorem dX6_round_41 : decode cX6_round 41 = .ok (.if_icmp .ge 69, 3) := by decide +kernel
theorem dX6_round_44 : decode cX6_round 44 = .ok (.aload_n 0, 1) := by decide +kernel
theorem dX6_round_45 : decode cX6_round 45 = .ok (.getfield 29, 3) := by decide +kernel
theorem dX6_round_48 : decode cX6_round 48 = .ok (.iload 4, 2) := by decide +kernel
theorem dX6_round_50 : decode cX6_round 50 = .ok (.iaload, 1) := by decide +kernel
theorem dX6_round_51 : decode cX6_round 51 = .ok (.istore 5, 2) := by decide +kernel
theorem dX6_round_53 : decode cX6_round 53 = .ok (.iload 5, 2) := by decide +kernel
theorem dX6_round_55 : decode cX6_round 55 = .ok (.iconst (-1), 1) := by decide +kernel
theorem dX6_round_56 : decode cX6_round 56 = .ok (.if_icmp .ne 5, 3) := by decide +kernel
theorem dX6_round_59 : decode cX6_round 59 = .ok (.iload_n 3, 1) := by decide +kernel
theorem dX6_round_60 : decode cX6_round 60 = .ok (.ireturn, 1) := by decide +kernel
theorem dX6_round_61 : decode cX6_round 61 = .ok (.aload_n 0, 1) := by decide +kernel
theorem dX6_round_62 : decode cX6_round 62 = .ok (.getfield 13, 3) := by decide +kernel
theorem dX6_round_65 : decode cX6_round 65 = .ok (.iload 5, 2) := by decide +kernel
theorem dX6_round_67 : decode cX6_round 67 = .ok (.dup2, 1) := by decide +kernel
theorem dX6_round_68 : decode cX6_round 68 = .ok (.iaload, 1) := by decide +kernel
theorem dX6_round_69 : decode cX6_round 69 = .ok (.iconst 1, 1) := by decide +kernel
theorem dX6_round_70 : decode cX6_round 70 = .ok (.iadd, 1) := by decide +kernel
theorem dX6_round_71 : decode cX6_round 71 = .ok (.iastore, 1) := by decide +kernel
theorem dX6_round_72 : decode cX6_round 72 = .ok (.aload_n 0, 1) := by decide +kernel
theorem dX6_round_73 : decode cX6_round 73 = .ok (.getfield 7, 3) := by decide +kernel
theorem dX6_round_76 : decode cX6_round 76 = .ok (.iload 5, 2) := by decide +kernel
theorem dX6_round_78 : decode cX6_round 78 = .ok (.baload, 1) := by decide +kernel
theorem dX6_round_79 : decode cX6_round 79 = .ok (.ifCond .eq 10, 3) := by decide +kernel
theorem dX6_round_82 : decode cX6_round 82 = .ok (.aload_n 0, 1) := by decide +kernel
theorem dX6_round_83 : decode cX6_round 83 = .ok (.bipush (-5), 2) := by decide +kernel
theorem dX6_round_85 : decode cX6_round 85 = .ok (.invokevirtual 93, 3) := by decide +kernel
theorem dX6_round_88 : decode cX6_round 88 = .ok (.ireturn, 1) := by decide +kernel
theorem dX6_round_89 : decode cX6_round 89 = .ok (.iload_n 3, 1) := by decide +kernel
theorem dX6_round_90 : decode cX6_round 90 = .ok (.aload_n 0, 1) := by decide +kernel
theorem dX6_round_91 : decode cX6_round 91 = .ok (.getfield 47, 3) := by decide +kernel
theorem dX6_round_94 : decode cX6_round 94 = .ok (.aload_n 0, 1) := by decide +kernel
theorem dX6_round_95 : decode cX6_round 95 = .ok (.getfield 35, 3) := by decide +kernel
theorem dX6_round_98 : decode cX6_round 98 = .ok (.iload 4, 2) := by decide +kernel
theorem dX6_round_100 : decode cX6_round 100 = .ok (.iaload, 1) := by decide +kernel
theorem dX6_round_101 : decode cX6_round 101 = .ok (.iaload, 1) := by decide +kernel
theorem dX6_round_102 : decode cX6_round 102 = .ok (.iadd, 1) := by decide +kernel
theorem dX6_round_103 : decode cX6_round 103 = .ok (.istore_n 3, 1) := by decide +kernel
theorem dX6_round_104 : decode cX6_round 104 = .ok (.iinc 4 1, 3) := by decide +kernel
theorem dX6_round_107 : decode cX6_round 107 = .ok (.goto (-80), 3) := by decide +kernel
theorem dX6_round_110 : decode cX6_round 110 = .ok (.iload_n 3, 1) := by decide +kernel
theorem dX6_round_111 : decode cX6_round 111 = .ok (.ireturn, 1) := by decide +kernel
set_option maxRecDepth 20000 in
theorem ggX6_tend_X6_isRamp : GoodIn wsX6_tend wsX6_isRamp := goodIn_r _ [7, 8, 14, 15, 16, 17, 18, 19, 20, 21, 22, 23, 24, 25, 26, 27, 28, 29, 30, 31, 32, 33, 34, 35] (by decide +kernel) (by decide +kernel)
set_option maxRecDepth 20000 in
theorem gX6_tend_X6_isRamp : GoodIn wsX6_tend (wsV RX6 76 RX6 yX6_isRamp wsX6_isRamp) := goodIn_app (goodIn_of _ (by decide +kernel)) ggX6_tend_X6_isRamp
set_option maxRecDepth 20000 in
theorem ggX6_tend_X6_alarm : GoodIn wsX6_tend wsX6_alarm := goodIn_r _ [12, 13, 14, 15, 16, 17, 18, 19, 20, 21, 22, 23, 24, 25, 26, 27, 28, 29, 30, 31, 32, 33, 34, 35] (by decide +kernel) (by decide +kernel)
set_option maxRecDepth 20000 in
theorem gX6_tend_X6_alarm : GoodIn wsX6_tend (wsV RX6 93 RX6 yX6_alarm wsX6_alarm) := goodIn_app (goodIn_of _ (by decide +kernel)) ggX6_tend_X6_alarm
theorem dX6_tend_0 : decode cX6_tend 0 = .ok (.aload_n 0, 1) := by decide +kernel
theorem dX6_tend_1 : decode cX6_tend 1 = .ok (.iload_n 1, 1) := by decide +kernel
theorem dX6_tend_2 : decode cX6_tend 2 = .ok (.invokevirtual 76, 3) := by decide +kernel
theorem dX6_tend_5 : decode cX6_tend 5 = .ok (.ifCond .ne 6, 3) := by decide +kernel
theorem dX6_tend_8 : decode cX6_tend 8 = .ok (.bipush (-2), 2) := by decide +kernel
theorem dX6_tend_10 : decode cX6_tend 10 = .ok (.ireturn, 1) := by decide +kernel
theorem dX6_tend_11 : decode cX6_tend 11 = .ok (.aload_n 0, 1) := by decide +kernel
theorem dX6_tend_12 : decode cX6_tend 12 = .ok (.getfield 26, 3) := by decide +kernel
theorem dX6_tend_15 : decode cX6_tend 15 = .ok (.iload_n 1, 1) := by decide +kernel
theorem dX6_tend_16 : decode cX6_tend 16 = .ok (.dup2, 1) := by decide +kernel
theorem dX6_tend_17 : decode cX6_tend 17 = .ok (.iaload, 1) := by decide +kernel
theorem dX6_tend_18 : decode cX6_tend 18 = .ok (.iconst 1, 1) := by decide +kernel
theorem dX6_tend_19 : decode cX6_tend 19 = .ok (.iadd, 1) := by decide +kernel
theorem dX6_tend_20 : decode cX6_tend 20 = .ok (.iastore, 1) := by decide +kernel
theorem dX6_tend_21 : decode cX6_tend 21 = .ok (.aload_n 0, 1) := by decide +kernel
theorem dX6_tend_22 : decode cX6_tend 22 = .ok (.getfield 23, 3) := by decide +kernel
theorem dX6_tend_25 : decode cX6_tend 25 = .ok (.iload_n 1, 1) := by decide +kernel
theorem dX6_tend_26 : decode cX6_tend 26 = .ok (.iaload, 1) := by decide +kernel
theorem dX6_tend_27 : decode cX6_tend 27 = .ok (.ifCond .ne 10, 3) := by decide +kernel
theorem dX6_tend_30 : decode cX6_tend 30 = .ok (.aload_n 0, 1) := by decide +kernel
theorem dX6_tend_31 : decode cX6_tend 31 = .ok (.bipush (-5), 2) := by decide +kernel
theorem dX6_tend_33 : decode cX6_tend 33 = .ok (.invokevirtual 93, 3) := by decide +kernel
theorem dX6_tend_36 : decode cX6_tend 36 = .ok (.ireturn, 1) := by decide +kernel
theorem dX6_tend_37 : decode cX6_tend 37 = .ok (.aload_n 0, 1) := by decide +kernel
theorem dX6_tend_38 : decode cX6_tend 38 = .ok (.getfield 23, 3) := by decide +kernel
theorem dX6_tend_41 : decode cX6_tend 41 = .ok (.iload_n 1, 1) := by decide +kernel
theorem dX6_tend_42 : decode cX6_tend 42 = .ok (.iaload, 1) := by decide +kernel
theorem dX6_tend_43 : decode cX6_tend 43 = .ok (.istore_n 2, 1) := by decide +kernel
theorem dX6_tend_44 : decode cX6_tend 44 = .ok (.aload_n 0, 1) := by decide +kernel
theorem dX6_tend_45 : decode cX6_tend 45 = .ok (.getfield 23, 3) := by decide +kernel
theorem dX6_tend_48 : decode cX6_tend 48 = .ok (.iload_n 1, 1) := by decide +kernel
theorem dX6_tend_49 : decode cX6_tend 49 = .ok (.iconst 0, 1) := by decide +kernel
theorem dX6_tend_50 : decode cX6_tend 50 = .ok (.iastore, 1) := by decide +kernel
theorem dX6_tend_51 : decode cX6_tend 51 = .ok (.iload_n 2, 1) := by decide +kernel
theorem dX6_tend_52 : decode cX6_tend 52 = .ok (.ireturn, 1) := by decide +kernel
set_option maxRecDepth 20000 in
theorem ggX6_shift_X6_isBerth : GoodIn wsX6_shift wsX6_isBerth := goodIn_r _ [10, 11, 21, 22, 23, 24, 25, 26, 27, 28, 29, 30, 31, 32, 33, 34, 35, 36, 37, 38, 39, 40, 41, 42] (by decide +kernel) (by decide +kernel)
set_option maxRecDepth 20000 in
theorem gX6_shift_X6_isBerth : GoodIn wsX6_shift (wsV RX6 69 RX6 yX6_isBerth wsX6_isBerth) := goodIn_app (goodIn_of _ (by decide +kernel)) ggX6_shift_X6_isBerth
set_option maxRecDepth 20000 in
theorem ggX6_shift_X6_goes : GoodIn wsX6_shift wsX6_goes := goodIn_r _ [15, 16, 4, 21, 22, 23, 24, 25, 26, 27, 28, 29, 30, 31, 32, 33, 34, 35, 36, 37, 38, 39, 40, 41, 42] (by decide +kernel) (by decide +kernel)
set_option maxRecDepth 20000 in
theorem gX6_shift_X6_goes : GoodIn wsX6_shift (wsV RX6 86 RX6 yX6_goes wsX6_goes) := goodIn_app (goodIn_of _ (by decide +kernel)) ggX6_shift_X6_goes
set_option maxRecDepth 20000 in
theorem ggX6_shift_X6_comes : GoodIn wsX6_shift wsX6_comes := goodIn_r _ [20, 16, 4, 21, 22, 23, 24, 25, 26, 27, 28, 29, 30, 31, 32, 33, 34, 35, 36, 37, 38, 39, 40, 41, 42] (by decide +kernel) (by decide +kernel)
set_option maxRecDepth 20000 in
theorem gX6_shift_X6_comes : GoodIn wsX6_shift (wsV RX6 79 RX6 yX6_comes wsX6_comes) := goodIn_app (goodIn_of _ (by decide +kernel)) ggX6_shift_X6_comes
theorem dX6_shift_0 : decode cX6_shift 0 = .ok (.aload_n 0, 1) := by decide +kernel
theorem dX6_shift_1 : decode cX6_shift 1 = .ok (.iload_n 1, 1) := by decide +kernel
theorem dX6_shift_2 : decode cX6_shift 2 = .ok (.invokevirtual 69, 3) := by decide +kernel
theorem dX6_shift_5 : decode cX6_shift 5 = .ok (.ifCond .eq 27, 3) := by decide +kernel
theorem dX6_shift_8 : decode cX6_shift 8 = .ok (.aload_n 0, 1) := by decide +kernel
theorem dX6_shift_9 : decode cX6_shift 9 = .ok (.iload_n 2, 1) := by decide +kernel
theorem dX6_shift_10 : decode cX6_shift 10 = .ok (.invokevirtual 69, 3) := by decide +kernel
theorem dX6_shift_13 : decode cX6_shift 13 = .ok (.ifCond .eq 19, 3) := by decide +kernel
theorem dX6_shift_16 : decode cX6_shift 16 = .ok (.iload_n 1, 1) := by decide +kernel
theorem dX6_shift_17 : decode cX6_shift 17 = .ok (.iload_n 2, 1) := by decide +kernel
theorem dX6_shift_18 : decode cX6_shift 18 = .ok (.if_icmp .eq 14, 3) := by decide +kernel
theorem dX6_shift_21 : decode cX6_shift 21 = .ok (.iload_n 3, 1) := by decide +kernel
theorem dX6_shift_22 : decode cX6_shift 22 = .ok (.iconst 1, 1) := by decide +kernel
theorem dX6_shift_23 : decode cX6_shift 23 = .ok (.if_icmp .lt 9, 3) := by decide +kernel
theorem dX6_shift_26 : decode cX6_shift 26 = .ok (.iload_n 3, 1) := by decide +kernel
theorem dX6_shift_27 : decode cX6_shift 27 = .ok (.bipush 30, 2) := by decide +kernel
theorem dX6_shift_29 : decode cX6_shift 29 = .ok (.if_icmp .le 6, 3) := by decide +kernel
theorem dX6_shift_32 : decode cX6_shift 32 = .ok (.bipush (-2), 2) := by decide +kernel
theorem dX6_shift_34 : decode cX6_shift 34 = .ok (.ireturn, 1) := by decide +kernel
theorem dX6_shift_35 : decode cX6_shift 35 = .ok (.aload_n 0, 1) := by decide +kernel
theorem dX6_shift_36 : decode cX6_shift 36 = .ok (.getfield 29, 3) := by decide +kernel
theorem dX6_shift_39 : decode cX6_shift 39 = .ok (.iload_n 1, 1) := by decide +kernel
theorem dX6_shift_40 : decode cX6_shift 40 = .ok (.iaload, 1) := by decide +kernel
theorem dX6_shift_41 : decode cX6_shift 41 = .ok (.istore 4, 2) := by decide +kernel
theorem dX6_shift_43 : decode cX6_shift 43 = .ok (.iload 4, 2) := by decide +kernel
theorem dX6_shift_45 : decode cX6_shift 45 = .ok (.iconst (-1), 1) := by decide +kernel
theorem dX6_shift_46 : decode cX6_shift 46 = .ok (.if_icmp .ne 6, 3) := by decide +kernel
theorem dX6_shift_49 : decode cX6_shift 49 = .ok (.bipush (-4), 2) := by decide +kernel
theorem dX6_shift_51 : decode cX6_shift 51 = .ok (.ireturn, 1) := by decide +kernel
theorem dX6_shift_52 : decode cX6_shift 52 = .ok (.aload_n 0, 1) := by decide +kernel
theorem dX6_shift_53 : decode cX6_shift 53 = .ok (.getfield 13, 3) := by decide +kernel
theorem dX6_shift_56 : decode cX6_shift 56 = .ok (.iload 4, 2) := by decide +kernel
theorem dX6_shift_58 : decode cX6_shift 58 = .ok (.dup2, 1) := by decide +kernel
theorem dX6_shift_59 : decode cX6_shift 59 = .ok (.iaload, 1) := by decide +kernel
theorem dX6_shift_60 : decode cX6_shift 60 = .ok (.iconst 1, 1) := by decide +kernel
theorem dX6_shift_61 : decode cX6_shift 61 = .ok (.iadd, 1) := by decide +kernel
theorem dX6_shift_62 : decode cX6_shift 62 = .ok (.iastore, 1) := by decide +kernel
theorem dX6_shift_63 : decode cX6_shift 63 = .ok (.aload_n 0, 1) := by decide +kernel
theorem dX6_shift_64 : decode cX6_shift 64 = .ok (.getfield 7, 3) := by decide +kernel
theorem dX6_shift_67 : decode cX6_shift 67 = .ok (.iload 4, 2) := by decide +kernel
theorem dX6_shift_69 : decode cX6_shift 69 = .ok (.baload, 1) := by decide +kernel
theorem dX6_shift_70 : decode cX6_shift 70 = .ok (.ifCond .eq 6, 3) := by decide +kernel
theorem dX6_shift_73 : decode cX6_shift 73 = .ok (.bipush (-5), 2) := by decide +kernel
theorem dX6_shift_75 : decode cX6_shift 75 = .ok (.ireturn, 1) := by decide +kernel
theorem dX6_shift_76 : decode cX6_shift 76 = .ok (.iconst 0, 1) := by decide +kernel
theorem dX6_shift_77 : decode cX6_shift 77 = .ok (.istore 5, 2) := by decide +kernel
theorem dX6_shift_79 : decode cX6_shift 79 = .ok (.iload 5, 2) := by decide +kernel
theorem dX6_shift_81 : decode cX6_shift 81 = .ok (.iload_n 3, 1) := by decide +kernel
theorem dX6_shift_82 : decode cX6_shift 82 = .ok (.if_icmp .ge 106, 3) := by decide +kernel
theorem dX6_shift_85 : decode cX6_shift 85 = .ok (.aload_n 0, 1) := by decide +kernel
theorem dX6_shift_86 : decode cX6_shift 86 = .ok (.getfield 29, 3) := by decide +kernel
theorem dX6_shift_89 : decode cX6_shift 89 = .ok (.iload_n 2, 1) := by decide +kernel
theorem dX6_shift_90 : decode cX6_shift 90 = .ok (.iaload, 1) := by decide +kernel
theorem dX6_shift_91 : decode cX6_shift 91 = .ok (.istore 6, 2) := by decide +kernel
theorem dX6_shift_93 : decode cX6_shift 93 = .ok (.iload 6, 2) := by decide +kernel
theorem dX6_shift_95 : decode cX6_shift 95 = .ok (.iconst (-1), 1) := by decide +kernel
theorem dX6_shift_96 : decode cX6_shift 96 = .ok (.if_icmp .ne 6, 3) := by decide +kernel
theorem dX6_shift_99 : decode cX6_shift 99 = .ok (.bipush (-4), 2) := by decide +kernel
theorem dX6_shift_101 : decode cX6_shift 101 = .ok (.ireturn, 1) := by decide +kernel
theorem dX6_shift_102 : decode cX6_shift 102 = .ok (.aload_n 0, 1) := by decide +kernel
theorem dX6_shift_103 : decode cX6_shift 103 = .ok (.getfield 13, 3) := by decide +kernel
theorem dX6_shift_106 : decode cX6_shift 106 = .ok (.iload 6, 2) := by decide +kernel
theorem dX6_shift_108 : decode cX6_shift 108 = .ok (.dup2, 1) := by decide +kernel
theorem dX6_shift_109 : decode cX6_shift 109 = .ok (.iaload, 1) := by decide +kernel
theorem dX6_shift_110 : decode cX6_shift 110 = .ok (.iconst 1, 1) := by decide +kernel
theorem dX6_shift_111 : decode cX6_shift 111 = .ok (.iadd, 1) := by decide +kernel
theorem dX6_shift_112 : decode cX6_shift 112 = .ok (.iastore, 1) := by decide +kernel
theorem dX6_shift_113 : decode cX6_shift 113 = .ok (.aload_n 0, 1) := by decide +kernel
theorem dX6_shift_114 : decode cX6_shift 114 = .ok (.getfield 7, 3) := by decide +kernel
theorem dX6_shift_117 : decode cX6_shift 117 = .ok (.iload 6, 2) := by decide +kernel
theorem dX6_shift_119 : decode cX6_shift 119 = .ok (.baload, 1) := by decide +kernel
theorem dX6_shift_120 : decode cX6_shift 120 = .ok (.ifCond .ne 23, 3) := by decide +kernel
theorem dX6_shift_123 : decode cX6_shift 123 = .ok (.aload_n 0, 1) := by decide +kernel
theorem dX6_shift_124 : decode cX6_shift 124 = .ok (.getfield 38, 3) := by decide +kernel
theorem dX6_shift_127 : decode cX6_shift 127 = .ok (.iload_n 2, 1) := by decide +kernel
theorem dX6_shift_128 : decode cX6_shift 128 = .ok (.iaload, 1) := by decide +kernel
theorem dX6_shift_129 : decode cX6_shift 129 = .ok (.bipush 30, 2) := by decide +kernel
theorem dX6_shift_131 : decode cX6_shift 131 = .ok (.if_icmp .eq 12, 3) := by decide +kernel
theorem dX6_shift_134 : decode cX6_shift 134 = .ok (.aload_n 0, 1) := by decide +kernel
theorem dX6_shift_135 : decode cX6_shift 135 = .ok (.getfield 38, 3) := by decide +kernel
theorem dX6_shift_138 : decode cX6_shift 138 = .ok (.iload_n 1, 1) := by decide +kernel
theorem dX6_shift_139 : decode cX6_shift 139 = .ok (.iaload, 1) := by decide +kernel
theorem dX6_shift_140 : decode cX6_shift 140 = .ok (.ifCond .ne 6, 3) := by decide +kernel
theorem dX6_shift_143 : decode cX6_shift 143 = .ok (.iload 5, 2) := by decide +kernel
theorem dX6_shift_145 : decode cX6_shift 145 = .ok (.ireturn, 1) := by decide +kernel
theorem dX6_shift_146 : decode cX6_shift 146 = .ok (.aload_n 0, 1) := by decide +kernel
theorem dX6_shift_147 : decode cX6_shift 147 = .ok (.iload_n 1, 1) := by decide +kernel
theorem dX6_shift_148 : decode cX6_shift 148 = .ok (.invokevirtual 86, 3) := by decide +kernel
theorem dX6_shift_151 : decode cX6_shift 151 = .ok (.istore 7, 2) := by decide +kernel
theorem dX6_shift_153 : decode cX6_shift 153 = .ok (.aload_n 0, 1) := by decide +kernel
theorem dX6_shift_154 : decode cX6_shift 154 = .ok (.iload_n 2, 1) := by decide +kernel
theorem dX6_shift_155 : decode cX6_shift 155 = .ok (.iload 7, 2) := by decide +kernel
theorem dX6_shift_157 : decode cX6_shift 157 = .ok (.invokevirtual 79, 3) := by decide +kernel
theorem dX6_shift_160 : decode cX6_shift 160 = .ok (.aload_n 0, 1) := by decide +kernel
theorem dX6_shift_161 : decode cX6_shift 161 = .ok (.getfield 17, 3) := by decide +kernel
theorem dX6_shift_164 : decode cX6_shift 164 = .ok (.iload 4, 2) := by decide +kernel
theorem dX6_shift_166 : decode cX6_shift 166 = .ok (.dup2, 1) := by decide +kernel
theorem dX6_shift_167 : decode cX6_shift 167 = .ok (.iaload, 1) := by decide +kernel
theorem dX6_shift_168 : decode cX6_shift 168 = .ok (.iconst 1, 1) := by decide +kernel
theorem dX6_shift_169 : decode cX6_shift 169 = .ok (.iadd, 1) := by decide +kernel
theorem dX6_shift_170 : decode cX6_shift 170 = .ok (.iastore, 1) := by decide +kernel
theorem dX6_shift_171 : decode cX6_shift 171 = .ok (.aload_n 0, 1) := by decide +kernel
theorem dX6_shift_172 : decode cX6_shift 172 = .ok (.getfield 17, 3) := by decide +kernel
theorem dX6_shift_175 : decode cX6_shift 175 = .ok (.iload 6, 2) := by decide +kernel
theorem dX6_shift_177 : decode cX6_shift 177 = .ok (.dup2, 1) := by decide +kernel
theorem dX6_shift_178 : decode cX6_shift 178 = .ok (.iaload, 1) := by decide +kernel
theorem dX6_shift_179 : decode cX6_shift 179 = .ok (.iconst 1, 1) := by decide +kernel
theorem dX6_shift_180 : decode cX6_shift 180 = .ok (.iadd, 1) := by decide +kernel
theorem dX6_shift_181 : decode cX6_shift 181 = .ok (.iastore, 1) := by decide +kernel
theorem dX6_shift_182 : decode cX6_shift 182 = .ok (.iinc 5 1, 3) := by decide +kernel
theorem dX6_shift_185 : decode cX6_shift 185 = .ok (.goto (-106), 3) := by decide +kernel
theorem dX6_shift_188 : decode cX6_shift 188 = .ok (.iload_n 3, 1) := by decide +kernel
theorem dX6_shift_189 : decode cX6_shift 189 = .ok (.ireturn, 1) := by decide +kernel
set_option maxRecDepth 20000 in
theorem ggX6_state_X6_isBerth : GoodIn wsX6_state wsX6_isBerth := goodIn_r _ [12, 13, 14, 15, 16, 17, 18, 19, 20, 21, 22, 23, 24, 25, 26, 27, 28, 29, 30, 31, 32, 33, 34, 35] (by decide +kernel) (by decide +kernel)
set_option maxRecDepth 20000 in
theorem gX6_state_X6_isBerth : GoodIn wsX6_state (wsV RX6 69 RX6 yX6_isBerth wsX6_isBerth) := goodIn_app (goodIn_of _ (by decide +kernel)) ggX6_state_X6_isBerth
theorem dX6_state_0 : decode cX6_state 0 = .ok (.aload_n 0, 1) := by decide +kernel
theorem dX6_state_1 : decode cX6_state 1 = .ok (.iload_n 1, 1) := by decide +kernel
theorem dX6_state_2 : decode cX6_state 2 = .ok (.invokevirtual 69, 3) := by decide +kernel
theorem dX6_state_5 : decode cX6_state 5 = .ok (.ifCond .ne 6, 3) := by decide +kernel
theorem dX6_state_8 : decode cX6_state 8 = .ok (.bipush (-2), 2) := by decide +kernel
theorem dX6_state_10 : decode cX6_state 10 = .ok (.ireturn, 1) := by decide +kernel
theorem dX6_state_11 : decode cX6_state 11 = .ok (.aload_n 0, 1) := by decide +kernel
theorem dX6_state_12 : decode cX6_state 12 = .ok (.getfield 35, 3) := by decide +kernel
theorem dX6_state_15 : decode cX6_state 15 = .ok (.iload_n 1, 1) := by decide +kernel
theorem dX6_state_16 : decode cX6_state 16 = .ok (.iaload, 1) := by decide +kernel
theorem dX6_state_17 : decode cX6_state 17 = .ok (.istore_n 3, 1) := by decide +kernel
theorem dX6_state_18 : decode cX6_state 18 = .ok (.iload_n 2, 1) := by decide +kernel
theorem dX6_state_19 : decode cX6_state 19 = .ok (.tableswitch 79 0 5 #[37, 44, 51, 58, 65, 72], 37) := by decide +kernel
theorem dX6_state_56 : decode cX6_state 56 = .ok (.aload_n 0, 1) := by decide +kernel
theorem dX6_state_57 : decode cX6_state 57 = .ok (.getfield 29, 3) := by decide +kernel
theorem dX6_state_60 : decode cX6_state 60 = .ok (.iload_n 1, 1) := by decide +kernel
theorem dX6_state_61 : decode cX6_state 61 = .ok (.iaload, 1) := by decide +kernel
theorem dX6_state_62 : decode cX6_state 62 = .ok (.ireturn, 1) := by decide +kernel
theorem dX6_state_63 : decode cX6_state 63 = .ok (.aload_n 0, 1) := by decide +kernel
theorem dX6_state_64 : decode cX6_state 64 = .ok (.getfield 32, 3) := by decide +kernel
theorem dX6_state_67 : decode cX6_state 67 = .ok (.iload_n 1, 1) := by decide +kernel
theorem dX6_state_68 : decode cX6_state 68 = .ok (.iaload, 1) := by decide +kernel
theorem dX6_state_69 : decode cX6_state 69 = .ok (.ireturn, 1) := by decide +kernel
theorem dX6_state_70 : decode cX6_state 70 = .ok (.aload_n 0, 1) := by decide +kernel
theorem dX6_state_71 : decode cX6_state 71 = .ok (.getfield 38, 3) := by decide +kernel
theorem dX6_state_74 : decode cX6_state 74 = .ok (.iload_n 1, 1) := by decide +kernel
theorem dX6_state_75 : decode cX6_state 75 = .ok (.iaload, 1) := by decide +kernel
theorem dX6_state_76 : decode cX6_state 76 = .ok (.ireturn, 1) := by decide +kernel
theorem dX6_state_77 : decode cX6_state 77 = .ok (.aload_n 0, 1) := by decide +kernel
theorem dX6_state_78 : decode cX6_state 78 = .ok (.getfield 50, 3) := by decide +kernel
theorem dX6_state_81 : decode cX6_state 81 = .ok (.iload_n 3, 1) := by decide +kernel
theorem dX6_state_82 : decode cX6_state 82 = .ok (.iaload, 1) := by decide +kernel
theorem dX6_state_83 : decode cX6_state 83 = .ok (.ireturn, 1) := by decide +kernel
theorem dX6_state_84 : decode cX6_state 84 = .ok (.aload_n 0, 1) := by decide +kernel
theorem dX6_state_85 : decode cX6_state 85 = .ok (.getfield 47, 3) := by decide +kernel
theorem dX6_state_88 : decode cX6_state 88 = .ok (.iload_n 3, 1) := by decide +kernel
theorem dX6_state_89 : decode cX6_state 89 = .ok (.iaload, 1) := by decide +kernel
theorem dX6_state_90 : decode cX6_state 90 = .ok (.ireturn, 1) := by decide +kernel
theorem dX6_state_91 : decode cX6_state 91 = .ok (.aload_n 0, 1) := by decide +kernel
theorem dX6_state_92 : decode cX6_state 92 = .ok (.getfield 44, 3) := by decide +kernel
theorem dX6_state_95 : decode cX6_state 95 = .ok (.iload_n 3, 1) := by decide +kernel
theorem dX6_state_96 : decode cX6_state 96 = .ok (.iaload, 1) := by decide +kernel
theorem dX6_state_97 : decode cX6_state 97 = .ok (.ireturn, 1) := by decide +kernel
theorem dX6_state_98 : decode cX6_state 98 = .ok (.bipush (-2), 2) := by decide +kernel
theorem dX6_state_100 : decode cX6_state 100 = .ok (.ireturn, 1) := by decide +kernel
set_option maxRecDepth 20000 in
theorem ggX6_waiting_X6_isBerth : GoodIn wsX6_waiting wsX6_isBerth := goodIn_r _ [7, 8, 9, 10, 11, 12, 13, 14, 15, 16, 17, 18, 19, 20, 21, 22, 23, 24, 25, 26, 27, 28, 29, 30] (by decide +kernel) (by decide +kernel)
set_option maxRecDepth 20000 in
theorem gX6_waiting_X6_isBerth : GoodIn wsX6_waiting (wsV RX6 69 RX6 yX6_isBerth wsX6_isBerth) := goodIn_app (goodIn_of _ (by decide +kernel)) ggX6_waiting_X6_isBerth
theorem dX6_waiting_0 : decode cX6_waiting 0 = .ok (.aload_n 0, 1) := by decide +kernel
theorem dX6_waiting_1 : decode cX6_waiting 1 = .ok (.iload_n 1, 1) := by decide +kernel
theorem dX6_waiting_2 : decode cX6_waiting 2 = .ok (.invokevirtual 69, 3) := by decide +kernel
theorem dX6_waiting_5 : decode cX6_waiting 5 = .ok (.ifCond .ne 6, 3) := by decide +kernel
theorem dX6_waiting_8 : decode cX6_waiting 8 = .ok (.bipush (-2), 2) := by decide +kernel
theorem dX6_waiting_10 : decode cX6_waiting 10 = .ok (.ireturn, 1) := by decide +kernel
theorem dX6_waiting_11 : decode cX6_waiting 11 = .ok (.iload_n 2, 1) := by decide +kernel
theorem dX6_waiting_12 : decode cX6_waiting 12 = .ok (.ifCond .lt 27, 3) := by decide +kernel
theorem dX6_waiting_15 : decode cX6_waiting 15 = .ok (.iload_n 2, 1) := by decide +kernel
theorem dX6_waiting_16 : decode cX6_waiting 16 = .ok (.aload_n 0, 1) := by decide +kernel
theorem dX6_waiting_17 : decode cX6_waiting 17 = .ok (.getfield 38, 3) := by decide +kernel
theorem dX6_waiting_20 : decode cX6_waiting 20 = .ok (.iload_n 1, 1) := by decide +kernel
theorem dX6_waiting_21 : decode cX6_waiting 21 = .ok (.iaload, 1) := by decide +kernel
theorem dX6_waiting_22 : decode cX6_waiting 22 = .ok (.if_icmp .ge 17, 3) := by decide +kernel
theorem dX6_waiting_25 : decode cX6_waiting 25 = .ok (.aload_n 0, 1) := by decide +kernel
theorem dX6_waiting_26 : decode cX6_waiting 26 = .ok (.getfield 41, 3) := by decide +kernel
theorem dX6_waiting_29 : decode cX6_waiting 29 = .ok (.bipush 30, 2) := by decide +kernel
theorem dX6_waiting_31 : decode cX6_waiting 31 = .ok (.iload_n 1, 1) := by decide +kernel
theorem dX6_waiting_32 : decode cX6_waiting 32 = .ok (.imul, 1) := by decide +kernel
theorem dX6_waiting_33 : decode cX6_waiting 33 = .ok (.iload_n 2, 1) := by decide +kernel
theorem dX6_waiting_34 : decode cX6_waiting 34 = .ok (.iadd, 1) := by decide +kernel
theorem dX6_waiting_35 : decode cX6_waiting 35 = .ok (.iaload, 1) := by decide +kernel
theorem dX6_waiting_36 : decode cX6_waiting 36 = .ok (.goto 4, 3) := by decide +kernel
theorem dX6_waiting_39 : decode cX6_waiting 39 = .ok (.iconst (-1), 1) := by decide +kernel
theorem dX6_waiting_40 : decode cX6_waiting 40 = .ok (.ireturn, 1) := by decide +kernel
set_option maxRecDepth 20000 in
theorem ggX6_aboard_X6_isBerth : GoodIn wsX6_aboard wsX6_isBerth := goodIn_r _ [8, 9, 10, 11, 12, 13, 14, 15, 16, 17, 18, 19, 20, 21, 22, 23, 24, 25, 26, 27, 28, 29, 30, 31] (by decide +kernel) (by decide +kernel)
set_option maxRecDepth 20000 in
theorem gX6_aboard_X6_isBerth : GoodIn wsX6_aboard (wsV RX6 69 RX6 yX6_isBerth wsX6_isBerth) := goodIn_app (goodIn_of _ (by decide +kernel)) ggX6_aboard_X6_isBerth
theorem dX6_aboard_0 : decode cX6_aboard 0 = .ok (.aload_n 0, 1) := by decide +kernel
theorem dX6_aboard_1 : decode cX6_aboard 1 = .ok (.iload_n 1, 1) := by decide +kernel
theorem dX6_aboard_2 : decode cX6_aboard 2 = .ok (.invokevirtual 69, 3) := by decide +kernel
theorem dX6_aboard_5 : decode cX6_aboard 5 = .ok (.ifCond .ne 6, 3) := by decide +kernel
theorem dX6_aboard_8 : decode cX6_aboard 8 = .ok (.bipush (-2), 2) := by decide +kernel
theorem dX6_aboard_10 : decode cX6_aboard 10 = .ok (.ireturn, 1) := by decide +kernel
theorem dX6_aboard_11 : decode cX6_aboard 11 = .ok (.aload_n 0, 1) := by decide +kernel
theorem dX6_aboard_12 : decode cX6_aboard 12 = .ok (.getfield 35, 3) := by decide +kernel
theorem dX6_aboard_15 : decode cX6_aboard 15 = .ok (.iload_n 1, 1) := by decide +kernel
theorem dX6_aboard_16 : decode cX6_aboard 16 = .ok (.iaload, 1) := by decide +kernel
theorem dX6_aboard_17 : decode cX6_aboard 17 = .ok (.istore_n 3, 1) := by decide +kernel
theorem dX6_aboard_18 : decode cX6_aboard 18 = .ok (.iload_n 2, 1) := by decide +kernel
theorem dX6_aboard_19 : decode cX6_aboard 19 = .ok (.ifCond .lt 27, 3) := by decide +kernel
theorem dX6_aboard_22 : decode cX6_aboard 22 = .ok (.iload_n 2, 1) := by decide +kernel
theorem dX6_aboard_23 : decode cX6_aboard 23 = .ok (.aload_n 0, 1) := by decide +kernel
theorem dX6_aboard_24 : decode cX6_aboard 24 = .ok (.getfield 50, 3) := by decide +kernel
theorem dX6_aboard_27 : decode cX6_aboard 27 = .ok (.iload_n 3, 1) := by decide +kernel
theorem dX6_aboard_28 : decode cX6_aboard 28 = .ok (.iaload, 1) := by decide +kernel
theorem dX6_aboard_29 : decode cX6_aboard 29 = .ok (.if_icmp .ge 17, 3) := by decide +kernel
theorem dX6_aboard_32 : decode cX6_aboard 32 = .ok (.aload_n 0, 1) := by decide +kernel
theorem dX6_aboard_33 : decode cX6_aboard 33 = .ok (.getfield 53, 3) := by decide +kernel
theorem dX6_aboard_36 : decode cX6_aboard 36 = .ok (.bipush 40, 2) := by decide +kernel
theorem dX6_aboard_38 : decode cX6_aboard 38 = .ok (.iload_n 3, 1) := by decide +kernel
theorem dX6_aboard_39 : decode cX6_aboard 39 = .ok (.imul, 1) := by decide +kernel
theorem dX6_aboard_40 : decode cX6_aboard 40 = .ok (.iload_n 2, 1) := by decide +kernel
theorem dX6_aboard_41 : decode cX6_aboard 41 = .ok (.iadd, 1) := by decide +kernel
theorem dX6_aboard_42 : decode cX6_aboard 42 = .ok (.iaload, 1) := by decide +kernel
theorem dX6_aboard_43 : decode cX6_aboard 43 = .ok (.goto 4, 3) := by decide +kernel
theorem dX6_aboard_46 : decode cX6_aboard 46 = .ok (.iconst (-1), 1) := by decide +kernel
theorem dX6_aboard_47 : decode cX6_aboard 47 = .ok (.ireturn, 1) := by decide +kernel
set_option maxRecDepth 20000 in
theorem ggX6_ofGate_X6_isGate : GoodIn wsX6_ofGate wsX6_isGate := goodIn_r _ [8, 9, 10, 11, 12, 13, 14, 15, 16, 17, 18, 19, 20, 21, 22, 23, 24, 25, 26, 27, 28, 29, 30, 31] (by decide +kernel) (by decide +kernel)
set_option maxRecDepth 20000 in
theorem gX6_ofGate_X6_isGate : GoodIn wsX6_ofGate (wsV RX6 73 RX6 yX6_isGate wsX6_isGate) := goodIn_app (goodIn_of _ (by decide +kernel)) ggX6_ofGate_X6_isGate
theorem dX6_ofGate_0 : decode cX6_ofGate 0 = .ok (.aload_n 0, 1) := by decide +kernel
theorem dX6_ofGate_1 : decode cX6_ofGate 1 = .ok (.iload_n 1, 1) := by decide +kernel
theorem dX6_ofGate_2 : decode cX6_ofGate 2 = .ok (.invokevirtual 73, 3) := by decide +kernel
theorem dX6_ofGate_5 : decode cX6_ofGate 5 = .ok (.ifCond .eq 12, 3) := by decide +kernel
theorem dX6_ofGate_8 : decode cX6_ofGate 8 = .ok (.iload_n 2, 1) := by decide +kernel
theorem dX6_ofGate_9 : decode cX6_ofGate 9 = .ok (.ifCond .lt 8, 3) := by decide +kernel
theorem dX6_ofGate_12 : decode cX6_ofGate 12 = .ok (.iload_n 2, 1) := by decide +kernel
theorem dX6_ofGate_13 : decode cX6_ofGate 13 = .ok (.iconst 2, 1) := by decide +kernel
theorem dX6_ofGate_14 : decode cX6_ofGate 14 = .ok (.if_icmp .le 6, 3) := by decide +kernel
theorem dX6_ofGate_17 : decode cX6_ofGate 17 = .ok (.bipush (-2), 2) := by decide +kernel
theorem dX6_ofGate_19 : decode cX6_ofGate 19 = .ok (.ireturn, 1) := by decide +kernel
theorem dX6_ofGate_20 : decode cX6_ofGate 20 = .ok (.iload_n 2, 1) := by decide +kernel
theorem dX6_ofGate_21 : decode cX6_ofGate 21 = .ok (.ifCond .ne 12, 3) := by decide +kernel
theorem dX6_ofGate_24 : decode cX6_ofGate 24 = .ok (.aload_n 0, 1) := by decide +kernel
theorem dX6_ofGate_25 : decode cX6_ofGate 25 = .ok (.getfield 13, 3) := by decide +kernel
theorem dX6_ofGate_28 : decode cX6_ofGate 28 = .ok (.iload_n 1, 1) := by decide +kernel
theorem dX6_ofGate_29 : decode cX6_ofGate 29 = .ok (.iaload, 1) := by decide +kernel
theorem dX6_ofGate_30 : decode cX6_ofGate 30 = .ok (.goto 31, 3) := by decide +kernel
theorem dX6_ofGate_33 : decode cX6_ofGate 33 = .ok (.iload_n 2, 1) := by decide +kernel
theorem dX6_ofGate_34 : decode cX6_ofGate 34 = .ok (.iconst 1, 1) := by decide +kernel
theorem dX6_ofGate_35 : decode cX6_ofGate 35 = .ok (.if_icmp .ne 12, 3) := by decide +kernel
theorem dX6_ofGate_38 : decode cX6_ofGate 38 = .ok (.aload_n 0, 1) := by decide +kernel
theorem dX6_ofGate_39 : decode cX6_ofGate 39 = .ok (.getfield 17, 3) := by decide +kernel
theorem dX6_ofGate_42 : decode cX6_ofGate 42 = .ok (.iload_n 1, 1) := by decide +kernel
theorem dX6_ofGate_43 : decode cX6_ofGate 43 = .ok (.iaload, 1) := by decide +kernel
theorem dX6_ofGate_44 : decode cX6_ofGate 44 = .ok (.goto 17, 3) := by decide +kernel
theorem dX6_ofGate_47 : decode cX6_ofGate 47 = .ok (.aload_n 0, 1) := by decide +kernel
theorem dX6_ofGate_48 : decode cX6_ofGate 48 = .ok (.getfield 7, 3) := by decide +kernel
theorem dX6_ofGate_51 : decode cX6_ofGate 51 = .ok (.iload_n 1, 1) := by decide +kernel
theorem dX6_ofGate_52 : decode cX6_ofGate 52 = .ok (.baload, 1) := by decide +kernel
theorem dX6_ofGate_53 : decode cX6_ofGate 53 = .ok (.ifCond .eq 7, 3) := by decide +kernel
theorem dX6_ofGate_56 : decode cX6_ofGate 56 = .ok (.iconst 1, 1) := by decide +kernel
theorem dX6_ofGate_57 : decode cX6_ofGate 57 = .ok (.goto 4, 3) := by decide +kernel
theorem dX6_ofGate_60 : decode cX6_ofGate 60 = .ok (.iconst 0, 1) := by decide +kernel
theorem dX6_ofGate_61 : decode cX6_ofGate 61 = .ok (.ireturn, 1) := by decide +kernel
set_option maxRecDepth 20000 in
theorem ggX6_ofRamp_X6_isRamp : GoodIn wsX6_ofRamp wsX6_isRamp := goodIn_r _ [8, 9, 10, 11, 12, 13, 14, 15, 16, 17, 18, 19, 20, 21, 22, 23, 24, 25, 26, 27, 28, 29, 30, 31] (by decide +kernel) (by decide +kernel)
set_option maxRecDepth 20000 in
theorem gX6_ofRamp_X6_isRamp : GoodIn wsX6_ofRamp (wsV RX6 76 RX6 yX6_isRamp wsX6_isRamp) := goodIn_app (goodIn_of _ (by decide +kernel)) ggX6_ofRamp_X6_isRamp
theorem dX6_ofRamp_0 : decode cX6_ofRamp 0 = .ok (.aload_n 0, 1) := by decide +kernel
theorem dX6_ofRamp_1 : decode cX6_ofRamp 1 = .ok (.iload_n 1, 1) := by decide +kernel
theorem dX6_ofRamp_2 : decode cX6_ofRamp 2 = .ok (.invokevirtual 76, 3) := by decide +kernel
theorem dX6_ofRamp_5 : decode cX6_ofRamp 5 = .ok (.ifCond .eq 12, 3) := by decide +kernel
theorem dX6_ofRamp_8 : decode cX6_ofRamp 8 = .ok (.iload_n 2, 1) := by decide +kernel
theorem dX6_ofRamp_9 : decode cX6_ofRamp 9 = .ok (.ifCond .lt 8, 3) := by decide +kernel
theorem dX6_ofRamp_12 : decode cX6_ofRamp 12 = .ok (.iload_n 2, 1) := by decide +kernel
theorem dX6_ofRamp_13 : decode cX6_ofRamp 13 = .ok (.iconst 2, 1) := by decide +kernel
theorem dX6_ofRamp_14 : decode cX6_ofRamp 14 = .ok (.if_icmp .le 6, 3) := by decide +kernel
theorem dX6_ofRamp_17 : decode cX6_ofRamp 17 = .ok (.bipush (-2), 2) := by decide +kernel
theorem dX6_ofRamp_19 : decode cX6_ofRamp 19 = .ok (.ireturn, 1) := by decide +kernel
theorem dX6_ofRamp_20 : decode cX6_ofRamp 20 = .ok (.iload_n 2, 1) := by decide +kernel
theorem dX6_ofRamp_21 : decode cX6_ofRamp 21 = .ok (.ifCond .ne 12, 3) := by decide +kernel
theorem dX6_ofRamp_24 : decode cX6_ofRamp 24 = .ok (.aload_n 0, 1) := by decide +kernel
theorem dX6_ofRamp_25 : decode cX6_ofRamp 25 = .ok (.getfield 26, 3) := by decide +kernel
theorem dX6_ofRamp_28 : decode cX6_ofRamp 28 = .ok (.iload_n 1, 1) := by decide +kernel
theorem dX6_ofRamp_29 : decode cX6_ofRamp 29 = .ok (.iaload, 1) := by decide +kernel
theorem dX6_ofRamp_30 : decode cX6_ofRamp 30 = .ok (.goto 23, 3) := by decide +kernel
theorem dX6_ofRamp_33 : decode cX6_ofRamp 33 = .ok (.iload_n 2, 1) := by decide +kernel
theorem dX6_ofRamp_34 : decode cX6_ofRamp 34 = .ok (.iconst 1, 1) := by decide +kernel
theorem dX6_ofRamp_35 : decode cX6_ofRamp 35 = .ok (.if_icmp .ne 12, 3) := by decide +kernel
theorem dX6_ofRamp_38 : decode cX6_ofRamp 38 = .ok (.aload_n 0, 1) := by decide +kernel
theorem dX6_ofRamp_39 : decode cX6_ofRamp 39 = .ok (.getfield 23, 3) := by decide +kernel
theorem dX6_ofRamp_42 : decode cX6_ofRamp 42 = .ok (.iload_n 1, 1) := by decide +kernel
theorem dX6_ofRamp_43 : decode cX6_ofRamp 43 = .ok (.iaload, 1) := by decide +kernel
theorem dX6_ofRamp_44 : decode cX6_ofRamp 44 = .ok (.goto 9, 3) := by decide +kernel
theorem dX6_ofRamp_47 : decode cX6_ofRamp 47 = .ok (.aload_n 0, 1) := by decide +kernel
theorem dX6_ofRamp_48 : decode cX6_ofRamp 48 = .ok (.getfield 20, 3) := by decide +kernel
theorem dX6_ofRamp_51 : decode cX6_ofRamp 51 = .ok (.iload_n 1, 1) := by decide +kernel
theorem dX6_ofRamp_52 : decode cX6_ofRamp 52 = .ok (.iaload, 1) := by decide +kernel
theorem dX6_ofRamp_53 : decode cX6_ofRamp 53 = .ok (.ireturn, 1) := by decide +kernel
theorem dX6_count_0 : decode cX6_count 0 = .ok (.iload_n 1, 1) := by decide +kernel
theorem dX6_count_1 : decode cX6_count 1 = .ok (.tableswitch 78 0 6 #[43, 48, 53, 58, 63, 68, 73], 43) := by decide +kernel
theorem dX6_count_44 : decode cX6_count 44 = .ok (.aload_n 0, 1) := by decide +kernel
theorem dX6_count_45 : decode cX6_count 45 = .ok (.getfield 56, 3) := by decide +kernel
theorem dX6_count_48 : decode cX6_count 48 = .ok (.ireturn, 1) := by decide +kernel
theorem dX6_count_49 : decode cX6_count 49 = .ok (.aload_n 0, 1) := by decide +kernel
theorem dX6_count_50 : decode cX6_count 50 = .ok (.getfield 60, 3) := by decide +kernel
theorem dX6_count_53 : decode cX6_count 53 = .ok (.ireturn, 1) := by decide +kernel
theorem dX6_count_54 : decode cX6_count 54 = .ok (.aload_n 0, 1) := by decide +kernel
theorem dX6_count_55 : decode cX6_count 55 = .ok (.getfield 63, 3) := by decide +kernel
theorem dX6_count_58 : decode cX6_count 58 = .ok (.ireturn, 1) := by decide +kernel
theorem dX6_count_59 : decode cX6_count 59 = .ok (.aload_n 0, 1) := by decide +kernel
theorem dX6_count_60 : decode cX6_count 60 = .ok (.getfield 83, 3) := by decide +kernel
theorem dX6_count_63 : decode cX6_count 63 = .ok (.ireturn, 1) := by decide +kernel
theorem dX6_count_64 : decode cX6_count 64 = .ok (.aload_n 0, 1) := by decide +kernel
theorem dX6_count_65 : decode cX6_count 65 = .ok (.getfield 96, 3) := by decide +kernel
theorem dX6_count_68 : decode cX6_count 68 = .ok (.ireturn, 1) := by decide +kernel
theorem dX6_count_69 : decode cX6_count 69 = .ok (.aload_n 0, 1) := by decide +kernel
theorem dX6_count_70 : decode cX6_count 70 = .ok (.getfield 90, 3) := by decide +kernel
theorem dX6_count_73 : decode cX6_count 73 = .ok (.ireturn, 1) := by decide +kernel
theorem dX6_count_74 : decode cX6_count 74 = .ok (.aload_n 0, 1) := by decide +kernel
theorem dX6_count_75 : decode cX6_count 75 = .ok (.getfield 66, 3) := by decide +kernel
theorem dX6_count_78 : decode cX6_count 78 = .ok (.ireturn, 1) := by decide +kernel
theorem dX6_count_79 : decode cX6_count 79 = .ok (.bipush (-2), 2) := by decide +kernel
theorem dX6_count_81 : decode cX6_count 81 = .ok (.ireturn, 1) := by decide +kernel
end
section
set_option maxRecDepth 20000 in
theorem ggL_law_X5_init : GoodIn wsL_law wsX5_init := goodIn_r _ [8, 9, 10, 11, 12, 13, 14, 15, 16, 17, 384, 385, 386, 387, 388, 389, 390, 391, 392, 393] (by decide +kernel) (by decide +kernel)
set_option maxRecDepth 20000 in
theorem gL_law_X5_init : GoodIn wsL_law (wsX5_init) := ggL_law_X5_init
set_option maxRecDepth 20000 in
theorem ggL_law_X6_init : GoodIn wsL_law wsX6_init := goodIn_r _ [20, 21, 10, 11, 22, 23, 24, 25, 26, 27, 28, 29, 30, 31, 32, 33, 34, 35, 36, 37, 38, 394, 395, 396, 397, 398, 399, 400, 401, 402, 403, 404, 405, 406, 407, 408, 409, 410, 411, 412, 413, 414, 415] (by decide +kernel) (by decide +kernel)
set_option maxRecDepth 20000 in
theorem gL_law_X6_init : GoodIn wsL_law (wsX6_init) := ggL_law_X6_init
set_option maxRecDepth 20000 in
theorem ggL_law_X5_gate : GoodIn wsL_law wsX5_gate := goodIn_r _ [42, 43, 13, 12, 44, 45, 46, 47, 48, 49, 10, 11, 50, 384, 385, 386, 387, 388, 389, 390, 391, 392, 393, 416, 417, 418, 419] (by decide +kernel) (by decide +kernel)
set_option maxRecDepth 20000 in
theorem gL_law_X5_gate : GoodIn wsL_law (wsV RL 13 RX5 yX5_gate wsX5_gate) := goodIn_app (goodIn_of _ (by decide +kernel)) ggL_law_X5_gate
set_option maxRecDepth 20000 in
theorem ggL_law_X6_gate : GoodIn wsL_law wsX6_gate := goodIn_r _ [54, 55, 394, 395, 396, 397, 398, 399, 400, 401, 402, 403, 404, 405, 406, 407, 408, 409, 410, 411, 412, 413, 414, 415] (by decide +kernel) (by decide +kernel)
set_option maxRecDepth 20000 in
theorem gL_law_X6_gate : GoodIn wsL_law (wsV RL 17 RX6 yX6_gate wsX6_gate) := goodIn_app (goodIn_of _ (by decide +kernel)) ggL_law_X6_gate
set_option maxRecDepth 20000 in
theorem ggL_law_X5_ramp : GoodIn wsL_law wsX5_ramp := goodIn_r _ [59, 60, 15, 14, 61, 62, 63, 64, 2, 65, 66, 67, 68, 69, 10, 11, 70, 71, 384, 385, 386, 387, 388, 389, 390, 391, 392, 393, 420, 421, 422, 423] (by decide +kernel) (by decide +kernel)
set_option maxRecDepth 20000 in
theorem gL_law_X5_ramp : GoodIn wsL_law (wsV RL 18 RX5 yX5_ramp wsX5_ramp) := goodIn_app (goodIn_of _ (by decide +kernel)) ggL_law_X5_ramp
set_option maxRecDepth 20000 in
theorem ggL_law_X6_ramp : GoodIn wsL_law wsX6_ramp := goodIn_r _ [75, 76, 27, 394, 395, 396, 397, 398, 399, 400, 401, 402, 403, 404, 405, 406, 407, 408, 409, 410, 411, 412, 413, 414, 415] (by decide +kernel) (by decide +kernel)
set_option maxRecDepth 20000 in
theorem gL_law_X6_ramp : GoodIn wsL_law (wsV RL 22 RX6 yX6_ramp wsX6_ramp) := goodIn_app (goodIn_of _ (by decide +kernel)) ggL_law_X6_ramp
set_option maxRecDepth 20000 in
theorem ggL_law_X5_berth : GoodIn wsL_law wsX5_berth := goodIn_r _ [80, 81, 17, 16, 82, 83, 63, 64, 2, 65, 84, 85, 86, 87, 10, 11, 88, 89, 90, 91, 92, 93, 94, 95, 96, 97, 98, 99, 100, 101, 102, 103, 24, 104, 105, 106, 107, 108, 109, 110, 111, 112, 384, 385, 386, 387, 388, 389, 390, 391, 392, 393, 424, 425, 426, 427, 428, 429, 430, 431, 432] (by decide +kernel) (by decide +kernel)
set_option maxRecDepth 20000 in
theorem gL_law_X5_berth : GoodIn wsL_law (wsV RL 23 RX5 yX5_berth wsX5_berth) := goodIn_app (goodIn_of _ (by decide +kernel)) ggL_law_X5_berth
set_option maxRecDepth 20000 in
theorem ggL_law_X6_berth : GoodIn wsL_law wsX6_berth := goodIn_r _ [116, 117, 35, 30, 31, 32, 394, 395, 396, 397, 398, 399, 400, 401, 402, 403, 404, 405, 406, 407, 408, 409, 410, 411, 412, 413, 414, 415] (by decide +kernel) (by decide +kernel)
set_option maxRecDepth 20000 in
theorem gL_law_X6_berth : GoodIn wsL_law (wsV RL 26 RX6 yX6_berth wsX6_berth) := goodIn_app (goodIn_of _ (by decide +kernel)) ggL_law_X6_berth
set_option maxRecDepth 20000 in
theorem ggL_law_X5_hinge : GoodIn wsL_law wsX5_hinge := goodIn_r _ [121, 122, 123, 124, 125, 2, 126, 81, 17, 127, 128, 129, 130, 43, 13, 131, 132, 133, 83, 134, 135, 136, 424, 425, 426, 427, 384, 385, 386, 387, 388, 389, 390, 391, 392, 393, 416, 417, 418, 419] (by decide +kernel) (by decide +kernel)
set_option maxRecDepth 20000 in
theorem gL_law_X5_hinge : GoodIn wsL_law (wsV RL 27 RX5 yX5_hinge wsX5_hinge) := goodIn_app (goodIn_of _ (by decide +kernel)) ggL_law_X5_hinge
set_option maxRecDepth 20000 in
theorem ggL_law_X6_hinge : GoodIn wsL_law wsX6_hinge := goodIn_r _ [140, 30, 141, 142, 143, 5, 144, 117, 145, 146, 147, 148, 55, 394, 395, 396, 397, 398, 399, 400, 401, 402, 403, 404, 405, 406, 407, 408, 409, 410, 411, 412, 413, 414, 415] (by decide +kernel) (by decide +kernel)
set_option maxRecDepth 20000 in
theorem gL_law_X6_hinge : GoodIn wsL_law (wsV RL 31 RX6 yX6_hinge wsX6_hinge) := goodIn_app (goodIn_of _ (by decide +kernel)) ggL_law_X6_hinge
set_option maxRecDepth 20000 in
theorem ggL_law_X5_lay : GoodIn wsL_law wsX5_lay := goodIn_r _ [152, 153, 123, 124, 125, 2, 126, 81, 17, 154, 155, 156, 157, 60, 15, 158, 159, 160, 83, 161, 162, 163, 424, 425, 426, 427, 384, 385, 386, 387, 388, 389, 390, 391, 392, 393, 420, 421, 422, 423] (by decide +kernel) (by decide +kernel)
set_option maxRecDepth 20000 in
theorem gL_law_X5_lay : GoodIn wsL_law (wsV RL 32 RX5 yX5_lay wsX5_lay) := goodIn_app (goodIn_of _ (by decide +kernel)) ggL_law_X5_lay
set_option maxRecDepth 20000 in
theorem ggL_law_X6_lay : GoodIn wsL_law wsX6_lay := goodIn_r _ [167, 31, 141, 142, 143, 5, 144, 117, 168, 169, 170, 171, 76, 394, 395, 396, 397, 398, 399, 400, 401, 402, 403, 404, 405, 406, 407, 408, 409, 410, 411, 412, 413, 414, 415] (by decide +kernel) (by decide +kernel)
set_option maxRecDepth 20000 in
theorem gL_law_X6_lay : GoodIn wsL_law (wsV RL 35 RX6 yX6_lay wsX6_lay) := goodIn_app (goodIn_of _ (by decide +kernel)) ggL_law_X6_lay
set_option maxRecDepth 20000 in
theorem ggL_law_X5_shut : GoodIn wsL_law wsX5_shut := goodIn_r _ [175, 176, 127, 128, 129, 2, 130, 43, 13, 177, 178, 179, 45, 180, 181, 416, 417, 418, 419, 384, 385, 386, 387, 388, 389, 390, 391, 392, 393] (by decide +kernel) (by decide +kernel)
set_option maxRecDepth 20000 in
theorem gL_law_X5_shut : GoodIn wsL_law (wsV RL 36 RX5 yX5_shut wsX5_shut) := goodIn_app (goodIn_of _ (by decide +kernel)) ggL_law_X5_shut
set_option maxRecDepth 20000 in
theorem ggL_law_X6_shut : GoodIn wsL_law wsX6_shut := goodIn_r _ [185, 23, 145, 146, 147, 5, 148, 55, 394, 395, 396, 397, 398, 399, 400, 401, 402, 403, 404, 405, 406, 407, 408, 409, 410, 411, 412, 413, 414, 415] (by decide +kernel) (by decide +kernel)
set_option maxRecDepth 20000 in
theorem gL_law_X6_shut : GoodIn wsL_law (wsV RL 40 RX6 yX6_shut wsX6_shut) := goodIn_app (goodIn_of _ (by decide +kernel)) ggL_law_X6_shut
set_option maxRecDepth 20000 in
theorem ggL_law_X5_arrive : GoodIn wsL_law wsX5_arrive := goodIn_r _ [189, 190, 191, 192, 123, 124, 125, 2, 126, 81, 17, 63, 64, 65, 193, 194, 195, 90, 196, 197, 104, 198, 199, 200, 201, 424, 425, 426, 427, 384, 385, 386, 387, 388, 389, 390, 391, 392, 393, 428, 429] (by decide +kernel) (by decide +kernel)
set_option maxRecDepth 20000 in
theorem gL_law_X5_arrive : GoodIn wsL_law (wsV RL 41 RX5 yX5_arrive wsX5_arrive) := goodIn_app (goodIn_of _ (by decide +kernel)) ggL_law_X5_arrive
set_option maxRecDepth 20000 in
theorem ggL_law_X6_arrive : GoodIn wsL_law wsX6_arrive := goodIn_r _ [205, 33, 206, 141, 142, 143, 5, 144, 117, 207, 208, 209, 210, 34, 394, 395, 396, 397, 398, 399, 400, 401, 402, 403, 404, 405, 406, 407, 408, 409, 410, 411, 412, 413, 414, 415] (by decide +kernel) (by decide +kernel)
set_option maxRecDepth 20000 in
theorem gL_law_X6_arrive : GoodIn wsL_law (wsV RL 44 RX6 yX6_arrive wsX6_arrive) := goodIn_app (goodIn_of _ (by decide +kernel)) ggL_law_X6_arrive
set_option maxRecDepth 20000 in
theorem ggL_law_X5_board : GoodIn wsL_law wsX5_board := goodIn_r _ [214, 122, 215, 176, 123, 124, 125, 2, 126, 81, 17, 63, 64, 65, 216, 217, 218, 219, 190, 153, 192, 220, 221, 222, 223, 224, 225, 226, 227, 228, 90, 229, 197, 104, 230, 231, 232, 233, 234, 235, 236, 237, 238, 239, 240, 241, 242, 198, 199, 200, 201, 243, 244, 245, 94, 246, 111, 247, 109, 248, 194, 195, 196, 249, 250, 251, 252, 253, 424, 425, 426, 427, 416, 417, 418, 419, 384, 385, 386, 387, 388, 389, 390, 391, 392, 393, 428, 429, 420, 421, 422, 423, 430, 431, 432] (by decide +kernel) (by decide +kernel)
set_option maxRecDepth 20000 in
theorem gL_law_X5_board : GoodIn wsL_law (wsV RL 45 RX5 yX5_board wsX5_board) := goodIn_app (goodIn_of _ (by decide +kernel)) ggL_law_X5_board
set_option maxRecDepth 20000 in
theorem ggL_law_X6_board : GoodIn wsL_law wsX6_board := goodIn_r _ [257, 30, 25, 23, 32, 33, 31, 29, 34, 258, 27, 36, 35, 37, 38, 26, 28, 141, 142, 143, 5, 144, 117, 259, 260, 261, 262, 263, 264, 265, 266, 267, 207, 208, 209, 210, 394, 395, 396, 397, 398, 399, 400, 401, 402, 403, 404, 405, 406, 407, 408, 409, 410, 411, 412, 413, 414, 415] (by decide +kernel) (by decide +kernel)
set_option maxRecDepth 20000 in
theorem gL_law_X6_board : GoodIn wsL_law (wsV RL 48 RX6 yX6_board wsX6_board) := goodIn_app (goodIn_of _ (by decide +kernel)) ggL_law_X6_board
set_option maxRecDepth 20000 in
theorem ggL_law_X5_land : GoodIn wsL_law wsX5_land := goodIn_r _ [271, 153, 220, 123, 124, 125, 2, 126, 81, 17, 63, 64, 65, 272, 273, 274, 275, 223, 122, 276, 192, 215, 176, 222, 277, 224, 225, 278, 279, 280, 94, 281, 111, 282, 283, 227, 228, 90, 229, 197, 104, 238, 239, 240, 241, 242, 284, 285, 286, 287, 247, 288, 289, 290, 291, 292, 424, 425, 426, 427, 420, 421, 422, 423, 384, 385, 386, 387, 388, 389, 390, 391, 392, 393, 430, 431, 432, 428, 429, 416, 417, 418, 419] (by decide +kernel) (by decide +kernel)
set_option maxRecDepth 20000 in
theorem gL_law_X5_land : GoodIn wsL_law (wsV RL 49 RX5 yX5_land wsX5_land) := goodIn_app (goodIn_of _ (by decide +kernel)) ggL_law_X5_land
set_option maxRecDepth 20000 in
theorem ggL_law_X6_land : GoodIn wsL_law wsX6_land := goodIn_r _ [296, 31, 29, 32, 37, 30, 25, 23, 38, 27, 36, 297, 26, 28, 141, 142, 143, 5, 144, 117, 263, 264, 265, 266, 267, 394, 395, 396, 397, 398, 399, 400, 401, 402, 403, 404, 405, 406, 407, 408, 409, 410, 411, 412, 413, 414, 415] (by decide +kernel) (by decide +kernel)
set_option maxRecDepth 20000 in
theorem gL_law_X6_land : GoodIn wsL_law (wsV RL 52 RX6 yX6_land wsX6_land) := goodIn_app (goodIn_of _ (by decide +kernel)) ggL_law_X6_land
set_option maxRecDepth 20000 in
theorem ggL_law_X5_swap : GoodIn wsL_law wsX5_swap := goodIn_r _ [301, 122, 215, 176, 223, 302, 123, 124, 125, 2, 126, 81, 17, 424, 425, 426, 427, 416, 417, 418, 419, 430, 431, 432, 384, 385, 386, 387, 388, 389, 390, 391, 392, 393] (by decide +kernel) (by decide +kernel)
set_option maxRecDepth 20000 in
theorem gL_law_X5_swap : GoodIn wsL_law (wsV RL 53 RX5 yX5_swap wsX5_swap) := goodIn_app (goodIn_of _ (by decide +kernel)) ggL_law_X5_swap
set_option maxRecDepth 20000 in
theorem ggL_law_X6_swap : GoodIn wsL_law wsX6_swap := goodIn_r _ [306, 30, 25, 23, 32, 36, 141, 142, 143, 5, 144, 117, 394, 395, 396, 397, 398, 399, 400, 401, 402, 403, 404, 405, 406, 407, 408, 409, 410, 411, 412, 413, 414, 415] (by decide +kernel) (by decide +kernel)
set_option maxRecDepth 20000 in
theorem gL_law_X6_swap : GoodIn wsL_law (wsV RL 56 RX6 yX6_swap wsX6_swap) := goodIn_app (goodIn_of _ (by decide +kernel)) ggL_law_X6_swap
set_option maxRecDepth 20000 in
theorem ggL_law_X5_round : GoodIn wsL_law wsX5_round := goodIn_r _ [310, 122, 215, 176, 223, 302, 123, 124, 125, 2, 126, 81, 17, 63, 64, 65, 238, 239, 240, 241, 242, 424, 425, 426, 427, 416, 417, 418, 419, 430, 431, 432, 384, 385, 386, 387, 388, 389, 390, 391, 392, 393] (by decide +kernel) (by decide +kernel)
set_option maxRecDepth 20000 in
theorem gL_law_X5_round : GoodIn wsL_law (wsV RL 57 RX5 yX5_round wsX5_round) := goodIn_app (goodIn_of _ (by decide +kernel)) ggL_law_X5_round
set_option maxRecDepth 20000 in
theorem ggL_law_X6_round : GoodIn wsL_law wsX6_round := goodIn_r _ [314, 117, 30, 25, 23, 36, 32, 141, 142, 143, 5, 144, 263, 264, 265, 266, 267, 394, 395, 396, 397, 398, 399, 400, 401, 402, 403, 404, 405, 406, 407, 408, 409, 410, 411, 412, 413, 414, 415] (by decide +kernel) (by decide +kernel)
set_option maxRecDepth 20000 in
theorem gL_law_X6_round : GoodIn wsL_law (wsV RL 60 RX6 yX6_round wsX6_round) := goodIn_app (goodIn_of _ (by decide +kernel)) ggL_law_X6_round
set_option maxRecDepth 20000 in
theorem ggL_law_X5_tend : GoodIn wsL_law wsX5_tend := goodIn_r _ [318, 220, 225, 154, 155, 156, 2, 157, 60, 15, 238, 239, 240, 241, 242, 420, 421, 422, 423, 384, 385, 386, 387, 388, 389, 390, 391, 392, 393] (by decide +kernel) (by decide +kernel)
set_option maxRecDepth 20000 in
theorem gL_law_X5_tend : GoodIn wsL_law (wsV RL 61 RX5 yX5_tend wsX5_tend) := goodIn_app (goodIn_of _ (by decide +kernel)) ggL_law_X5_tend
set_option maxRecDepth 20000 in
theorem ggL_law_X6_tend : GoodIn wsL_law wsX6_tend := goodIn_r _ [322, 29, 28, 168, 169, 170, 5, 171, 76, 263, 264, 265, 266, 267, 394, 395, 396, 397, 398, 399, 400, 401, 402, 403, 404, 405, 406, 407, 408, 409, 410, 411, 412, 413, 414, 415] (by decide +kernel) (by decide +kernel)
set_option maxRecDepth 20000 in
theorem gL_law_X6_tend : GoodIn wsL_law (wsV RL 64 RX6 yX6_tend wsX6_tend) := goodIn_app (goodIn_of _ (by decide +kernel)) ggL_law_X6_tend
set_option maxRecDepth 20000 in
theorem ggL_law_X5_shift : GoodIn wsL_law wsX5_shift := goodIn_r _ [326, 122, 215, 176, 190, 123, 124, 125, 2, 126, 81, 17, 63, 64, 65, 327, 328, 329, 330, 192, 224, 193, 194, 195, 90, 196, 197, 104, 226, 227, 228, 229, 198, 199, 200, 201, 230, 231, 232, 233, 234, 235, 236, 237, 424, 425, 426, 427, 416, 417, 418, 419, 384, 385, 386, 387, 388, 389, 390, 391, 392, 393, 428, 429] (by decide +kernel) (by decide +kernel)
set_option maxRecDepth 20000 in
theorem gL_law_X5_shift : GoodIn wsL_law (wsV RL 65 RX5 yX5_shift wsX5_shift) := goodIn_app (goodIn_of _ (by decide +kernel)) ggL_law_X5_shift
set_option maxRecDepth 20000 in
theorem ggL_law_X6_shift : GoodIn wsL_law wsX6_shift := goodIn_r _ [334, 30, 25, 23, 33, 26, 141, 142, 143, 5, 144, 117, 259, 260, 261, 262, 34, 207, 208, 209, 210, 394, 395, 396, 397, 398, 399, 400, 401, 402, 403, 404, 405, 406, 407, 408, 409, 410, 411, 412, 413, 414, 415] (by decide +kernel) (by decide +kernel)
set_option maxRecDepth 20000 in
theorem gL_law_X6_shift : GoodIn wsL_law (wsV RL 69 RX6 yX6_shift wsX6_shift) := goodIn_app (goodIn_of _ (by decide +kernel)) ggL_law_X6_shift
set_option maxRecDepth 20000 in
theorem ggL_law_X5_state : GoodIn wsL_law wsX5_state := goodIn_r _ [338, 190, 192, 223, 276, 302, 339, 123, 124, 125, 2, 126, 81, 17, 131, 132, 133, 83, 134, 135, 136, 158, 159, 160, 161, 162, 163, 424, 425, 426, 427, 428, 429, 430, 431, 432, 384, 385, 386, 387, 388, 389, 390, 391, 392, 393, 416, 417, 418, 419, 420, 421, 422, 423] (by decide +kernel) (by decide +kernel)
set_option maxRecDepth 20000 in
theorem gL_law_X5_state : GoodIn wsL_law (wsV RL 70 RX5 yX5_state wsX5_state) := goodIn_app (goodIn_of _ (by decide +kernel)) ggL_law_X5_state
set_option maxRecDepth 20000 in
theorem ggL_law_X6_state : GoodIn wsL_law wsX6_state := goodIn_r _ [343, 32, 30, 31, 33, 37, 36, 35, 141, 142, 143, 5, 144, 117, 394, 395, 396, 397, 398, 399, 400, 401, 402, 403, 404, 405, 406, 407, 408, 409, 410, 411, 412, 413, 414, 415] (by decide +kernel) (by decide +kernel)
set_option maxRecDepth 20000 in
theorem gL_law_X6_state : GoodIn wsL_law (wsV RL 73 RX6 yX6_state wsX6_state) := goodIn_app (goodIn_of _ (by decide +kernel)) ggL_law_X6_state
set_option maxRecDepth 20000 in
theorem ggL_law_X5_waiting : GoodIn wsL_law wsX5_waiting := goodIn_r _ [347, 190, 123, 124, 125, 2, 126, 81, 17, 226, 227, 228, 90, 229, 197, 104, 424, 425, 426, 427, 384, 385, 386, 387, 388, 389, 390, 391, 392, 393, 428, 429] (by decide +kernel) (by decide +kernel)
set_option maxRecDepth 20000 in
theorem gL_law_X5_waiting : GoodIn wsL_law (wsV RL 74 RX5 yX5_waiting wsX5_waiting) := goodIn_app (goodIn_of _ (by decide +kernel)) ggL_law_X5_waiting
set_option maxRecDepth 20000 in
theorem ggL_law_X6_waiting : GoodIn wsL_law wsX6_waiting := goodIn_r _ [351, 33, 34, 141, 142, 143, 5, 144, 117, 394, 395, 396, 397, 398, 399, 400, 401, 402, 403, 404, 405, 406, 407, 408, 409, 410, 411, 412, 413, 414, 415] (by decide +kernel) (by decide +kernel)
set_option maxRecDepth 20000 in
theorem gL_law_X6_waiting : GoodIn wsL_law (wsV RL 77 RX6 yX6_waiting wsX6_waiting) := goodIn_app (goodIn_of _ (by decide +kernel)) ggL_law_X6_waiting
set_option maxRecDepth 20000 in
theorem ggL_law_X5_aboard : GoodIn wsL_law wsX5_aboard := goodIn_r _ [355, 223, 276, 123, 124, 125, 2, 126, 81, 17, 226, 227, 228, 90, 229, 197, 104, 424, 425, 426, 427, 430, 431, 432, 384, 385, 386, 387, 388, 389, 390, 391, 392, 393, 428, 429] (by decide +kernel) (by decide +kernel)
set_option maxRecDepth 20000 in
theorem gL_law_X5_aboard : GoodIn wsL_law (wsV RL 78 RX5 yX5_aboard wsX5_aboard) := goodIn_app (goodIn_of _ (by decide +kernel)) ggL_law_X5_aboard
set_option maxRecDepth 20000 in
theorem ggL_law_X6_aboard : GoodIn wsL_law wsX6_aboard := goodIn_r _ [359, 32, 37, 38, 141, 142, 143, 5, 144, 117, 394, 395, 396, 397, 398, 399, 400, 401, 402, 403, 404, 405, 406, 407, 408, 409, 410, 411, 412, 413, 414, 415] (by decide +kernel) (by decide +kernel)
set_option maxRecDepth 20000 in
theorem gL_law_X6_aboard : GoodIn wsL_law (wsV RL 81 RX6 yX6_aboard wsX6_aboard) := goodIn_app (goodIn_of _ (by decide +kernel)) ggL_law_X6_aboard
set_option maxRecDepth 20000 in
theorem ggL_law_X5_ofGate : GoodIn wsL_law wsX5_ofGate := goodIn_r _ [363, 215, 224, 127, 128, 129, 2, 130, 43, 13, 177, 178, 179, 45, 180, 181, 416, 417, 418, 419, 384, 385, 386, 387, 388, 389, 390, 391, 392, 393] (by decide +kernel) (by decide +kernel)
set_option maxRecDepth 20000 in
theorem gL_law_X5_ofGate : GoodIn wsL_law (wsV RL 82 RX5 yX5_ofGate wsX5_ofGate) := goodIn_app (goodIn_of _ (by decide +kernel)) ggL_law_X5_ofGate
set_option maxRecDepth 20000 in
theorem ggL_law_X6_ofGate : GoodIn wsL_law wsX6_ofGate := goodIn_r _ [367, 25, 26, 23, 145, 146, 147, 5, 148, 55, 394, 395, 396, 397, 398, 399, 400, 401, 402, 403, 404, 405, 406, 407, 408, 409, 410, 411, 412, 413, 414, 415] (by decide +kernel) (by decide +kernel)
set_option maxRecDepth 20000 in
theorem gL_law_X6_ofGate : GoodIn wsL_law (wsV RL 85 RX6 yX6_ofGate wsX6_ofGate) := goodIn_app (goodIn_of _ (by decide +kernel)) ggL_law_X6_ofGate
set_option maxRecDepth 20000 in
theorem ggL_law_X5_ofRamp : GoodIn wsL_law wsX5_ofRamp := goodIn_r _ [371, 220, 225, 222, 154, 155, 156, 2, 157, 60, 15, 420, 421, 422, 423, 384, 385, 386, 387, 388, 389, 390, 391, 392, 393] (by decide +kernel) (by decide +kernel)
set_option maxRecDepth 20000 in
theorem gL_law_X5_ofRamp : GoodIn wsL_law (wsV RL 86 RX5 yX5_ofRamp wsX5_ofRamp) := goodIn_app (goodIn_of _ (by decide +kernel)) ggL_law_X5_ofRamp
set_option maxRecDepth 20000 in
theorem ggL_law_X6_ofRamp : GoodIn wsL_law wsX6_ofRamp := goodIn_r _ [375, 29, 28, 27, 168, 169, 170, 5, 171, 76, 394, 395, 396, 397, 398, 399, 400, 401, 402, 403, 404, 405, 406, 407, 408, 409, 410, 411, 412, 413, 414, 415] (by decide +kernel) (by decide +kernel)
set_option maxRecDepth 20000 in
theorem gL_law_X6_ofRamp : GoodIn wsL_law (wsV RL 89 RX6 yX6_ofRamp wsX6_ofRamp) := goodIn_app (goodIn_of _ (by decide +kernel)) ggL_law_X6_ofRamp
set_option maxRecDepth 20000 in
theorem ggL_law_X5_count : GoodIn wsL_law wsX5_count := goodIn_r _ [379, 43, 60, 81, 191, 277, 221, 242, 384, 385, 386, 387, 388, 389, 390, 391, 392, 393] (by decide +kernel) (by decide +kernel)
set_option maxRecDepth 20000 in
theorem gL_law_X5_count : GoodIn wsL_law (wsV RL 90 RX5 yX5_count wsX5_count) := goodIn_app (goodIn_of _ (by decide +kernel)) ggL_law_X5_count
set_option maxRecDepth 20000 in
theorem ggL_law_X6_count : GoodIn wsL_law wsX6_count := goodIn_r _ [383, 55, 76, 117, 206, 297, 258, 267, 394, 395, 396, 397, 398, 399, 400, 401, 402, 403, 404, 405, 406, 407, 408, 409, 410, 411, 412, 413, 414, 415] (by decide +kernel) (by decide +kernel)
set_option maxRecDepth 20000 in
theorem gL_law_X6_count : GoodIn wsL_law (wsV RL 93 RX6 yX6_count wsX6_count) := goodIn_app (goodIn_of _ (by decide +kernel)) ggL_law_X6_count
theorem dL_law_0 : decode cL_law 0 = .ok (.new 7, 3) := by decide +kernel
theorem dL_law_3 : decode cL_law 3 = .ok (.dup, 1) := by decide +kernel
theorem dL_law_4 : decode cL_law 4 = .ok (.invokespecial 9, 3) := by decide +kernel
theorem dL_law_7 : decode cL_law 7 = .ok (.astore_n 1, 1) := by decide +kernel
theorem dL_law_8 : decode cL_law 8 = .ok (.new 10, 3) := by decide +kernel
theorem dL_law_11 : decode cL_law 11 = .ok (.dup, 1) := by decide +kernel
theorem dL_law_12 : decode cL_law 12 = .ok (.invokespecial 12, 3) := by decide +kernel
theorem dL_law_15 : decode cL_law 15 = .ok (.astore_n 2, 1) := by decide +kernel
theorem dL_law_16 : decode cL_law 16 = .ok (.iconst 0, 1) := by decide +kernel
theorem dL_law_17 : decode cL_law 17 = .ok (.istore_n 3, 1) := by decide +kernel
theorem dL_law_18 : decode cL_law 18 = .ok (.iload_n 3, 1) := by decide +kernel
theorem dL_law_19 : decode cL_law 19 = .ok (.aload_n 0, 1) := by decide +kernel
theorem dL_law_20 : decode cL_law 20 = .ok (.arraylength, 1) := by decide +kernel
theorem dL_law_21 : decode cL_law 21 = .ok (.iconst 4, 1) := by decide +kernel
theorem dL_law_22 : decode cL_law 22 = .ok (.isub, 1) := by decide +kernel
theorem dL_law_23 : decode cL_law 23 = .ok (.if_icmp .gt 700, 3) := by decide +kernel
theorem dL_law_26 : decode cL_law 26 = .ok (.aload_n 0, 1) := by decide +kernel
theorem dL_law_27 : decode cL_law 27 = .ok (.iload_n 3, 1) := by decide +kernel
theorem dL_law_28 : decode cL_law 28 = .ok (.iaload, 1) := by decide +kernel
theorem dL_law_29 : decode cL_law 29 = .ok (.bipush 31, 2) := by decide +kernel
theorem dL_law_31 : decode cL_law 31 = .ok (.iand, 1) := by decide +kernel
theorem dL_law_32 : decode cL_law 32 = .ok (.tableswitch 685 0 18 #[92, 105, 128, 151, 184, 217, 266, 299, 332, 365, 398, 431, 454, 497, 530, 563, 596, 629, 662], 92) := by decide +kernel
theorem dL_law_124 : decode cL_law 124 = .ok (.aload_n 1, 1) := by decide +kernel
theorem dL_law_125 : decode cL_law 125 = .ok (.invokevirtual 13, 3) := by decide +kernel
theorem dL_law_128 : decode cL_law 128 = .ok (.aload_n 2, 1) := by decide +kernel
theorem dL_law_129 : decode cL_law 129 = .ok (.invokevirtual 17, 3) := by decide +kernel
theorem dL_law_132 : decode cL_law 132 = .ok (.if_icmp .eq 585, 3) := by decide +kernel
theorem dL_law_135 : decode cL_law 135 = .ok (.iconst 0, 1) := by decide +kernel
theorem dL_law_136 : decode cL_law 136 = .ok (.ireturn, 1) := by decide +kernel
theorem dL_law_137 : decode cL_law 137 = .ok (.aload_n 1, 1) := by decide +kernel
theorem dL_law_138 : decode cL_law 138 = .ok (.aload_n 0, 1) := by decide +kernel
theorem dL_law_139 : decode cL_law 139 = .ok (.iload_n 3, 1) := by decide +kernel
theorem dL_law_140 : decode cL_law 140 = .ok (.iconst 1, 1) := by decide +kernel
theorem dL_law_141 : decode cL_law 141 = .ok (.iadd, 1) := by decide +kernel
theorem dL_law_142 : decode cL_law 142 = .ok (.iaload, 1) := by decide +kernel
theorem dL_law_143 : decode cL_law 143 = .ok (.invokevirtual 18, 3) := by decide +kernel
theorem dL_law_146 : decode cL_law 146 = .ok (.aload_n 2, 1) := by decide +kernel
theorem dL_law_147 : decode cL_law 147 = .ok (.aload_n 0, 1) := by decide +kernel
theorem dL_law_148 : decode cL_law 148 = .ok (.iload_n 3, 1) := by decide +kernel
theorem dL_law_149 : decode cL_law 149 = .ok (.iconst 1, 1) := by decide +kernel
theorem dL_law_150 : decode cL_law 150 = .ok (.iadd, 1) := by decide +kernel
theorem dL_law_151 : decode cL_law 151 = .ok (.iaload, 1) := by decide +kernel
theorem dL_law_152 : decode cL_law 152 = .ok (.invokevirtual 22, 3) := by decide +kernel
theorem dL_law_155 : decode cL_law 155 = .ok (.if_icmp .eq 562, 3) := by decide +kernel
theorem dL_law_158 : decode cL_law 158 = .ok (.iconst 0, 1) := by decide +kernel
theorem dL_law_159 : decode cL_law 159 = .ok (.ireturn, 1) := by decide +kernel
theorem dL_law_160 : decode cL_law 160 = .ok (.aload_n 1, 1) := by decide +kernel
theorem dL_law_161 : decode cL_law 161 = .ok (.aload_n 0, 1) := by decide +kernel
theorem dL_law_162 : decode cL_law 162 = .ok (.iload_n 3, 1) := by decide +kernel
theorem dL_law_163 : decode cL_law 163 = .ok (.iconst 1, 1) := by decide +kernel
theorem dL_law_164 : decode cL_law 164 = .ok (.iadd, 1) := by decide +kernel
theorem dL_law_165 : decode cL_law 165 = .ok (.iaload, 1) := by decide +kernel
theorem dL_law_166 : decode cL_law 166 = .ok (.invokevirtual 23, 3) := by decide +kernel
theorem dL_law_169 : decode cL_law 169 = .ok (.aload_n 2, 1) := by decide +kernel
theorem dL_law_170 : decode cL_law 170 = .ok (.aload_n 0, 1) := by decide +kernel
theorem dL_law_171 : decode cL_law 171 = .ok (.iload_n 3, 1) := by decide +kernel
theorem dL_law_172 : decode cL_law 172 = .ok (.iconst 1, 1) := by decide +kernel
theorem dL_law_173 : decode cL_law 173 = .ok (.iadd, 1) := by decide +kernel
theorem dL_law_174 : decode cL_law 174 = .ok (.iaload, 1) := by decide +kernel
theorem dL_law_175 : decode cL_law 175 = .ok (.invokevirtual 26, 3) := by decide +kernel
theorem dL_law_178 : decode cL_law 178 = .ok (.if_icmp .eq 539, 3) := by decide +kernel
theorem dL_law_181 : decode cL_law 181 = .ok (.iconst 0, 1) := by decide +kernel
theorem dL_law_182 : decode cL_law 182 = .ok (.ireturn, 1) := by decide +kernel
theorem dL_law_183 : decode cL_law 183 = .ok (.aload_n 1, 1) := by decide +kernel
theorem dL_law_184 : decode cL_law 184 = .ok (.aload_n 0, 1) := by decide +kernel
theorem dL_law_185 : decode cL_law 185 = .ok (.iload_n 3, 1) := by decide +kernel
theorem dL_law_186 : decode cL_law 186 = .ok (.iconst 1, 1) := by decide +kernel
theorem dL_law_187 : decode cL_law 187 = .ok (.iadd, 1) := by decide +kernel
theorem dL_law_188 : decode cL_law 188 = .ok (.iaload, 1) := by decide +kernel
theorem dL_law_189 : decode cL_law 189 = .ok (.aload_n 0, 1) := by decide +kernel
theorem dL_law_190 : decode cL_law 190 = .ok (.iload_n 3, 1) := by decide +kernel
theorem dL_law_191 : decode cL_law 191 = .ok (.iconst 2, 1) := by decide +kernel
theorem dL_law_192 : decode cL_law 192 = .ok (.iadd, 1) := by decide +kernel
theorem dL_law_193 : decode cL_law 193 = .ok (.iaload, 1) := by decide +kernel
theorem dL_law_194 : decode cL_law 194 = .ok (.invokevirtual 27, 3) := by decide +kernel
theorem dL_law_197 : decode cL_law 197 = .ok (.aload_n 2, 1) := by decide +kernel
theorem dL_law_198 : decode cL_law 198 = .ok (.aload_n 0, 1) := by decide +kernel
theorem dL_law_199 : decode cL_law 199 = .ok (.iload_n 3, 1) := by decide +kernel
theorem dL_law_200 : decode cL_law 200 = .ok (.iconst 1, 1) := by decide +kernel
theorem dL_law_201 : decode cL_law 201 = .ok (.iadd, 1) := by decide +kernel
theorem dL_law_202 : decode cL_law 202 = .ok (.iaload, 1) := by decide +kernel
theorem dL_law_203 : decode cL_law 203 = .ok (.aload_n 0, 1) := by decide +kernel
theorem dL_law_204 : decode cL_law 204 = .ok (.iload_n 3, 1) := by decide +kernel
theorem dL_law_205 : decode cL_law 205 = .ok (.iconst 2, 1) := by decide +kernel
theorem dL_law_206 : decode cL_law 206 = .ok (.iadd, 1) := by decide +kernel
theorem dL_law_207 : decode cL_law 207 = .ok (.iaload, 1) := by decide +kernel
theorem dL_law_208 : decode cL_law 208 = .ok (.invokevirtual 31, 3) := by decide +kernel
theorem dL_law_211 : decode cL_law 211 = .ok (.if_icmp .eq 506, 3) := by decide +kernel
theorem dL_law_214 : decode cL_law 214 = .ok (.iconst 0, 1) := by decide +kernel
theorem dL_law_215 : decode cL_law 215 = .ok (.ireturn, 1) := by decide +kernel
theorem dL_law_216 : decode cL_law 216 = .ok (.aload_n 1, 1) := by decide +kernel
theorem dL_law_217 : decode cL_law 217 = .ok (.aload_n 0, 1) := by decide +kernel
theorem dL_law_218 : decode cL_law 218 = .ok (.iload_n 3, 1) := by decide +kernel
theorem dL_law_219 : decode cL_law 219 = .ok (.iconst 1, 1) := by decide +kernel
theorem dL_law_220 : decode cL_law 220 = .ok (.iadd, 1) := by decide +kernel
theorem dL_law_221 : decode cL_law 221 = .ok (.iaload, 1) := by decide +kernel
theorem dL_law_222 : decode cL_law 222 = .ok (.aload_n 0, 1) := by decide +kernel
theorem dL_law_223 : decode cL_law 223 = .ok (.iload_n 3, 1) := by decide +kernel
theorem dL_law_224 : decode cL_law 224 = .ok (.iconst 2, 1) := by decide +kernel
theorem dL_law_225 : decode cL_law 225 = .ok (.iadd, 1) := by decide +kernel
theorem dL_law_226 : decode cL_law 226 = .ok (.iaload, 1) := by decide +kernel
theorem dL_law_227 : decode cL_law 227 = .ok (.invokevirtual 32, 3) := by decide +kernel
theorem dL_law_230 : decode cL_law 230 = .ok (.aload_n 2, 1) := by decide +kernel
theorem dL_law_231 : decode cL_law 231 = .ok (.aload_n 0, 1) := by decide +kernel
theorem dL_law_232 : decode cL_law 232 = .ok (.iload_n 3, 1) := by decide +kernel
theorem dL_law_233 : decode cL_law 233 = .ok (.iconst 1, 1) := by decide +kernel
theorem dL_law_234 : decode cL_law 234 = .ok (.iadd, 1) := by decide +kernel
theorem dL_law_235 : decode cL_law 235 = .ok (.iaload, 1) := by decide +kernel
theorem dL_law_236 : decode cL_law 236 = .ok (.aload_n 0, 1) := by decide +kernel
theorem dL_law_237 : decode cL_law 237 = .ok (.iload_n 3, 1) := by decide +kernel
theorem dL_law_238 : decode cL_law 238 = .ok (.iconst 2, 1) := by decide +kernel
theorem dL_law_239 : decode cL_law 239 = .ok (.iadd, 1) := by decide +kernel
theorem dL_law_240 : decode cL_law 240 = .ok (.iaload, 1) := by decide +kernel
theorem dL_law_241 : decode cL_law 241 = .ok (.invokevirtual 35, 3) := by decide +kernel
theorem dL_law_244 : decode cL_law 244 = .ok (.if_icmp .eq 473, 3) := by decide +kernel
theorem dL_law_247 : decode cL_law 247 = .ok (.iconst 0, 1) := by decide +kernel
theorem dL_law_248 : decode cL_law 248 = .ok (.ireturn, 1) := by decide +kernel
theorem dL_law_249 : decode cL_law 249 = .ok (.aload_n 1, 1) := by decide +kernel
theorem dL_law_250 : decode cL_law 250 = .ok (.aload_n 0, 1) := by decide +kernel
theorem dL_law_251 : decode cL_law 251 = .ok (.iload_n 3, 1) := by decide +kernel
theorem dL_law_252 : decode cL_law 252 = .ok (.iconst 1, 1) := by decide +kernel
theorem dL_law_253 : decode cL_law 253 = .ok (.iadd, 1) := by decide +kernel
theorem dL_law_254 : decode cL_law 254 = .ok (.iaload, 1) := by decide +kernel
theorem dL_law_255 : decode cL_law 255 = .ok (.aload_n 0, 1) := by decide +kernel
theorem dL_law_256 : decode cL_law 256 = .ok (.iload_n 3, 1) := by decide +kernel
theorem dL_law_257 : decode cL_law 257 = .ok (.iconst 2, 1) := by decide +kernel
theorem dL_law_258 : decode cL_law 258 = .ok (.iadd, 1) := by decide +kernel
theorem dL_law_259 : decode cL_law 259 = .ok (.iaload, 1) := by decide +kernel
theorem dL_law_260 : decode cL_law 260 = .ok (.ifCond .eq 7, 3) := by decide +kernel
theorem dL_law_263 : decode cL_law 263 = .ok (.iconst 1, 1) := by decide +kernel
theorem dL_law_264 : decode cL_law 264 = .ok (.goto 4, 3) := by decide +kernel
theorem dL_law_267 : decode cL_law 267 = .ok (.iconst 0, 1) := by decide +kernel
theorem dL_law_268 : decode cL_law 268 = .ok (.invokevirtual 36, 3) := by decide +kernel
theorem dL_law_271 : decode cL_law 271 = .ok (.aload_n 2, 1) := by decide +kernel
theorem dL_law_272 : decode cL_law 272 = .ok (.aload_n 0, 1) := by decide +kernel
theorem dL_law_273 : decode cL_law 273 = .ok (.iload_n 3, 1) := by decide +kernel
theorem dL_law_274 : decode cL_law 274 = .ok (.iconst 1, 1) := by decide +kernel
theorem dL_law_275 : decode cL_law 275 = .ok (.iadd, 1) := by decide +kernel
theorem dL_law_276 : decode cL_law 276 = .ok (.iaload, 1) := by decide +kernel
theorem dL_law_277 : decode cL_law 277 = .ok (.aload_n 0, 1) := by decide +kernel
theorem dL_law_278 : decode cL_law 278 = .ok (.iload_n 3, 1) := by decide +kernel
theorem dL_law_279 : decode cL_law 279 = .ok (.iconst 2, 1) := by decide +kernel
theorem dL_law_280 : decode cL_law 280 = .ok (.iadd, 1) := by decide +kernel
theorem dL_law_281 : decode cL_law 281 = .ok (.iaload, 1) := by decide +kernel
theorem dL_law_282 : decode cL_law 282 = .ok (.ifCond .eq 7, 3) := by decide +kernel
theorem dL_law_285 : decode cL_law 285 = .ok (.iconst 1, 1) := by decide +kernel
theorem dL_law_286 : decode cL_law 286 = .ok (.goto 4, 3) := by decide +kernel
theorem dL_law_289 : decode cL_law 289 = .ok (.iconst 0, 1) := by decide +kernel
theorem dL_law_290 : decode cL_law 290 = .ok (.invokevirtual 40, 3) := by decide +kernel
theorem dL_law_293 : decode cL_law 293 = .ok (.if_icmp .eq 424, 3) := by decide +kernel
theorem dL_law_296 : decode cL_law 296 = .ok (.iconst 0, 1) := by decide +kernel
theorem dL_law_297 : decode cL_law 297 = .ok (.ireturn, 1) := by decide +kernel
theorem dL_law_298 : decode cL_law 298 = .ok (.aload_n 1, 1) := by decide +kernel
theorem dL_law_299 : decode cL_law 299 = .ok (.aload_n 0, 1) := by decide +kernel
theorem dL_law_300 : decode cL_law 300 = .ok (.iload_n 3, 1) := by decide +kernel
theorem dL_law_301 : decode cL_law 301 = .ok (.iconst 1, 1) := by decide +kernel
theorem dL_law_302 : decode cL_law 302 = .ok (.iadd, 1) := by decide +kernel
theorem dL_law_303 : decode cL_law 303 = .ok (.iaload, 1) := by decide +kernel
theorem dL_law_304 : decode cL_law 304 = .ok (.aload_n 0, 1) := by decide +kernel
theorem dL_law_305 : decode cL_law 305 = .ok (.iload_n 3, 1) := by decide +kernel
theorem dL_law_306 : decode cL_law 306 = .ok (.iconst 2, 1) := by decide +kernel
theorem dL_law_307 : decode cL_law 307 = .ok (.iadd, 1) := by decide +kernel
theorem dL_law_308 : decode cL_law 308 = .ok (.iaload, 1) := by decide +kernel
theorem dL_law_309 : decode cL_law 309 = .ok (.invokevirtual 41, 3) := by decide +kernel
theorem dL_law_312 : decode cL_law 312 = .ok (.aload_n 2, 1) := by decide +kernel
theorem dL_law_313 : decode cL_law 313 = .ok (.aload_n 0, 1) := by decide +kernel
theorem dL_law_314 : decode cL_law 314 = .ok (.iload_n 3, 1) := by decide +kernel
theorem dL_law_315 : decode cL_law 315 = .ok (.iconst 1, 1) := by decide +kernel
theorem dL_law_316 : decode cL_law 316 = .ok (.iadd, 1) := by decide +kernel
theorem dL_law_317 : decode cL_law 317 = .ok (.iaload, 1) := by decide +kernel
theorem dL_law_318 : decode cL_law 318 = .ok (.aload_n 0, 1) := by decide +kernel
theorem dL_law_319 : decode cL_law 319 = .ok (.iload_n 3, 1) := by decide +kernel
theorem dL_law_320 : decode cL_law 320 = .ok (.iconst 2, 1) := by decide +kernel
theorem dL_law_321 : decode cL_law 321 = .ok (.iadd, 1) := by decide +kernel
theorem dL_law_322 : decode cL_law 322 = .ok (.iaload, 1) := by decide +kernel
theorem dL_law_323 : decode cL_law 323 = .ok (.invokevirtual 44, 3) := by decide +kernel
theorem dL_law_326 : decode cL_law 326 = .ok (.if_icmp .eq 391, 3) := by decide +kernel
theorem dL_law_329 : decode cL_law 329 = .ok (.iconst 0, 1) := by decide +kernel
theorem dL_law_330 : decode cL_law 330 = .ok (.ireturn, 1) := by decide +kernel
theorem dL_law_331 : decode cL_law 331 = .ok (.aload_n 1, 1) := by decide +kernel
theorem dL_law_332 : decode cL_law 332 = .ok (.aload_n 0, 1) := by decide +kernel
theorem dL_law_333 : decode cL_law 333 = .ok (.iload_n 3, 1) := by decide +kernel
theorem dL_law_334 : decode cL_law 334 = .ok (.iconst 1, 1) := by decide +kernel
theorem dL_law_335 : decode cL_law 335 = .ok (.iadd, 1) := by decide +kernel
theorem dL_law_336 : decode cL_law 336 = .ok (.iaload, 1) := by decide +kernel
theorem dL_law_337 : decode cL_law 337 = .ok (.aload_n 0, 1) := by decide +kernel
theorem dL_law_338 : decode cL_law 338 = .ok (.iload_n 3, 1) := by decide +kernel
theorem dL_law_339 : decode cL_law 339 = .ok (.iconst 2, 1) := by decide +kernel
theorem dL_law_340 : decode cL_law 340 = .ok (.iadd, 1) := by decide +kernel
theorem dL_law_341 : decode cL_law 341 = .ok (.iaload, 1) := by decide +kernel
theorem dL_law_342 : decode cL_law 342 = .ok (.invokevirtual 45, 3) := by decide +kernel
theorem dL_law_345 : decode cL_law 345 = .ok (.aload_n 2, 1) := by decide +kernel
theorem dL_law_346 : decode cL_law 346 = .ok (.aload_n 0, 1) := by decide +kernel
theorem dL_law_347 : decode cL_law 347 = .ok (.iload_n 3, 1) := by decide +kernel
theorem dL_law_348 : decode cL_law 348 = .ok (.iconst 1, 1) := by decide +kernel
theorem dL_law_349 : decode cL_law 349 = .ok (.iadd, 1) := by decide +kernel
theorem dL_law_350 : decode cL_law 350 = .ok (.iaload, 1) := by decide +kernel
theorem dL_law_351 : decode cL_law 351 = .ok (.aload_n 0, 1) := by decide +kernel
theorem dL_law_352 : decode cL_law 352 = .ok (.iload_n 3, 1) := by decide +kernel
theorem dL_law_353 : decode cL_law 353 = .ok (.iconst 2, 1) := by decide +kernel
theorem dL_law_354 : decode cL_law 354 = .ok (.iadd, 1) := by decide +kernel
theorem dL_law_355 : decode cL_law 355 = .ok (.iaload, 1) := by decide +kernel
theorem dL_law_356 : decode cL_law 356 = .ok (.invokevirtual 48, 3) := by decide +kernel
theorem dL_law_359 : decode cL_law 359 = .ok (.if_icmp .eq 358, 3) := by decide +kernel
theorem dL_law_362 : decode cL_law 362 = .ok (.iconst 0, 1) := by decide +kernel
theorem dL_law_363 : decode cL_law 363 = .ok (.ireturn, 1) := by decide +kernel
theorem dL_law_364 : decode cL_law 364 = .ok (.aload_n 1, 1) := by decide +kernel
theorem dL_law_365 : decode cL_law 365 = .ok (.aload_n 0, 1) := by decide +kernel
theorem dL_law_366 : decode cL_law 366 = .ok (.iload_n 3, 1) := by decide +kernel
theorem dL_law_367 : decode cL_law 367 = .ok (.iconst 1, 1) := by decide +kernel
theorem dL_law_368 : decode cL_law 368 = .ok (.iadd, 1) := by decide +kernel
theorem dL_law_369 : decode cL_law 369 = .ok (.iaload, 1) := by decide +kernel
theorem dL_law_370 : decode cL_law 370 = .ok (.aload_n 0, 1) := by decide +kernel
theorem dL_law_371 : decode cL_law 371 = .ok (.iload_n 3, 1) := by decide +kernel
theorem dL_law_372 : decode cL_law 372 = .ok (.iconst 2, 1) := by decide +kernel
theorem dL_law_373 : decode cL_law 373 = .ok (.iadd, 1) := by decide +kernel
theorem dL_law_374 : decode cL_law 374 = .ok (.iaload, 1) := by decide +kernel
theorem dL_law_375 : decode cL_law 375 = .ok (.invokevirtual 49, 3) := by decide +kernel
theorem dL_law_378 : decode cL_law 378 = .ok (.aload_n 2, 1) := by decide +kernel
theorem dL_law_379 : decode cL_law 379 = .ok (.aload_n 0, 1) := by decide +kernel
theorem dL_law_380 : decode cL_law 380 = .ok (.iload_n 3, 1) := by decide +kernel
theorem dL_law_381 : decode cL_law 381 = .ok (.iconst 1, 1) := by decide +kernel
theorem dL_law_382 : decode cL_law 382 = .ok (.iadd, 1) := by decide +kernel
theorem dL_law_383 : decode cL_law 383 = .ok (.iaload, 1) := by decide +kernel
theorem dL_law_384 : decode cL_law 384 = .ok (.aload_n 0, 1) := by decide +kernel
theorem dL_law_385 : decode cL_law 385 = .ok (.iload_n 3, 1) := by decide +kernel
theorem dL_law_386 : decode cL_law 386 = .ok (.iconst 2, 1) := by decide +kernel
theorem dL_law_387 : decode cL_law 387 = .ok (.iadd, 1) := by decide +kernel
theorem dL_law_388 : decode cL_law 388 = .ok (.iaload, 1) := by decide +kernel
theorem dL_law_389 : decode cL_law 389 = .ok (.invokevirtual 52, 3) := by decide +kernel
theorem dL_law_392 : decode cL_law 392 = .ok (.if_icmp .eq 325, 3) := by decide +kernel
theorem dL_law_395 : decode cL_law 395 = .ok (.iconst 0, 1) := by decide +kernel
theorem dL_law_396 : decode cL_law 396 = .ok (.ireturn, 1) := by decide +kernel
theorem dL_law_397 : decode cL_law 397 = .ok (.aload_n 1, 1) := by decide +kernel
theorem dL_law_398 : decode cL_law 398 = .ok (.aload_n 0, 1) := by decide +kernel
theorem dL_law_399 : decode cL_law 399 = .ok (.iload_n 3, 1) := by decide +kernel
theorem dL_law_400 : decode cL_law 400 = .ok (.iconst 1, 1) := by decide +kernel
theorem dL_law_401 : decode cL_law 401 = .ok (.iadd, 1) := by decide +kernel
theorem dL_law_402 : decode cL_law 402 = .ok (.iaload, 1) := by decide +kernel
theorem dL_law_403 : decode cL_law 403 = .ok (.aload_n 0, 1) := by decide +kernel
theorem dL_law_404 : decode cL_law 404 = .ok (.iload_n 3, 1) := by decide +kernel
theorem dL_law_405 : decode cL_law 405 = .ok (.iconst 2, 1) := by decide +kernel
theorem dL_law_406 : decode cL_law 406 = .ok (.iadd, 1) := by decide +kernel
theorem dL_law_407 : decode cL_law 407 = .ok (.iaload, 1) := by decide +kernel
theorem dL_law_408 : decode cL_law 408 = .ok (.invokevirtual 53, 3) := by decide +kernel
theorem dL_law_411 : decode cL_law 411 = .ok (.aload_n 2, 1) := by decide +kernel
theorem dL_law_412 : decode cL_law 412 = .ok (.aload_n 0, 1) := by decide +kernel
theorem dL_law_413 : decode cL_law 413 = .ok (.iload_n 3, 1) := by decide +kernel
theorem dL_law_414 : decode cL_law 414 = .ok (.iconst 1, 1) := by decide +kernel
theorem dL_law_415 : decode cL_law 415 = .ok (.iadd, 1) := by decide +kernel
theorem dL_law_416 : decode cL_law 416 = .ok (.iaload, 1) := by decide +kernel
theorem dL_law_417 : decode cL_law 417 = .ok (.aload_n 0, 1) := by decide +kernel
theorem dL_law_418 : decode cL_law 418 = .ok (.iload_n 3, 1) := by decide +kernel
theorem dL_law_419 : decode cL_law 419 = .ok (.iconst 2, 1) := by decide +kernel
theorem dL_law_420 : decode cL_law 420 = .ok (.iadd, 1) := by decide +kernel
theorem dL_law_421 : decode cL_law 421 = .ok (.iaload, 1) := by decide +kernel
theorem dL_law_422 : decode cL_law 422 = .ok (.invokevirtual 56, 3) := by decide +kernel
theorem dL_law_425 : decode cL_law 425 = .ok (.if_icmp .eq 292, 3) := by decide +kernel
theorem dL_law_428 : decode cL_law 428 = .ok (.iconst 0, 1) := by decide +kernel
theorem dL_law_429 : decode cL_law 429 = .ok (.ireturn, 1) := by decide +kernel
theorem dL_law_430 : decode cL_law 430 = .ok (.aload_n 1, 1) := by decide +kernel
theorem dL_law_431 : decode cL_law 431 = .ok (.aload_n 0, 1) := by decide +kernel
theorem dL_law_432 : decode cL_law 432 = .ok (.iload_n 3, 1) := by decide +kernel
theorem dL_law_433 : decode cL_law 433 = .ok (.iconst 1, 1) := by decide +kernel
theorem dL_law_434 : decode cL_law 434 = .ok (.iadd, 1) := by decide +kernel
theorem dL_law_435 : decode cL_law 435 = .ok (.iaload, 1) := by decide +kernel
theorem dL_law_436 : decode cL_law 436 = .ok (.aload_n 0, 1) := by decide +kernel
theorem dL_law_437 : decode cL_law 437 = .ok (.iload_n 3, 1) := by decide +kernel
theorem dL_law_438 : decode cL_law 438 = .ok (.iconst 2, 1) := by decide +kernel
theorem dL_law_439 : decode cL_law 439 = .ok (.iadd, 1) := by decide +kernel
theorem dL_law_440 : decode cL_law 440 = .ok (.iaload, 1) := by decide +kernel
theorem dL_law_441 : decode cL_law 441 = .ok (.invokevirtual 57, 3) := by decide +kernel
theorem dL_law_444 : decode cL_law 444 = .ok (.aload_n 2, 1) := by decide +kernel
theorem dL_law_445 : decode cL_law 445 = .ok (.aload_n 0, 1) := by decide +kernel
theorem dL_law_446 : decode cL_law 446 = .ok (.iload_n 3, 1) := by decide +kernel
theorem dL_law_447 : decode cL_law 447 = .ok (.iconst 1, 1) := by decide +kernel
theorem dL_law_448 : decode cL_law 448 = .ok (.iadd, 1) := by decide +kernel
theorem dL_law_449 : decode cL_law 449 = .ok (.iaload, 1) := by decide +kernel
theorem dL_law_450 : decode cL_law 450 = .ok (.aload_n 0, 1) := by decide +kernel
theorem dL_law_451 : decode cL_law 451 = .ok (.iload_n 3, 1) := by decide +kernel
theorem dL_law_452 : decode cL_law 452 = .ok (.iconst 2, 1) := by decide +kernel
theorem dL_law_453 : decode cL_law 453 = .ok (.iadd, 1) := by decide +kernel
theorem dL_law_454 : decode cL_law 454 = .ok (.iaload, 1) := by decide +kernel
theorem dL_law_455 : decode cL_law 455 = .ok (.invokevirtual 60, 3) := by decide +kernel
theorem dL_law_458 : decode cL_law 458 = .ok (.if_icmp .eq 259, 3) := by decide +kernel
theorem dL_law_461 : decode cL_law 461 = .ok (.iconst 0, 1) := by decide +kernel
theorem dL_law_462 : decode cL_law 462 = .ok (.ireturn, 1) := by decide +kernel
theorem dL_law_463 : decode cL_law 463 = .ok (.aload_n 1, 1) := by decide +kernel
theorem dL_law_464 : decode cL_law 464 = .ok (.aload_n 0, 1) := by decide +kernel
theorem dL_law_465 : decode cL_law 465 = .ok (.iload_n 3, 1) := by decide +kernel
theorem dL_law_466 : decode cL_law 466 = .ok (.iconst 1, 1) := by decide +kernel
theorem dL_law_467 : decode cL_law 467 = .ok (.iadd, 1) := by decide +kernel
theorem dL_law_468 : decode cL_law 468 = .ok (.iaload, 1) := by decide +kernel
theorem dL_law_469 : decode cL_law 469 = .ok (.invokevirtual 61, 3) := by decide +kernel
theorem dL_law_472 : decode cL_law 472 = .ok (.aload_n 2, 1) := by decide +kernel
theorem dL_law_473 : decode cL_law 473 = .ok (.aload_n 0, 1) := by decide +kernel
theorem dL_law_474 : decode cL_law 474 = .ok (.iload_n 3, 1) := by decide +kernel
theorem dL_law_475 : decode cL_law 475 = .ok (.iconst 1, 1) := by decide +kernel
theorem dL_law_476 : decode cL_law 476 = .ok (.iadd, 1) := by decide +kernel
theorem dL_law_477 : decode cL_law 477 = .ok (.iaload, 1) := by decide +kernel
theorem dL_law_478 : decode cL_law 478 = .ok (.invokevirtual 64, 3) := by decide +kernel
theorem dL_law_481 : decode cL_law 481 = .ok (.if_icmp .eq 236, 3) := by decide +kernel
theorem dL_law_484 : decode cL_law 484 = .ok (.iconst 0, 1) := by decide +kernel
theorem dL_law_485 : decode cL_law 485 = .ok (.ireturn, 1) := by decide +kernel
theorem dL_law_486 : decode cL_law 486 = .ok (.aload_n 1, 1) := by decide +kernel
theorem dL_law_487 : decode cL_law 487 = .ok (.aload_n 0, 1) := by decide +kernel
theorem dL_law_488 : decode cL_law 488 = .ok (.iload_n 3, 1) := by decide +kernel
theorem dL_law_489 : decode cL_law 489 = .ok (.iconst 1, 1) := by decide +kernel
theorem dL_law_490 : decode cL_law 490 = .ok (.iadd, 1) := by decide +kernel
theorem dL_law_491 : decode cL_law 491 = .ok (.iaload, 1) := by decide +kernel
theorem dL_law_492 : decode cL_law 492 = .ok (.aload_n 0, 1) := by decide +kernel
theorem dL_law_493 : decode cL_law 493 = .ok (.iload_n 3, 1) := by decide +kernel
theorem dL_law_494 : decode cL_law 494 = .ok (.iconst 2, 1) := by decide +kernel
theorem dL_law_495 : decode cL_law 495 = .ok (.iadd, 1) := by decide +kernel
theorem dL_law_496 : decode cL_law 496 = .ok (.iaload, 1) := by decide +kernel
theorem dL_law_497 : decode cL_law 497 = .ok (.aload_n 0, 1) := by decide +kernel
theorem dL_law_498 : decode cL_law 498 = .ok (.iload_n 3, 1) := by decide +kernel
theorem dL_law_499 : decode cL_law 499 = .ok (.iconst 3, 1) := by decide +kernel
theorem dL_law_500 : decode cL_law 500 = .ok (.iadd, 1) := by decide +kernel
theorem dL_law_501 : decode cL_law 501 = .ok (.iaload, 1) := by decide +kernel
theorem dL_law_502 : decode cL_law 502 = .ok (.invokevirtual 65, 3) := by decide +kernel
theorem dL_law_505 : decode cL_law 505 = .ok (.aload_n 2, 1) := by decide +kernel
theorem dL_law_506 : decode cL_law 506 = .ok (.aload_n 0, 1) := by decide +kernel
theorem dL_law_507 : decode cL_law 507 = .ok (.iload_n 3, 1) := by decide +kernel
theorem dL_law_508 : decode cL_law 508 = .ok (.iconst 1, 1) := by decide +kernel
theorem dL_law_509 : decode cL_law 509 = .ok (.iadd, 1) := by decide +kernel
theorem dL_law_510 : decode cL_law 510 = .ok (.iaload, 1) := by decide +kernel
theorem dL_law_511 : decode cL_law 511 = .ok (.aload_n 0, 1) := by decide +kernel
theorem dL_law_512 : decode cL_law 512 = .ok (.iload_n 3, 1) := by decide +kernel
theorem dL_law_513 : decode cL_law 513 = .ok (.iconst 2, 1) := by decide +kernel
theorem dL_law_514 : decode cL_law 514 = .ok (.iadd, 1) := by decide +kernel
theorem dL_law_515 : decode cL_law 515 = .ok (.iaload, 1) := by decide +kernel
theorem dL_law_516 : decode cL_law 516 = .ok (.aload_n 0, 1) := by decide +kernel
theorem dL_law_517 : decode cL_law 517 = .ok (.iload_n 3, 1) := by decide +kernel
theorem dL_law_518 : decode cL_law 518 = .ok (.iconst 3, 1) := by decide +kernel
theorem dL_law_519 : decode cL_law 519 = .ok (.iadd, 1) := by decide +kernel
theorem dL_law_520 : decode cL_law 520 = .ok (.iaload, 1) := by decide +kernel
theorem dL_law_521 : decode cL_law 521 = .ok (.invokevirtual 69, 3) := by decide +kernel
theorem dL_law_524 : decode cL_law 524 = .ok (.if_icmp .eq 193, 3) := by decide +kernel
theorem dL_law_527 : decode cL_law 527 = .ok (.iconst 0, 1) := by decide +kernel
theorem dL_law_528 : decode cL_law 528 = .ok (.ireturn, 1) := by decide +kernel
theorem dL_law_529 : decode cL_law 529 = .ok (.aload_n 1, 1) := by decide +kernel
theorem dL_law_530 : decode cL_law 530 = .ok (.aload_n 0, 1) := by decide +kernel
theorem dL_law_531 : decode cL_law 531 = .ok (.iload_n 3, 1) := by decide +kernel
theorem dL_law_532 : decode cL_law 532 = .ok (.iconst 1, 1) := by decide +kernel
theorem dL_law_533 : decode cL_law 533 = .ok (.iadd, 1) := by decide +kernel
theorem dL_law_534 : decode cL_law 534 = .ok (.iaload, 1) := by decide +kernel
theorem dL_law_535 : decode cL_law 535 = .ok (.aload_n 0, 1) := by decide +kernel
theorem dL_law_536 : decode cL_law 536 = .ok (.iload_n 3, 1) := by decide +kernel
theorem dL_law_537 : decode cL_law 537 = .ok (.iconst 2, 1) := by decide +kernel
theorem dL_law_538 : decode cL_law 538 = .ok (.iadd, 1) := by decide +kernel
theorem dL_law_539 : decode cL_law 539 = .ok (.iaload, 1) := by decide +kernel
theorem dL_law_540 : decode cL_law 540 = .ok (.invokevirtual 70, 3) := by decide +kernel
theorem dL_law_543 : decode cL_law 543 = .ok (.aload_n 2, 1) := by decide +kernel
theorem dL_law_544 : decode cL_law 544 = .ok (.aload_n 0, 1) := by decide +kernel
theorem dL_law_545 : decode cL_law 545 = .ok (.iload_n 3, 1) := by decide +kernel
theorem dL_law_546 : decode cL_law 546 = .ok (.iconst 1, 1) := by decide +kernel
theorem dL_law_547 : decode cL_law 547 = .ok (.iadd, 1) := by decide +kernel
theorem dL_law_548 : decode cL_law 548 = .ok (.iaload, 1) := by decide +kernel
theorem dL_law_549 : decode cL_law 549 = .ok (.aload_n 0, 1) := by decide +kernel
theorem dL_law_550 : decode cL_law 550 = .ok (.iload_n 3, 1) := by decide +kernel
theorem dL_law_551 : decode cL_law 551 = .ok (.iconst 2, 1) := by decide +kernel
theorem dL_law_552 : decode cL_law 552 = .ok (.iadd, 1) := by decide +kernel
theorem dL_law_553 : decode cL_law 553 = .ok (.iaload, 1) := by decide +kernel
theorem dL_law_554 : decode cL_law 554 = .ok (.invokevirtual 73, 3) := by decide +kernel
theorem dL_law_557 : decode cL_law 557 = .ok (.if_icmp .eq 160, 3) := by decide +kernel
theorem dL_law_560 : decode cL_law 560 = .ok (.iconst 0, 1) := by decide +kernel
theorem dL_law_561 : decode cL_law 561 = .ok (.ireturn, 1) := by decide +kernel
theorem dL_law_562 : decode cL_law 562 = .ok (.aload_n 1, 1) := by decide +kernel
theorem dL_law_563 : decode cL_law 563 = .ok (.aload_n 0, 1) := by decide +kernel
theorem dL_law_564 : decode cL_law 564 = .ok (.iload_n 3, 1) := by decide +kernel
theorem dL_law_565 : decode cL_law 565 = .ok (.iconst 1, 1) := by decide +kernel
theorem dL_law_566 : decode cL_law 566 = .ok (.iadd, 1) := by decide +kernel
theorem dL_law_567 : decode cL_law 567 = .ok (.iaload, 1) := by decide +kernel
theorem dL_law_568 : decode cL_law 568 = .ok (.aload_n 0, 1) := by decide +kernel
theorem dL_law_569 : decode cL_law 569 = .ok (.iload_n 3, 1) := by decide +kernel
theorem dL_law_570 : decode cL_law 570 = .ok (.iconst 2, 1) := by decide +kernel
theorem dL_law_571 : decode cL_law 571 = .ok (.iadd, 1) := by decide +kernel
theorem dL_law_572 : decode cL_law 572 = .ok (.iaload, 1) := by decide +kernel
theorem dL_law_573 : decode cL_law 573 = .ok (.invokevirtual 74, 3) := by decide +kernel
theorem dL_law_576 : decode cL_law 576 = .ok (.aload_n 2, 1) := by decide +kernel
theorem dL_law_577 : decode cL_law 577 = .ok (.aload_n 0, 1) := by decide +kernel
theorem dL_law_578 : decode cL_law 578 = .ok (.iload_n 3, 1) := by decide +kernel
theorem dL_law_579 : decode cL_law 579 = .ok (.iconst 1, 1) := by decide +kernel
theorem dL_law_580 : decode cL_law 580 = .ok (.iadd, 1) := by decide +kernel
theorem dL_law_581 : decode cL_law 581 = .ok (.iaload, 1) := by decide +kernel
theorem dL_law_582 : decode cL_law 582 = .ok (.aload_n 0, 1) := by decide +kernel
theorem dL_law_583 : decode cL_law 583 = .ok (.iload_n 3, 1) := by decide +kernel
theorem dL_law_584 : decode cL_law 584 = .ok (.iconst 2, 1) := by decide +kernel
theorem dL_law_585 : decode cL_law 585 = .ok (.iadd, 1) := by decide +kernel
theorem dL_law_586 : decode cL_law 586 = .ok (.iaload, 1) := by decide +kernel
theorem dL_law_587 : decode cL_law 587 = .ok (.invokevirtual 77, 3) := by decide +kernel
theorem dL_law_590 : decode cL_law 590 = .ok (.if_icmp .eq 127, 3) := by decide +kernel
theorem dL_law_593 : decode cL_law 593 = .ok (.iconst 0, 1) := by decide +kernel
theorem dL_law_594 : decode cL_law 594 = .ok (.ireturn, 1) := by decide +kernel
theorem dL_law_595 : decode cL_law 595 = .ok (.aload_n 1, 1) := by decide +kernel
theorem dL_law_596 : decode cL_law 596 = .ok (.aload_n 0, 1) := by decide +kernel
theorem dL_law_597 : decode cL_law 597 = .ok (.iload_n 3, 1) := by decide +kernel
theorem dL_law_598 : decode cL_law 598 = .ok (.iconst 1, 1) := by decide +kernel
theorem dL_law_599 : decode cL_law 599 = .ok (.iadd, 1) := by decide +kernel
theorem dL_law_600 : decode cL_law 600 = .ok (.iaload, 1) := by decide +kernel
theorem dL_law_601 : decode cL_law 601 = .ok (.aload_n 0, 1) := by decide +kernel
theorem dL_law_602 : decode cL_law 602 = .ok (.iload_n 3, 1) := by decide +kernel
theorem dL_law_603 : decode cL_law 603 = .ok (.iconst 2, 1) := by decide +kernel
theorem dL_law_604 : decode cL_law 604 = .ok (.iadd, 1) := by decide +kernel
theorem dL_law_605 : decode cL_law 605 = .ok (.iaload, 1) := by decide +kernel
theorem dL_law_606 : decode cL_law 606 = .ok (.invokevirtual 78, 3) := by decide +kernel
theorem dL_law_609 : decode cL_law 609 = .ok (.aload_n 2, 1) := by decide +kernel
theorem dL_law_610 : decode cL_law 610 = .ok (.aload_n 0, 1) := by decide +kernel
theorem dL_law_611 : decode cL_law 611 = .ok (.iload_n 3, 1) := by decide +kernel
theorem dL_law_612 : decode cL_law 612 = .ok (.iconst 1, 1) := by decide +kernel
theorem dL_law_613 : decode cL_law 613 = .ok (.iadd, 1) := by decide +kernel
theorem dL_law_614 : decode cL_law 614 = .ok (.iaload, 1) := by decide +kernel
theorem dL_law_615 : decode cL_law 615 = .ok (.aload_n 0, 1) := by decide +kernel
theorem dL_law_616 : decode cL_law 616 = .ok (.iload_n 3, 1) := by decide +kernel
theorem dL_law_617 : decode cL_law 617 = .ok (.iconst 2, 1) := by decide +kernel
theorem dL_law_618 : decode cL_law 618 = .ok (.iadd, 1) := by decide +kernel
theorem dL_law_619 : decode cL_law 619 = .ok (.iaload, 1) := by decide +kernel
theorem dL_law_620 : decode cL_law 620 = .ok (.invokevirtual 81, 3) := by decide +kernel
theorem dL_law_623 : decode cL_law 623 = .ok (.if_icmp .eq 94, 3) := by decide +kernel
theorem dL_law_626 : decode cL_law 626 = .ok (.iconst 0, 1) := by decide +kernel
theorem dL_law_627 : decode cL_law 627 = .ok (.ireturn, 1) := by decide +kernel
theorem dL_law_628 : decode cL_law 628 = .ok (.aload_n 1, 1) := by decide +kernel
theorem dL_law_629 : decode cL_law 629 = .ok (.aload_n 0, 1) := by decide +kernel
theorem dL_law_630 : decode cL_law 630 = .ok (.iload_n 3, 1) := by decide +kernel
theorem dL_law_631 : decode cL_law 631 = .ok (.iconst 1, 1) := by decide +kernel
theorem dL_law_632 : decode cL_law 632 = .ok (.iadd, 1) := by decide +kernel
theorem dL_law_633 : decode cL_law 633 = .ok (.iaload, 1) := by decide +kernel
theorem dL_law_634 : decode cL_law 634 = .ok (.aload_n 0, 1) := by decide +kernel
theorem dL_law_635 : decode cL_law 635 = .ok (.iload_n 3, 1) := by decide +kernel
theorem dL_law_636 : decode cL_law 636 = .ok (.iconst 2, 1) := by decide +kernel
theorem dL_law_637 : decode cL_law 637 = .ok (.iadd, 1) := by decide +kernel
theorem dL_law_638 : decode cL_law 638 = .ok (.iaload, 1) := by decide +kernel
theorem dL_law_639 : decode cL_law 639 = .ok (.invokevirtual 82, 3) := by decide +kernel
theorem dL_law_642 : decode cL_law 642 = .ok (.aload_n 2, 1) := by decide +kernel
theorem dL_law_643 : decode cL_law 643 = .ok (.aload_n 0, 1) := by decide +kernel
theorem dL_law_644 : decode cL_law 644 = .ok (.iload_n 3, 1) := by decide +kernel
theorem dL_law_645 : decode cL_law 645 = .ok (.iconst 1, 1) := by decide +kernel
theorem dL_law_646 : decode cL_law 646 = .ok (.iadd, 1) := by decide +kernel
theorem dL_law_647 : decode cL_law 647 = .ok (.iaload, 1) := by decide +kernel
theorem dL_law_648 : decode cL_law 648 = .ok (.aload_n 0, 1) := by decide +kernel
theorem dL_law_649 : decode cL_law 649 = .ok (.iload_n 3, 1) := by decide +kernel
theorem dL_law_650 : decode cL_law 650 = .ok (.iconst 2, 1) := by decide +kernel
theorem dL_law_651 : decode cL_law 651 = .ok (.iadd, 1) := by decide +kernel
theorem dL_law_652 : decode cL_law 652 = .ok (.iaload, 1) := by decide +kernel
theorem dL_law_653 : decode cL_law 653 = .ok (.invokevirtual 85, 3) := by decide +kernel
theorem dL_law_656 : decode cL_law 656 = .ok (.if_icmp .eq 61, 3) := by decide +kernel
theorem dL_law_659 : decode cL_law 659 = .ok (.iconst 0, 1) := by decide +kernel
theorem dL_law_660 : decode cL_law 660 = .ok (.ireturn, 1) := by decide +kernel
theorem dL_law_661 : decode cL_law 661 = .ok (.aload_n 1, 1) := by decide +kernel
theorem dL_law_662 : decode cL_law 662 = .ok (.aload_n 0, 1) := by decide +kernel
theorem dL_law_663 : decode cL_law 663 = .ok (.iload_n 3, 1) := by decide +kernel
theorem dL_law_664 : decode cL_law 664 = .ok (.iconst 1, 1) := by decide +kernel
theorem dL_law_665 : decode cL_law 665 = .ok (.iadd, 1) := by decide +kernel
theorem dL_law_666 : decode cL_law 666 = .ok (.iaload, 1) := by decide +kernel
theorem dL_law_667 : decode cL_law 667 = .ok (.aload_n 0, 1) := by decide +kernel
theorem dL_law_668 : decode cL_law 668 = .ok (.iload_n 3, 1) := by decide +kernel
theorem dL_law_669 : decode cL_law 669 = .ok (.iconst 2, 1) := by decide +kernel
theorem dL_law_670 : decode cL_law 670 = .ok (.iadd, 1) := by decide +kernel
theorem dL_law_671 : decode cL_law 671 = .ok (.iaload, 1) := by decide +kernel
theorem dL_law_672 : decode cL_law 672 = .ok (.invokevirtual 86, 3) := by decide +kernel
theorem dL_law_675 : decode cL_law 675 = .ok (.aload_n 2, 1) := by decide +kernel
theorem dL_law_676 : decode cL_law 676 = .ok (.aload_n 0, 1) := by decide +kernel
theorem dL_law_677 : decode cL_law 677 = .ok (.iload_n 3, 1) := by decide +kernel
theorem dL_law_678 : decode cL_law 678 = .ok (.iconst 1, 1) := by decide +kernel
theorem dL_law_679 : decode cL_law 679 = .ok (.iadd, 1) := by decide +kernel
theorem dL_law_680 : decode cL_law 680 = .ok (.iaload, 1) := by decide +kernel
theorem dL_law_681 : decode cL_law 681 = .ok (.aload_n 0, 1) := by decide +kernel
theorem dL_law_682 : decode cL_law 682 = .ok (.iload_n 3, 1) := by decide +kernel
theorem dL_law_683 : decode cL_law 683 = .ok (.iconst 2, 1) := by decide +kernel
theorem dL_law_684 : decode cL_law 684 = .ok (.iadd, 1) := by decide +kernel
theorem dL_law_685 : decode cL_law 685 = .ok (.iaload, 1) := by decide +kernel
theorem dL_law_686 : decode cL_law 686 = .ok (.invokevirtual 89, 3) := by decide +kernel
theorem dL_law_689 : decode cL_law 689 = .ok (.if_icmp .eq 28, 3) := by decide +kernel
theorem dL_law_692 : decode cL_law 692 = .ok (.iconst 0, 1) := by decide +kernel
theorem dL_law_693 : decode cL_law 693 = .ok (.ireturn, 1) := by decide +kernel
theorem dL_law_694 : decode cL_law 694 = .ok (.aload_n 1, 1) := by decide +kernel
theorem dL_law_695 : decode cL_law 695 = .ok (.aload_n 0, 1) := by decide +kernel
theorem dL_law_696 : decode cL_law 696 = .ok (.iload_n 3, 1) := by decide +kernel
theorem dL_law_697 : decode cL_law 697 = .ok (.iconst 1, 1) := by decide +kernel
theorem dL_law_698 : decode cL_law 698 = .ok (.iadd, 1) := by decide +kernel
theorem dL_law_699 : decode cL_law 699 = .ok (.iaload, 1) := by decide +kernel
theorem dL_law_700 : decode cL_law 700 = .ok (.invokevirtual 90, 3) := by decide +kernel
theorem dL_law_703 : decode cL_law 703 = .ok (.aload_n 2, 1) := by decide +kernel
theorem dL_law_704 : decode cL_law 704 = .ok (.aload_n 0, 1) := by decide +kernel
theorem dL_law_705 : decode cL_law 705 = .ok (.iload_n 3, 1) := by decide +kernel
theorem dL_law_706 : decode cL_law 706 = .ok (.iconst 1, 1) := by decide +kernel
theorem dL_law_707 : decode cL_law 707 = .ok (.iadd, 1) := by decide +kernel
theorem dL_law_708 : decode cL_law 708 = .ok (.iaload, 1) := by decide +kernel
theorem dL_law_709 : decode cL_law 709 = .ok (.invokevirtual 93, 3) := by decide +kernel
theorem dL_law_712 : decode cL_law 712 = .ok (.if_icmp .eq 5, 3) := by decide +kernel
theorem dL_law_715 : decode cL_law 715 = .ok (.iconst 0, 1) := by decide +kernel
theorem dL_law_716 : decode cL_law 716 = .ok (.ireturn, 1) := by decide +kernel
theorem dL_law_717 : decode cL_law 717 = .ok (.iinc 3 4, 3) := by decide +kernel
theorem dL_law_720 : decode cL_law 720 = .ok (.goto (-702), 3) := by decide +kernel
theorem dL_law_723 : decode cL_law 723 = .ok (.iconst 1, 1) := by decide +kernel
theorem dL_law_724 : decode cL_law 724 = .ok (.ireturn, 1) := by decide +kernel
end
section
/-! THE WORLD: cells by kind and number. E k i: what the cell holds; ad k i: where it lies. -/
def u2 {α : Type} (f : Nat → Nat → α) (k i : Nat) (v : α) : Nat → Nat → α := va_up f k (va_up (f k) i v)
theorem u2_self {α : Type} {f : Nat → Nat → α} {k i : Nat} {v : α} : u2 f k i v k i = v := by simp [u2, va_up]
theorem u2_k {α : Type} {f : Nat → Nat → α} {k i k' : Nat} {v : α} (h : k' ≠ k) : u2 f k i v k' = f k' := by simp [u2, va_up, h]
theorem u2_i {α : Type} {f : Nat → Nat → α} {k i i' : Nat} {v : α} (h : i' ≠ i) : u2 f k i v k i' = f k i' := by simp [u2, va_up, h]
theorem u2_some {α : Type} {E : Nat → Nat → Option α} {k i k' i' : Nat} {e e' : α} (h : u2 E k i (some e) k' i' = some e') : (k' = k ∧ i' = i ∧ e' = e) ∨ (¬ (k' = k ∧ i' = i) ∧ E k' i' = some e') := by
  by_cases hk : k' = k
  · subst hk
    by_cases hi : i' = i
    · subst hi
      rw [u2_self] at h
      cases h
      exact Or.inl ⟨rfl, rfl, rfl⟩
    · rw [u2_i hi] at h
      exact Or.inr ⟨fun z => hi z.2, h⟩
  · rw [u2_k hk] at h
    exact Or.inr ⟨fun z => hk z.1, h⟩
def wo (G : va_G) (lo : Nat) (E : Nat → Nat → Option va_E) (ad : Nat → Nat → Nat) (H : Heap) : Prop :=
  lo ≤ H.size ∧ (∀ (k i : Nat) (e : va_E), E k i = some e → va_at G vwCl (ad k i, e) H ∧ lo ≤ ad k i) ∧
  ∀ (k i k' i' : Nat) (e e' : va_E), E k i = some e → E k' i' = some e' → ad k i = ad k' i' → k = k' ∧ i = i'
theorem wo.cast {G : va_G} {lo : Nat} {E E' : Nat → Nat → Option va_E} {ad : Nat → Nat → Nat} {H : Heap} (h : wo G lo E ad H) (e : E = E') : wo G lo E' ad H := e ▸ h
theorem wo.one {G : va_G} {lo : Nat} {E : Nat → Nat → Option va_E} {ad : Nat → Nat → Nat} {H : Heap} (h : wo G lo E ad H) {k i : Nat} {e : va_E} (he : E k i = some e) : va_P G vwCl [(ad k i, e)] H := by
  intro j q hj
  cases j with
  | zero => cases hj; exact (h.2.1 k i e he).1
  | succ j => simp at hj
theorem wo.lt {G : va_G} {lo : Nat} {E : Nat → Nat → Option va_E} {ad : Nat → Nat → Nat} {H : Heap} (h : wo G lo E ad H) {k i : Nat} {e : va_E} (he : E k i = some e) : ad k i < H.size := (h.2.1 k i e he).1.lt
theorem wo.set {G : va_G} {lo : Nat} {E : Nat → Nat → Option va_E} {ad : Nat → Nat → Nat} {H H1 : Heap} {k i : Nat} {e0 e : va_E} (h : wo G lo E ad H) (he : E k i = some e0) (h1 : va_at G vwCl (ad k i, e) H1) (z : H1.size = H.size) (oq : ∀ q : Nat, q ≠ ad k i → H1[q]? = H[q]?) : wo G lo (u2 E k i (some e)) ad H1 := by
  obtain ⟨h0, h2, h3⟩ := h
  have back : ∀ (k' i' : Nat) (e' : va_E), u2 E k i (some e) k' i' = some e' → ∃ x, E k' i' = some x := by
    intro k' i' e' hh
    rcases u2_some hh with ⟨rfl, rfl, -⟩ | ⟨-, q⟩
    · exact ⟨_, he⟩
    · exact ⟨_, q⟩
  refine ⟨by rw [z]; exact h0, ?_, ?_⟩
  · intro k' i' e' hh
    rcases u2_some hh with ⟨rfl, rfl, rfl⟩ | ⟨hn, hh⟩
    · exact ⟨h1, (h2 _ _ _ he).2⟩
    · exact ⟨(h2 _ _ _ hh).1.kept (oq _ fun q => hn (h3 _ _ _ _ _ _ hh he q)), (h2 _ _ _ hh).2⟩
  · intro k1 i1 k2 i2 e1 e2 hh1 hh2 hq
    obtain ⟨x1, g1⟩ := back _ _ _ hh1
    obtain ⟨x2, g2⟩ := back _ _ _ hh2
    exact h3 _ _ _ _ _ _ g1 g2 hq
theorem wo.new {G : va_G} {lo : Nat} {E : Nat → Nat → Option va_E} {ad : Nat → Nat → Nat} {H H1 : Heap} {k i : Nat} {e : va_E} (h : wo G lo E ad H) (he : E k i = none) (h1 : va_at G vwCl (H.size, e) H1) (z : H1.size = H.size + 1) (oq : ∀ q : Nat, q < H.size → H1[q]? = H[q]?) : wo G lo (u2 E k i (some e)) (u2 ad k i H.size) H1 := by
  obtain ⟨h0, h2, h3⟩ := h
  have old : ∀ (k' i' : Nat) (x : va_E), E k' i' = some x → u2 ad k i H.size k' i' = ad k' i' := by
    intro k' i' x hh
    by_cases hk : k' = k
    · subst hk
      by_cases hi : i' = i
      · subst hi
        rw [he] at hh
        cases hh
      · exact congrFun (show u2 ad k' i H.size k' = va_up (ad k') i H.size by simp [u2, va_up]) i' |>.trans (va_up_ne _ _ hi)
    · rw [u2_k hk]
  have olt : ∀ (k' i' : Nat) (x : va_E), E k' i' = some x → ad k' i' < H.size := fun k' i' x hh => (h2 _ _ _ hh).1.lt
  refine ⟨by omega, ?_, ?_⟩
  · intro k' i' e' hh
    rcases u2_some hh with ⟨rfl, rfl, rfl⟩ | ⟨hn, hh⟩
    · rw [u2_self]
      exact ⟨h1, h0⟩
    · rw [old _ _ _ hh]
      exact ⟨(h2 _ _ _ hh).1.kept (oq _ (olt _ _ _ hh)), (h2 _ _ _ hh).2⟩
  · intro k1 i1 k2 i2 e1 e2 hh1 hh2 hq
    rcases u2_some hh1 with ⟨rfl, rfl, -⟩ | ⟨-, g1⟩ <;> rcases u2_some hh2 with ⟨rfl, rfl, -⟩ | ⟨-, g2⟩
    · exact ⟨rfl, rfl⟩
    · rw [u2_self, old _ _ _ g2] at hq
      have := olt _ _ _ g2
      omega
    · rw [u2_self, old _ _ _ g1] at hq
      have := olt _ _ _ g1
      omega
    · rw [old _ _ _ g1, old _ _ _ g2] at hq
      exact h3 _ _ _ _ _ _ g1 g2 hq
/-! LOCALS as a function -/
def lh (ls : Array Slot) (n : Nat) (f : Nat → Option Value) : Prop := ls.size = n ∧ lv_wf ls ∧ ∀ (i : Nat) (v : Value), f i = some v → ls[i]? = some (.val v) ∧ v.category = 1
theorem lh.at {ls : Array Slot} {n : Nat} {f : Nat → Option Value} (h : lh ls n f) {i : Nat} {v : Value} (hv : f i = some v) : ls[i]? = some (.val v) := (h.2.2 i v hv).1
def lh_l (n : Nat) (f : Nat → Option Value) : List (Nat × Value) := (List.range n).filterMap (fun j => (f j).map (fun v => (j, v)))
theorem lh_mem {n : Nat} {f : Nat → Option Value} {q : Nat × Value} : q ∈ lh_l n f ↔ q.1 < n ∧ f q.1 = some q.2 := by
  obtain ⟨j, v⟩ := q
  simp only [lh_l, List.mem_filterMap, List.mem_range, Option.map_eq_some_iff, Prod.mk.injEq]
  constructor
  · rintro ⟨a, h1, b, h2, rfl, rfl⟩
    exact ⟨h1, h2⟩
  · rintro ⟨h1, h2⟩
    exact ⟨j, h1, v, h2, rfl, rfl⟩
theorem lh.has {ls : Array Slot} {n : Nat} {f : Nat → Option Value} (h : lh ls n f) : lv_has ls n (lh_l n f) := ⟨h.1, h.2.1, fun q hq => h.at (lh_mem.mp hq).2⟩
theorem lh.store {ls ls' : Array Slot} {n i : Nat} {f : Nat → Option Value} {v : Value} (h : lh ls n f) (hc : v.category = 1) (h' : lv_has ls' n ((i, v) :: (lh_l n f).filter (fun q => !(q.1 == i) && !(q.1 + 1 == i && q.2.category == 2)))) : lh ls' n (va_up f i (some v)) := by
  refine ⟨h'.1, h'.2.1, fun j w hj => ?_⟩
  by_cases hji : j = i
  · subst hji
    rw [va_up_self] at hj
    cases hj
    exact ⟨h'.2.2 (j, v) List.mem_cons_self, hc⟩
  · rw [va_up_ne _ _ hji] at hj
    have hw := (h.2.2 j w hj).2
    refine ⟨h'.2.2 (j, w) (List.mem_cons_of_mem _ (List.mem_filter.mpr ⟨lh_mem.mpr ⟨?_, hj⟩, ?_⟩)), hw⟩
    · have := lv_lt (h.at hj)
      rw [h.1] at this
      exact this
    · simp [hji, hw]
theorem lh.of {ls : Array Slot} {n : Nat} {l : List (Nat × Value)} (h : lv_has ls n l) (hc : l.all (fun q => q.2.category == 1) = true) : lh ls n (fun i => (l.find? (fun q => q.1 == i)).map (fun q => q.2)) := by
  refine ⟨h.1, h.2.1, fun i v hv => ?_⟩
  obtain ⟨q, h1, h2⟩ := Option.map_eq_some_iff.mp hv
  have hm := List.mem_of_find?_eq_some h1
  have hi := List.find?_some h1
  simp at hi
  subst h2
  subst hi
  have := List.all_eq_true.mp hc q hm
  simp at this
  exact ⟨h.2.2 q hm, this⟩
section LF
variable {p : Program} {l : Launch} {e : Env} {R : Room} {s : State} {m : MethodId} {args : Array Value} {below : List Frame} {meth : Method} {c : Code} {H : Heap} {locs : List Loc} {cells slots : Nat} {Q : State → Prop}
variable {cc : ByteArray} {pc : Nat} {ls : Array Slot} {rest : List Value} {nL : Nat} {f : Nat → Option Value}
theorem f_iload_n (hx : p.tables.exec = Jvm.exec) (hb : c.code = cc) {k : Fin 4} {x : Int32} (hdg : decode cc pc = .ok (.iload_n k, 1)) (hl : lh ls nL f) (i : Nat) (hi : (k : Nat) = i) (hv : f i = some (.int x)) (kk : W p l e R s m args below meth c H locs cells slots Q (F0 m (pc + 1) ls (.int x :: rest))) : W p l e R s m args below meth c H locs cells slots Q (F0 m pc ls rest) := lv_iload_n hx hb hdg hi (hl.at hv) kk
theorem f_iload (hx : p.tables.exec = Jvm.exec) (hb : c.code = cc) {i : Nat} {x : Int32} (hdg : decode cc pc = .ok (.iload i, 2)) (hl : lh ls nL f) (hv : f i = some (.int x)) (kk : W p l e R s m args below meth c H locs cells slots Q (F0 m (pc + 2) ls (.int x :: rest))) : W p l e R s m args below meth c H locs cells slots Q (F0 m pc ls rest) := lv_iload hx hb hdg (hl.at hv) kk
theorem f_aload_n (hx : p.tables.exec = Jvm.exec) (hb : c.code = cc) {k : Fin 4} {x : Nat} (hdg : decode cc pc = .ok (.aload_n k, 1)) (hl : lh ls nL f) (i : Nat) (hi : (k : Nat) = i) (hv : f i = some (.ref x)) (kk : W p l e R s m args below meth c H locs cells slots Q (F0 m (pc + 1) ls (.ref x :: rest))) : W p l e R s m args below meth c H locs cells slots Q (F0 m pc ls rest) := lv_aload_n hx hb hdg hi (hl.at hv) kk
theorem f_aload (hx : p.tables.exec = Jvm.exec) (hb : c.code = cc) {i : Nat} {x : Nat} (hdg : decode cc pc = .ok (.aload i, 2)) (hl : lh ls nL f) (hv : f i = some (.ref x)) (kk : W p l e R s m args below meth c H locs cells slots Q (F0 m (pc + 2) ls (.ref x :: rest))) : W p l e R s m args below meth c H locs cells slots Q (F0 m pc ls rest) := lv_aload hx hb hdg (hl.at hv) kk
theorem f_aload_nN (hx : p.tables.exec = Jvm.exec) (hb : c.code = cc) {k : Fin 4} (hdg : decode cc pc = .ok (.aload_n k, 1)) (hl : lh ls nL f) (i : Nat) (hi : (k : Nat) = i) (hv : f i = some .null) (kk : W p l e R s m args below meth c H locs cells slots Q (F0 m (pc + 1) ls (.null :: rest))) : W p l e R s m args below meth c H locs cells slots Q (F0 m pc ls rest) := lv_aload_nN hx hb hdg hi (hl.at hv) kk
theorem f_aloadN (hx : p.tables.exec = Jvm.exec) (hb : c.code = cc) {i : Nat} (hdg : decode cc pc = .ok (.aload i, 2)) (hl : lh ls nL f) (hv : f i = some .null) (kk : W p l e R s m args below meth c H locs cells slots Q (F0 m (pc + 2) ls (.null :: rest))) : W p l e R s m args below meth c H locs cells slots Q (F0 m pc ls rest) := lv_aloadN hx hb hdg (hl.at hv) kk
theorem f_istore_n (hx : p.tables.exec = Jvm.exec) (hb : c.code = cc) {k : Fin 4} {x : Int32} (hdg : decode cc pc = .ok (.istore_n k, 1)) (hl : lh ls nL f) (i : Nat) (hi : (k : Nat) = i) (hn : i < nL) (kk : ∀ ls : Array Slot, lh ls nL (va_up f i (some (.int x))) → W p l e R s m args below meth c H locs cells slots Q (F0 m (pc + 1) ls rest)) : W p l e R s m args below meth c H locs cells slots Q (F0 m pc ls (.int x :: rest)) := lv_istore_n hx hb hdg hi hl.has hn rfl (fun ls' h' => kk ls' (hl.store rfl h'))
theorem f_istore (hx : p.tables.exec = Jvm.exec) (hb : c.code = cc) {i : Nat} {x : Int32} (hdg : decode cc pc = .ok (.istore i, 2)) (hl : lh ls nL f) (hn : i < nL) (kk : ∀ ls : Array Slot, lh ls nL (va_up f i (some (.int x))) → W p l e R s m args below meth c H locs cells slots Q (F0 m (pc + 2) ls rest)) : W p l e R s m args below meth c H locs cells slots Q (F0 m pc ls (.int x :: rest)) := lv_istore hx hb hdg hl.has hn rfl (fun ls' h' => kk ls' (hl.store rfl h'))
theorem f_astore_n (hx : p.tables.exec = Jvm.exec) (hb : c.code = cc) {k : Fin 4} {x : Nat} (hdg : decode cc pc = .ok (.astore_n k, 1)) (hl : lh ls nL f) (i : Nat) (hi : (k : Nat) = i) (hn : i < nL) (kk : ∀ ls : Array Slot, lh ls nL (va_up f i (some (.ref x))) → W p l e R s m args below meth c H locs cells slots Q (F0 m (pc + 1) ls rest)) : W p l e R s m args below meth c H locs cells slots Q (F0 m pc ls (.ref x :: rest)) := lv_astore_n hx hb hdg hi hl.has hn rfl (fun ls' h' => kk ls' (hl.store rfl h'))
theorem f_astore (hx : p.tables.exec = Jvm.exec) (hb : c.code = cc) {i : Nat} {x : Nat} (hdg : decode cc pc = .ok (.astore i, 2)) (hl : lh ls nL f) (hn : i < nL) (kk : ∀ ls : Array Slot, lh ls nL (va_up f i (some (.ref x))) → W p l e R s m args below meth c H locs cells slots Q (F0 m (pc + 2) ls rest)) : W p l e R s m args below meth c H locs cells slots Q (F0 m pc ls (.ref x :: rest)) := lv_astore hx hb hdg hl.has hn rfl (fun ls' h' => kk ls' (hl.store rfl h'))
theorem f_astore_nN (hx : p.tables.exec = Jvm.exec) (hb : c.code = cc) {k : Fin 4} (hdg : decode cc pc = .ok (.astore_n k, 1)) (hl : lh ls nL f) (i : Nat) (hi : (k : Nat) = i) (hn : i < nL) (kk : ∀ ls : Array Slot, lh ls nL (va_up f i (some .null)) → W p l e R s m args below meth c H locs cells slots Q (F0 m (pc + 1) ls rest)) : W p l e R s m args below meth c H locs cells slots Q (F0 m pc ls (.null :: rest)) := lv_astore_nN hx hb hdg hi hl.has hn rfl (fun ls' h' => kk ls' (hl.store rfl h'))
theorem f_astoreN (hx : p.tables.exec = Jvm.exec) (hb : c.code = cc) {i : Nat} (hdg : decode cc pc = .ok (.astore i, 2)) (hl : lh ls nL f) (hn : i < nL) (kk : ∀ ls : Array Slot, lh ls nL (va_up f i (some .null)) → W p l e R s m args below meth c H locs cells slots Q (F0 m (pc + 2) ls rest)) : W p l e R s m args below meth c H locs cells slots Q (F0 m pc ls (.null :: rest)) := lv_astoreN hx hb hdg hl.has hn rfl (fun ls' h' => kk ls' (hl.store rfl h'))
theorem f_iinc (hx : p.tables.exec = Jvm.exec) (hb : c.code = cc) {i : Nat} {n : Int} {x : Int32} (hdg : decode cc pc = .ok (.iinc i n, 3)) (hl : lh ls nL f) (hv : f i = some (.int x)) {d : Int32} (hd : Int32.ofInt n = d) (hn : i < nL) (kk : ∀ ls : Array Slot, lh ls nL (va_up f i (some (.int (x + d)))) → W p l e R s m args below meth c H locs cells slots Q (F0 m (pc + 3) ls rest)) : W p l e R s m args below meth c H locs cells slots Q (F0 m pc ls rest) := by
  subst hd
  have hm : (i, Value.int x) ∈ lh_l nL f := lh_mem.mpr ⟨by have := lv_lt (hl.at hv); rw [hl.1] at this; exact this, hv⟩
  obtain ⟨k, hk⟩ := List.getElem?_of_mem hm
  exact lv_iinc hx hb hdg hl.has hk rfl hn rfl (fun ls' h' => kk ls' (hl.store rfl h'))
end LF
section LE
variable {p : Program} {l : Launch} {e : Env} {R : Room} {s : State} {m : MethodId} {args : Array Value} {below : List Frame} {meth : Method} {c : Code} {H : Heap} {locs : List Loc} {cells slots : Nat} {Q : State → Prop}
variable {cc : ByteArray} {pc : Nat} {ls : Array Slot} {rest : List Value} {G : va_G} {lo : Nat} {E : Nat → Nat → Option va_E} {ad : Nat → Nat → Nat} {H0 : Heap} {tys : List (ClassId × FieldType)} {k i : Nat}
theorem e_get (hx : p.tables.exec = Jvm.exec) (hb : c.code = cc) {own C : String} {T : u_T} {N ci index : Nat} {Ts : List Cond} (hts : ∀ w ∈ Ts, w.before args s = true) (hin : ∀ w ∈ u_ws C T N, w ∈ Ts) (hown : s.vm.findClass own = some m.cls) (hK : va_K G vwCl tys s) (hw : wo G lo E ad H) {fs : List Value} (he : E k i = some (.inr (ci, fs))) (hc : vwCl[ci]? = some (C, T, N)) (f : Nat) (hf : f < N) (hlink : (Cond.fieldLink own index (T f).1 (T f).2.1 (T f).2.2.1).before args s = true) {v : Value} (hv : fs[f]? = some v) (hdg : decode cc pc = .ok (.getfield index, 3))
    (kk : W p l e R s m args below meth c H locs cells slots Q (F0 m (pc + 3) ls (v :: rest))) : W p l e R s m args below meth c H locs cells slots Q (F0 m pc ls (.ref (ad k i) :: rest)) :=
  va_get (D := G) (cl := vwCl) (tys := tys) (ws := [(ad k i, .inr (ci, fs))]) hx hb hts hin hown hK (hw.one he) 0 rfl hc f hf hlink (fun _ h => h) hv hdg kk
theorem e_put (hx : p.tables.exec = Jvm.exec) (hb : c.code = cc) {own C : String} {T : u_T} {N ci index : Nat} {Ts : List Cond} (hts : ∀ w ∈ Ts, w.before args s = true) (hin : ∀ w ∈ u_ws C T N, w ∈ Ts) (ty0 : Nat → FieldType) (hty : ∀ k, k < N → parseFieldDescriptor (T k).2.2.1 = some (ty0 k)) (hnm : ∀ a, a < N → ∀ b, b < N → a ≠ b → (T a).2.1 ≠ (T b).2.1) (hown : s.vm.findClass own = some m.cls) (hK : va_K G vwCl tys s) (hw : wo G lo E ad H) (hS0 : va_S (fun q => lo ≤ q) H0 H locs) {fs : List Value} (he : E k i = some (.inr (ci, fs))) (hc : vwCl[ci]? = some (C, T, N)) (f : Nat) (hk : f < N) (hlink : (Cond.fieldLink own index (T f).1 (T f).2.1 (T f).2.2.1).before args s = true) (hfin : (T f).2.2.2 = false) {ty : FieldType} {v : Value} (hd : parseFieldDescriptor (T f).2.2.1 = some ty) (hn : narrow ty v = v) (hfit : fits ty v = true) (hl : f < fs.length)
    (hdg : decode cc pc = .ok (.putfield index, 3)) (kk : ∀ (H1 : Heap) (locs1 : List Loc), wo G lo (u2 E k i (some (.inr (ci, fs.set f v)))) ad H1 → va_S (fun q => lo ≤ q) H0 H1 locs1 → W p l e R s m args below meth c H1 locs1 cells slots Q (F0 m (pc + 3) ls rest)) : W p l e R s m args below meth c H locs cells slots Q (F0 m pc ls (v :: .ref (ad k i) :: rest)) := by
  have hap := va_apart (own := own) hts hin ty0 hty hnm hK hc
  obtain ⟨r, h1, cell, q1, q2, q3, q4⟩ := (hw.2.1 k i _ he).1
  have hr : r = (C, T, N) := Option.some.inj (h1.symm.trans hc)
  subst hr
  obtain ⟨hS, hfc, kC, hkC, hkind⟩ := hK.1 ci _ hc
  obtain ⟨cf, kf, fi, fd, hi, hsl⟩ := hS f hk
  have hlay := hts _ (hin _ (u_in_lay hk))
  unfold u_lay at hlay
  rw [if_neg (by rw [hfin]; decide)] at hlay
  have hst := (u_facts hfc hkC (u_lays hts hin hk) hi).1
  have h6 := u_store hfc hkC hkind hlay hi hd hn hfit
  refine W.putK hx hb (f := fd) ⟨hown, hlink, ⟨_, _, _, hi⟩, hst⟩ (by rw [q2]; exact h6) q1 q3 (by rw [hsl]; exact k2_hasslot (q4 f hk)) rfl rfl hdg fun H' e1 e2 e3 => ?_
  rw [hsl] at e1 ⊢
  exact kk H' _ (hw.set he ⟨_, hc, t_OB.to (V := updV (vp_V fs) f v) ⟨_, e1, q2, q3, t_set q4 hap hk v⟩ (fun j _ => vp_updV_set hl v j)⟩ e2 e3) (hS0.put e2 e3 (hw.2.1 k i _ he).2)
theorem e_putF (hx : p.tables.exec = Jvm.exec) (hb : c.code = cc) {own C : String} {T : u_T} {N ci index : Nat} {Ts : List Cond} (hts : ∀ w ∈ Ts, w.before args s = true) (hin : ∀ w ∈ u_ws C T N, w ∈ Ts) (ty0 : Nat → FieldType) (hty : ∀ k, k < N → parseFieldDescriptor (T k).2.2.1 = some (ty0 k)) (hnm : ∀ a, a < N → ∀ b, b < N → a ≠ b → (T a).2.1 ≠ (T b).2.1) (hown : s.vm.findClass own = some m.cls) (hK : va_K G vwCl tys s) (hw : wo G lo E ad H) (hS0 : va_S (fun q => lo ≤ q) H0 H locs) {fs : List Value} (he : E k i = some (.inr (ci, fs))) (hc : vwCl[ci]? = some (C, T, N)) (f : Nat) (hk : f < N) (hlink : (Cond.fieldLink own index (T f).1 (T f).2.1 (T f).2.2.1).before args s = true) (hfin : (T f).2.2.2 = true) (hin2 : meth.name = "<init>") (hdecl : (T f).1 = own) {ty : FieldType} {v : Value} (hd : parseFieldDescriptor (T f).2.2.1 = some ty) (hn : narrow ty v = v) (hfit : fits ty v = true) (hl : f < fs.length)
    (hdg : decode cc pc = .ok (.putfield index, 3)) (kk : ∀ (H1 : Heap) (locs1 : List Loc), wo G lo (u2 E k i (some (.inr (ci, fs.set f v)))) ad H1 → va_S (fun q => lo ≤ q) H0 H1 locs1 → W p l e R s m args below meth c H1 locs1 cells slots Q (F0 m (pc + 3) ls rest)) : W p l e R s m args below meth c H locs cells slots Q (F0 m pc ls (v :: .ref (ad k i) :: rest)) := by
  have hap := va_apart (own := own) hts hin ty0 hty hnm hK hc
  obtain ⟨r, h1, cell, q1, q2, q3, q4⟩ := (hw.2.1 k i _ he).1
  have hr : r = (C, T, N) := Option.some.inj (h1.symm.trans hc)
  subst hr
  obtain ⟨hS, hfc, kC, hkC, hkind⟩ := hK.1 ci _ hc
  obtain ⟨cf, kf, fi, fd, hi, hsl⟩ := hS f hk
  have hlay := hts _ (hin _ (u_in_lay hk))
  unfold u_lay at hlay
  rw [if_pos hfin] at hlay
  have hst := (u_facts hfc hkC (u_lays hts hin hk) hi).1
  have hcf : m.cls = cf := by
    obtain ⟨_, _, c', _, _, _, -, -, hf', -, -, -, hown2, -⟩ := Cond.laysFinal_spec hlay
    have e1 : c' = cf := by have := hi.symm.trans hf'; simp at this; exact this.1.symm
    rw [hdecl] at hown2
    rw [← e1]; exact Option.some.inj (hown.symm.trans hown2)
  have h6 := u_fits hfc hkC hkind (Or.inr hlay) hi hd hn hfit
  refine W.putFinK hx hb hown hlink hi hst hcf hin2 (by rw [q2]; exact h6) q1 q3 (by rw [hsl]; exact k2_hasslot (q4 f hk)) rfl rfl hdg fun H' e1 e2 e3 => ?_
  rw [hsl] at e1 ⊢
  exact kk H' _ (hw.set he ⟨_, hc, t_OB.to (V := updV (vp_V fs) f v) ⟨_, e1, q2, q3, t_set q4 hap hk v⟩ (fun j _ => vp_updV_set hl v j)⟩ e2 e3) (hS0.put e2 e3 (hw.2.1 k i _ he).2)
theorem e_iald (hx : p.tables.exec = Jvm.exec) (hb : c.code = cc) (hK : va_K G vwCl tys s) (hw : wo G lo E ad H) (t0 : Nat) {cA : ClassId} {n : Nat} {f : Nat → Int32} (he : E k i = some (.inl (cA, n, .inl f))) (ht : tys[t0]? = some (cA, .int)) {x : Int32} (hin : vp_in x n) (hdg : decode cc pc = .ok (.iaload, 1))
    (kk : W p l e R s m args below meth c H locs cells slots Q (F0 m (pc + 1) ls (.int (f x.toNatClampNeg) :: rest))) : W p l e R s m args below meth c H locs cells slots Q (F0 m pc ls (.int x :: .ref (ad k i) :: rest)) :=
  va_iald (D := G) (cl := vwCl) (tys := tys) (ws := [(ad k i, .inl (cA, n, .inl f))]) hx hb hK (hw.one he) 0 t0 rfl ht hin hdg kk
theorem e_zald (hx : p.tables.exec = Jvm.exec) (hb : c.code = cc) (hK : va_K G vwCl tys s) (hw : wo G lo E ad H) (t0 : Nat) {cA : ClassId} {n : Nat} {f : Nat → Int32} (he : E k i = some (.inl (cA, n, .inl f))) (ht : tys[t0]? = some (cA, .boolean)) {x : Int32} (hin : vp_in x n) (hdg : decode cc pc = .ok (.baload, 1))
    (kk : W p l e R s m args below meth c H locs cells slots Q (F0 m (pc + 1) ls (.int (f x.toNatClampNeg) :: rest))) : W p l e R s m args below meth c H locs cells slots Q (F0 m pc ls (.int x :: .ref (ad k i) :: rest)) :=
  va_zald (D := G) (cl := vwCl) (tys := tys) (ws := [(ad k i, .inl (cA, n, .inl f))]) hx hb hK (hw.one he) 0 t0 rfl ht hin hdg kk
theorem e_aald (hx : p.tables.exec = Jvm.exec) (hb : c.code = cc) (hK : va_K G vwCl tys s) (hw : wo G lo E ad H) (t0 : Nat) {cA : ClassId} {C : String} {n : Nat} {f : Nat → Option Nat} (he : E k i = some (.inl (cA, n, .inr (.inr (.inr (.inr f)))))) (ht : tys[t0]? = some (cA, .object C)) {x : Int32} (hin : vp_in x n) (hdg : decode cc pc = .ok (.aaload, 1))
    (kk : W p l e R s m args below meth c H locs cells slots Q (F0 m (pc + 1) ls (va_rf (f x.toNatClampNeg) :: rest))) : W p l e R s m args below meth c H locs cells slots Q (F0 m pc ls (.int x :: .ref (ad k i) :: rest)) :=
  va_aldq (D := G) (cl := vwCl) (tys := tys) (ws := [(ad k i, .inl (cA, n, .inr (.inr (.inr (.inr f)))))]) hx hb hK (hw.one he) 0 t0 rfl ht hin hdg kk
theorem e_alen (hx : p.tables.exec = Jvm.exec) (hb : c.code = cc) (hK : va_K G vwCl tys s) (hw : wo G lo E ad H) (t0 : Nat) {cA : ClassId} {x : vp_A} (he : E k i = some (.inl (cA, x))) {ty : FieldType} (ht : tys[t0]? = some (cA, ty)) {v : Int32} (hv : Int32.ofNat x.1 = v) (hdg : decode cc pc = .ok (.arraylength, 1))
    (kk : W p l e R s m args below meth c H locs cells slots Q (F0 m (pc + 1) ls (.int v :: rest))) : W p l e R s m args below meth c H locs cells slots Q (F0 m pc ls (.ref (ad k i) :: rest)) :=
  va_alen (D := G) (cl := vwCl) (tys := tys) (ws := [(ad k i, .inl (cA, x))]) hx hb hK (hw.one he) 0 t0 rfl ht hv hdg kk
theorem e_iast (hx : p.tables.exec = Jvm.exec) (hb : c.code = cc) (hK : va_K G vwCl tys s) (hw : wo G lo E ad H) (hS : va_S (fun q => lo ≤ q) H0 H locs) (t0 : Nat) {cA : ClassId} {n : Nat} {f : Nat → Int32} (he : E k i = some (.inl (cA, n, .inl f))) (ht : tys[t0]? = some (cA, .int)) {x v : Int32} (hin : vp_in x n) (hdg : decode cc pc = .ok (.iastore, 1))
    (kk : ∀ (H1 : Heap) (locs1 : List Loc), wo G lo (u2 E k i (some (.inl (cA, n, .inl (va_up f x.toNatClampNeg v))))) ad H1 → va_S (fun q => lo ≤ q) H0 H1 locs1 → W p l e R s m args below meth c H1 locs1 cells slots Q (F0 m (pc + 1) ls rest)) : W p l e R s m args below meth c H locs cells slots Q (F0 m pc ls (.int v :: .int x :: .ref (ad k i) :: rest)) := by
  have hc := (hw.2.1 k i _ he).1
  refine W.iast hx hb hc ((hK.2 t0 _ ht).1 n (fun j => .int (f j))) (fun q => by cases q) (by show ¬ (x < 0 ∨ (arrV _ _ _).slots.size ≤ _); rw [arrV_size]; exact hin) rfl rfl hdg fun H1 e z oq => ?_
  refine kk H1 _ (hw.set he ?_ z oq) (hS.put z oq (hw.2.1 k i _ he).2)
  show H1[ad k i]? = some (vp_cell _ _)
  rw [e, vp_cell_i, vp_cell_i, arrV_store]
  congr 2
  funext q
  by_cases hq : q = x.toNatClampNeg <;> simp [updV, va_up, hq]
theorem e_zast (hx : p.tables.exec = Jvm.exec) (hb : c.code = cc) (hK : va_K G vwCl tys s) (hw : wo G lo E ad H) (hS : va_S (fun q => lo ≤ q) H0 H locs) (t0 : Nat) {cA : ClassId} {n : Nat} {f : Nat → Int32} (he : E k i = some (.inl (cA, n, .inl f))) (ht : tys[t0]? = some (cA, .boolean)) {x v : Int32} (hin : vp_in x n) (hv : narrow .boolean (.int v) = .int v) (hdg : decode cc pc = .ok (.bastore, 1))
    (kk : ∀ (H1 : Heap) (locs1 : List Loc), wo G lo (u2 E k i (some (.inl (cA, n, .inl (va_up f x.toNatClampNeg v))))) ad H1 → va_S (fun q => lo ≤ q) H0 H1 locs1 → W p l e R s m args below meth c H1 locs1 cells slots Q (F0 m (pc + 1) ls rest)) : W p l e R s m args below meth c H locs cells slots Q (F0 m pc ls (.int v :: .int x :: .ref (ad k i) :: rest)) := by
  have hc := (hw.2.1 k i _ he).1
  refine W.zast hx hb hc ((hK.2 t0 _ ht).1 n (fun j => .int (f j))) (fun q => by cases q) (by show ¬ (x < 0 ∨ (arrV _ _ _).slots.size ≤ _); rw [arrV_size]; exact hin) rfl rfl hdg fun H1 e z oq => ?_
  refine kk H1 _ (hw.set he ?_ z oq) (hS.put z oq (hw.2.1 k i _ he).2)
  show H1[ad k i]? = some (vp_cell _ _)
  rw [e, hv, vp_cell_i, vp_cell_i, arrV_store]
  congr 2
  funext q
  by_cases hq : q = x.toNatClampNeg <;> simp [updV, va_up, hq]
theorem e_aast (hx : p.tables.exec = Jvm.exec) (hb : c.code = cc) (hK : va_K G vwCl tys s) (hw : wo G lo E ad H) (hS : va_S (fun q => lo ≤ q) H0 H locs) (t0 ci : Nat) {k' i' : Nat} {cA : ClassId} {r : vw_C} {n : Nat} {vs : List Value} {f : Nat → Option Nat} (he : E k i = some (.inl (cA, n, .inr (.inr (.inr (.inr f)))))) (ht : tys[t0]? = some (cA, .object r.1)) (hv : E k' i' = some (.inr (ci, vs))) (hcl : vwCl[ci]? = some r) {x : Int32} (hin : vp_in x n) (hdg : decode cc pc = .ok (.aastore, 1))
    (kk : ∀ (H1 : Heap) (locs1 : List Loc), wo G lo (u2 E k i (some (.inl (cA, n, .inr (.inr (.inr (.inr (va_up f x.toNatClampNeg (some (ad k' i')))))))))) ad H1 → va_S (fun q => lo ≤ q) H0 H1 locs1 → W p l e R s m args below meth c H1 locs1 cells slots Q (F0 m (pc + 1) ls rest)) : W p l e R s m args below meth c H locs cells slots Q (F0 m pc ls (.ref (ad k' i') :: .int x :: .ref (ad k i) :: rest)) := by
  have hc := (hw.2.1 k i _ he).1
  have hlt : x.toNatClampNeg < n := Nat.not_le.mp fun q => hin (Or.inr q)
  have h0 : ¬ x < 0 := fun q => hin (Or.inl q)
  obtain ⟨r', hr', cellV, g1, g2, g3, -⟩ := (hw.2.1 k' i' _ hv).1
  have hcls := (hK.1 ci r hcl).2
  obtain ⟨kA, comp, k1, k2, k3, -⟩ := (hK.2 t0 _ ht).2
  have hcomp : comp = G.1 ci := Option.some.inj (k3.symm.trans hcls.1)
  subst hcomp
  obtain ⟨kC, hkC, -⟩ := hcls.2
  refine W.aast hx hb hc (fun q h => by cases h) (fun h => by cases h) k1 k2 rfl hkC ⟨h0, by show _ < (arrV _ _ _).slots.size; rw [arrV_size]; exact hlt⟩ g1 (fun q h => by rw [g3] at h; cases h) (by rw [g2]; exact hkC) (by rw [g2]; exact va_assign hcls) rfl rfl hdg fun H1 e z oq => ?_
  refine kk H1 _ (hw.set he ?_ z oq) (hS.put z oq (hw.2.1 k i _ he).2)
  show H1[ad k i]? = some (vp_cell _ _)
  rw [e, vp_cell_q, vp_cell_q, arrV_store]
  congr 2
  funext q
  by_cases hq : q = x.toNatClampNeg <;> simp [updV, va_up, hq, va_rf]
/-- a new object: at any cell number that is free -/
theorem e_new (hx : p.tables.exec = Jvm.exec) (hb : c.code = cc) {own C : String} {T : u_T} {N ci index : Nat} {Ts : List Cond} (hts : ∀ w ∈ Ts, w.before args s = true) (hin : ∀ w ∈ u_ws C T N, w ∈ Ts) (ty : Nat → FieldType) (hty : ∀ k, k < N → parseFieldDescriptor (T k).2.2.1 = some (ty k)) (hown : s.vm.findClass own = some m.cls) (hcl : (Cond.classLink own index C).before args s = true) (hinst : (Cond.instantiable C N).before args s = true) (hini : (Cond.initialized C).before args s = true)
    (hK : va_K G vwCl tys s) (hw : wo G lo E ad H) (hS : va_S (fun q => lo ≤ q) H0 H locs) (hc : vwCl[ci]? = some (C, T, N)) (k i : Nat) (he : E k i = none) {fs : List Value} (hfs : ∀ j, j < N → defaultValue (ty j) = vp_V fs j) (hcells : cells + 1 ≤ R.cells) (hslots : slots + N ≤ R.slots) (hdg : decode cc pc = .ok (.new index, 3))
    (kk : ∀ (H1 : Heap) (ad1 : Nat → Nat → Nat), ad1 = u2 ad k i H.size → wo G lo (u2 E k i (some (.inr (ci, fs)))) ad1 H1 → va_S (fun q => lo ≤ q) H0 H1 locs → W p l e R s m args below meth c H1 locs (cells + 1) (slots + N) Q (F0 m (pc + 3) ls (.ref (ad1 k i) :: rest))) : W p l e R s m args below meth c H locs cells slots Q (F0 m pc ls rest) := by
  have hKn := hK.1 ci _ hc
  refine W.newcK hx hb hown hcl hinst hini rfl hdg hcells hslots hKn.2.1 rfl fun H1 kC hkC e1 z1 o1 => ?_
  have h1 := kk H1 (u2 ad k i H.size) rfl (hw.new he ⟨_, hc, (u_born ty hts hin hKn hkC e1 hty).to hfs⟩ z1 o1) ⟨Nat.le_trans hS.1 (by omega), fun x h1 h2 => (o1 x (Nat.lt_of_lt_of_le h1 hS.1)).trans (hS.2.1 x h1 h2), hS.2.2⟩
  rw [u2_self] at h1
  exact h1
/-- a new array of ints or booleans, its class known -/
theorem e_newa (hx : p.tables.exec = Jvm.exec) (hb : c.code = cc) {atype : ArrayType} (harr : (Cond.arrayClass (newarray.typeOf atype)).before args s = true) (hw : wo G lo E ad H) (hS : va_S (fun q => lo ≤ q) H0 H locs) (k i : Nat) (he : E k i = none)
    {n : Int32} {N : Nat} (ha : defaultValue (newarray.typeOf atype) = .int 0) (hn : ¬ n < 0) (hN : n.toNatClampNeg = N) (hbytes : N * componentBytes (newarray.typeOf atype) ≤ 536870912) (hcells : cells + 1 ≤ R.cells) (hslots : slots + N ≤ R.slots) (hdg : decode cc pc = .ok (.newarray atype, 2))
    (kk : ∀ (cA : ClassId) (H1 : Heap) (ad1 : Nat → Nat → Nat), ad1 = u2 ad k i H.size → ArrOfT s cA (newarray.typeOf atype) → s.vm.findClass ("[" ++ (newarray.typeOf atype).toString) = some cA → wo G lo (u2 E k i (some (.inl (cA, N, .inl (fun _ => 0))))) ad1 H1 → va_S (fun q => lo ≤ q) H0 H1 locs → W p l e R s m args below meth c H1 locs (cells + 1) (slots + N) Q (F0 m (pc + 2) ls (.ref (ad1 k i) :: rest))) : W p l e R s m args below meth c H locs cells slots Q (F0 m pc ls (.int n :: rest)) := by
  refine va_newaK hx hb harr rfl hdg rfl hn hN hbytes hcells hslots rfl fun H1 cA e1 z1 o1 hAr hNm => ?_
  have h1 := kk cA H1 (u2 ad k i H.size) rfl hAr hNm (hw.new he (show H1[H.size]? = some (vp_cell cA (N, .inl (fun _ => 0))) by rw [e1, ha]; rfl) z1 o1) ⟨Nat.le_trans hS.1 (by omega), fun x h1 h2 => (o1 x (Nat.lt_of_lt_of_le h1 hS.1)).trans (hS.2.1 x h1 h2), hS.2.2⟩
  rw [u2_self] at h1
  exact h1
/-- a new array of references -/
theorem e_newq (hx : p.tables.exec = Jvm.exec) (hb : c.code = cc) {own C : String} {index : Nat} (hown : s.vm.findClass own = some m.cls) (hclink : (Cond.classLink own index C).before args s = true) (hover : (Cond.arrayOver (.object C)).before args s = true) (hw : wo G lo E ad H) (hS : va_S (fun q => lo ≤ q) H0 H locs) (k i : Nat) (he : E k i = none)
    {n : Int32} {N : Nat} (hn : ¬ n < 0) (hN : n.toNatClampNeg = N) (hbytes : N * 4 ≤ 536870912) (hcells : cells + 1 ≤ R.cells) (hslots : slots + N ≤ R.slots) (hdg : decode cc pc = .ok (.anewarray index, 3))
    (kk : ∀ (cA : ClassId) (H1 : Heap) (ad1 : Nat → Nat → Nat), ad1 = u2 ad k i H.size → ArrOfT s cA (.object C) → va_RA s cA (.object C) → wo G lo (u2 E k i (some (.inl (cA, N, .inr (.inr (.inr (.inr (fun _ => none)))))))) ad1 H1 → va_S (fun q => lo ≤ q) H0 H1 locs → W p l e R s m args below meth c H1 locs (cells + 1) (slots + N) Q (F0 m (pc + 3) ls (.ref (ad1 k i) :: rest))) : W p l e R s m args below meth c H locs cells slots Q (F0 m pc ls (.int n :: rest)) := by
  subst hN
  refine W.anew hx hb hown hclink hover rfl hdg rfl hn hbytes hcells hslots fun cA kA comp f1 f2 f3 f4 => ?_
  generalize hH1 : H.push ({ cls := cA, slots := Array.replicate n.toNatClampNeg .null, vm := .none } : Cell) = H1
  have z1 : H1.size = H.size + 1 := by rw [← hH1, Array.size_push]
  have e1 : H1[H.size]? = some (arrV cA n.toNatClampNeg (fun _ => .null)) := by rw [← hH1, Array.getElem?_push_size, ← arrV_new]
  have o1 : ∀ q : Nat, q < H.size → H1[q]? = H[q]? := fun q hq => by rw [← hH1, Array.getElem?_push, if_neg (Nat.ne_of_lt hq)]
  have hAr : ArrOfT s cA (.object C) := fun N z => ⟨(fun k h => by cases h), kA, f2, comp, f3⟩
  have h1 := kk cA H1 (u2 ad k i H.size) rfl hAr ⟨kA, comp, f2, f3, f4, f1⟩ (hw.new he (show H1[H.size]? = some (vp_cell cA (n.toNatClampNeg, .inr (.inr (.inr (.inr (fun _ => none)))))) by rw [e1]; rfl) z1 o1) ⟨Nat.le_trans hS.1 (by omega), fun x h1 h2 => (o1 x (Nat.lt_of_lt_of_le h1 hS.1)).trans (hS.2.1 x h1 h2), hS.2.2⟩
  rw [u2_self] at h1
  exact h1
end LE
end
section
/-! THE STATE. sc s k i: the number at place i of component k: 0 counters (gates, ramps, berths, arrived, gone, towed, alarms), 1 shut, 2 taken (gates), 3 passed, 4 limit, 5 wear, 6 taken (ramps), 7 gate of, 8 ramp of, 9 ferry of, 10 in the lane, 12 room, 13 load, 14 aboard; rows: s 11 b the lane of berth b, s 15 f the deck of ferry f. -/
abbrev St : Type := Nat → Nat → Nat → Int32
abbrev sc (s : St) (k i : Nat) : Int32 := s k i 0
abbrev us (s : St) (k i : Nat) (v : Int32) : St := u2 s k i (fun _ => v)
abbrev YT : Type := ClassId × ClassId × ClassId × ClassId × ClassId
abbrev tysY (Y : YT) : List (ClassId × FieldType) := [(Y.1, .int), (Y.2.1, .boolean), (Y.2.2.1, .object RX2), (Y.2.2.2.1, .object RX3), (Y.2.2.2.2, .object RX0)]
def oref (x : Int32) (f : Nat → Nat) : Option Nat := if x = -1 then none else some (f x.toNatClampNeg)
abbrev refs (c : ClassId) (n k : Nat) (f : Nat → Nat) : va_E := .inl (c, n, .inr (.inr (.inr (.inr (fun j => if j < k then some (f j) else none)))))
abbrev cFQ (s : St) (ad : Nat → Nat → Nat) : va_E := .inr (5, [.ref (ad 0 1), .ref (ad 0 2), .ref (ad 0 3), .int (sc s 0 0), .int (sc s 0 1), .int (sc s 0 2), .int (sc s 0 3), .int (sc s 0 4), .int (sc s 0 5), .int (sc s 0 6)])
abbrev cMO (s : St) (ad : Nat → Nat → Nat) : va_E := .inr (6, [.int (sc s 0 0), .int (sc s 0 1), .int (sc s 0 2), .int (sc s 0 3), .int (sc s 0 4), .int (sc s 0 5), .int (sc s 0 6), .ref (ad 9 1), .ref (ad 9 2), .ref (ad 9 3), .ref (ad 9 4), .ref (ad 9 5), .ref (ad 9 6), .ref (ad 9 7), .ref (ad 9 8), .ref (ad 9 9), .ref (ad 9 10), .ref (ad 9 11), .ref (ad 9 12), .ref (ad 9 13), .ref (ad 9 14), .ref (ad 9 15)])
abbrev cGate (s : St) (i : Nat) : va_E := .inr (2, [.int (nI i), .int (sc s 1 i), .int (sc s 2 i), .int (sc s 3 i)])
abbrev cRamp (s : St) (i : Nat) : va_E := .inr (3, [.int (nI i), .int (sc s 4 i), .int (sc s 6 i), .int (sc s 5 i)])
abbrev cBerth (s : St) (ad : Nat → Nat → Nat) (i : Nat) : va_E := .inr (0, [.ref (ad 4 i), .ref (ad 6 (sc s 9 i).toNatClampNeg), va_rf (oref (sc s 7 i) (ad 1)), va_rf (oref (sc s 8 i) (ad 2))])
abbrev cLane (s : St) (ad : Nat → Nat → Nat) (i : Nat) : va_E := .inr (4, [.ref (ad 5 i), .int (sc s 10 i)])
abbrev cFerry (s : St) (ad : Nat → Nat → Nat) (i : Nat) : va_E := .inr (1, [.int (sc s 12 i), .ref (ad 7 i), .int (sc s 13 i)])
abbrev cFrow (s : St) (ad : Nat → Nat → Nat) (i : Nat) : va_E := .inr (4, [.ref (ad 8 i), .int (sc s 14 i)])
def Ew (Y : YT) (ng nr nb : Nat) (s u : St) (ad : Nat → Nat → Nat) : Nat → Nat → Option va_E := fun k i => match k with
  | 0 => match i with
    | 0 => some (cFQ s ad)
    | 1 => some (refs Y.2.2.1 16 ng (ad 1))
    | 2 => some (refs Y.2.2.2.1 16 nr (ad 2))
    | 3 => some (refs Y.2.2.2.2 8 nb (ad 3))
    | 4 => some (cMO u ad)
    | _ => none
  | 1 => if i < ng then some (cGate s i) else none
  | 2 => if i < nr then some (cRamp s i) else none
  | 3 => if i < nb then some (cBerth s ad i) else none
  | 4 => if i < nb then some (cLane s ad i) else none
  | 5 => if i < nb then some (.inl (Y.1, 30, .inl (s 11 i))) else none
  | 6 => if i < nb then some (cFerry s ad i) else none
  | 7 => if i < nb then some (cFrow s ad i) else none
  | 8 => if i < nb then some (.inl (Y.1, 40, .inl (s 15 i))) else none
  | 9 => match i with
    | 1 => some (.inl (Y.2.1, 16, .inl (fun x => sc u 1 x)))
    | 2 => some (.inl (Y.1, 16, .inl (fun x => sc u 2 x)))
    | 3 => some (.inl (Y.1, 16, .inl (fun x => sc u 3 x)))
    | 4 => some (.inl (Y.1, 16, .inl (fun x => sc u 4 x)))
    | 5 => some (.inl (Y.1, 16, .inl (fun x => sc u 5 x)))
    | 6 => some (.inl (Y.1, 16, .inl (fun x => sc u 6 x)))
    | 7 => some (.inl (Y.1, 8, .inl (fun x => sc u 7 x)))
    | 8 => some (.inl (Y.1, 8, .inl (fun x => sc u 8 x)))
    | 9 => some (.inl (Y.1, 8, .inl (fun x => sc u 9 x)))
    | 10 => some (.inl (Y.1, 8, .inl (fun x => sc u 10 x)))
    | 11 => some (.inl (Y.1, 240, .inl (fun x => u 11 (x / 30) (x % 30))))
    | 12 => some (.inl (Y.1, 8, .inl (fun x => sc u 12 x)))
    | 13 => some (.inl (Y.1, 8, .inl (fun x => sc u 13 x)))
    | 14 => some (.inl (Y.1, 8, .inl (fun x => sc u 14 x)))
    | 15 => some (.inl (Y.1, 320, .inl (fun x => u 15 (x / 40) (x % 40))))
    | _ => none
  | _ => none
section EW
variable {Y : YT} {ng nr nb : Nat} {s u : St} {ad : Nat → Nat → Nat}
theorem Ew_fq : Ew Y ng nr nb s u ad 0 0 = some (cFQ s ad) := rfl
theorem Ew_ga : Ew Y ng nr nb s u ad 0 1 = some (refs Y.2.2.1 16 ng (ad 1)) := rfl
theorem Ew_ra : Ew Y ng nr nb s u ad 0 2 = some (refs Y.2.2.2.1 16 nr (ad 2)) := rfl
theorem Ew_ba : Ew Y ng nr nb s u ad 0 3 = some (refs Y.2.2.2.2 8 nb (ad 3)) := rfl
theorem Ew_mo : Ew Y ng nr nb s u ad 0 4 = some (cMO u ad) := rfl
theorem Ew_gate {i : Nat} (h : i < ng) : Ew Y ng nr nb s u ad 1 i = some (cGate s i) := if_pos h
theorem Ew_ramp {i : Nat} (h : i < nr) : Ew Y ng nr nb s u ad 2 i = some (cRamp s i) := if_pos h
theorem Ew_berth {i : Nat} (h : i < nb) : Ew Y ng nr nb s u ad 3 i = some (cBerth s ad i) := if_pos h
theorem Ew_lane {i : Nat} (h : i < nb) : Ew Y ng nr nb s u ad 4 i = some (cLane s ad i) := if_pos h
theorem Ew_larr {i : Nat} (h : i < nb) : Ew Y ng nr nb s u ad 5 i = some (.inl (Y.1, 30, .inl (s 11 i))) := if_pos h
theorem Ew_ferry {i : Nat} (h : i < nb) : Ew Y ng nr nb s u ad 6 i = some (cFerry s ad i) := if_pos h
theorem Ew_frow {i : Nat} (h : i < nb) : Ew Y ng nr nb s u ad 7 i = some (cFrow s ad i) := if_pos h
theorem Ew_farr {i : Nat} (h : i < nb) : Ew Y ng nr nb s u ad 8 i = some (.inl (Y.1, 40, .inl (s 15 i))) := if_pos h
theorem Ew_m1 : Ew Y ng nr nb s u ad 9 1 = some (.inl (Y.2.1, 16, .inl (fun x => sc u 1 x))) := rfl
theorem Ew_m2 : Ew Y ng nr nb s u ad 9 2 = some (.inl (Y.1, 16, .inl (fun x => sc u 2 x))) := rfl
theorem Ew_m3 : Ew Y ng nr nb s u ad 9 3 = some (.inl (Y.1, 16, .inl (fun x => sc u 3 x))) := rfl
theorem Ew_m4 : Ew Y ng nr nb s u ad 9 4 = some (.inl (Y.1, 16, .inl (fun x => sc u 4 x))) := rfl
theorem Ew_m5 : Ew Y ng nr nb s u ad 9 5 = some (.inl (Y.1, 16, .inl (fun x => sc u 5 x))) := rfl
theorem Ew_m6 : Ew Y ng nr nb s u ad 9 6 = some (.inl (Y.1, 16, .inl (fun x => sc u 6 x))) := rfl
theorem Ew_m7 : Ew Y ng nr nb s u ad 9 7 = some (.inl (Y.1, 8, .inl (fun x => sc u 7 x))) := rfl
theorem Ew_m8 : Ew Y ng nr nb s u ad 9 8 = some (.inl (Y.1, 8, .inl (fun x => sc u 8 x))) := rfl
theorem Ew_m9 : Ew Y ng nr nb s u ad 9 9 = some (.inl (Y.1, 8, .inl (fun x => sc u 9 x))) := rfl
theorem Ew_m10 : Ew Y ng nr nb s u ad 9 10 = some (.inl (Y.1, 8, .inl (fun x => sc u 10 x))) := rfl
theorem Ew_m11 : Ew Y ng nr nb s u ad 9 11 = some (.inl (Y.1, 240, .inl (fun x => u 11 (x / 30) (x % 30)))) := rfl
theorem Ew_m12 : Ew Y ng nr nb s u ad 9 12 = some (.inl (Y.1, 8, .inl (fun x => sc u 12 x))) := rfl
theorem Ew_m13 : Ew Y ng nr nb s u ad 9 13 = some (.inl (Y.1, 8, .inl (fun x => sc u 13 x))) := rfl
theorem Ew_m14 : Ew Y ng nr nb s u ad 9 14 = some (.inl (Y.1, 8, .inl (fun x => sc u 14 x))) := rfl
theorem Ew_m15 : Ew Y ng nr nb s u ad 9 15 = some (.inl (Y.1, 320, .inl (fun x => u 15 (x / 40) (x % 40)))) := rfl
theorem Ewk0 : Ew Y ng nr nb s u ad 0 = fun i => match i with | 0 => some (cFQ s ad) | 1 => some (refs Y.2.2.1 16 ng (ad 1)) | 2 => some (refs Y.2.2.2.1 16 nr (ad 2)) | 3 => some (refs Y.2.2.2.2 8 nb (ad 3)) | 4 => some (cMO u ad) | _ => none := rfl
theorem Ewk1 : Ew Y ng nr nb s u ad 1 = fun i => if i < ng then some (cGate s i) else none := rfl
theorem Ewk2 : Ew Y ng nr nb s u ad 2 = fun i => if i < nr then some (cRamp s i) else none := rfl
theorem Ewk3 : Ew Y ng nr nb s u ad 3 = fun i => if i < nb then some (cBerth s ad i) else none := rfl
theorem Ewk4 : Ew Y ng nr nb s u ad 4 = fun i => if i < nb then some (cLane s ad i) else none := rfl
theorem Ewk5 : Ew Y ng nr nb s u ad 5 = fun i => if i < nb then some (.inl (Y.1, 30, .inl (s 11 i))) else none := rfl
theorem Ewk6 : Ew Y ng nr nb s u ad 6 = fun i => if i < nb then some (cFerry s ad i) else none := rfl
theorem Ewk7 : Ew Y ng nr nb s u ad 7 = fun i => if i < nb then some (cFrow s ad i) else none := rfl
theorem Ewk8 : Ew Y ng nr nb s u ad 8 = fun i => if i < nb then some (.inl (Y.1, 40, .inl (s 15 i))) else none := rfl
theorem Ew_m0 : Ew Y ng nr nb s u ad 9 0 = none := rfl
theorem Ew_m16 {n : Nat} : Ew Y ng nr nb s u ad 9 (n + 16) = none := rfl
theorem Ew_k10 {n i : Nat} : Ew Y ng nr nb s u ad (n + 10) i = none := rfl
theorem Ewk9 {s2 : St} : Ew Y ng nr nb s u ad 9 = Ew Y ng nr nb s2 u ad 9 := by
  funext i
  match i with
  | 0 => exact (Ew_m0 (s := s)).trans (Ew_m0 (s := s2)).symm
  | 1 => exact (Ew_m1 (s := s)).trans (Ew_m1 (s := s2)).symm
  | 2 => exact (Ew_m2 (s := s)).trans (Ew_m2 (s := s2)).symm
  | 3 => exact (Ew_m3 (s := s)).trans (Ew_m3 (s := s2)).symm
  | 4 => exact (Ew_m4 (s := s)).trans (Ew_m4 (s := s2)).symm
  | 5 => exact (Ew_m5 (s := s)).trans (Ew_m5 (s := s2)).symm
  | 6 => exact (Ew_m6 (s := s)).trans (Ew_m6 (s := s2)).symm
  | 7 => exact (Ew_m7 (s := s)).trans (Ew_m7 (s := s2)).symm
  | 8 => exact (Ew_m8 (s := s)).trans (Ew_m8 (s := s2)).symm
  | 9 => exact (Ew_m9 (s := s)).trans (Ew_m9 (s := s2)).symm
  | 10 => exact (Ew_m10 (s := s)).trans (Ew_m10 (s := s2)).symm
  | 11 => exact (Ew_m11 (s := s)).trans (Ew_m11 (s := s2)).symm
  | 12 => exact (Ew_m12 (s := s)).trans (Ew_m12 (s := s2)).symm
  | 13 => exact (Ew_m13 (s := s)).trans (Ew_m13 (s := s2)).symm
  | 14 => exact (Ew_m14 (s := s)).trans (Ew_m14 (s := s2)).symm
  | 15 => exact (Ew_m15 (s := s)).trans (Ew_m15 (s := s2)).symm
  | _ + 16 => exact (Ew_m16 (s := s)).trans (Ew_m16 (s := s2)).symm
theorem Ewk10 {s2 v2 : St} {n : Nat} : Ew Y ng nr nb s u ad (n + 10) = Ew Y ng nr nb s2 v2 ad (n + 10) := by
  funext i
  exact (Ew_k10 (s := s) (u := u)).trans (Ew_k10 (s := s2) (u := v2)).symm
theorem u2_eq {α : Type} {f F : Nat → Nat → α} {k i : Nat} {v : α} (h1 : F k i = v) (h2 : ∀ i', i' ≠ i → F k i' = f k i') (h3 : ∀ k', k' ≠ k → F k' = f k') : u2 f k i v = F := by
  funext k' i'
  by_cases hk : k' = k
  · subst hk
    by_cases hi : i' = i
    · subst hi
      rw [u2_self, h1]
    · rw [u2_i hi, h2 i' hi]
  · rw [u2_k hk, h3 k' hk]
theorem Ep_fq0 {v : Int32} : u2 (Ew Y ng nr nb s u ad) 0 0 (some (.inr (5, [.ref (ad 0 1), .ref (ad 0 2), .ref (ad 0 3), .int v, .int (sc s 0 1), .int (sc s 0 2), .int (sc s 0 3), .int (sc s 0 4), .int (sc s 0 5), .int (sc s 0 6)]))) = Ew Y ng nr nb (us s 0 0 v) u ad := by
  refine u2_eq ?_ (fun i' hi => ?_) (fun k' hk => ?_)
  · rfl
  · match i', hi with
    | 0, h => first | exact absurd rfl h | rfl
    | 1, _ => rfl
    | 2, _ => rfl
    | 3, _ => rfl
    | 4, h => first | exact absurd rfl h | rfl
    | _ + 5, _ => rfl
  · match k', hk with
    | 0, h => exact absurd rfl h
    | 1, _ => rfl
    | 2, _ => rfl
    | 3, _ => rfl
    | 4, _ => rfl
    | 5, _ => rfl
    | 6, _ => rfl
    | 7, _ => rfl
    | 8, _ => rfl
    | 9, _ => rfl
    | _ + 10, _ => rfl
theorem Ep_mo0 {v : Int32} : u2 (Ew Y ng nr nb s u ad) 0 4 (some (.inr (6, [.int v, .int (sc u 0 1), .int (sc u 0 2), .int (sc u 0 3), .int (sc u 0 4), .int (sc u 0 5), .int (sc u 0 6), .ref (ad 9 1), .ref (ad 9 2), .ref (ad 9 3), .ref (ad 9 4), .ref (ad 9 5), .ref (ad 9 6), .ref (ad 9 7), .ref (ad 9 8), .ref (ad 9 9), .ref (ad 9 10), .ref (ad 9 11), .ref (ad 9 12), .ref (ad 9 13), .ref (ad 9 14), .ref (ad 9 15)]))) = Ew Y ng nr nb s (us u 0 0 v) ad := by
  refine u2_eq ?_ (fun i' hi => ?_) (fun k' hk => ?_)
  · rfl
  · match i', hi with
    | 0, h => first | exact absurd rfl h | rfl
    | 1, _ => rfl
    | 2, _ => rfl
    | 3, _ => rfl
    | 4, h => first | exact absurd rfl h | rfl
    | _ + 5, _ => rfl
  · match k', hk with
    | 0, h => exact absurd rfl h
    | 1, _ => rfl
    | 2, _ => rfl
    | 3, _ => rfl
    | 4, _ => rfl
    | 5, _ => rfl
    | 6, _ => rfl
    | 7, _ => rfl
    | 8, _ => rfl
    | 9, _ => rfl
    | _ + 10, _ => rfl
theorem Ep_fq1 {v : Int32} : u2 (Ew Y ng nr nb s u ad) 0 0 (some (.inr (5, [.ref (ad 0 1), .ref (ad 0 2), .ref (ad 0 3), .int (sc s 0 0), .int v, .int (sc s 0 2), .int (sc s 0 3), .int (sc s 0 4), .int (sc s 0 5), .int (sc s 0 6)]))) = Ew Y ng nr nb (us s 0 1 v) u ad := by
  refine u2_eq ?_ (fun i' hi => ?_) (fun k' hk => ?_)
  · rfl
  · match i', hi with
    | 0, h => first | exact absurd rfl h | rfl
    | 1, _ => rfl
    | 2, _ => rfl
    | 3, _ => rfl
    | 4, h => first | exact absurd rfl h | rfl
    | _ + 5, _ => rfl
  · match k', hk with
    | 0, h => exact absurd rfl h
    | 1, _ => rfl
    | 2, _ => rfl
    | 3, _ => rfl
    | 4, _ => rfl
    | 5, _ => rfl
    | 6, _ => rfl
    | 7, _ => rfl
    | 8, _ => rfl
    | 9, _ => rfl
    | _ + 10, _ => rfl
theorem Ep_mo1 {v : Int32} : u2 (Ew Y ng nr nb s u ad) 0 4 (some (.inr (6, [.int (sc u 0 0), .int v, .int (sc u 0 2), .int (sc u 0 3), .int (sc u 0 4), .int (sc u 0 5), .int (sc u 0 6), .ref (ad 9 1), .ref (ad 9 2), .ref (ad 9 3), .ref (ad 9 4), .ref (ad 9 5), .ref (ad 9 6), .ref (ad 9 7), .ref (ad 9 8), .ref (ad 9 9), .ref (ad 9 10), .ref (ad 9 11), .ref (ad 9 12), .ref (ad 9 13), .ref (ad 9 14), .ref (ad 9 15)]))) = Ew Y ng nr nb s (us u 0 1 v) ad := by
  refine u2_eq ?_ (fun i' hi => ?_) (fun k' hk => ?_)
  · rfl
  · match i', hi with
    | 0, h => first | exact absurd rfl h | rfl
    | 1, _ => rfl
    | 2, _ => rfl
    | 3, _ => rfl
    | 4, h => first | exact absurd rfl h | rfl
    | _ + 5, _ => rfl
  · match k', hk with
    | 0, h => exact absurd rfl h
    | 1, _ => rfl
    | 2, _ => rfl
    | 3, _ => rfl
    | 4, _ => rfl
    | 5, _ => rfl
    | 6, _ => rfl
    | 7, _ => rfl
    | 8, _ => rfl
    | 9, _ => rfl
    | _ + 10, _ => rfl
theorem Ep_fq2 {v : Int32} : u2 (Ew Y ng nr nb s u ad) 0 0 (some (.inr (5, [.ref (ad 0 1), .ref (ad 0 2), .ref (ad 0 3), .int (sc s 0 0), .int (sc s 0 1), .int v, .int (sc s 0 3), .int (sc s 0 4), .int (sc s 0 5), .int (sc s 0 6)]))) = Ew Y ng nr nb (us s 0 2 v) u ad := by
  refine u2_eq ?_ (fun i' hi => ?_) (fun k' hk => ?_)
  · rfl
  · match i', hi with
    | 0, h => first | exact absurd rfl h | rfl
    | 1, _ => rfl
    | 2, _ => rfl
    | 3, _ => rfl
    | 4, h => first | exact absurd rfl h | rfl
    | _ + 5, _ => rfl
  · match k', hk with
    | 0, h => exact absurd rfl h
    | 1, _ => rfl
    | 2, _ => rfl
    | 3, _ => rfl
    | 4, _ => rfl
    | 5, _ => rfl
    | 6, _ => rfl
    | 7, _ => rfl
    | 8, _ => rfl
    | 9, _ => rfl
    | _ + 10, _ => rfl
theorem Ep_mo2 {v : Int32} : u2 (Ew Y ng nr nb s u ad) 0 4 (some (.inr (6, [.int (sc u 0 0), .int (sc u 0 1), .int v, .int (sc u 0 3), .int (sc u 0 4), .int (sc u 0 5), .int (sc u 0 6), .ref (ad 9 1), .ref (ad 9 2), .ref (ad 9 3), .ref (ad 9 4), .ref (ad 9 5), .ref (ad 9 6), .ref (ad 9 7), .ref (ad 9 8), .ref (ad 9 9), .ref (ad 9 10), .ref (ad 9 11), .ref (ad 9 12), .ref (ad 9 13), .ref (ad 9 14), .ref (ad 9 15)]))) = Ew Y ng nr nb s (us u 0 2 v) ad := by
  refine u2_eq ?_ (fun i' hi => ?_) (fun k' hk => ?_)
  · rfl
  · match i', hi with
    | 0, h => first | exact absurd rfl h | rfl
    | 1, _ => rfl
    | 2, _ => rfl
    | 3, _ => rfl
    | 4, h => first | exact absurd rfl h | rfl
    | _ + 5, _ => rfl
  · match k', hk with
    | 0, h => exact absurd rfl h
    | 1, _ => rfl
    | 2, _ => rfl
    | 3, _ => rfl
    | 4, _ => rfl
    | 5, _ => rfl
    | 6, _ => rfl
    | 7, _ => rfl
    | 8, _ => rfl
    | 9, _ => rfl
    | _ + 10, _ => rfl
theorem Ep_fq3 {v : Int32} : u2 (Ew Y ng nr nb s u ad) 0 0 (some (.inr (5, [.ref (ad 0 1), .ref (ad 0 2), .ref (ad 0 3), .int (sc s 0 0), .int (sc s 0 1), .int (sc s 0 2), .int v, .int (sc s 0 4), .int (sc s 0 5), .int (sc s 0 6)]))) = Ew Y ng nr nb (us s 0 3 v) u ad := by
  refine u2_eq ?_ (fun i' hi => ?_) (fun k' hk => ?_)
  · rfl
  · match i', hi with
    | 0, h => first | exact absurd rfl h | rfl
    | 1, _ => rfl
    | 2, _ => rfl
    | 3, _ => rfl
    | 4, h => first | exact absurd rfl h | rfl
    | _ + 5, _ => rfl
  · match k', hk with
    | 0, h => exact absurd rfl h
    | 1, _ => rfl
    | 2, _ => rfl
    | 3, _ => rfl
    | 4, _ => rfl
    | 5, _ => rfl
    | 6, _ => rfl
    | 7, _ => rfl
    | 8, _ => rfl
    | 9, _ => rfl
    | _ + 10, _ => rfl
theorem Ep_mo3 {v : Int32} : u2 (Ew Y ng nr nb s u ad) 0 4 (some (.inr (6, [.int (sc u 0 0), .int (sc u 0 1), .int (sc u 0 2), .int v, .int (sc u 0 4), .int (sc u 0 5), .int (sc u 0 6), .ref (ad 9 1), .ref (ad 9 2), .ref (ad 9 3), .ref (ad 9 4), .ref (ad 9 5), .ref (ad 9 6), .ref (ad 9 7), .ref (ad 9 8), .ref (ad 9 9), .ref (ad 9 10), .ref (ad 9 11), .ref (ad 9 12), .ref (ad 9 13), .ref (ad 9 14), .ref (ad 9 15)]))) = Ew Y ng nr nb s (us u 0 3 v) ad := by
  refine u2_eq ?_ (fun i' hi => ?_) (fun k' hk => ?_)
  · rfl
  · match i', hi with
    | 0, h => first | exact absurd rfl h | rfl
    | 1, _ => rfl
    | 2, _ => rfl
    | 3, _ => rfl
    | 4, h => first | exact absurd rfl h | rfl
    | _ + 5, _ => rfl
  · match k', hk with
    | 0, h => exact absurd rfl h
    | 1, _ => rfl
    | 2, _ => rfl
    | 3, _ => rfl
    | 4, _ => rfl
    | 5, _ => rfl
    | 6, _ => rfl
    | 7, _ => rfl
    | 8, _ => rfl
    | 9, _ => rfl
    | _ + 10, _ => rfl
theorem Ep_fq4 {v : Int32} : u2 (Ew Y ng nr nb s u ad) 0 0 (some (.inr (5, [.ref (ad 0 1), .ref (ad 0 2), .ref (ad 0 3), .int (sc s 0 0), .int (sc s 0 1), .int (sc s 0 2), .int (sc s 0 3), .int v, .int (sc s 0 5), .int (sc s 0 6)]))) = Ew Y ng nr nb (us s 0 4 v) u ad := by
  refine u2_eq ?_ (fun i' hi => ?_) (fun k' hk => ?_)
  · rfl
  · match i', hi with
    | 0, h => first | exact absurd rfl h | rfl
    | 1, _ => rfl
    | 2, _ => rfl
    | 3, _ => rfl
    | 4, h => first | exact absurd rfl h | rfl
    | _ + 5, _ => rfl
  · match k', hk with
    | 0, h => exact absurd rfl h
    | 1, _ => rfl
    | 2, _ => rfl
    | 3, _ => rfl
    | 4, _ => rfl
    | 5, _ => rfl
    | 6, _ => rfl
    | 7, _ => rfl
    | 8, _ => rfl
    | 9, _ => rfl
    | _ + 10, _ => rfl
theorem Ep_mo4 {v : Int32} : u2 (Ew Y ng nr nb s u ad) 0 4 (some (.inr (6, [.int (sc u 0 0), .int (sc u 0 1), .int (sc u 0 2), .int (sc u 0 3), .int v, .int (sc u 0 5), .int (sc u 0 6), .ref (ad 9 1), .ref (ad 9 2), .ref (ad 9 3), .ref (ad 9 4), .ref (ad 9 5), .ref (ad 9 6), .ref (ad 9 7), .ref (ad 9 8), .ref (ad 9 9), .ref (ad 9 10), .ref (ad 9 11), .ref (ad 9 12), .ref (ad 9 13), .ref (ad 9 14), .ref (ad 9 15)]))) = Ew Y ng nr nb s (us u 0 4 v) ad := by
  refine u2_eq ?_ (fun i' hi => ?_) (fun k' hk => ?_)
  · rfl
  · match i', hi with
    | 0, h => first | exact absurd rfl h | rfl
    | 1, _ => rfl
    | 2, _ => rfl
    | 3, _ => rfl
    | 4, h => first | exact absurd rfl h | rfl
    | _ + 5, _ => rfl
  · match k', hk with
    | 0, h => exact absurd rfl h
    | 1, _ => rfl
    | 2, _ => rfl
    | 3, _ => rfl
    | 4, _ => rfl
    | 5, _ => rfl
    | 6, _ => rfl
    | 7, _ => rfl
    | 8, _ => rfl
    | 9, _ => rfl
    | _ + 10, _ => rfl
theorem Ep_fq5 {v : Int32} : u2 (Ew Y ng nr nb s u ad) 0 0 (some (.inr (5, [.ref (ad 0 1), .ref (ad 0 2), .ref (ad 0 3), .int (sc s 0 0), .int (sc s 0 1), .int (sc s 0 2), .int (sc s 0 3), .int (sc s 0 4), .int v, .int (sc s 0 6)]))) = Ew Y ng nr nb (us s 0 5 v) u ad := by
  refine u2_eq ?_ (fun i' hi => ?_) (fun k' hk => ?_)
  · rfl
  · match i', hi with
    | 0, h => first | exact absurd rfl h | rfl
    | 1, _ => rfl
    | 2, _ => rfl
    | 3, _ => rfl
    | 4, h => first | exact absurd rfl h | rfl
    | _ + 5, _ => rfl
  · match k', hk with
    | 0, h => exact absurd rfl h
    | 1, _ => rfl
    | 2, _ => rfl
    | 3, _ => rfl
    | 4, _ => rfl
    | 5, _ => rfl
    | 6, _ => rfl
    | 7, _ => rfl
    | 8, _ => rfl
    | 9, _ => rfl
    | _ + 10, _ => rfl
theorem Ep_mo5 {v : Int32} : u2 (Ew Y ng nr nb s u ad) 0 4 (some (.inr (6, [.int (sc u 0 0), .int (sc u 0 1), .int (sc u 0 2), .int (sc u 0 3), .int (sc u 0 4), .int v, .int (sc u 0 6), .ref (ad 9 1), .ref (ad 9 2), .ref (ad 9 3), .ref (ad 9 4), .ref (ad 9 5), .ref (ad 9 6), .ref (ad 9 7), .ref (ad 9 8), .ref (ad 9 9), .ref (ad 9 10), .ref (ad 9 11), .ref (ad 9 12), .ref (ad 9 13), .ref (ad 9 14), .ref (ad 9 15)]))) = Ew Y ng nr nb s (us u 0 5 v) ad := by
  refine u2_eq ?_ (fun i' hi => ?_) (fun k' hk => ?_)
  · rfl
  · match i', hi with
    | 0, h => first | exact absurd rfl h | rfl
    | 1, _ => rfl
    | 2, _ => rfl
    | 3, _ => rfl
    | 4, h => first | exact absurd rfl h | rfl
    | _ + 5, _ => rfl
  · match k', hk with
    | 0, h => exact absurd rfl h
    | 1, _ => rfl
    | 2, _ => rfl
    | 3, _ => rfl
    | 4, _ => rfl
    | 5, _ => rfl
    | 6, _ => rfl
    | 7, _ => rfl
    | 8, _ => rfl
    | 9, _ => rfl
    | _ + 10, _ => rfl
theorem Ep_fq6 {v : Int32} : u2 (Ew Y ng nr nb s u ad) 0 0 (some (.inr (5, [.ref (ad 0 1), .ref (ad 0 2), .ref (ad 0 3), .int (sc s 0 0), .int (sc s 0 1), .int (sc s 0 2), .int (sc s 0 3), .int (sc s 0 4), .int (sc s 0 5), .int v]))) = Ew Y ng nr nb (us s 0 6 v) u ad := by
  refine u2_eq ?_ (fun i' hi => ?_) (fun k' hk => ?_)
  · rfl
  · match i', hi with
    | 0, h => first | exact absurd rfl h | rfl
    | 1, _ => rfl
    | 2, _ => rfl
    | 3, _ => rfl
    | 4, h => first | exact absurd rfl h | rfl
    | _ + 5, _ => rfl
  · match k', hk with
    | 0, h => exact absurd rfl h
    | 1, _ => rfl
    | 2, _ => rfl
    | 3, _ => rfl
    | 4, _ => rfl
    | 5, _ => rfl
    | 6, _ => rfl
    | 7, _ => rfl
    | 8, _ => rfl
    | 9, _ => rfl
    | _ + 10, _ => rfl
theorem Ep_mo6 {v : Int32} : u2 (Ew Y ng nr nb s u ad) 0 4 (some (.inr (6, [.int (sc u 0 0), .int (sc u 0 1), .int (sc u 0 2), .int (sc u 0 3), .int (sc u 0 4), .int (sc u 0 5), .int v, .ref (ad 9 1), .ref (ad 9 2), .ref (ad 9 3), .ref (ad 9 4), .ref (ad 9 5), .ref (ad 9 6), .ref (ad 9 7), .ref (ad 9 8), .ref (ad 9 9), .ref (ad 9 10), .ref (ad 9 11), .ref (ad 9 12), .ref (ad 9 13), .ref (ad 9 14), .ref (ad 9 15)]))) = Ew Y ng nr nb s (us u 0 6 v) ad := by
  refine u2_eq ?_ (fun i' hi => ?_) (fun k' hk => ?_)
  · rfl
  · match i', hi with
    | 0, h => first | exact absurd rfl h | rfl
    | 1, _ => rfl
    | 2, _ => rfl
    | 3, _ => rfl
    | 4, h => first | exact absurd rfl h | rfl
    | _ + 5, _ => rfl
  · match k', hk with
    | 0, h => exact absurd rfl h
    | 1, _ => rfl
    | 2, _ => rfl
    | 3, _ => rfl
    | 4, _ => rfl
    | 5, _ => rfl
    | 6, _ => rfl
    | 7, _ => rfl
    | 8, _ => rfl
    | 9, _ => rfl
    | _ + 10, _ => rfl
theorem Ep_gate1 {i : Nat} {v : Int32} (h : i < ng) : u2 (Ew Y ng nr nb s u ad) 1 i (some (.inr (2, [.int (nI i), .int v, .int (sc s 2 i), .int (sc s 3 i)]))) = Ew Y ng nr nb (us s 1 i v) u ad := by
  refine u2_eq ?_ (fun i' hi => ?_) (fun k' hk => ?_)
  · simp [Ew, sc, us, cGate, cRamp, cBerth, cLane, cFerry, cFrow, u2, va_up, h]
  · simp [Ew, sc, us, cGate, cRamp, cBerth, cLane, cFerry, cFrow, u2, va_up, hi]
  · match k', hk with
    | 0, _ => rfl
    | 1, h => exact absurd rfl h
    | 2, _ => rfl
    | 3, _ => rfl
    | 4, _ => rfl
    | 5, _ => rfl
    | 6, _ => rfl
    | 7, _ => rfl
    | 8, _ => rfl
    | 9, _ => rfl
    | _ + 10, _ => rfl
theorem Ep_gate2 {i : Nat} {v : Int32} (h : i < ng) : u2 (Ew Y ng nr nb s u ad) 1 i (some (.inr (2, [.int (nI i), .int (sc s 1 i), .int v, .int (sc s 3 i)]))) = Ew Y ng nr nb (us s 2 i v) u ad := by
  refine u2_eq ?_ (fun i' hi => ?_) (fun k' hk => ?_)
  · simp [Ew, sc, us, cGate, cRamp, cBerth, cLane, cFerry, cFrow, u2, va_up, h]
  · simp [Ew, sc, us, cGate, cRamp, cBerth, cLane, cFerry, cFrow, u2, va_up, hi]
  · match k', hk with
    | 0, _ => rfl
    | 1, h => exact absurd rfl h
    | 2, _ => rfl
    | 3, _ => rfl
    | 4, _ => rfl
    | 5, _ => rfl
    | 6, _ => rfl
    | 7, _ => rfl
    | 8, _ => rfl
    | 9, _ => rfl
    | _ + 10, _ => rfl
theorem Ep_gate3 {i : Nat} {v : Int32} (h : i < ng) : u2 (Ew Y ng nr nb s u ad) 1 i (some (.inr (2, [.int (nI i), .int (sc s 1 i), .int (sc s 2 i), .int v]))) = Ew Y ng nr nb (us s 3 i v) u ad := by
  refine u2_eq ?_ (fun i' hi => ?_) (fun k' hk => ?_)
  · simp [Ew, sc, us, cGate, cRamp, cBerth, cLane, cFerry, cFrow, u2, va_up, h]
  · simp [Ew, sc, us, cGate, cRamp, cBerth, cLane, cFerry, cFrow, u2, va_up, hi]
  · match k', hk with
    | 0, _ => rfl
    | 1, h => exact absurd rfl h
    | 2, _ => rfl
    | 3, _ => rfl
    | 4, _ => rfl
    | 5, _ => rfl
    | 6, _ => rfl
    | 7, _ => rfl
    | 8, _ => rfl
    | 9, _ => rfl
    | _ + 10, _ => rfl
theorem Ep_ramp2 {i : Nat} {v : Int32} (h : i < nr) : u2 (Ew Y ng nr nb s u ad) 2 i (some (.inr (3, [.int (nI i), .int (sc s 4 i), .int v, .int (sc s 5 i)]))) = Ew Y ng nr nb (us s 6 i v) u ad := by
  refine u2_eq ?_ (fun i' hi => ?_) (fun k' hk => ?_)
  · simp [Ew, sc, us, cGate, cRamp, cBerth, cLane, cFerry, cFrow, u2, va_up, h]
  · simp [Ew, sc, us, cGate, cRamp, cBerth, cLane, cFerry, cFrow, u2, va_up, hi]
  · match k', hk with
    | 0, _ => rfl
    | 1, _ => rfl
    | 2, h => exact absurd rfl h
    | 3, _ => rfl
    | 4, _ => rfl
    | 5, _ => rfl
    | 6, _ => rfl
    | 7, _ => rfl
    | 8, _ => rfl
    | 9, _ => rfl
    | _ + 10, _ => rfl
theorem Ep_ramp3 {i : Nat} {v : Int32} (h : i < nr) : u2 (Ew Y ng nr nb s u ad) 2 i (some (.inr (3, [.int (nI i), .int (sc s 4 i), .int (sc s 6 i), .int v]))) = Ew Y ng nr nb (us s 5 i v) u ad := by
  refine u2_eq ?_ (fun i' hi => ?_) (fun k' hk => ?_)
  · simp [Ew, sc, us, cGate, cRamp, cBerth, cLane, cFerry, cFrow, u2, va_up, h]
  · simp [Ew, sc, us, cGate, cRamp, cBerth, cLane, cFerry, cFrow, u2, va_up, hi]
  · match k', hk with
    | 0, _ => rfl
    | 1, _ => rfl
    | 2, h => exact absurd rfl h
    | 3, _ => rfl
    | 4, _ => rfl
    | 5, _ => rfl
    | 6, _ => rfl
    | 7, _ => rfl
    | 8, _ => rfl
    | 9, _ => rfl
    | _ + 10, _ => rfl
theorem oref_n {f : Nat → Nat} : oref (-1) f = none := rfl
theorem nI_m1 {g : Nat} (h : g < 2 ^ 31) : ¬ nI g = -1 := fun q => by
  have h1 := congrArg Int32.toInt q
  rw [nI_toInt h] at h1
  have h2 : (-1 : Int32).toInt = -1 := by decide
  omega
theorem oref_s {f : Nat → Nat} {g : Nat} (h : g < 2 ^ 31) : oref (nI g) f = some (f g) := by
  unfold oref
  rw [if_neg (nI_m1 h), nI_clamp h]
theorem cBerth_of {a9 a7 a8 : Int32} {i : Nat} (h9 : sc s 9 i = a9) (h7 : sc s 7 i = a7) (h8 : sc s 8 i = a8) : cBerth s ad i = .inr (0, [.ref (ad 4 i), .ref (ad 6 a9.toNatClampNeg), va_rf (oref a7 (ad 1)), va_rf (oref a8 (ad 2))]) := by
  subst h9 h7 h8
  rfl
theorem Ew_berthN {i : Nat} (h : ¬ i < nb) : Ew Y ng nr nb s u ad 3 i = none := if_neg h
theorem sc_s {k i : Nat} {v : Int32} : sc (us s k i v) k i = v := by simp [sc, us, u2, va_up]
theorem sc_i {k i i' : Nat} {v : Int32} (h : i' ≠ i) : sc (us s k i v) k i' = sc s k i' := by simp [sc, us, u2, va_up, h]
theorem sc_k {k i k' i' : Nat} {v : Int32} (h : k' ≠ k) : sc (us s k i v) k' i' = sc s k' i' := by simp [sc, us, u2, va_up, h]
theorem Ep_bf {i : Nat} {v : Int32} (h : i < nb) : u2 (Ew Y ng nr nb s u ad) 3 i (some (.inr (0, [.ref (ad 4 i), .ref (ad 6 (v).toNatClampNeg), va_rf (oref (sc s 7 i) (ad 1)), va_rf (oref (sc s 8 i) (ad 2))]))) = Ew Y ng nr nb (us s 9 i v) u ad := by
  refine u2_eq ?_ (fun i' hi => ?_) (fun k' hk => ?_)
  · exact (Ew_berth h).trans (congrArg some (cBerth_of (a9 := v) (h9 := sc_s) (a7 := sc s 7 i) (h7 := sc_k (by decide)) (a8 := sc s 8 i) (h8 := sc_k (by decide))))
  · by_cases hb : i' < nb
    · exact (Ew_berth hb).trans ((congrArg some ((cBerth_of (a9 := sc s 9 i') (h9 := sc_i hi) (a7 := sc s 7 i') (h7 := sc_k (by decide)) (a8 := sc s 8 i') (h8 := sc_k (by decide))).trans (cBerth_of (s := s) (ad := ad) (i := i') rfl rfl rfl).symm)).trans (Ew_berth hb).symm)
    · exact (Ew_berthN hb).trans (Ew_berthN hb).symm
  · match k', hk with
    | 0, _ => exact (Ewk0 (s := us s 9 i v)).trans (Ewk0 (s := s)).symm
    | 1, _ => exact (Ewk1 (s := us s 9 i v)).trans (Ewk1 (s := s)).symm
    | 2, _ => exact (Ewk2 (s := us s 9 i v)).trans (Ewk2 (s := s)).symm
    | 3, h => exact absurd rfl h
    | 4, _ => exact (Ewk4 (s := us s 9 i v)).trans (Ewk4 (s := s)).symm
    | 5, _ => exact (Ewk5 (s := us s 9 i v)).trans (Ewk5 (s := s)).symm
    | 6, _ => exact (Ewk6 (s := us s 9 i v)).trans (Ewk6 (s := s)).symm
    | 7, _ => exact (Ewk7 (s := us s 9 i v)).trans (Ewk7 (s := s)).symm
    | 8, _ => exact (Ewk8 (s := us s 9 i v)).trans (Ewk8 (s := s)).symm
    | 9, _ => exact Ewk9
    | _ + 10, _ => exact Ewk10
theorem Ep_b2 {i : Nat} {v : Int32} (h : i < nb) : u2 (Ew Y ng nr nb s u ad) 3 i (some (.inr (0, [.ref (ad 4 i), .ref (ad 6 (sc s 9 i).toNatClampNeg), va_rf (oref v (ad 1)), va_rf (oref (sc s 8 i) (ad 2))]))) = Ew Y ng nr nb (us s 7 i v) u ad := by
  refine u2_eq ?_ (fun i' hi => ?_) (fun k' hk => ?_)
  · exact (Ew_berth h).trans (congrArg some (cBerth_of (a9 := sc s 9 i) (h9 := sc_k (by decide)) (a7 := v) (h7 := sc_s) (a8 := sc s 8 i) (h8 := sc_k (by decide))))
  · by_cases hb : i' < nb
    · exact (Ew_berth hb).trans ((congrArg some ((cBerth_of (a9 := sc s 9 i') (h9 := sc_k (by decide)) (a7 := sc s 7 i') (h7 := sc_i hi) (a8 := sc s 8 i') (h8 := sc_k (by decide))).trans (cBerth_of (s := s) (ad := ad) (i := i') rfl rfl rfl).symm)).trans (Ew_berth hb).symm)
    · exact (Ew_berthN hb).trans (Ew_berthN hb).symm
  · match k', hk with
    | 0, _ => exact (Ewk0 (s := us s 7 i v)).trans (Ewk0 (s := s)).symm
    | 1, _ => exact (Ewk1 (s := us s 7 i v)).trans (Ewk1 (s := s)).symm
    | 2, _ => exact (Ewk2 (s := us s 7 i v)).trans (Ewk2 (s := s)).symm
    | 3, h => exact absurd rfl h
    | 4, _ => exact (Ewk4 (s := us s 7 i v)).trans (Ewk4 (s := s)).symm
    | 5, _ => exact (Ewk5 (s := us s 7 i v)).trans (Ewk5 (s := s)).symm
    | 6, _ => exact (Ewk6 (s := us s 7 i v)).trans (Ewk6 (s := s)).symm
    | 7, _ => exact (Ewk7 (s := us s 7 i v)).trans (Ewk7 (s := s)).symm
    | 8, _ => exact (Ewk8 (s := us s 7 i v)).trans (Ewk8 (s := s)).symm
    | 9, _ => exact Ewk9
    | _ + 10, _ => exact Ewk10
theorem Ep_b3 {i : Nat} {v : Int32} (h : i < nb) : u2 (Ew Y ng nr nb s u ad) 3 i (some (.inr (0, [.ref (ad 4 i), .ref (ad 6 (sc s 9 i).toNatClampNeg), va_rf (oref (sc s 7 i) (ad 1)), va_rf (oref v (ad 2))]))) = Ew Y ng nr nb (us s 8 i v) u ad := by
  refine u2_eq ?_ (fun i' hi => ?_) (fun k' hk => ?_)
  · exact (Ew_berth h).trans (congrArg some (cBerth_of (a9 := sc s 9 i) (h9 := sc_k (by decide)) (a7 := sc s 7 i) (h7 := sc_k (by decide)) (a8 := v) (h8 := sc_s)))
  · by_cases hb : i' < nb
    · exact (Ew_berth hb).trans ((congrArg some ((cBerth_of (a9 := sc s 9 i') (h9 := sc_k (by decide)) (a7 := sc s 7 i') (h7 := sc_k (by decide)) (a8 := sc s 8 i') (h8 := sc_i hi)).trans (cBerth_of (s := s) (ad := ad) (i := i') rfl rfl rfl).symm)).trans (Ew_berth hb).symm)
    · exact (Ew_berthN hb).trans (Ew_berthN hb).symm
  · match k', hk with
    | 0, _ => exact (Ewk0 (s := us s 8 i v)).trans (Ewk0 (s := s)).symm
    | 1, _ => exact (Ewk1 (s := us s 8 i v)).trans (Ewk1 (s := s)).symm
    | 2, _ => exact (Ewk2 (s := us s 8 i v)).trans (Ewk2 (s := s)).symm
    | 3, h => exact absurd rfl h
    | 4, _ => exact (Ewk4 (s := us s 8 i v)).trans (Ewk4 (s := s)).symm
    | 5, _ => exact (Ewk5 (s := us s 8 i v)).trans (Ewk5 (s := s)).symm
    | 6, _ => exact (Ewk6 (s := us s 8 i v)).trans (Ewk6 (s := s)).symm
    | 7, _ => exact (Ewk7 (s := us s 8 i v)).trans (Ewk7 (s := s)).symm
    | 8, _ => exact (Ewk8 (s := us s 8 i v)).trans (Ewk8 (s := s)).symm
    | 9, _ => exact Ewk9
    | _ + 10, _ => exact Ewk10
theorem Ep_lane {i : Nat} {v : Int32} (h : i < nb) : u2 (Ew Y ng nr nb s u ad) 4 i (some (.inr (4, [.ref (ad 5 i), .int v]))) = Ew Y ng nr nb (us s 10 i v) u ad := by
  refine u2_eq ?_ (fun i' hi => ?_) (fun k' hk => ?_)
  · simp [Ew, sc, us, cGate, cRamp, cBerth, cLane, cFerry, cFrow, u2, va_up, h]
  · simp [Ew, sc, us, cGate, cRamp, cBerth, cLane, cFerry, cFrow, u2, va_up, hi]
  · match k', hk with
    | 0, _ => rfl
    | 1, _ => rfl
    | 2, _ => rfl
    | 3, _ => rfl
    | 4, h => exact absurd rfl h
    | 5, _ => rfl
    | 6, _ => rfl
    | 7, _ => rfl
    | 8, _ => rfl
    | 9, _ => rfl
    | _ + 10, _ => rfl
theorem Ep_larr {i : Nat} {f : Nat → Int32} (h : i < nb) : u2 (Ew Y ng nr nb s u ad) 5 i (some (.inl (Y.1, 30, .inl f))) = Ew Y ng nr nb (u2 s 11 i f) u ad := by
  refine u2_eq ?_ (fun i' hi => ?_) (fun k' hk => ?_)
  · simp [Ew, sc, us, cGate, cRamp, cBerth, cLane, cFerry, cFrow, u2, va_up, h]
  · simp [Ew, sc, us, cGate, cRamp, cBerth, cLane, cFerry, cFrow, u2, va_up, hi]
  · match k', hk with
    | 0, _ => rfl
    | 1, _ => rfl
    | 2, _ => rfl
    | 3, _ => rfl
    | 4, _ => rfl
    | 5, h => exact absurd rfl h
    | 6, _ => rfl
    | 7, _ => rfl
    | 8, _ => rfl
    | 9, _ => rfl
    | _ + 10, _ => rfl
theorem Ep_ferry {i : Nat} {v : Int32} (h : i < nb) : u2 (Ew Y ng nr nb s u ad) 6 i (some (.inr (1, [.int (sc s 12 i), .ref (ad 7 i), .int v]))) = Ew Y ng nr nb (us s 13 i v) u ad := by
  refine u2_eq ?_ (fun i' hi => ?_) (fun k' hk => ?_)
  · simp [Ew, sc, us, cGate, cRamp, cBerth, cLane, cFerry, cFrow, u2, va_up, h]
  · simp [Ew, sc, us, cGate, cRamp, cBerth, cLane, cFerry, cFrow, u2, va_up, hi]
  · match k', hk with
    | 0, _ => rfl
    | 1, _ => rfl
    | 2, _ => rfl
    | 3, _ => rfl
    | 4, _ => rfl
    | 5, _ => rfl
    | 6, h => exact absurd rfl h
    | 7, _ => rfl
    | 8, _ => rfl
    | 9, _ => rfl
    | _ + 10, _ => rfl
theorem Ep_frow {i : Nat} {v : Int32} (h : i < nb) : u2 (Ew Y ng nr nb s u ad) 7 i (some (.inr (4, [.ref (ad 8 i), .int v]))) = Ew Y ng nr nb (us s 14 i v) u ad := by
  refine u2_eq ?_ (fun i' hi => ?_) (fun k' hk => ?_)
  · simp [Ew, sc, us, cGate, cRamp, cBerth, cLane, cFerry, cFrow, u2, va_up, h]
  · simp [Ew, sc, us, cGate, cRamp, cBerth, cLane, cFerry, cFrow, u2, va_up, hi]
  · match k', hk with
    | 0, _ => rfl
    | 1, _ => rfl
    | 2, _ => rfl
    | 3, _ => rfl
    | 4, _ => rfl
    | 5, _ => rfl
    | 6, _ => rfl
    | 7, h => exact absurd rfl h
    | 8, _ => rfl
    | 9, _ => rfl
    | _ + 10, _ => rfl
theorem Ep_farr {i : Nat} {f : Nat → Int32} (h : i < nb) : u2 (Ew Y ng nr nb s u ad) 8 i (some (.inl (Y.1, 40, .inl f))) = Ew Y ng nr nb (u2 s 15 i f) u ad := by
  refine u2_eq ?_ (fun i' hi => ?_) (fun k' hk => ?_)
  · simp [Ew, sc, us, cGate, cRamp, cBerth, cLane, cFerry, cFrow, u2, va_up, h]
  · simp [Ew, sc, us, cGate, cRamp, cBerth, cLane, cFerry, cFrow, u2, va_up, hi]
  · match k', hk with
    | 0, _ => rfl
    | 1, _ => rfl
    | 2, _ => rfl
    | 3, _ => rfl
    | 4, _ => rfl
    | 5, _ => rfl
    | 6, _ => rfl
    | 7, _ => rfl
    | 8, h => exact absurd rfl h
    | 9, _ => rfl
    | _ + 10, _ => rfl
theorem Ep_m1 {x : Nat} {v : Int32} : u2 (Ew Y ng nr nb s u ad) 9 1 (some (.inl (Y.2.1, 16, .inl (va_up (fun x => sc u 1 x) x v)))) = Ew Y ng nr nb s (us u 1 x v) ad := by
  refine u2_eq ?_ (fun i' hi => ?_) (fun k' hk => ?_)
  · show some (Sum.inl (_, _, Sum.inl (fun y => sc (us u 1 x v) 1 y))) = _
    congr 6
    funext y
    by_cases hy : y = x <;> simp [sc, us, u2, va_up, hy]
  · match i', hi with
    | 0, h => first | exact absurd rfl h | rfl
    | 1, h => first | exact absurd rfl h | rfl
    | 2, h => first | exact absurd rfl h | rfl
    | 3, h => first | exact absurd rfl h | rfl
    | 4, h => first | exact absurd rfl h | rfl
    | 5, h => first | exact absurd rfl h | rfl
    | 6, h => first | exact absurd rfl h | rfl
    | 7, h => first | exact absurd rfl h | rfl
    | 8, h => first | exact absurd rfl h | rfl
    | 9, h => first | exact absurd rfl h | rfl
    | 10, h => first | exact absurd rfl h | rfl
    | 11, h => first | exact absurd rfl h | rfl
    | 12, h => first | exact absurd rfl h | rfl
    | 13, h => first | exact absurd rfl h | rfl
    | 14, h => first | exact absurd rfl h | rfl
    | 15, h => first | exact absurd rfl h | rfl
    | _ + 16, _ => rfl
  · match k', hk with
    | 0, _ => rfl
    | 1, _ => rfl
    | 2, _ => rfl
    | 3, _ => rfl
    | 4, _ => rfl
    | 5, _ => rfl
    | 6, _ => rfl
    | 7, _ => rfl
    | 8, _ => rfl
    | 9, h => exact absurd rfl h
    | _ + 10, _ => rfl
theorem Ep_m2 {x : Nat} {v : Int32} : u2 (Ew Y ng nr nb s u ad) 9 2 (some (.inl (Y.1, 16, .inl (va_up (fun x => sc u 2 x) x v)))) = Ew Y ng nr nb s (us u 2 x v) ad := by
  refine u2_eq ?_ (fun i' hi => ?_) (fun k' hk => ?_)
  · show some (Sum.inl (_, _, Sum.inl (fun y => sc (us u 2 x v) 2 y))) = _
    congr 6
    funext y
    by_cases hy : y = x <;> simp [sc, us, u2, va_up, hy]
  · match i', hi with
    | 0, h => first | exact absurd rfl h | rfl
    | 1, h => first | exact absurd rfl h | rfl
    | 2, h => first | exact absurd rfl h | rfl
    | 3, h => first | exact absurd rfl h | rfl
    | 4, h => first | exact absurd rfl h | rfl
    | 5, h => first | exact absurd rfl h | rfl
    | 6, h => first | exact absurd rfl h | rfl
    | 7, h => first | exact absurd rfl h | rfl
    | 8, h => first | exact absurd rfl h | rfl
    | 9, h => first | exact absurd rfl h | rfl
    | 10, h => first | exact absurd rfl h | rfl
    | 11, h => first | exact absurd rfl h | rfl
    | 12, h => first | exact absurd rfl h | rfl
    | 13, h => first | exact absurd rfl h | rfl
    | 14, h => first | exact absurd rfl h | rfl
    | 15, h => first | exact absurd rfl h | rfl
    | _ + 16, _ => rfl
  · match k', hk with
    | 0, _ => rfl
    | 1, _ => rfl
    | 2, _ => rfl
    | 3, _ => rfl
    | 4, _ => rfl
    | 5, _ => rfl
    | 6, _ => rfl
    | 7, _ => rfl
    | 8, _ => rfl
    | 9, h => exact absurd rfl h
    | _ + 10, _ => rfl
theorem Ep_m3 {x : Nat} {v : Int32} : u2 (Ew Y ng nr nb s u ad) 9 3 (some (.inl (Y.1, 16, .inl (va_up (fun x => sc u 3 x) x v)))) = Ew Y ng nr nb s (us u 3 x v) ad := by
  refine u2_eq ?_ (fun i' hi => ?_) (fun k' hk => ?_)
  · show some (Sum.inl (_, _, Sum.inl (fun y => sc (us u 3 x v) 3 y))) = _
    congr 6
    funext y
    by_cases hy : y = x <;> simp [sc, us, u2, va_up, hy]
  · match i', hi with
    | 0, h => first | exact absurd rfl h | rfl
    | 1, h => first | exact absurd rfl h | rfl
    | 2, h => first | exact absurd rfl h | rfl
    | 3, h => first | exact absurd rfl h | rfl
    | 4, h => first | exact absurd rfl h | rfl
    | 5, h => first | exact absurd rfl h | rfl
    | 6, h => first | exact absurd rfl h | rfl
    | 7, h => first | exact absurd rfl h | rfl
    | 8, h => first | exact absurd rfl h | rfl
    | 9, h => first | exact absurd rfl h | rfl
    | 10, h => first | exact absurd rfl h | rfl
    | 11, h => first | exact absurd rfl h | rfl
    | 12, h => first | exact absurd rfl h | rfl
    | 13, h => first | exact absurd rfl h | rfl
    | 14, h => first | exact absurd rfl h | rfl
    | 15, h => first | exact absurd rfl h | rfl
    | _ + 16, _ => rfl
  · match k', hk with
    | 0, _ => rfl
    | 1, _ => rfl
    | 2, _ => rfl
    | 3, _ => rfl
    | 4, _ => rfl
    | 5, _ => rfl
    | 6, _ => rfl
    | 7, _ => rfl
    | 8, _ => rfl
    | 9, h => exact absurd rfl h
    | _ + 10, _ => rfl
theorem Ep_m4 {x : Nat} {v : Int32} : u2 (Ew Y ng nr nb s u ad) 9 4 (some (.inl (Y.1, 16, .inl (va_up (fun x => sc u 4 x) x v)))) = Ew Y ng nr nb s (us u 4 x v) ad := by
  refine u2_eq ?_ (fun i' hi => ?_) (fun k' hk => ?_)
  · show some (Sum.inl (_, _, Sum.inl (fun y => sc (us u 4 x v) 4 y))) = _
    congr 6
    funext y
    by_cases hy : y = x <;> simp [sc, us, u2, va_up, hy]
  · match i', hi with
    | 0, h => first | exact absurd rfl h | rfl
    | 1, h => first | exact absurd rfl h | rfl
    | 2, h => first | exact absurd rfl h | rfl
    | 3, h => first | exact absurd rfl h | rfl
    | 4, h => first | exact absurd rfl h | rfl
    | 5, h => first | exact absurd rfl h | rfl
    | 6, h => first | exact absurd rfl h | rfl
    | 7, h => first | exact absurd rfl h | rfl
    | 8, h => first | exact absurd rfl h | rfl
    | 9, h => first | exact absurd rfl h | rfl
    | 10, h => first | exact absurd rfl h | rfl
    | 11, h => first | exact absurd rfl h | rfl
    | 12, h => first | exact absurd rfl h | rfl
    | 13, h => first | exact absurd rfl h | rfl
    | 14, h => first | exact absurd rfl h | rfl
    | 15, h => first | exact absurd rfl h | rfl
    | _ + 16, _ => rfl
  · match k', hk with
    | 0, _ => rfl
    | 1, _ => rfl
    | 2, _ => rfl
    | 3, _ => rfl
    | 4, _ => rfl
    | 5, _ => rfl
    | 6, _ => rfl
    | 7, _ => rfl
    | 8, _ => rfl
    | 9, h => exact absurd rfl h
    | _ + 10, _ => rfl
theorem Ep_m5 {x : Nat} {v : Int32} : u2 (Ew Y ng nr nb s u ad) 9 5 (some (.inl (Y.1, 16, .inl (va_up (fun x => sc u 5 x) x v)))) = Ew Y ng nr nb s (us u 5 x v) ad := by
  refine u2_eq ?_ (fun i' hi => ?_) (fun k' hk => ?_)
  · show some (Sum.inl (_, _, Sum.inl (fun y => sc (us u 5 x v) 5 y))) = _
    congr 6
    funext y
    by_cases hy : y = x <;> simp [sc, us, u2, va_up, hy]
  · match i', hi with
    | 0, h => first | exact absurd rfl h | rfl
    | 1, h => first | exact absurd rfl h | rfl
    | 2, h => first | exact absurd rfl h | rfl
    | 3, h => first | exact absurd rfl h | rfl
    | 4, h => first | exact absurd rfl h | rfl
    | 5, h => first | exact absurd rfl h | rfl
    | 6, h => first | exact absurd rfl h | rfl
    | 7, h => first | exact absurd rfl h | rfl
    | 8, h => first | exact absurd rfl h | rfl
    | 9, h => first | exact absurd rfl h | rfl
    | 10, h => first | exact absurd rfl h | rfl
    | 11, h => first | exact absurd rfl h | rfl
    | 12, h => first | exact absurd rfl h | rfl
    | 13, h => first | exact absurd rfl h | rfl
    | 14, h => first | exact absurd rfl h | rfl
    | 15, h => first | exact absurd rfl h | rfl
    | _ + 16, _ => rfl
  · match k', hk with
    | 0, _ => rfl
    | 1, _ => rfl
    | 2, _ => rfl
    | 3, _ => rfl
    | 4, _ => rfl
    | 5, _ => rfl
    | 6, _ => rfl
    | 7, _ => rfl
    | 8, _ => rfl
    | 9, h => exact absurd rfl h
    | _ + 10, _ => rfl
theorem Ep_m6 {x : Nat} {v : Int32} : u2 (Ew Y ng nr nb s u ad) 9 6 (some (.inl (Y.1, 16, .inl (va_up (fun x => sc u 6 x) x v)))) = Ew Y ng nr nb s (us u 6 x v) ad := by
  refine u2_eq ?_ (fun i' hi => ?_) (fun k' hk => ?_)
  · show some (Sum.inl (_, _, Sum.inl (fun y => sc (us u 6 x v) 6 y))) = _
    congr 6
    funext y
    by_cases hy : y = x <;> simp [sc, us, u2, va_up, hy]
  · match i', hi with
    | 0, h => first | exact absurd rfl h | rfl
    | 1, h => first | exact absurd rfl h | rfl
    | 2, h => first | exact absurd rfl h | rfl
    | 3, h => first | exact absurd rfl h | rfl
    | 4, h => first | exact absurd rfl h | rfl
    | 5, h => first | exact absurd rfl h | rfl
    | 6, h => first | exact absurd rfl h | rfl
    | 7, h => first | exact absurd rfl h | rfl
    | 8, h => first | exact absurd rfl h | rfl
    | 9, h => first | exact absurd rfl h | rfl
    | 10, h => first | exact absurd rfl h | rfl
    | 11, h => first | exact absurd rfl h | rfl
    | 12, h => first | exact absurd rfl h | rfl
    | 13, h => first | exact absurd rfl h | rfl
    | 14, h => first | exact absurd rfl h | rfl
    | 15, h => first | exact absurd rfl h | rfl
    | _ + 16, _ => rfl
  · match k', hk with
    | 0, _ => rfl
    | 1, _ => rfl
    | 2, _ => rfl
    | 3, _ => rfl
    | 4, _ => rfl
    | 5, _ => rfl
    | 6, _ => rfl
    | 7, _ => rfl
    | 8, _ => rfl
    | 9, h => exact absurd rfl h
    | _ + 10, _ => rfl
theorem Ep_m7 {x : Nat} {v : Int32} : u2 (Ew Y ng nr nb s u ad) 9 7 (some (.inl (Y.1, 8, .inl (va_up (fun x => sc u 7 x) x v)))) = Ew Y ng nr nb s (us u 7 x v) ad := by
  refine u2_eq ?_ (fun i' hi => ?_) (fun k' hk => ?_)
  · show some (Sum.inl (_, _, Sum.inl (fun y => sc (us u 7 x v) 7 y))) = _
    congr 6
    funext y
    by_cases hy : y = x <;> simp [sc, us, u2, va_up, hy]
  · match i', hi with
    | 0, h => first | exact absurd rfl h | rfl
    | 1, h => first | exact absurd rfl h | rfl
    | 2, h => first | exact absurd rfl h | rfl
    | 3, h => first | exact absurd rfl h | rfl
    | 4, h => first | exact absurd rfl h | rfl
    | 5, h => first | exact absurd rfl h | rfl
    | 6, h => first | exact absurd rfl h | rfl
    | 7, h => first | exact absurd rfl h | rfl
    | 8, h => first | exact absurd rfl h | rfl
    | 9, h => first | exact absurd rfl h | rfl
    | 10, h => first | exact absurd rfl h | rfl
    | 11, h => first | exact absurd rfl h | rfl
    | 12, h => first | exact absurd rfl h | rfl
    | 13, h => first | exact absurd rfl h | rfl
    | 14, h => first | exact absurd rfl h | rfl
    | 15, h => first | exact absurd rfl h | rfl
    | _ + 16, _ => rfl
  · match k', hk with
    | 0, _ => rfl
    | 1, _ => rfl
    | 2, _ => rfl
    | 3, _ => rfl
    | 4, _ => rfl
    | 5, _ => rfl
    | 6, _ => rfl
    | 7, _ => rfl
    | 8, _ => rfl
    | 9, h => exact absurd rfl h
    | _ + 10, _ => rfl
theorem Ep_m8 {x : Nat} {v : Int32} : u2 (Ew Y ng nr nb s u ad) 9 8 (some (.inl (Y.1, 8, .inl (va_up (fun x => sc u 8 x) x v)))) = Ew Y ng nr nb s (us u 8 x v) ad := by
  refine u2_eq ?_ (fun i' hi => ?_) (fun k' hk => ?_)
  · show some (Sum.inl (_, _, Sum.inl (fun y => sc (us u 8 x v) 8 y))) = _
    congr 6
    funext y
    by_cases hy : y = x <;> simp [sc, us, u2, va_up, hy]
  · match i', hi with
    | 0, h => first | exact absurd rfl h | rfl
    | 1, h => first | exact absurd rfl h | rfl
    | 2, h => first | exact absurd rfl h | rfl
    | 3, h => first | exact absurd rfl h | rfl
    | 4, h => first | exact absurd rfl h | rfl
    | 5, h => first | exact absurd rfl h | rfl
    | 6, h => first | exact absurd rfl h | rfl
    | 7, h => first | exact absurd rfl h | rfl
    | 8, h => first | exact absurd rfl h | rfl
    | 9, h => first | exact absurd rfl h | rfl
    | 10, h => first | exact absurd rfl h | rfl
    | 11, h => first | exact absurd rfl h | rfl
    | 12, h => first | exact absurd rfl h | rfl
    | 13, h => first | exact absurd rfl h | rfl
    | 14, h => first | exact absurd rfl h | rfl
    | 15, h => first | exact absurd rfl h | rfl
    | _ + 16, _ => rfl
  · match k', hk with
    | 0, _ => rfl
    | 1, _ => rfl
    | 2, _ => rfl
    | 3, _ => rfl
    | 4, _ => rfl
    | 5, _ => rfl
    | 6, _ => rfl
    | 7, _ => rfl
    | 8, _ => rfl
    | 9, h => exact absurd rfl h
    | _ + 10, _ => rfl
theorem Ep_m9 {x : Nat} {v : Int32} : u2 (Ew Y ng nr nb s u ad) 9 9 (some (.inl (Y.1, 8, .inl (va_up (fun x => sc u 9 x) x v)))) = Ew Y ng nr nb s (us u 9 x v) ad := by
  refine u2_eq ?_ (fun i' hi => ?_) (fun k' hk => ?_)
  · show some (Sum.inl (_, _, Sum.inl (fun y => sc (us u 9 x v) 9 y))) = _
    congr 6
    funext y
    by_cases hy : y = x <;> simp [sc, us, u2, va_up, hy]
  · match i', hi with
    | 0, h => first | exact absurd rfl h | rfl
    | 1, h => first | exact absurd rfl h | rfl
    | 2, h => first | exact absurd rfl h | rfl
    | 3, h => first | exact absurd rfl h | rfl
    | 4, h => first | exact absurd rfl h | rfl
    | 5, h => first | exact absurd rfl h | rfl
    | 6, h => first | exact absurd rfl h | rfl
    | 7, h => first | exact absurd rfl h | rfl
    | 8, h => first | exact absurd rfl h | rfl
    | 9, h => first | exact absurd rfl h | rfl
    | 10, h => first | exact absurd rfl h | rfl
    | 11, h => first | exact absurd rfl h | rfl
    | 12, h => first | exact absurd rfl h | rfl
    | 13, h => first | exact absurd rfl h | rfl
    | 14, h => first | exact absurd rfl h | rfl
    | 15, h => first | exact absurd rfl h | rfl
    | _ + 16, _ => rfl
  · match k', hk with
    | 0, _ => rfl
    | 1, _ => rfl
    | 2, _ => rfl
    | 3, _ => rfl
    | 4, _ => rfl
    | 5, _ => rfl
    | 6, _ => rfl
    | 7, _ => rfl
    | 8, _ => rfl
    | 9, h => exact absurd rfl h
    | _ + 10, _ => rfl
theorem Ep_m10 {x : Nat} {v : Int32} : u2 (Ew Y ng nr nb s u ad) 9 10 (some (.inl (Y.1, 8, .inl (va_up (fun x => sc u 10 x) x v)))) = Ew Y ng nr nb s (us u 10 x v) ad := by
  refine u2_eq ?_ (fun i' hi => ?_) (fun k' hk => ?_)
  · show some (Sum.inl (_, _, Sum.inl (fun y => sc (us u 10 x v) 10 y))) = _
    congr 6
    funext y
    by_cases hy : y = x <;> simp [sc, us, u2, va_up, hy]
  · match i', hi with
    | 0, h => first | exact absurd rfl h | rfl
    | 1, h => first | exact absurd rfl h | rfl
    | 2, h => first | exact absurd rfl h | rfl
    | 3, h => first | exact absurd rfl h | rfl
    | 4, h => first | exact absurd rfl h | rfl
    | 5, h => first | exact absurd rfl h | rfl
    | 6, h => first | exact absurd rfl h | rfl
    | 7, h => first | exact absurd rfl h | rfl
    | 8, h => first | exact absurd rfl h | rfl
    | 9, h => first | exact absurd rfl h | rfl
    | 10, h => first | exact absurd rfl h | rfl
    | 11, h => first | exact absurd rfl h | rfl
    | 12, h => first | exact absurd rfl h | rfl
    | 13, h => first | exact absurd rfl h | rfl
    | 14, h => first | exact absurd rfl h | rfl
    | 15, h => first | exact absurd rfl h | rfl
    | _ + 16, _ => rfl
  · match k', hk with
    | 0, _ => rfl
    | 1, _ => rfl
    | 2, _ => rfl
    | 3, _ => rfl
    | 4, _ => rfl
    | 5, _ => rfl
    | 6, _ => rfl
    | 7, _ => rfl
    | 8, _ => rfl
    | 9, h => exact absurd rfl h
    | _ + 10, _ => rfl
theorem Ep_m12 {x : Nat} {v : Int32} : u2 (Ew Y ng nr nb s u ad) 9 12 (some (.inl (Y.1, 8, .inl (va_up (fun x => sc u 12 x) x v)))) = Ew Y ng nr nb s (us u 12 x v) ad := by
  refine u2_eq ?_ (fun i' hi => ?_) (fun k' hk => ?_)
  · show some (Sum.inl (_, _, Sum.inl (fun y => sc (us u 12 x v) 12 y))) = _
    congr 6
    funext y
    by_cases hy : y = x <;> simp [sc, us, u2, va_up, hy]
  · match i', hi with
    | 0, h => first | exact absurd rfl h | rfl
    | 1, h => first | exact absurd rfl h | rfl
    | 2, h => first | exact absurd rfl h | rfl
    | 3, h => first | exact absurd rfl h | rfl
    | 4, h => first | exact absurd rfl h | rfl
    | 5, h => first | exact absurd rfl h | rfl
    | 6, h => first | exact absurd rfl h | rfl
    | 7, h => first | exact absurd rfl h | rfl
    | 8, h => first | exact absurd rfl h | rfl
    | 9, h => first | exact absurd rfl h | rfl
    | 10, h => first | exact absurd rfl h | rfl
    | 11, h => first | exact absurd rfl h | rfl
    | 12, h => first | exact absurd rfl h | rfl
    | 13, h => first | exact absurd rfl h | rfl
    | 14, h => first | exact absurd rfl h | rfl
    | 15, h => first | exact absurd rfl h | rfl
    | _ + 16, _ => rfl
  · match k', hk with
    | 0, _ => rfl
    | 1, _ => rfl
    | 2, _ => rfl
    | 3, _ => rfl
    | 4, _ => rfl
    | 5, _ => rfl
    | 6, _ => rfl
    | 7, _ => rfl
    | 8, _ => rfl
    | 9, h => exact absurd rfl h
    | _ + 10, _ => rfl
theorem Ep_m13 {x : Nat} {v : Int32} : u2 (Ew Y ng nr nb s u ad) 9 13 (some (.inl (Y.1, 8, .inl (va_up (fun x => sc u 13 x) x v)))) = Ew Y ng nr nb s (us u 13 x v) ad := by
  refine u2_eq ?_ (fun i' hi => ?_) (fun k' hk => ?_)
  · show some (Sum.inl (_, _, Sum.inl (fun y => sc (us u 13 x v) 13 y))) = _
    congr 6
    funext y
    by_cases hy : y = x <;> simp [sc, us, u2, va_up, hy]
  · match i', hi with
    | 0, h => first | exact absurd rfl h | rfl
    | 1, h => first | exact absurd rfl h | rfl
    | 2, h => first | exact absurd rfl h | rfl
    | 3, h => first | exact absurd rfl h | rfl
    | 4, h => first | exact absurd rfl h | rfl
    | 5, h => first | exact absurd rfl h | rfl
    | 6, h => first | exact absurd rfl h | rfl
    | 7, h => first | exact absurd rfl h | rfl
    | 8, h => first | exact absurd rfl h | rfl
    | 9, h => first | exact absurd rfl h | rfl
    | 10, h => first | exact absurd rfl h | rfl
    | 11, h => first | exact absurd rfl h | rfl
    | 12, h => first | exact absurd rfl h | rfl
    | 13, h => first | exact absurd rfl h | rfl
    | 14, h => first | exact absurd rfl h | rfl
    | 15, h => first | exact absurd rfl h | rfl
    | _ + 16, _ => rfl
  · match k', hk with
    | 0, _ => rfl
    | 1, _ => rfl
    | 2, _ => rfl
    | 3, _ => rfl
    | 4, _ => rfl
    | 5, _ => rfl
    | 6, _ => rfl
    | 7, _ => rfl
    | 8, _ => rfl
    | 9, h => exact absurd rfl h
    | _ + 10, _ => rfl
theorem Ep_m14 {x : Nat} {v : Int32} : u2 (Ew Y ng nr nb s u ad) 9 14 (some (.inl (Y.1, 8, .inl (va_up (fun x => sc u 14 x) x v)))) = Ew Y ng nr nb s (us u 14 x v) ad := by
  refine u2_eq ?_ (fun i' hi => ?_) (fun k' hk => ?_)
  · show some (Sum.inl (_, _, Sum.inl (fun y => sc (us u 14 x v) 14 y))) = _
    congr 6
    funext y
    by_cases hy : y = x <;> simp [sc, us, u2, va_up, hy]
  · match i', hi with
    | 0, h => first | exact absurd rfl h | rfl
    | 1, h => first | exact absurd rfl h | rfl
    | 2, h => first | exact absurd rfl h | rfl
    | 3, h => first | exact absurd rfl h | rfl
    | 4, h => first | exact absurd rfl h | rfl
    | 5, h => first | exact absurd rfl h | rfl
    | 6, h => first | exact absurd rfl h | rfl
    | 7, h => first | exact absurd rfl h | rfl
    | 8, h => first | exact absurd rfl h | rfl
    | 9, h => first | exact absurd rfl h | rfl
    | 10, h => first | exact absurd rfl h | rfl
    | 11, h => first | exact absurd rfl h | rfl
    | 12, h => first | exact absurd rfl h | rfl
    | 13, h => first | exact absurd rfl h | rfl
    | 14, h => first | exact absurd rfl h | rfl
    | 15, h => first | exact absurd rfl h | rfl
    | _ + 16, _ => rfl
  · match k', hk with
    | 0, _ => rfl
    | 1, _ => rfl
    | 2, _ => rfl
    | 3, _ => rfl
    | 4, _ => rfl
    | 5, _ => rfl
    | 6, _ => rfl
    | 7, _ => rfl
    | 8, _ => rfl
    | 9, h => exact absurd rfl h
    | _ + 10, _ => rfl
theorem Ep_m11 {b j : Nat} {v : Int32} (h : j < 30) : u2 (Ew Y ng nr nb s u ad) 9 11 (some (.inl (Y.1, 240, .inl (va_up (fun x => u 11 (x / 30) (x % 30)) (30 * b + j) v)))) = Ew Y ng nr nb s (u2 u 11 b (va_up (u 11 b) j v)) ad := by
  refine u2_eq ?_ (fun i' hi => ?_) (fun k' hk => ?_)
  · show some (Sum.inl (_, _, Sum.inl (fun x => (u2 u 11 b (va_up (u 11 b) j v)) 11 (x / 30) (x % 30)))) = _
    congr 6
    funext y
    by_cases hy : y = 30 * b + j
    · have h1 : y / 30 = b := by omega
      have h2 : y % 30 = j := by omega
      simp [u2, va_up, h1, h2, ← hy]
    · by_cases h1 : y / 30 = b
      · have h2 : y % 30 ≠ j := by omega
        simp [u2, va_up, h1, h2, hy]
      · simp [u2, va_up, h1, hy]
  · match i', hi with
    | 0, h => first | exact absurd rfl h | rfl
    | 1, h => first | exact absurd rfl h | rfl
    | 2, h => first | exact absurd rfl h | rfl
    | 3, h => first | exact absurd rfl h | rfl
    | 4, h => first | exact absurd rfl h | rfl
    | 5, h => first | exact absurd rfl h | rfl
    | 6, h => first | exact absurd rfl h | rfl
    | 7, h => first | exact absurd rfl h | rfl
    | 8, h => first | exact absurd rfl h | rfl
    | 9, h => first | exact absurd rfl h | rfl
    | 10, h => first | exact absurd rfl h | rfl
    | 11, h => first | exact absurd rfl h | rfl
    | 12, h => first | exact absurd rfl h | rfl
    | 13, h => first | exact absurd rfl h | rfl
    | 14, h => first | exact absurd rfl h | rfl
    | 15, h => first | exact absurd rfl h | rfl
    | _ + 16, _ => rfl
  · match k', hk with
    | 0, _ => rfl
    | 1, _ => rfl
    | 2, _ => rfl
    | 3, _ => rfl
    | 4, _ => rfl
    | 5, _ => rfl
    | 6, _ => rfl
    | 7, _ => rfl
    | 8, _ => rfl
    | 9, h => exact absurd rfl h
    | _ + 10, _ => rfl
theorem Ep_m15 {b j : Nat} {v : Int32} (h : j < 40) : u2 (Ew Y ng nr nb s u ad) 9 15 (some (.inl (Y.1, 320, .inl (va_up (fun x => u 15 (x / 40) (x % 40)) (40 * b + j) v)))) = Ew Y ng nr nb s (u2 u 15 b (va_up (u 15 b) j v)) ad := by
  refine u2_eq ?_ (fun i' hi => ?_) (fun k' hk => ?_)
  · show some (Sum.inl (_, _, Sum.inl (fun x => (u2 u 15 b (va_up (u 15 b) j v)) 15 (x / 40) (x % 40)))) = _
    congr 6
    funext y
    by_cases hy : y = 40 * b + j
    · have h1 : y / 40 = b := by omega
      have h2 : y % 40 = j := by omega
      simp [u2, va_up, h1, h2, ← hy]
    · by_cases h1 : y / 40 = b
      · have h2 : y % 40 ≠ j := by omega
        simp [u2, va_up, h1, h2, hy]
      · simp [u2, va_up, h1, hy]
  · match i', hi with
    | 0, h => first | exact absurd rfl h | rfl
    | 1, h => first | exact absurd rfl h | rfl
    | 2, h => first | exact absurd rfl h | rfl
    | 3, h => first | exact absurd rfl h | rfl
    | 4, h => first | exact absurd rfl h | rfl
    | 5, h => first | exact absurd rfl h | rfl
    | 6, h => first | exact absurd rfl h | rfl
    | 7, h => first | exact absurd rfl h | rfl
    | 8, h => first | exact absurd rfl h | rfl
    | 9, h => first | exact absurd rfl h | rfl
    | 10, h => first | exact absurd rfl h | rfl
    | 11, h => first | exact absurd rfl h | rfl
    | 12, h => first | exact absurd rfl h | rfl
    | 13, h => first | exact absurd rfl h | rfl
    | 14, h => first | exact absurd rfl h | rfl
    | 15, h => first | exact absurd rfl h | rfl
    | _ + 16, _ => rfl
  · match k', hk with
    | 0, _ => rfl
    | 1, _ => rfl
    | 2, _ => rfl
    | 3, _ => rfl
    | 4, _ => rfl
    | 5, _ => rfl
    | 6, _ => rfl
    | 7, _ => rfl
    | 8, _ => rfl
    | 9, h => exact absurd rfl h
    | _ + 10, _ => rfl
end EW
end
section
/-! CONTRACTS in the world's words, returns and calls -/
def cS (G : va_G) (tys : List (ClassId × FieldType)) (lo : Nat) (E : Nat → Nat → Option va_E) (ad : Nat → Nat → Nat) (U : State) : Prop := wo G lo E ad U.heap ∧ va_K G vwCl tys U
def QI (G : va_G) (tys : List (ClassId × FieldType)) (lo : Nat) (r : Int32) (E : Nat → Nat → Option va_E) (ad : Nat → Nat → Nat) : Array Value → State → Outcome → State → Prop := va_Qi (fun (x : Int32) (_ : Unit) => x = r) (fun _ t => cS G tys lo E ad t) (fun q => lo ≤ q)
def QV (G : va_G) (tys : List (ClassId × FieldType)) (lo : Nat) (E : Nat → Nat → Option va_E) (ad : Nat → Nat → Nat) : Array Value → State → Outcome → State → Prop := va_Qv (fun (_ : Unit) => True) (fun _ t => cS G tys lo E ad t) (fun q => lo ≤ q)
def QQ (G : va_G) (tys : List (ClassId × FieldType)) (lo : Nat) (r : Option Nat) (E : Nat → Nat → Option va_E) (ad : Nat → Nat → Nat) : Array Value → State → Outcome → State → Prop := va_Qq (fun (x : Option Nat) (_ : Unit) => x = r) (fun _ t => cS G tys lo E ad t) (fun q => lo ≤ q)
/-- with new cells: their addresses, and what is known of them -/
def QVa (G : va_G) (lo : Nat) (X : (Nat → Nat → Nat) × List (ClassId × FieldType) → Prop) (F : (Nat → Nat → Nat) → List (ClassId × FieldType) → Nat → Nat → Option va_E) : Array Value → State → Outcome → State → Prop := va_Qv X (fun z t => cS G z.2 lo (F z.1 z.2) z.1 t) (fun q => lo ≤ q)
def QIa (G : va_G) (tys : List (ClassId × FieldType)) (lo : Nat) (r : Int32) (F : (Nat → Nat → Nat) → Nat → Nat → Option va_E) : Array Value → State → Outcome → State → Prop := va_Qi (fun (x : Int32) (_ : Nat → Nat → Nat) => x = r) (fun z t => cS G tys lo (F z) z t) (fun q => lo ≤ q)
theorem cS_blind {G : va_G} {tys : List (ClassId × FieldType)} {lo : Nat} {E : Nat → Nat → Option va_E} {ad : Nat → Nat → Nat} {av : List Value} : FrameBlind (va_Pc av (cS G tys lo E ad)) := fun a U g mk q => ⟨q.1, q.2.1, va_K.moved (u := U) (U := U.calling g mk a) (Vm.Alike.refl U.vm) q.2.2⟩
theorem met_of {l : Launch} {y : MethodName} {ws ws' : List Cond} {rm : Room} {G : va_G} {tys : List (ClassId × FieldType)} {lo : Nat} {E : Nat → Nat → Option va_E} {ad : Nat → Nat → Nat} {av : List Value} {Qc : Array Value → State → Outcome → State → Prop} {mc ms : Nat} {cc : ByteArray} {maxL : Nat} {ret : Option FieldType}
    (hy : plainName y.cls = true) (hwd : ws = Cond.code y cc maxL ret :: ws') (hlen : (lg_sl av).length ≤ maxL) (hcat : (lv_args 0 av).all (fun q => q.2.category == 1) = true)
    (body : ∀ (p : Program) (e : Env) (s : State) (m : MethodId) (below : List Frame) (meth : Method) (c : Code) (ls : Array Slot), p.tables.exec = Jvm.exec → c.code = cc → meth.sig.returnType = ret → meth.locks = false → c.maxLocals = maxL → (∀ w ∈ ws, w.before av.toArray s = true) → s.vm.findClass y.cls = some m.cls → meth.name = y.name → wo G lo E ad s.heap → va_K G vwCl tys s → lh ls maxL (fun i => ((lv_args 0 av).find? (fun q => q.1 == i)).map (fun q => q.2)) → va_S (fun q => lo ≤ q) s.heap s.heap [] →
      W p l e (headSpec ws rm).room s m av.toArray below meth c s.heap [] 0 0 (MQ below Qc av.toArray s mc ms (fun q => lo ≤ q)) (F0 m 0 ls [])) :
    Met l y ws rm (va_Pc av (cS G tys lo E ad)) Qc mc ms (fun q => lo ≤ q) := by
  refine Met.ofW (cc := cc) (maxL := maxL) (ret := ret) hy hwd ?_
  intro p e s m args below meth c s₁ B hml hv
  obtain ⟨rfl, hw, hK⟩ := hv
  have hl := lv_entry av (n := maxL) hlen
  rw [lg_entry_eq]
  exact body p e s m below meth c _ B.exec B.bytes B.returns B.notSynchronized hml (atoms_spec (ws := ws) B.pre) (findClass_of_methodNamed B.named) (name_of_methodNamed B.named B.method).1 hw hK (lh.of hl hcat) va_S.rf
section RET
variable {p : Program} {l : Launch} {e : Env} {R : Room} {s : State} {m : MethodId} {args : Array Value} {below : List Frame} {meth : Method} {c : Code} {H : Heap} {locs : List Loc} {cells slots : Nat} {Q : State → Prop}
variable {cc : ByteArray} {pc : Nat} {ls : Array Slot} {rest : List Value} {G : va_G} {lo : Nat} {E E' : Nat → Nat → Option va_E} {ad ad' : Nat → Nat → Nat} {H0 : Heap} {tys : List (ClassId × FieldType)}
theorem q_iret (hx : p.tables.exec = Jvm.exec) (hb : c.code = cc) (hr : meth.sig.returnType = some .int) (hlk : meth.locks = false) (hK : va_K G vwCl tys s) (hw : wo G lo E ad H) (hS : va_S (fun q => lo ≤ q) s.heap H locs) {v r0 : Int32} (hdg : decode cc pc = .ok (.ireturn, 1)) (hv : v = r0) (hE : E = E') : W p l e R s m args below meth c H locs cells slots (MQ below (QI G tys lo r0 E' ad) args s cells slots (fun q => lo ≤ q)) (F0 m pc ls [.int v]) := by
  subst hv hE
  exact W.iret hx hb hr (fun t ht hW => ⟨⟨v, (), rfl, rfl, by rw [ht]; exact hw, va_K.moved hW.alike hK⟩, hS.F ht⟩) hS.2.2 hdg
theorem q_iretA (hx : p.tables.exec = Jvm.exec) (hb : c.code = cc) (hr : meth.sig.returnType = some .int) (hlk : meth.locks = false) (hK : va_K G vwCl tys s) (hw : wo G lo E ad H) (hS : va_S (fun q => lo ≤ q) s.heap H locs) {v r0 : Int32} {F : (Nat → Nat → Nat) → Nat → Nat → Option va_E} (hdg : decode cc pc = .ok (.ireturn, 1)) (hv : v = r0) (hE : E = F ad) : W p l e R s m args below meth c H locs cells slots (MQ below (QIa G tys lo r0 F) args s cells slots (fun q => lo ≤ q)) (F0 m pc ls [.int v]) := by
  subst hv hE
  exact W.iret hx hb hr (fun t ht hW => ⟨⟨v, ad, rfl, rfl, by rw [ht]; exact hw, va_K.moved hW.alike hK⟩, hS.F ht⟩) hS.2.2 hdg
theorem q_zret (hx : p.tables.exec = Jvm.exec) (hb : c.code = cc) (hr : meth.sig.returnType = some .boolean) (hlk : meth.locks = false) (hK : va_K G vwCl tys s) (hw : wo G lo E ad H) (hS : va_S (fun q => lo ≤ q) s.heap H locs) {v r0 : Int32} (hdg : decode cc pc = .ok (.ireturn, 1)) (hn : narrow .boolean (.int v) = .int v) (hv : v = r0) (hE : E = E') : W p l e R s m args below meth c H locs cells slots (MQ below (QI G tys lo r0 E' ad) args s cells slots (fun q => lo ≤ q)) (F0 m pc ls [.int v]) := by
  subst hv hE
  exact W.zret hx hb hr hn (fun t ht hW => ⟨⟨v, (), rfl, rfl, by rw [ht]; exact hw, va_K.moved hW.alike hK⟩, hS.F ht⟩) hS.2.2 hdg
theorem q_vret (hx : p.tables.exec = Jvm.exec) (hb : c.code = cc) (hr : meth.sig.returnType = none) (hlk : meth.locks = false) (hK : va_K G vwCl tys s) (hw : wo G lo E ad H) (hS : va_S (fun q => lo ≤ q) s.heap H locs) (hdg : decode cc pc = .ok (.return_, 1)) (hE : E = E') : W p l e R s m args below meth c H locs cells slots (MQ below (QV G tys lo E' ad) args s cells slots (fun q => lo ≤ q)) (F0 m pc ls []) := by
  subst hE
  exact W.vret hx hb hr (fun t ht hW => ⟨⟨(), rfl, trivial, by rw [ht]; exact hw, va_K.moved hW.alike hK⟩, hS.F ht⟩) hS.2.2 hdg
theorem q_vretA (hx : p.tables.exec = Jvm.exec) (hb : c.code = cc) (hr : meth.sig.returnType = none) (hlk : meth.locks = false) (hK : va_K G vwCl tys s) (hw : wo G lo E ad H) (hS : va_S (fun q => lo ≤ q) s.heap H locs) {X : (Nat → Nat → Nat) × List (ClassId × FieldType) → Prop} {F : (Nat → Nat → Nat) → List (ClassId × FieldType) → Nat → Nat → Option va_E} (hdg : decode cc pc = .ok (.return_, 1)) (hX : X (ad, tys)) (hE : E = F ad tys) : W p l e R s m args below meth c H locs cells slots (MQ below (QVa G lo X F) args s cells slots (fun q => lo ≤ q)) (F0 m pc ls []) := by
  subst hE
  exact W.vret hx hb hr (fun t ht hW => ⟨⟨(ad, tys), rfl, hX, by rw [ht]; exact hw, va_K.moved hW.alike hK⟩, hS.F ht⟩) hS.2.2 hdg
theorem q_aret (hx : p.tables.exec = Jvm.exec) (hb : c.code = cc) {nm : String} (hr : meth.sig.returnType = some (.object nm)) (hlk : meth.locks = false) (hK : va_K G vwCl tys s) (hw : wo G lo E ad H) (hS : va_S (fun q => lo ≤ q) s.heap H locs) {v r0 : Option Nat} (hdg : decode cc pc = .ok (.areturn, 1)) (hv : v = r0) (hE : E = E') : W p l e R s m args below meth c H locs cells slots (MQ below (QQ G tys lo r0 E' ad) args s cells slots (fun q => lo ≤ q)) (F0 m pc ls [va_rf v]) := by
  subst hv hE
  exact W.aret hx hb hr (Or.inl ⟨_, rfl⟩) (va_rf_or v) (fun t ht hW => ⟨⟨v, (), rfl, rfl, by rw [ht]; exact hw, va_K.moved hW.alike hK⟩, hS.F ht⟩) hS.2.2 hdg
end RET
section CALL
variable {p : Program} {l : Launch} {e : Env} {R : Room} {s : State} {m : MethodId} {args : Array Value} {below : List Frame} {meth : Method} {c : Code} {H : Heap} {locs : List Loc} {cells slots : Nat} {Q : State → Prop}
variable {cc : ByteArray} {pc : Nat} {ls : Array Slot} {rest st0 : List Value} {G : va_G} {lo : Nat} {E E' : Nat → Nat → Option va_E} {ad ad' : Nat → Nat → Nat} {H0 : Heap} {tys : List (ClassId × FieldType)}
variable {y : MethodName} {bytes : ByteArray} {maxL nL mc ms n index : Nat} {ret : Option FieldType} {ws Ts : List Cond} {rm : Room} {own C : String} {k i ci N : Nat} {T : u_T} {fs As : List Value} {av : List Value} {Qc : Array Value → State → Outcome → State → Prop}
theorem q_runV (S : CallFix p m c cc nL s args Ts own) (hM : Met l y ws rm (va_Pc (.ref (ad k i) :: As) (cS G tys lo E ad)) Qc mc ms (fun q => lo ≤ q)) (cw : CallW R s args own C index y bytes maxL ret ws rm mc ms n) (hK : va_K G vwCl tys s) (hw : wo G lo E ad H) (he : E k i = some (.inr (ci, fs))) (hc : vwCl[ci]? = some (C, T, N)) (hn : As.length = n) (hsize : ls.size = nL) (hst : st0 = As.reverse ++ .ref (ad k i) :: rest) (hW : (rest.map fun v => v.category).sum ≤ 8) (hdg : decode cc pc = .ok (.invokevirtual index, 3)) (hf : cells + mc ≤ R.cells ∧ slots + ms ≤ R.slots) :
    va_Run p l e R s m args below meth c H locs cells slots mc ms (F0 m pc ls st0) rest (Qc (Value.ref (ad k i) :: As).toArray) (fun q => lo ≤ q) :=
  va_runV S hM cw ⟨cS_blind, va_recv hK (hw.one he) (q0 := 0) hc rfl, fun U hU hW => ⟨rfl, by rw [hU]; exact hw, va_K.moved hW.alike hK⟩⟩ rfl hn hsize hst (lv_room hW) hdg hf
theorem q_runS (S : CallFix p m c cc nL s args Ts own) (hM : Met l y ws rm (va_Pc As (cS G tys lo E ad)) Qc mc ms (fun q => lo ≤ q)) (cw : CallB R s args own index y bytes maxL ret ws rm mc ms n ∧ (Cond.static y).before args s = true) (hK : va_K G vwCl tys s) (hw : wo G lo E ad H) (hn : As.length = n) (hsize : ls.size = nL) (hst : st0 = As.reverse ++ rest) (hW : (rest.map fun v => v.category).sum ≤ 8) (hdg : decode cc pc = .ok (.invokestatic index, 3)) (hf : cells + mc ≤ R.cells ∧ slots + ms ≤ R.slots) :
    va_Run p l e R s m args below meth c H locs cells slots mc ms (F0 m pc ls st0) rest (Qc As.toArray) (fun q => lo ≤ q) :=
  va_runS S hM cw ⟨cS_blind, fun U hU hW => ⟨rfl, by rw [hU]; exact hw, va_K.moved hW.alike hK⟩⟩ rfl hn hsize hst (lv_room hW) hdg hf
theorem q_runI (S : CallFix p m c cc nL s args Ts own) (hM : Met l y ws rm (va_Pc (.ref (ad k i) :: As) (cS G tys lo E ad)) Qc mc ms (fun q => lo ≤ q)) (cw : CallB R s args own index y bytes maxL none ws rm mc ms n ∧ y.name = "<init>" ∧ (Cond.instanceMethod y).before args s = true) (hK : va_K G vwCl tys s) (hw : wo G lo E ad H) (hn : As.length = n) (hsize : ls.size = nL) (hst : st0 = As.reverse ++ .ref (ad k i) :: rest) (hW : (rest.map fun v => v.category).sum ≤ 8) (hdg : decode cc pc = .ok (.invokespecial index, 3)) (hf : cells + mc ≤ R.cells ∧ slots + ms ≤ R.slots) :
    va_Run p l e R s m args below meth c H locs cells slots mc ms (F0 m pc ls st0) rest (Qc (Value.ref (ad k i) :: As).toArray) (fun q => lo ≤ q) :=
  va_runI S hM cw ⟨cS_blind, fun U hU hW => ⟨rfl, by rw [hU]; exact hw, va_K.moved hW.alike hK⟩⟩ rfl hn hsize hst (lv_room hW) hdg hf
/-- what goes on behind a call -/
theorem q_ci {a : Array Value} {r0 : Int32} (hr : va_Run p l e R s m args below meth c H locs cells slots mc ms (F0 m pc ls st0) rest (QI G tys lo r0 E' ad' a) (fun q => lo ≤ q)) (hS : va_S (fun q => lo ≤ q) H0 H locs) (kk : ∀ (H1 : Heap) (locs1 : List Loc), wo G lo E' ad' H1 → va_S (fun q => lo ≤ q) H0 H1 locs1 → W p l e R s m args below meth c H1 locs1 (cells + mc) (slots + ms) Q (F0 m (pc + 3) ls (.int r0 :: rest))) : W p l e R s m args below meth c H locs cells slots Q (F0 m pc ls st0) :=
  va_calli hr hS (fun q _ h => h) (fun q h => h) (fun r u t H1 locs1 ht hvm hp hB hz hk hS1 => by subst hp; exact kk H1 locs1 (ht ▸ hB.1) hS1)
theorem q_cia {a : Array Value} {r0 : Int32} {F : (Nat → Nat → Nat) → Nat → Nat → Option va_E} (hr : va_Run p l e R s m args below meth c H locs cells slots mc ms (F0 m pc ls st0) rest (QIa G tys lo r0 F a) (fun q => lo ≤ q)) (hS : va_S (fun q => lo ≤ q) H0 H locs) (kk : ∀ (ad1 : Nat → Nat → Nat) (H1 : Heap) (locs1 : List Loc), wo G lo (F ad1) ad1 H1 → va_S (fun q => lo ≤ q) H0 H1 locs1 → W p l e R s m args below meth c H1 locs1 (cells + mc) (slots + ms) Q (F0 m (pc + 3) ls (.int r0 :: rest))) : W p l e R s m args below meth c H locs cells slots Q (F0 m pc ls st0) :=
  va_calli hr hS (fun q _ h => h) (fun q h => h) (fun r u t H1 locs1 ht hvm hp hB hz hk hS1 => by subst hp; exact kk u H1 locs1 (ht ▸ hB.1) hS1)
theorem q_cv {a : Array Value} (hr : va_Run p l e R s m args below meth c H locs cells slots mc ms (F0 m pc ls st0) rest (QV G tys lo E' ad' a) (fun q => lo ≤ q)) (hS : va_S (fun q => lo ≤ q) H0 H locs) (kk : ∀ (H1 : Heap) (locs1 : List Loc), wo G lo E' ad' H1 → va_S (fun q => lo ≤ q) H0 H1 locs1 → W p l e R s m args below meth c H1 locs1 (cells + mc) (slots + ms) Q (F0 m (pc + 3) ls rest)) : W p l e R s m args below meth c H locs cells slots Q (F0 m pc ls st0) :=
  va_callv hr hS (fun q _ h => h) (fun q h => h) (fun u t H1 locs1 ht hvm hp hB hz hk hS1 => kk H1 locs1 (ht ▸ hB.1) hS1)
theorem q_cva {a : Array Value} {X : (Nat → Nat → Nat) × List (ClassId × FieldType) → Prop} {F : (Nat → Nat → Nat) → List (ClassId × FieldType) → Nat → Nat → Option va_E} (hr : va_Run p l e R s m args below meth c H locs cells slots mc ms (F0 m pc ls st0) rest (QVa G lo X F a) (fun q => lo ≤ q)) (hS : va_S (fun q => lo ≤ q) H0 H locs) (kk : ∀ (ad1 : Nat → Nat → Nat) (tys1 : List (ClassId × FieldType)) (H1 : Heap) (locs1 : List Loc), X (ad1, tys1) → va_K G vwCl tys1 s → wo G lo (F ad1 tys1) ad1 H1 → va_S (fun q => lo ≤ q) H0 H1 locs1 → W p l e R s m args below meth c H1 locs1 (cells + mc) (slots + ms) Q (F0 m (pc + 3) ls rest)) : W p l e R s m args below meth c H locs cells slots Q (F0 m pc ls st0) :=
  va_callv hr hS (fun q _ h => h) (fun q h => h) (fun u t H1 locs1 ht hvm hp hB hz hk hS1 => kk u.1 u.2 H1 locs1 hp (va_K.moved hvm.symm hB.2) (ht ▸ hB.1) hS1)
theorem q_cq {a : Array Value} {r0 : Option Nat} (hr : va_Run p l e R s m args below meth c H locs cells slots mc ms (F0 m pc ls st0) rest (QQ G tys lo r0 E' ad' a) (fun q => lo ≤ q)) (hS : va_S (fun q => lo ≤ q) H0 H locs) (kk : ∀ (H1 : Heap) (locs1 : List Loc), wo G lo E' ad' H1 → va_S (fun q => lo ≤ q) H0 H1 locs1 → W p l e R s m args below meth c H1 locs1 (cells + mc) (slots + ms) Q (F0 m (pc + 3) ls (va_rf r0 :: rest))) : W p l e R s m args below meth c H locs cells slots Q (F0 m pc ls st0) :=
  va_callq hr hS (fun q _ h => h) (fun q h => h) (fun r u t H1 locs1 ht hvm hp hB hz hk hS1 => by subst hp; exact kk H1 locs1 (ht ▸ hB.1) hS1)
end CALL
end
section
/-! more rows over the world: numbers as nI, the copy of a row onto itself -/
theorem u2_ne {α : Type} {f : Nat → Nat → α} {k i k' i' : Nat} {v : α} (h : ¬ (k' = k ∧ i' = i)) : u2 f k i v k' i' = f k' i' := by
  by_cases hk : k' = k
  · subst hk
    exact u2_i (fun q => h ⟨rfl, q⟩)
  · rw [u2_k hk]
theorem two_ne {E : Nat → Nat → Option va_E} {k i k2 i2 : Nat} {a b : va_E} (h : E k i = some a) (h2 : E k2 i2 = some b) (hab : a ≠ b) : ¬ (k = k2 ∧ i = i2) := by
  rintro ⟨rfl, rfl⟩
  exact hab (Option.some.inj (h.symm.trans h2))
theorem nI_s1 {n : Nat} (h : 0 < n) : nI n - 1 = nI (n - 1) := by
  cases n with
  | zero => omega
  | succ n => exact nI_pred n
theorem vp_in_not {x : Int32} {n : Nat} (h0 : ¬ x < 0) (h1 : ¬ nI n ≤ x) (hn : n < 2 ^ 31) : vp_in x n := by
  rcases pk_ix x hn with h | h | ⟨j, hj, rfl⟩
  · exact absurd h h0
  · exact absurd h h1
  · exact vp_in_nI hj hn
section LM
variable {p : Program} {l : Launch} {e : Env} {R : Room} {s : State} {m : MethodId} {args : Array Value} {below : List Frame} {meth : Method} {c : Code} {H : Heap} {locs : List Loc} {cells slots : Nat} {Q : State → Prop}
variable {cc : ByteArray} {pc : Nat} {ls : Array Slot} {rest : List Value} {G : va_G} {lo : Nat} {E : Nat → Nat → Option va_E} {ad : Nat → Nat → Nat} {H0 : Heap} {tys : List (ClassId × FieldType)} {k i : Nat}
theorem f_top {x y : Int32} (h : x = y) (kk : W p l e R s m args below meth c H locs cells slots Q (F0 m pc ls (.int y :: rest))) : W p l e R s m args below meth c H locs cells slots Q (F0 m pc ls (.int x :: rest)) := h ▸ kk
theorem f_val {x y : Value} (h : x = y) (kk : W p l e R s m args below meth c H locs cells slots Q (F0 m pc ls (y :: rest))) : W p l e R s m args below meth c H locs cells slots Q (F0 m pc ls (x :: rest)) := h ▸ kk
theorem e_ialdN (hx : p.tables.exec = Jvm.exec) (hb : c.code = cc) (hK : va_K G vwCl tys s) (hw : wo G lo E ad H) (t0 : Nat) {cA : ClassId} {n : Nat} {f : Nat → Int32} (he : E k i = some (.inl (cA, n, .inl f))) (ht : tys[t0]? = some (cA, .int)) {x : Int32} {j : Nat} (hj : x = nI j) (hn : j < n) (hn2 : n < 2 ^ 31) (hdg : decode cc pc = .ok (.iaload, 1))
    (kk : W p l e R s m args below meth c H locs cells slots Q (F0 m (pc + 1) ls (.int (f j) :: rest))) : W p l e R s m args below meth c H locs cells slots Q (F0 m pc ls (.int x :: .ref (ad k i) :: rest)) := by
  subst hj
  refine e_iald hx hb hK hw t0 he ht (vp_in_nI hn hn2) hdg ?_
  rw [nI_clamp (Nat.lt_trans hn hn2)]
  exact kk
theorem e_zaldN (hx : p.tables.exec = Jvm.exec) (hb : c.code = cc) (hK : va_K G vwCl tys s) (hw : wo G lo E ad H) (t0 : Nat) {cA : ClassId} {n : Nat} {f : Nat → Int32} (he : E k i = some (.inl (cA, n, .inl f))) (ht : tys[t0]? = some (cA, .boolean)) {x : Int32} {j : Nat} (hj : x = nI j) (hn : j < n) (hn2 : n < 2 ^ 31) (hdg : decode cc pc = .ok (.baload, 1))
    (kk : W p l e R s m args below meth c H locs cells slots Q (F0 m (pc + 1) ls (.int (f j) :: rest))) : W p l e R s m args below meth c H locs cells slots Q (F0 m pc ls (.int x :: .ref (ad k i) :: rest)) := by
  subst hj
  refine e_zald hx hb hK hw t0 he ht (vp_in_nI hn hn2) hdg ?_
  rw [nI_clamp (Nat.lt_trans hn hn2)]
  exact kk
theorem e_aaldN (hx : p.tables.exec = Jvm.exec) (hb : c.code = cc) (hK : va_K G vwCl tys s) (hw : wo G lo E ad H) (t0 : Nat) {cA : ClassId} {C : String} {n : Nat} {f : Nat → Option Nat} (he : E k i = some (.inl (cA, n, .inr (.inr (.inr (.inr f)))))) (ht : tys[t0]? = some (cA, .object C)) {x : Int32} {j : Nat} (hj : x = nI j) (hn : j < n) (hn2 : n < 2 ^ 31) {r : Option Nat} (hr : f j = r) (hdg : decode cc pc = .ok (.aaload, 1))
    (kk : W p l e R s m args below meth c H locs cells slots Q (F0 m (pc + 1) ls (va_rf r :: rest))) : W p l e R s m args below meth c H locs cells slots Q (F0 m pc ls (.int x :: .ref (ad k i) :: rest)) := by
  subst hj hr
  refine e_aald hx hb hK hw t0 he ht (vp_in_nI hn hn2) hdg ?_
  rw [nI_clamp (Nat.lt_trans hn hn2)]
  exact kk
theorem e_iastN (hx : p.tables.exec = Jvm.exec) (hb : c.code = cc) (hK : va_K G vwCl tys s) (hw : wo G lo E ad H) (hS : va_S (fun q => lo ≤ q) H0 H locs) (t0 : Nat) {cA : ClassId} {n : Nat} {f : Nat → Int32} (he : E k i = some (.inl (cA, n, .inl f))) (ht : tys[t0]? = some (cA, .int)) {x v : Int32} {j : Nat} (hj : x = nI j) (hn : j < n) (hn2 : n < 2 ^ 31) (hdg : decode cc pc = .ok (.iastore, 1))
    (kk : ∀ (H1 : Heap) (locs1 : List Loc), wo G lo (u2 E k i (some (.inl (cA, n, .inl (va_up f j v))))) ad H1 → va_S (fun q => lo ≤ q) H0 H1 locs1 → W p l e R s m args below meth c H1 locs1 cells slots Q (F0 m (pc + 1) ls rest)) : W p l e R s m args below meth c H locs cells slots Q (F0 m pc ls (.int v :: .int x :: .ref (ad k i) :: rest)) := by
  subst hj
  refine e_iast hx hb hK hw hS t0 he ht (vp_in_nI hn hn2) hdg ?_
  rw [nI_clamp (Nat.lt_trans hn hn2)]
  exact kk
theorem e_zastN (hx : p.tables.exec = Jvm.exec) (hb : c.code = cc) (hK : va_K G vwCl tys s) (hw : wo G lo E ad H) (hS : va_S (fun q => lo ≤ q) H0 H locs) (t0 : Nat) {cA : ClassId} {n : Nat} {f : Nat → Int32} (he : E k i = some (.inl (cA, n, .inl f))) (ht : tys[t0]? = some (cA, .boolean)) {x v : Int32} {j : Nat} (hj : x = nI j) (hn : j < n) (hn2 : n < 2 ^ 31) (hv : narrow .boolean (.int v) = .int v) (hdg : decode cc pc = .ok (.bastore, 1))
    (kk : ∀ (H1 : Heap) (locs1 : List Loc), wo G lo (u2 E k i (some (.inl (cA, n, .inl (va_up f j v))))) ad H1 → va_S (fun q => lo ≤ q) H0 H1 locs1 → W p l e R s m args below meth c H1 locs1 cells slots Q (F0 m (pc + 1) ls rest)) : W p l e R s m args below meth c H locs cells slots Q (F0 m pc ls (.int v :: .int x :: .ref (ad k i) :: rest)) := by
  subst hj
  refine e_zast hx hb hK hw hS t0 he ht (vp_in_nI hn hn2) hv hdg ?_
  rw [nI_clamp (Nat.lt_trans hn hn2)]
  exact kk
theorem e_aastN (hx : p.tables.exec = Jvm.exec) (hb : c.code = cc) (hK : va_K G vwCl tys s) (hw : wo G lo E ad H) (hS : va_S (fun q => lo ≤ q) H0 H locs) (t0 ci : Nat) {k' i' : Nat} {cA : ClassId} {r : vw_C} {n : Nat} {vs : List Value} {f : Nat → Option Nat} (he : E k i = some (.inl (cA, n, .inr (.inr (.inr (.inr f)))))) (ht : tys[t0]? = some (cA, .object r.1)) (hv : E k' i' = some (.inr (ci, vs))) (hcl : vwCl[ci]? = some r) {x : Int32} {j : Nat} (hj : x = nI j) (hn : j < n) (hn2 : n < 2 ^ 31) (hdg : decode cc pc = .ok (.aastore, 1))
    (kk : ∀ (H1 : Heap) (locs1 : List Loc), wo G lo (u2 E k i (some (.inl (cA, n, .inr (.inr (.inr (.inr (va_up f j (some (ad k' i')))))))))) ad H1 → va_S (fun q => lo ≤ q) H0 H1 locs1 → W p l e R s m args below meth c H1 locs1 cells slots Q (F0 m (pc + 1) ls rest)) : W p l e R s m args below meth c H locs cells slots Q (F0 m pc ls (.ref (ad k' i') :: .int x :: .ref (ad k i) :: rest)) := by
  subst hj
  refine e_aast hx hb hK hw hS t0 ci he ht hv hcl (vp_in_nI hn hn2) hdg ?_
  rw [nI_clamp (Nat.lt_trans hn hn2)]
  exact kk
/-- a row of ints copied onto itself -/
theorem e_copy (hx : p.tables.exec = Jvm.exec) (hb : c.code = cc) (hml : c.maxLocals = ls.size) {own : String} {index : Nat} (hown : s.vm.findClass own = some m.cls) (hlink : (Cond.methodLink own index arraycopyName).before args s = true) (hnat : (Cond.native arraycopyName).before args s = true) (hstat : (Cond.static arraycopyName).before args s = true) (hini : (Cond.initialized "java/lang/System").before args s = true)
    (hK : va_K G vwCl tys s) (hw : wo G lo E ad H) (hS : va_S (fun q => lo ≤ q) H0 H locs) (t0 : Nat) {cA : ClassId} {n0 : Nat} {f : Nat → Int32} (he : E k i = some (.inl (cA, n0, .inl f))) (ht : tys[t0]? = some (cA, .int))
    {sp dp n : Int32} (h1 : ¬ sp < 0) (h2 : ¬ dp < 0) (h3 : ¬ n < 0) (h4 : sp.toNatClampNeg + n.toNatClampNeg ≤ n0) (h5 : dp.toNatClampNeg + n.toNatClampNeg ≤ n0)
    (hframes : 1 ≤ R.frames) (hlocals : (rest.map fun v => v.category).sum + 18 ≤ R.locals) (hdg : decode cc pc = .ok (.invokestatic index, 3))
    (kk : ∀ (H1 : Heap) (locs1 : List Loc), wo G lo (u2 E k i (some (.inl (cA, n0, .inl (va_cpy f f sp.toNatClampNeg dp.toNatClampNeg n.toNatClampNeg))))) ad H1 → va_S (fun q => lo ≤ q) H0 H1 locs1 → W p l e R s m args below meth c H1 locs1 cells slots Q (F0 m (pc + 3) ls rest)) : W p l e R s m args below meth c H locs cells slots Q (F0 m pc ls (.int n :: .int dp :: .ref (ad k i) :: .int sp :: .ref (ad k i) :: rest)) := by
  have nn : ∀ z : Int32, ¬ z < 0 → z.toInt = (z.toNatClampNeg : Int) := by
    intro z hz
    have hz0 : (0 : Int) ≤ z.toInt := by
      have := Int32.not_lt.mp hz
      simpa using Int32.le_iff_toInt_le.mp this
    show z.toInt = ((z.toInt.toNat : Nat) : Int)
    omega
  intro T hT X
  have hlo := (hw.2.1 k i _ he).2
  have hc : H[ad k i]? = some (vp_cell cA (n0, .inl f)) := (hw.2.1 k i _ he).1
  obtain ⟨-, k0, hk0, cm0, hkk0⟩ := (hK.2 t0 _ ht).1 n0 (fun j => .int (f j))
  obtain ⟨vm', X', step⟩ := X.arraycopy hx hown hlink hnat hstat hini (src := ad k i) (dst := ad k i) (cs := vp_cell cA (n0, .inl f)) (cd := vp_cell cA (n0, .inl f)) (srcPos := sp) (destPos := dp) (n := n) (by rw [hT]; exact hc) (by rw [hT]; exact hc)
    (fun _ h => by cases h) (fun _ h => by cases h) (fun h => by cases h) (fun h => by cases h) hk0 hk0 hkk0 hkk0 (by simp [refKind]) h1 h2 h3
    (by rw [nn sp h1, nn n h3]; show ¬ _ > ((arrV cA n0 (fun j => .int (f j))).slots.size : Int); rw [arrV_size]; omega)
    (by rw [nn dp h2, nn n h3]; show ¬ _ > ((arrV cA n0 (fun j => .int (f j))).slots.size : Int); rw [arrV_size]; omega)
    (fun vm₁ _ q hq => by
      have e : (vp_cell cA (n0, .inl f)).slots.getD (sp.toNatClampNeg + q) .null = .int (f (sp.toNatClampNeg + q)) := by
        show (arrV cA n0 (fun j => .int (f j))).slots.getD _ _ = _
        rw [Array.getD_eq_getD_getElem?, arrV_read _ _ (by omega)]
        rfl
      refine ⟨?_, ?_⟩
      · rw [e]
        rfl
      · rw [e]
        exact trivial)
    (g := F0 m pc ls (.int n :: .int dp :: .ref (ad k i) :: .int sp :: .ref (ad k i) :: rest)) rfl (by rw [hml]) (rest := rest) rfl (by rw [hb]; exact hdg) hframes (by show 2 * 0 + _ + (5 + 2 + 11) ≤ _; omega)
  have e1 : copied (vp_cell cA (n0, .inl f)) (vp_cell cA (n0, .inl f)) sp dp n = vp_cell cA (n0, .inl (va_cpy f f sp.toNatClampNeg dp.toNatClampNeg n.toNatClampNeg)) := va_copied (fun z => .int z) cA cA f f h4
  rw [e1] at X' step
  have hl : ad k i < H.size := (Array.getElem?_eq_some_iff.mp hc).1
  have hheap : ((T.setVm vm').setCell (ad k i) (vp_cell cA (n0, .inl (va_cpy f f sp.toNatClampNeg dp.toNatClampNeg n.toNatClampNeg)))).heap = H.setIfInBounds (ad k i) (vp_cell cA (n0, .inl (va_cpy f f sp.toNatClampNeg dp.toNatClampNeg n.toNatClampNeg))) := by rw [← hT]; rfl
  have oq : ∀ q : Nat, q ≠ ad k i → (H.setIfInBounds (ad k i) (vp_cell cA (n0, .inl (va_cpy f f sp.toNatClampNeg dp.toNatClampNeg n.toNatClampNeg))))[q]? = H[q]? := fun q hq => by simp [Array.getElem?_setIfInBounds, Ne.symm hq]
  obtain ⟨t, a1, b1⟩ := kk _ _ (hw.set he (show (H.setIfInBounds (ad k i) _)[ad k i]? = some _ by simp [Array.getElem?_setIfInBounds, hl]) (by simp) oq) ⟨by simp; exact hS.1, fun q g1 g2 => by
      rw [oq q (fun e => g2 (by rw [e]; exact hlo))]
      exact hS.2.1 q g1 g2, fun q hq => by
      rcases List.mem_append.mp hq with h | h
      · exact hS.2.2 q h
      · obtain ⟨z, -, hz⟩ := List.mem_map.mp h
        rw [← hz]
        exact hlo⟩ _ hheap X'
  exact ⟨t, step t a1, b1⟩
end LM
end
section
set_option maxHeartbeats 4000000 in
set_option maxRecDepth 100000 in
theorem c_X4_isFull (l : Launch) {G : va_G} {Y : YT} {lo : Nat} {ad : Nat → Nat → Nat} {E : Nat → Nat → Option va_E} {k i k2 i2 n cap : Nat} {f : Nat → Int32} (he : E k i = some (.inr (4, [.ref (ad k2 i2), .int (nI n)]))) (ha : E k2 i2 = some (.inl (Y.1, cap, .inl f))) (hcap : cap < 2 ^ 31) (hn : n ≤ cap) : Met l yX4_isFull wsX4_isFull ({ frames := 0, cells := 0, slots := 0, locals := 0 }) (va_Pc [.ref (ad k i)] (cS G (tysY Y) lo E ad)) (QI G (tysY Y) lo (if n < cap then 0 else 1) E ad) 0 0 (fun q => lo ≤ q) := by
  refine met_of (cc := cX4_isFull) (maxL := 1) (ret := (some .boolean)) (by decide) rfl (Nat.le_of_ble_eq_true rfl) rfl ?_
  intro p e s m below meth c ls hx hb hr hlk hml hts hown hnm hw hK hl hS
  have i4 : ∀ w ∈ wsX40, w ∈ wsX4_isFull := by decide +kernel
  have hn2 : n < 2 ^ 31 := Nat.lt_of_le_of_lt hn hcap
  refine f_aload_n hx hb dX4_isFull_0 hl 0 rfl rfl ?_
  refine e_get (C := RX4) (T := TX4) (N := 2) hx hb hts i4 hown hK hw he rfl 1 (by decide) (hts (.fieldLink RX4 21 "FerryQuay$Row" "size" "I") (by decide +kernel)) rfl dX4_isFull_1 ?_
  refine f_aload_n hx hb dX4_isFull_4 hl 0 rfl rfl ?_
  refine e_get (C := RX4) (T := TX4) (N := 2) hx hb hts i4 hown hK hw he rfl 0 (by decide) (hts (.fieldLink RX4 15 "FerryQuay$Row" "weights" "[I") (by decide +kernel)) rfl dX4_isFull_5 ?_
  refine e_alen (v := nI cap) hx hb hK hw 0 ha rfl rfl dX4_isFull_8 ?_
  refine lv_icmp_lt (tgt := 16) hx hb dX4_isFull_9 (by decide) (fun c9 => ?_) (fun c9 => ?_)
  · refine lv_iconst (v := 0) hx hb dX4_isFull_16 (by decide) ?_
    exact q_zret hx hb hr hlk hK hw hS dX4_isFull_17 rfl (by simp [(nI_ltI hn2 hcap).symm, c9]) rfl
  · refine lv_iconst (v := 1) hx hb dX4_isFull_12 (by decide) ?_
    refine lv_goto (tgt := 17) hx hb dX4_isFull_13 (by decide) ?_
    exact q_zret hx hb hr hlk hK hw hS dX4_isFull_17 rfl (by simp [(nI_ltI hn2 hcap).symm, c9]) rfl
set_option maxHeartbeats 4000000 in
set_option maxRecDepth 100000 in
theorem c_X4_weightAt (l : Launch) {G : va_G} {Y : YT} {lo : Nat} {ad : Nat → Nat → Nat} {E : Nat → Nat → Option va_E} {k i k2 i2 n cap : Nat} {f : Nat → Int32} (he : E k i = some (.inr (4, [.ref (ad k2 i2), .int (nI n)]))) (ha : E k2 i2 = some (.inl (Y.1, cap, .inl f))) (hcap : cap < 2 ^ 31) (j : Int32) : Met l yX4_weightAt wsX4_weightAt ({ frames := 0, cells := 0, slots := 0, locals := 0 }) (va_Pc [.ref (ad k i), .int j] (cS G (tysY Y) lo E ad)) (QI G (tysY Y) lo (if j < 0 then -1 else if nI n ≤ j then -1 else if nI cap ≤ j then -1 else f j.toNatClampNeg) E ad) 0 0 (fun q => lo ≤ q) := by
  refine met_of (cc := cX4_weightAt) (maxL := 2) (ret := (some .int)) (by decide) rfl (Nat.le_of_ble_eq_true rfl) rfl ?_
  intro p e s m below meth c ls hx hb hr hlk hml hts hown hnm hw hK hl hS
  have i4 : ∀ w ∈ wsX40, w ∈ wsX4_weightAt := by decide +kernel
  refine f_iload_n hx hb dX4_weightAt_0 hl 1 rfl rfl ?_
  refine lv_if_lt (tgt := 30) hx hb dX4_weightAt_1 (by decide) (fun c1 => ?_) (fun c1 => ?_)
  · refine lv_iconst (v := (-1)) hx hb dX4_weightAt_30 (by decide) ?_
    exact q_iret hx hb hr hlk hK hw hS dX4_weightAt_31 (by simp [c1]) rfl
  · refine f_iload_n hx hb dX4_weightAt_4 hl 1 rfl rfl ?_
    refine f_aload_n hx hb dX4_weightAt_5 hl 0 rfl rfl ?_
    refine e_get (C := RX4) (T := TX4) (N := 2) hx hb hts i4 hown hK hw he rfl 1 (by decide) (hts (.fieldLink RX4 21 "FerryQuay$Row" "size" "I") (by decide +kernel)) rfl dX4_weightAt_6 ?_
    refine lv_icmp_ge (tgt := 30) hx hb dX4_weightAt_9 (by decide) (fun c9 => ?_) (fun c9 => ?_)
    · refine lv_iconst (v := (-1)) hx hb dX4_weightAt_30 (by decide) ?_
      exact q_iret hx hb hr hlk hK hw hS dX4_weightAt_31 (by simp [c1, c9]) rfl
    · refine f_iload_n hx hb dX4_weightAt_12 hl 1 rfl rfl ?_
      refine f_aload_n hx hb dX4_weightAt_13 hl 0 rfl rfl ?_
      refine e_get (C := RX4) (T := TX4) (N := 2) hx hb hts i4 hown hK hw he rfl 0 (by decide) (hts (.fieldLink RX4 15 "FerryQuay$Row" "weights" "[I") (by decide +kernel)) rfl dX4_weightAt_14 ?_
      refine e_alen (v := nI cap) hx hb hK hw 0 ha rfl rfl dX4_weightAt_17 ?_
      refine lv_icmp_ge (tgt := 30) hx hb dX4_weightAt_18 (by decide) (fun c18 => ?_) (fun c18 => ?_)
      · refine lv_iconst (v := (-1)) hx hb dX4_weightAt_30 (by decide) ?_
        exact q_iret hx hb hr hlk hK hw hS dX4_weightAt_31 (by simp [c1, c9, c18]) rfl
      · refine f_aload_n hx hb dX4_weightAt_21 hl 0 rfl rfl ?_
        refine e_get (C := RX4) (T := TX4) (N := 2) hx hb hts i4 hown hK hw he rfl 0 (by decide) (hts (.fieldLink RX4 15 "FerryQuay$Row" "weights" "[I") (by decide +kernel)) rfl dX4_weightAt_22 ?_
        refine f_iload_n hx hb dX4_weightAt_25 hl 1 rfl rfl ?_
        refine e_iald hx hb hK hw 0 ha rfl (vp_in_not c1 c18 hcap) dX4_weightAt_26 ?_
        refine lv_goto (tgt := 31) hx hb dX4_weightAt_27 (by decide) ?_
        exact q_iret hx hb hr hlk hK hw hS dX4_weightAt_31 (by simp [c1, c9, c18]) rfl
set_option maxHeartbeats 4000000 in
set_option maxRecDepth 100000 in
theorem c_X4_addLast (l : Launch) {G : va_G} {Y : YT} {lo : Nat} {ad : Nat → Nat → Nat} {E : Nat → Nat → Option va_E} {k i k2 i2 n cap : Nat} {f : Nat → Int32} (he : E k i = some (.inr (4, [.ref (ad k2 i2), .int (nI n)]))) (ha : E k2 i2 = some (.inl (Y.1, cap, .inl f))) (hcap : cap < 2 ^ 31) (x : Int32) (hn : n < cap) : Met l yX4_addLast wsX4_addLast ({ frames := 0, cells := 0, slots := 0, locals := 0 }) (va_Pc [.ref (ad k i), .int x] (cS G (tysY Y) lo E ad)) (QV G (tysY Y) lo (u2 (u2 E k2 i2 (some (.inl (Y.1, cap, .inl (va_up f n x))))) k i (some (.inr (4, [.ref (ad k2 i2), .int (nI (n + 1))])))) ad) 0 0 (fun q => lo ≤ q) := by
  refine met_of (cc := cX4_addLast) (maxL := 2) (ret := none) (by decide) rfl (Nat.le_of_ble_eq_true rfl) rfl ?_
  intro p e s m below meth c ls hx hb hr hlk hml hts hown hnm hw hK hl hS
  have i4 : ∀ w ∈ wsX40, w ∈ wsX4_addLast := by decide +kernel
  have hne : ¬ (k = k2 ∧ i = i2) := two_ne he ha (fun h => by cases h)
  have hne2 : ¬ (k2 = k ∧ i2 = i) := fun h => hne ⟨h.1.symm, h.2.symm⟩
  have hn2 : n < 2 ^ 31 := Nat.lt_trans hn hcap
  refine f_aload_n hx hb dX4_addLast_0 hl 0 rfl rfl ?_
  refine e_get (C := RX4) (T := TX4) (N := 2) hx hb hts i4 hown hK hw he rfl 1 (by decide) (hts (.fieldLink RX4 21 "FerryQuay$Row" "size" "I") (by decide +kernel)) rfl dX4_addLast_1 ?_
  refine lv_if_lt (tgt := 39) hx hb dX4_addLast_4 (by decide) (fun c4 => absurd c4 (nI_pos hn2)) (fun c4 => ?_)
  refine f_aload_n hx hb dX4_addLast_7 hl 0 rfl rfl ?_
  refine e_get (C := RX4) (T := TX4) (N := 2) hx hb hts i4 hown hK hw he rfl 1 (by decide) (hts (.fieldLink RX4 21 "FerryQuay$Row" "size" "I") (by decide +kernel)) rfl dX4_addLast_8 ?_
  refine f_aload_n hx hb dX4_addLast_11 hl 0 rfl rfl ?_
  refine e_get (C := RX4) (T := TX4) (N := 2) hx hb hts i4 hown hK hw he rfl 0 (by decide) (hts (.fieldLink RX4 15 "FerryQuay$Row" "weights" "[I") (by decide +kernel)) rfl dX4_addLast_12 ?_
  refine e_alen (v := nI cap) hx hb hK hw 0 ha rfl rfl dX4_addLast_15 ?_
  refine lv_icmp_ge (tgt := 39) hx hb dX4_addLast_16 (by decide) (fun c16 => absurd c16 (nI_ge hn hcap)) (fun c16 => ?_)
  refine f_aload_n hx hb dX4_addLast_19 hl 0 rfl rfl ?_
  refine e_get (C := RX4) (T := TX4) (N := 2) hx hb hts i4 hown hK hw he rfl 0 (by decide) (hts (.fieldLink RX4 15 "FerryQuay$Row" "weights" "[I") (by decide +kernel)) rfl dX4_addLast_20 ?_
  refine f_aload_n hx hb dX4_addLast_23 hl 0 rfl rfl ?_
  refine e_get (C := RX4) (T := TX4) (N := 2) hx hb hts i4 hown hK hw he rfl 1 (by decide) (hts (.fieldLink RX4 21 "FerryQuay$Row" "size" "I") (by decide +kernel)) rfl dX4_addLast_24 ?_
  refine f_iload_n hx hb dX4_addLast_27 hl 1 rfl rfl ?_
  refine e_iastN hx hb hK hw hS 0 ha rfl rfl hn hcap dX4_addLast_28 (fun H locs hw hS => ?_)
  have he1 := fun v => (u2_ne (f := E) (v := v) hne).trans he
  refine f_aload_n hx hb dX4_addLast_29 hl 0 rfl rfl ?_
  refine lv_dup hx hb dX4_addLast_30 rfl ?_
  refine e_get (C := RX4) (T := TX4) (N := 2) hx hb hts i4 hown hK hw (he1 _) rfl 1 (by decide) (hts (.fieldLink RX4 21 "FerryQuay$Row" "size" "I") (by decide +kernel)) rfl dX4_addLast_31 ?_
  refine lv_iconst (v := 1) hx hb dX4_addLast_34 (by decide) ?_
  refine lv_iadd hx hb dX4_addLast_35 ?_
  refine f_top (nI_1 n) ?_
  refine e_put (C := RX4) (T := TX4) (N := 2) (ty := .int) hx hb hts i4 tyX4 tyX4_ok nmX4 hown hK hw hS (he1 _) rfl 1 (by decide) (hts (.fieldLink RX4 21 "FerryQuay$Row" "size" "I") (by decide +kernel)) rfl (by decide +kernel) rfl rfl (Nat.le_of_ble_eq_true rfl) dX4_addLast_36 (fun H locs hw hS => ?_)
  exact q_vret hx hb hr hlk hK hw hS dX4_addLast_39 rfl
set_option maxHeartbeats 4000000 in
set_option maxRecDepth 100000 in
theorem c_X4_removeFirst (l : Launch) {G : va_G} {Y : YT} {lo : Nat} {ad : Nat → Nat → Nat} {E : Nat → Nat → Option va_E} {k i k2 i2 n cap : Nat} {f : Nat → Int32} (he : E k i = some (.inr (4, [.ref (ad k2 i2), .int (nI n)]))) (ha : E k2 i2 = some (.inl (Y.1, cap, .inl f))) (hcap : cap < 2 ^ 31) (h0 : 0 < n) (hn : n ≤ cap) : Met l yX4_removeFirst wsX4_removeFirst ({ frames := 1, cells := 0, slots := 0, locals := 30 }) (va_Pc [.ref (ad k i)] (cS G (tysY Y) lo E ad)) (QV G (tysY Y) lo (u2 (u2 E k i (some (.inr (4, [.ref (ad k2 i2), .int (nI (n - 1))])))) k2 i2 (some (.inl (Y.1, cap, .inl (va_cpy f f 1 0 (n - 1)))))) ad) 0 0 (fun q => lo ≤ q) := by
  refine met_of (cc := cX4_removeFirst) (maxL := 1) (ret := none) (by decide) rfl (Nat.le_of_ble_eq_true rfl) rfl ?_
  intro p e s m below meth c ls hx hb hr hlk hml hts hown hnm hw hK hl hS
  have i4 : ∀ w ∈ wsX40, w ∈ wsX4_removeFirst := by decide +kernel
  have hne : ¬ (k = k2 ∧ i = i2) := two_ne he ha (fun h => by cases h)
  have hne2 : ¬ (k2 = k ∧ i2 = i) := fun h => hne ⟨h.1.symm, h.2.symm⟩
  have hn2 : n < 2 ^ 31 := Nat.lt_of_le_of_lt hn hcap
  have hn3 : n - 1 < 2 ^ 31 := Nat.lt_of_le_of_lt (Nat.sub_le n 1) hn2
  refine f_aload_n hx hb dX4_removeFirst_0 hl 0 rfl rfl ?_
  refine e_get (C := RX4) (T := TX4) (N := 2) hx hb hts i4 hown hK hw he rfl 1 (by decide) (hts (.fieldLink RX4 21 "FerryQuay$Row" "size" "I") (by decide +kernel)) rfl dX4_removeFirst_1 ?_
  refine lv_if_le (tgt := 46) hx hb dX4_removeFirst_4 (by decide) (fun c4 => absurd c4 (nI_nle h0 hn2)) (fun c4 => ?_)
  refine f_aload_n hx hb dX4_removeFirst_7 hl 0 rfl rfl ?_
  refine e_get (C := RX4) (T := TX4) (N := 2) hx hb hts i4 hown hK hw he rfl 1 (by decide) (hts (.fieldLink RX4 21 "FerryQuay$Row" "size" "I") (by decide +kernel)) rfl dX4_removeFirst_8 ?_
  refine f_aload_n hx hb dX4_removeFirst_11 hl 0 rfl rfl ?_
  refine e_get (C := RX4) (T := TX4) (N := 2) hx hb hts i4 hown hK hw he rfl 0 (by decide) (hts (.fieldLink RX4 15 "FerryQuay$Row" "weights" "[I") (by decide +kernel)) rfl dX4_removeFirst_12 ?_
  refine e_alen (v := nI cap) hx hb hK hw 0 ha rfl rfl dX4_removeFirst_15 ?_
  refine lv_icmp_gt (tgt := 46) hx hb dX4_removeFirst_16 (by decide) (fun c16 => absurd c16 (nI_nlt hn hcap)) (fun c16 => ?_)
  refine f_aload_n hx hb dX4_removeFirst_19 hl 0 rfl rfl ?_
  refine lv_dup hx hb dX4_removeFirst_20 rfl ?_
  refine e_get (C := RX4) (T := TX4) (N := 2) hx hb hts i4 hown hK hw he rfl 1 (by decide) (hts (.fieldLink RX4 21 "FerryQuay$Row" "size" "I") (by decide +kernel)) rfl dX4_removeFirst_21 ?_
  refine lv_iconst (v := 1) hx hb dX4_removeFirst_24 (by decide) ?_
  refine lv_isub hx hb dX4_removeFirst_25 ?_
  refine f_top (nI_s1 h0) ?_
  refine e_put (C := RX4) (T := TX4) (N := 2) (ty := .int) hx hb hts i4 tyX4 tyX4_ok nmX4 hown hK hw hS he rfl 1 (by decide) (hts (.fieldLink RX4 21 "FerryQuay$Row" "size" "I") (by decide +kernel)) rfl (by decide +kernel) rfl rfl (Nat.le_of_ble_eq_true rfl) dX4_removeFirst_26 (fun H locs hw hS => ?_)
  have ha1 := fun v => (u2_ne (f := E) (v := v) hne2).trans ha
  refine f_aload_n hx hb dX4_removeFirst_29 hl 0 rfl rfl ?_
  refine e_get (C := RX4) (T := TX4) (N := 2) hx hb hts i4 hown hK hw u2_self rfl 0 (by decide) (hts (.fieldLink RX4 15 "FerryQuay$Row" "weights" "[I") (by decide +kernel)) rfl dX4_removeFirst_30 ?_
  refine lv_iconst (v := 1) hx hb dX4_removeFirst_33 (by decide) ?_
  refine f_aload_n hx hb dX4_removeFirst_34 hl 0 rfl rfl ?_
  refine e_get (C := RX4) (T := TX4) (N := 2) hx hb hts i4 hown hK hw u2_self rfl 0 (by decide) (hts (.fieldLink RX4 15 "FerryQuay$Row" "weights" "[I") (by decide +kernel)) rfl dX4_removeFirst_35 ?_
  refine lv_iconst (v := 0) hx hb dX4_removeFirst_38 (by decide) ?_
  refine f_aload_n hx hb dX4_removeFirst_39 hl 0 rfl rfl ?_
  refine e_get (C := RX4) (T := TX4) (N := 2) hx hb hts i4 hown hK hw u2_self rfl 1 (by decide) (hts (.fieldLink RX4 21 "FerryQuay$Row" "size" "I") (by decide +kernel)) rfl dX4_removeFirst_40 ?_
  refine e_copy (n := nI (n - 1)) hx hb (hml.trans hl.1.symm) hown (hts (.methodLink RX4 25 arraycopyName) (by decide +kernel)) (hts (.native arraycopyName) (by decide +kernel)) (hts (.static arraycopyName) (by decide +kernel)) (hts (.initialized "java/lang/System") (by decide +kernel)) hK hw hS 0 (ha1 _) rfl (by decide) (by decide) (nI_pos hn3) (by rw [nI_clamp hn3]; show 1 + (n - 1) ≤ cap; omega) (by rw [nI_clamp hn3]; show 0 + (n - 1) ≤ cap; omega) (Nat.le_of_ble_eq_true rfl) (Nat.le_of_ble_eq_true rfl) dX4_removeFirst_43 (fun H locs hw hS => ?_)
  rw [nI_clamp hn3] at hw
  exact q_vret hx hb hr hlk hK hw hS dX4_removeFirst_46 rfl
set_option maxHeartbeats 4000000 in
set_option maxRecDepth 100000 in
theorem c_X4_removeLast (l : Launch) {G : va_G} {Y : YT} {lo : Nat} {ad : Nat → Nat → Nat} {E : Nat → Nat → Option va_E} {k i n : Nat} {r : Value} (he : E k i = some (.inr (4, [r, .int (nI n)]))) (h0 : 0 < n) (hn2 : n < 2 ^ 31) : Met l yX4_removeLast wsX4_removeLast ({ frames := 0, cells := 0, slots := 0, locals := 0 }) (va_Pc [.ref (ad k i)] (cS G (tysY Y) lo E ad)) (QV G (tysY Y) lo (u2 E k i (some (.inr (4, [r, .int (nI (n - 1))])))) ad) 0 0 (fun q => lo ≤ q) := by
  refine met_of (cc := cX4_removeLast) (maxL := 1) (ret := none) (by decide) rfl (Nat.le_of_ble_eq_true rfl) rfl ?_
  intro p e s m below meth c ls hx hb hr hlk hml hts hown hnm hw hK hl hS
  have i4 : ∀ w ∈ wsX40, w ∈ wsX4_removeLast := by decide +kernel
  refine f_aload_n hx hb dX4_removeLast_0 hl 0 rfl rfl ?_
  refine e_get (C := RX4) (T := TX4) (N := 2) hx hb hts i4 hown hK hw he rfl 1 (by decide) (hts (.fieldLink RX4 21 "FerryQuay$Row" "size" "I") (by decide +kernel)) rfl dX4_removeLast_1 ?_
  refine lv_if_le (tgt := 17) hx hb dX4_removeLast_4 (by decide) (fun c4 => absurd c4 (nI_nle h0 hn2)) (fun c4 => ?_)
  refine f_aload_n hx hb dX4_removeLast_7 hl 0 rfl rfl ?_
  refine lv_dup hx hb dX4_removeLast_8 rfl ?_
  refine e_get (C := RX4) (T := TX4) (N := 2) hx hb hts i4 hown hK hw he rfl 1 (by decide) (hts (.fieldLink RX4 21 "FerryQuay$Row" "size" "I") (by decide +kernel)) rfl dX4_removeLast_9 ?_
  refine lv_iconst (v := 1) hx hb dX4_removeLast_12 (by decide) ?_
  refine lv_isub hx hb dX4_removeLast_13 ?_
  refine f_top (nI_s1 h0) ?_
  refine e_put (C := RX4) (T := TX4) (N := 2) (ty := .int) hx hb hts i4 tyX4 tyX4_ok nmX4 hown hK hw hS he rfl 1 (by decide) (hts (.fieldLink RX4 21 "FerryQuay$Row" "size" "I") (by decide +kernel)) rfl (by decide +kernel) rfl rfl (Nat.le_of_ble_eq_true rfl) dX4_removeLast_14 (fun H locs hw hS => ?_)
  exact q_vret hx hb hr hlk hK hw hS dX4_removeLast_17 rfl
end
section
theorem wAt_in {n cap j : Nat} {f : Nat → Int32} (hj : j < n) (hn : n ≤ cap) (hcap : cap < 2 ^ 31) : (if nI j < 0 then -1 else if nI n ≤ nI j then -1 else if nI cap ≤ nI j then -1 else f (nI j).toNatClampNeg) = f j := by
  have h1 : j < 2 ^ 31 := by omega
  rw [if_neg (nI_pos h1), if_neg (nI_ge hj (by omega)), if_neg (nI_ge (by omega) hcap), nI_clamp h1]
theorem f_val2 {p : Program} {l : Launch} {e : Env} {R : Room} {s : State} {m : MethodId} {args : Array Value} {below : List Frame} {meth : Method} {c : Code} {H : Heap} {locs : List Loc} {cells slots : Nat} {Q : State → Prop} {pc : Nat} {ls : Array Slot} {rest : List Value} {v x y : Value} (h : x = y) (kk : W p l e R s m args below meth c H locs cells slots Q (F0 m pc ls (v :: y :: rest))) : W p l e R s m args below meth c H locs cells slots Q (F0 m pc ls (v :: x :: rest)) := h ▸ kk
set_option maxHeartbeats 4000000 in
set_option maxRecDepth 100000 in
theorem c_X1_hasRoomFor (l : Launch) {G : va_G} {Y : YT} {lo : Nat} {ad : Nat → Nat → Nat} {E : Nat → Nat → Option va_E} {k i k2 i2 k3 i3 n cap : Nat} {f : Nat → Int32} {rm ld : Int32} (hf : E k i = some (.inr (1, [.int rm, .ref (ad k2 i2), .int ld]))) (he : E k2 i2 = some (.inr (4, [.ref (ad k3 i3), .int (nI n)]))) (ha : E k3 i3 = some (.inl (Y.1, cap, .inl f))) (hcap : cap < 2 ^ 31) (x : Int32) (hn : n ≤ cap) : Met l yX1_hasRoomFor wsX1_hasRoomFor ({ frames := 1, cells := 0, slots := 0, locals := 20 }) (va_Pc [.ref (ad k i), .int x] (cS G (tysY Y) lo E ad)) (QI G (tysY Y) lo (if n < cap then if rm < ld + x then 0 else 1 else 0) E ad) 0 0 (fun q => lo ≤ q) := by
  refine met_of (cc := cX1_hasRoomFor) (maxL := 2) (ret := (some .boolean)) (by decide) rfl (Nat.le_of_ble_eq_true rfl) rfl ?_
  intro p e s m below meth c ls hx hb hr hlk hml hts hown hnm hw hK hl hS
  have i1 : ∀ w ∈ wsX10, w ∈ wsX1_hasRoomFor := by decide +kernel
  refine f_aload_n hx hb dX1_hasRoomFor_0 hl 0 rfl rfl ?_
  refine e_get (C := RX1) (T := TX1) (N := 3) hx hb hts i1 hown hK hw hf rfl 1 (by decide) (hts (.fieldLink RX1 20 "FerryQuay$Ferry" "vehicles" "LFerryQuay$Row;") (by decide +kernel)) rfl dX1_hasRoomFor_1 ?_
  refine q_ci (q_runV (C := RX4) (T := TX4) (N := 2) ⟨hx, hb, hml, hown, hts⟩ (c_X4_isFull l he ha hcap hn) (cwV 0 hts gX1_hasRoomFor_X4_isFull rfl rfl rfl (by decide +kernel) ⟨Nat.le_of_ble_eq_true rfl, Nat.le_of_ble_eq_true rfl⟩) hK hw he rfl rfl hl.1 rfl (by simp [Value.category, va_rf]) dX1_hasRoomFor_4 ⟨Nat.le_of_ble_eq_true rfl, Nat.le_of_ble_eq_true rfl⟩) hS (fun H locs hw hS => ?_)
  by_cases hq : n < cap
  · refine f_top (if_pos hq) ?_
    refine lv_if_ne (tgt := 27) hx hb dX1_hasRoomFor_7 (by decide) (fun c7 => absurd (by decide) c7) (fun c7 => ?_)
    refine f_aload_n hx hb dX1_hasRoomFor_10 hl 0 rfl rfl ?_
    refine e_get (C := RX1) (T := TX1) (N := 3) hx hb hts i1 hown hK hw hf rfl 2 (by decide) (hts (.fieldLink RX1 28 "FerryQuay$Ferry" "load" "I") (by decide +kernel)) rfl dX1_hasRoomFor_11 ?_
    refine f_iload_n hx hb dX1_hasRoomFor_14 hl 1 rfl rfl ?_
    refine lv_iadd hx hb dX1_hasRoomFor_15 ?_
    refine f_aload_n hx hb dX1_hasRoomFor_16 hl 0 rfl rfl ?_
    refine e_get (C := RX1) (T := TX1) (N := 3) hx hb hts i1 hown hK hw hf rfl 0 (by decide) (hts (.fieldLink RX1 9 "FerryQuay$Ferry" "room" "I") (by decide +kernel)) rfl dX1_hasRoomFor_17 ?_
    refine lv_icmp_gt (tgt := 27) hx hb dX1_hasRoomFor_20 (by decide) (fun c20 => ?_) (fun c20 => ?_)
    · refine lv_iconst (v := 0) hx hb dX1_hasRoomFor_27 (by decide) ?_
      exact q_zret hx hb hr hlk hK hw hS dX1_hasRoomFor_28 rfl (by simp [hq, c20]) rfl
    · refine lv_iconst (v := 1) hx hb dX1_hasRoomFor_23 (by decide) ?_
      refine lv_goto (tgt := 28) hx hb dX1_hasRoomFor_24 (by decide) ?_
      exact q_zret hx hb hr hlk hK hw hS dX1_hasRoomFor_28 rfl (by simp [hq, c20]) rfl
  · refine f_top (if_neg hq) ?_
    refine lv_if_ne (tgt := 27) hx hb dX1_hasRoomFor_7 (by decide) (fun c7 => ?_) (fun c7 => absurd c7 (by decide))
    refine lv_iconst (v := 0) hx hb dX1_hasRoomFor_27 (by decide) ?_
    exact q_zret hx hb hr hlk hK hw hS dX1_hasRoomFor_28 rfl (by simp [hq]) rfl
set_option maxHeartbeats 4000000 in
set_option maxRecDepth 100000 in
theorem c_X1_takeAboard (l : Launch) {G : va_G} {Y : YT} {lo : Nat} {ad : Nat → Nat → Nat} {E : Nat → Nat → Option va_E} {k i k2 i2 k3 i3 n cap : Nat} {f : Nat → Int32} {rm ld : Int32} (hf : E k i = some (.inr (1, [.int rm, .ref (ad k2 i2), .int ld]))) (he : E k2 i2 = some (.inr (4, [.ref (ad k3 i3), .int (nI n)]))) (ha : E k3 i3 = some (.inl (Y.1, cap, .inl f))) (hcap : cap < 2 ^ 31) (x : Int32) (hn : n < cap) : Met l yX1_takeAboard wsX1_takeAboard ({ frames := 1, cells := 0, slots := 0, locals := 21 }) (va_Pc [.ref (ad k i), .int x] (cS G (tysY Y) lo E ad)) (QV G (tysY Y) lo (u2 (u2 (u2 E k3 i3 (some (.inl (Y.1, cap, .inl (va_up f n x))))) k2 i2 (some (.inr (4, [.ref (ad k3 i3), .int (nI (n + 1))])))) k i (some (.inr (1, [.int rm, .ref (ad k2 i2), .int (ld + x)])))) ad) 0 0 (fun q => lo ≤ q) := by
  refine met_of (cc := cX1_takeAboard) (maxL := 2) (ret := none) (by decide) rfl (Nat.le_of_ble_eq_true rfl) rfl ?_
  intro p e s m below meth c ls hx hb hr hlk hml hts hown hnm hw hK hl hS
  have i1 : ∀ w ∈ wsX10, w ∈ wsX1_takeAboard := by decide +kernel
  have n12 : ¬ (k = k2 ∧ i = i2) := two_ne hf he (fun h => by simp at h)
  have n13 : ¬ (k = k3 ∧ i = i3) := two_ne hf ha (fun h => by simp at h)
  have n23 : ¬ (k2 = k3 ∧ i2 = i3) := two_ne he ha (fun h => by simp at h)
  have n21 : ¬ (k2 = k ∧ i2 = i) := fun h => n12 ⟨h.1.symm, h.2.symm⟩
  refine f_aload_n hx hb dX1_takeAboard_0 hl 0 rfl rfl ?_
  refine e_get (C := RX1) (T := TX1) (N := 3) hx hb hts i1 hown hK hw hf rfl 1 (by decide) (hts (.fieldLink RX1 20 "FerryQuay$Ferry" "vehicles" "LFerryQuay$Row;") (by decide +kernel)) rfl dX1_takeAboard_1 ?_
  refine f_iload_n hx hb dX1_takeAboard_4 hl 1 rfl rfl ?_
  refine q_cv (q_runV (C := RX4) (T := TX4) (N := 2) ⟨hx, hb, hml, hown, hts⟩ (c_X4_addLast l he ha hcap x hn) (cwV 1 hts gX1_takeAboard_X4_addLast rfl rfl rfl (by decide +kernel) ⟨Nat.le_of_ble_eq_true rfl, Nat.le_of_ble_eq_true rfl⟩) hK hw he rfl rfl hl.1 rfl (by simp [Value.category, va_rf]) dX1_takeAboard_5 ⟨Nat.le_of_ble_eq_true rfl, Nat.le_of_ble_eq_true rfl⟩) hS (fun H locs hw hS => ?_)
  have hf1 := fun v v2 => (u2_ne (f := u2 E k3 i3 v) (v := v2) n12).trans ((u2_ne (f := E) (v := v) n13).trans hf)
  refine f_aload_n hx hb dX1_takeAboard_8 hl 0 rfl rfl ?_
  refine lv_dup hx hb dX1_takeAboard_9 rfl ?_
  refine e_get (C := RX1) (T := TX1) (N := 3) hx hb hts i1 hown hK hw (hf1 _ _) rfl 2 (by decide) (hts (.fieldLink RX1 28 "FerryQuay$Ferry" "load" "I") (by decide +kernel)) rfl dX1_takeAboard_10 ?_
  refine f_iload_n hx hb dX1_takeAboard_13 hl 1 rfl rfl ?_
  refine lv_iadd hx hb dX1_takeAboard_14 ?_
  refine e_put (C := RX1) (T := TX1) (N := 3) (ty := .int) hx hb hts i1 tyX1 tyX1_ok nmX1 hown hK hw hS (hf1 _ _) rfl 2 (by decide) (hts (.fieldLink RX1 28 "FerryQuay$Ferry" "load" "I") (by decide +kernel)) rfl (by decide +kernel) rfl rfl (Nat.le_of_ble_eq_true rfl) dX1_takeAboard_15 (fun H locs hw hS => ?_)
  exact q_vret hx hb hr hlk hK hw hS dX1_takeAboard_18 rfl
set_option maxHeartbeats 4000000 in
set_option maxRecDepth 100000 in
theorem c_X1_weightOfLast (l : Launch) {G : va_G} {Y : YT} {lo : Nat} {ad : Nat → Nat → Nat} {E : Nat → Nat → Option va_E} {k i k2 i2 k3 i3 n cap : Nat} {f : Nat → Int32} {rm ld : Int32} (hf : E k i = some (.inr (1, [.int rm, .ref (ad k2 i2), .int ld]))) (he : E k2 i2 = some (.inr (4, [.ref (ad k3 i3), .int (nI n)]))) (ha : E k3 i3 = some (.inl (Y.1, cap, .inl f))) (hcap : cap < 2 ^ 31) (h0 : 0 < n) (hn : n ≤ cap) : Met l yX1_weightOfLast wsX1_weightOfLast ({ frames := 1, cells := 0, slots := 0, locals := 21 }) (va_Pc [.ref (ad k i)] (cS G (tysY Y) lo E ad)) (QI G (tysY Y) lo (f (n - 1)) E ad) 0 0 (fun q => lo ≤ q) := by
  refine met_of (cc := cX1_weightOfLast) (maxL := 1) (ret := (some .int)) (by decide) rfl (Nat.le_of_ble_eq_true rfl) rfl ?_
  intro p e s m below meth c ls hx hb hr hlk hml hts hown hnm hw hK hl hS
  have i1 : ∀ w ∈ wsX10, w ∈ wsX1_weightOfLast := by decide +kernel
  have i4 : ∀ w ∈ wsX40, w ∈ wsX1_weightOfLast := by decide +kernel
  refine f_aload_n hx hb dX1_weightOfLast_0 hl 0 rfl rfl ?_
  refine e_get (C := RX1) (T := TX1) (N := 3) hx hb hts i1 hown hK hw hf rfl 1 (by decide) (hts (.fieldLink RX1 20 "FerryQuay$Ferry" "vehicles" "LFerryQuay$Row;") (by decide +kernel)) rfl dX1_weightOfLast_1 ?_
  refine f_aload_n hx hb dX1_weightOfLast_4 hl 0 rfl rfl ?_
  refine e_get (C := RX1) (T := TX1) (N := 3) hx hb hts i1 hown hK hw hf rfl 1 (by decide) (hts (.fieldLink RX1 20 "FerryQuay$Ferry" "vehicles" "LFerryQuay$Row;") (by decide +kernel)) rfl dX1_weightOfLast_5 ?_
  refine e_get (C := RX4) (T := TX4) (N := 2) hx hb hts i4 hown hK hw he rfl 1 (by decide) (hts (.fieldLink RX1 34 "FerryQuay$Row" "size" "I") (by decide +kernel)) rfl dX1_weightOfLast_8 ?_
  refine lv_iconst (v := 1) hx hb dX1_weightOfLast_11 (by decide) ?_
  refine lv_isub hx hb dX1_weightOfLast_12 ?_
  refine f_top (nI_s1 h0) ?_
  refine q_ci (q_runV (C := RX4) (T := TX4) (N := 2) ⟨hx, hb, hml, hown, hts⟩ (c_X4_weightAt l he ha hcap (nI (n - 1))) (cwV 1 hts gX1_weightOfLast_X4_weightAt rfl rfl rfl (by decide +kernel) ⟨Nat.le_of_ble_eq_true rfl, Nat.le_of_ble_eq_true rfl⟩) hK hw he rfl rfl hl.1 rfl (by simp [Value.category, va_rf]) dX1_weightOfLast_13 ⟨Nat.le_of_ble_eq_true rfl, Nat.le_of_ble_eq_true rfl⟩) hS (fun H locs hw hS => ?_)
  refine f_top (y := f (n - 1)) (wAt_in (by omega) hn hcap) ?_
  exact q_iret hx hb hr hlk hK hw hS dX1_weightOfLast_16 rfl rfl
set_option maxHeartbeats 4000000 in
set_option maxRecDepth 100000 in
theorem c_X1_putLastAshore (l : Launch) {G : va_G} {Y : YT} {lo : Nat} {ad : Nat → Nat → Nat} {E : Nat → Nat → Option va_E} {k i k2 i2 k3 i3 n cap : Nat} {f : Nat → Int32} {rm ld : Int32} (hf : E k i = some (.inr (1, [.int rm, .ref (ad k2 i2), .int ld]))) (he : E k2 i2 = some (.inr (4, [.ref (ad k3 i3), .int (nI n)]))) (ha : E k3 i3 = some (.inl (Y.1, cap, .inl f))) (hcap : cap < 2 ^ 31) (h0 : 0 < n) (hn : n ≤ cap) : Met l yX1_putLastAshore wsX1_putLastAshore ({ frames := 2, cells := 0, slots := 0, locals := 41 }) (va_Pc [.ref (ad k i)] (cS G (tysY Y) lo E ad)) (QV G (tysY Y) lo (u2 (u2 E k i (some (.inr (1, [.int rm, .ref (ad k2 i2), .int (ld - f (n - 1))])))) k2 i2 (some (.inr (4, [.ref (ad k3 i3), .int (nI (n - 1))])))) ad) 0 0 (fun q => lo ≤ q) := by
  refine met_of (cc := cX1_putLastAshore) (maxL := 1) (ret := none) (by decide) rfl (Nat.le_of_ble_eq_true rfl) rfl ?_
  intro p e s m below meth c ls hx hb hr hlk hml hts hown hnm hw hK hl hS
  have i1 : ∀ w ∈ wsX10, w ∈ wsX1_putLastAshore := by decide +kernel
  have i4 : ∀ w ∈ wsX40, w ∈ wsX1_putLastAshore := by decide +kernel
  have n12 : ¬ (k = k2 ∧ i = i2) := two_ne hf he (fun h => by simp at h)
  have n13 : ¬ (k = k3 ∧ i = i3) := two_ne hf ha (fun h => by simp at h)
  have n23 : ¬ (k2 = k3 ∧ i2 = i3) := two_ne he ha (fun h => by simp at h)
  have n21 : ¬ (k2 = k ∧ i2 = i) := fun h => n12 ⟨h.1.symm, h.2.symm⟩
  refine f_aload_n hx hb dX1_putLastAshore_0 hl 0 rfl rfl ?_
  refine e_get (C := RX1) (T := TX1) (N := 3) hx hb hts i1 hown hK hw hf rfl 1 (by decide) (hts (.fieldLink RX1 20 "FerryQuay$Ferry" "vehicles" "LFerryQuay$Row;") (by decide +kernel)) rfl dX1_putLastAshore_1 ?_
  refine e_get (C := RX4) (T := TX4) (N := 2) hx hb hts i4 hown hK hw he rfl 1 (by decide) (hts (.fieldLink RX1 34 "FerryQuay$Row" "size" "I") (by decide +kernel)) rfl dX1_putLastAshore_4 ?_
  refine lv_if_le (tgt := 30) hx hb dX1_putLastAshore_7 (by decide) (fun c7 => absurd c7 (nI_nle h0 (Nat.lt_of_le_of_lt hn hcap))) (fun c7 => ?_)
  refine f_aload_n hx hb dX1_putLastAshore_10 hl 0 rfl rfl ?_
  refine lv_dup hx hb dX1_putLastAshore_11 rfl ?_
  refine e_get (C := RX1) (T := TX1) (N := 3) hx hb hts i1 hown hK hw hf rfl 2 (by decide) (hts (.fieldLink RX1 28 "FerryQuay$Ferry" "load" "I") (by decide +kernel)) rfl dX1_putLastAshore_12 ?_
  refine f_aload_n hx hb dX1_putLastAshore_15 hl 0 rfl rfl ?_
  refine q_ci (q_runV (C := RX1) (T := TX1) (N := 3) ⟨hx, hb, hml, hown, hts⟩ (c_X1_weightOfLast l hf he ha hcap h0 hn) (cwV 0 hts gX1_putLastAshore_X1_weightOfLast rfl rfl rfl (by decide +kernel) ⟨Nat.le_of_ble_eq_true rfl, Nat.le_of_ble_eq_true rfl⟩) hK hw hf rfl rfl hl.1 rfl (by simp [Value.category, va_rf]) dX1_putLastAshore_16 ⟨Nat.le_of_ble_eq_true rfl, Nat.le_of_ble_eq_true rfl⟩) hS (fun H locs hw hS => ?_)
  refine lv_isub hx hb dX1_putLastAshore_19 ?_
  refine e_put (C := RX1) (T := TX1) (N := 3) (ty := .int) hx hb hts i1 tyX1 tyX1_ok nmX1 hown hK hw hS hf rfl 2 (by decide) (hts (.fieldLink RX1 28 "FerryQuay$Ferry" "load" "I") (by decide +kernel)) rfl (by decide +kernel) rfl rfl (Nat.le_of_ble_eq_true rfl) dX1_putLastAshore_20 (fun H locs hw hS => ?_)
  have he1 := fun v => (u2_ne (f := E) (v := v) n21).trans he
  refine f_aload_n hx hb dX1_putLastAshore_23 hl 0 rfl rfl ?_
  refine e_get (C := RX1) (T := TX1) (N := 3) hx hb hts i1 hown hK hw u2_self rfl 1 (by decide) (hts (.fieldLink RX1 20 "FerryQuay$Ferry" "vehicles" "LFerryQuay$Row;") (by decide +kernel)) rfl dX1_putLastAshore_24 ?_
  refine q_cv (q_runV (C := RX4) (T := TX4) (N := 2) ⟨hx, hb, hml, hown, hts⟩ (c_X4_removeLast l (he1 _) h0 (Nat.lt_of_le_of_lt hn hcap)) (cwV 0 hts gX1_putLastAshore_X4_removeLast rfl rfl rfl (by decide +kernel) ⟨Nat.le_of_ble_eq_true rfl, Nat.le_of_ble_eq_true rfl⟩) hK hw (he1 _) rfl rfl hl.1 rfl (by simp [Value.category, va_rf]) dX1_putLastAshore_27 ⟨Nat.le_of_ble_eq_true rfl, Nat.le_of_ble_eq_true rfl⟩) hS (fun H locs hw hS => ?_)
  exact q_vret hx hb hr hlk hK hw hS dX1_putLastAshore_30 rfl
set_option maxHeartbeats 4000000 in
set_option maxRecDepth 100000 in
theorem c_X2_init (l : Launch) {G : va_G} {Y : YT} {lo : Nat} {ad : Nat → Nat → Nat} {E : Nat → Nat → Option va_E} {k i : Nat} (he : E k i = some (.inr (2, [.int 0, .int 0, .int 0, .int 0]))) (x : Int32) : Met l yX2_init wsX2_init ({ frames := 1, cells := 0, slots := 0, locals := 30 }) (va_Pc [.ref (ad k i), .int x] (cS G (tysY Y) lo E ad)) (QV G (tysY Y) lo (u2 E k i (some (.inr (2, [.int x, .int 0, .int 0, .int 0])))) ad) 0 0 (fun q => lo ≤ q) := by
  refine met_of (cc := cX2_init) (maxL := 2) (ret := none) (by decide) rfl (Nat.le_of_ble_eq_true rfl) rfl ?_
  intro p e s m below meth c ls hx hb hr hlk hml hts hown hnm hw hK hl hS
  have i2 : ∀ w ∈ wsX20, w ∈ wsX2_init := by decide +kernel
  refine f_aload_n hx hb dX2_init_0 hl 0 rfl rfl ?_
  refine W.objInit hx hb hown (hts (.methodLink RX2 1 objectInit) (by decide +kernel)) (hts (.instanceMethod objectInit) (by decide +kernel)) (hts (.code objectInit ⟨#[0xb1]⟩ 1 none) (by decide +kernel)) rfl (by rw [hml]; exact hl.1) rfl dX2_init_1 (Nat.le_of_ble_eq_true rfl) (Nat.le_of_ble_eq_true rfl) ?_
  refine W.eq (g2 := F0 m 4 ls []) rfl ?_
  refine f_aload_n hx hb dX2_init_4 hl 0 rfl rfl ?_
  refine f_iload_n hx hb dX2_init_5 hl 1 rfl rfl ?_
  refine e_putF (C := RX2) (T := TX2) (N := 4) (ty := .int) hx hb hts i2 tyX2 tyX2_ok nmX2 hown hK hw hS he rfl 0 (by decide) (hts (.fieldLink RX2 7 "FerryQuay$Gate" "number" "I") (by decide +kernel)) rfl hnm rfl (by decide +kernel) rfl rfl (Nat.le_of_ble_eq_true rfl) dX2_init_6 (fun H locs hw hS => ?_)
  exact q_vret hx hb hr hlk hK hw hS dX2_init_9 rfl
theorem u2_uu {α : Type} {f : Nat → Nat → α} {k i : Nat} {v v2 : α} : u2 (u2 f k i v) k i v2 = u2 f k i v2 := by
  funext k' i'
  by_cases hk : k' = k
  · by_cases hi : i' = i <;> simp [u2, va_up, hk, hi]
  · simp [u2, va_up, hk]
set_option maxHeartbeats 4000000 in
set_option maxRecDepth 100000 in
theorem c_X3_init (l : Launch) {G : va_G} {Y : YT} {lo : Nat} {ad : Nat → Nat → Nat} {E : Nat → Nat → Option va_E} {k i : Nat} (he : E k i = some (.inr (3, [.int 0, .int 0, .int 0, .int 0]))) (x y : Int32) : Met l yX3_init wsX3_init ({ frames := 1, cells := 0, slots := 0, locals := 30 }) (va_Pc [.ref (ad k i), .int x, .int y] (cS G (tysY Y) lo E ad)) (QV G (tysY Y) lo (u2 E k i (some (.inr (3, [.int x, .int y, .int 0, .int 0])))) ad) 0 0 (fun q => lo ≤ q) := by
  refine met_of (cc := cX3_init) (maxL := 3) (ret := none) (by decide) rfl (Nat.le_of_ble_eq_true rfl) rfl ?_
  intro p e s m below meth c ls hx hb hr hlk hml hts hown hnm hw hK hl hS
  have i3 : ∀ w ∈ wsX30, w ∈ wsX3_init := by decide +kernel
  refine f_aload_n hx hb dX3_init_0 hl 0 rfl rfl ?_
  refine W.objInit hx hb hown (hts (.methodLink RX3 1 objectInit) (by decide +kernel)) (hts (.instanceMethod objectInit) (by decide +kernel)) (hts (.code objectInit ⟨#[0xb1]⟩ 1 none) (by decide +kernel)) rfl (by rw [hml]; exact hl.1) rfl dX3_init_1 (Nat.le_of_ble_eq_true rfl) (Nat.le_of_ble_eq_true rfl) ?_
  refine W.eq (g2 := F0 m 4 ls []) rfl ?_
  refine f_aload_n hx hb dX3_init_4 hl 0 rfl rfl ?_
  refine f_iload_n hx hb dX3_init_5 hl 1 rfl rfl ?_
  refine e_putF (C := RX3) (T := TX3) (N := 4) (ty := .int) hx hb hts i3 tyX3 tyX3_ok nmX3 hown hK hw hS he rfl 0 (by decide) (hts (.fieldLink RX3 7 "FerryQuay$Ramp" "number" "I") (by decide +kernel)) rfl hnm rfl (by decide +kernel) rfl rfl (Nat.le_of_ble_eq_true rfl) dX3_init_6 (fun H locs hw hS => ?_)
  refine f_aload_n hx hb dX3_init_9 hl 0 rfl rfl ?_
  refine f_iload_n hx hb dX3_init_10 hl 2 rfl rfl ?_
  refine e_putF (C := RX3) (T := TX3) (N := 4) (ty := .int) hx hb hts i3 tyX3 tyX3_ok nmX3 hown hK hw hS u2_self rfl 1 (by decide) (hts (.fieldLink RX3 13 "FerryQuay$Ramp" "limit" "I") (by decide +kernel)) rfl hnm rfl (by decide +kernel) rfl rfl (Nat.le_of_ble_eq_true rfl) dX3_init_11 (fun H locs hw hS => ?_)
  exact q_vret hx hb hr hlk hK hw hS dX3_init_14 u2_uu
set_option maxHeartbeats 4000000 in
set_option maxRecDepth 100000 in
theorem c_X4_init (l : Launch) {G : va_G} {Y : YT} {lo : Nat} {ad : Nat → Nat → Nat} {E : Nat → Nat → Option va_E} {k i k2 cap : Nat} (he : E k i = some (.inr (4, [.null, .int 0]))) (hk2 : E k2 i = none) (hkk : k ≠ k2) (hcap : cap < 1000) : Met l yX4_init wsX4_init ({ frames := 1, cells := 1, slots := cap, locals := 30 }) (va_Pc [.ref (ad k i), .int (nI cap)] (cS G (tysY Y) lo E ad)) (QVa G lo (fun z => z.2 = tysY Y ∧ z.1 = u2 ad k2 i (z.1 k2 i)) (fun a _ => u2 (u2 E k2 i (some (.inl (Y.1, cap, .inl (fun _ => 0))))) k i (some (.inr (4, [.ref (a k2 i), .int 0]))))) 1 cap (fun q => lo ≤ q) := by
  refine met_of (cc := cX4_init) (maxL := 2) (ret := none) (by decide) rfl (Nat.le_of_ble_eq_true rfl) rfl ?_
  intro p e s m below meth c ls hx hb hr hlk hml hts hown hnm hw hK hl hS
  have i4 : ∀ w ∈ wsX40, w ∈ wsX4_init := by decide +kernel
  have hcap : cap < 2 ^ 31 := by omega
  refine f_aload_n hx hb dX4_init_0 hl 0 rfl rfl ?_
  refine W.objInit hx hb hown (hts (.methodLink RX4 3 objectInit) (by decide +kernel)) (hts (.instanceMethod objectInit) (by decide +kernel)) (hts (.code objectInit ⟨#[0xb1]⟩ 1 none) (by decide +kernel)) rfl (by rw [hml]; exact hl.1) rfl dX4_init_1 (Nat.le_of_ble_eq_true rfl) (Nat.le_of_ble_eq_true rfl) ?_
  refine W.eq (g2 := F0 m 4 ls []) rfl ?_
  refine f_aload_n hx hb dX4_init_4 hl 0 rfl rfl ?_
  refine f_iload_n hx hb dX4_init_5 hl 1 rfl rfl ?_
  refine lv_iconst (v := 0) hx hb dX4_init_6 (by decide) ?_
  refine va_mmax hx hb (hml.trans hl.1.symm) hown (hts (.methodLink RX4 9 Lib.Math.max.name) (by decide +kernel)) (hts (.static Lib.Math.max.name) (by decide +kernel)) (hts (.initialized "java/lang/Math") (by decide +kernel)) (hts (.code Lib.Math.max.name Lib.Math.max.code 2 (some .int)) (by decide +kernel)) (Nat.le_of_ble_eq_true rfl) (Nat.le_of_ble_eq_true rfl) (Nat.zero_le _) (Nat.zero_le _) dX4_init_7 ?_
  refine f_top (y := nI cap) (if_neg (nI_pos hcap)) ?_
  refine e_newa (atype := .int) (N := cap) hx hb (hts (.arrayClass .int) (by decide +kernel)) hw hS k2 i hk2 rfl (nI_pos hcap) (nI_clamp hcap) (by show cap * 4 ≤ 536870912; omega) (Nat.le_of_ble_eq_true rfl) (by show 0 + cap ≤ cap; omega) dX4_init_10 (fun cA H ad1 had hAr hfc hw hS => ?_)
  have hcA : cA = Y.1 := Option.some.inj (hfc.symm.trans (hK.2 0 _ rfl).2)
  subst hcA
  have he1 := fun v => (u2_k (f := E) (k := k2) (i := i) (v := v) hkk ▸ he : u2 E k2 i v k i = _)
  have hai : ad k i = ad1 k i := by rw [had, u2_k hkk]
  refine f_val2 (congrArg Value.ref hai) ?_
  refine e_putF (C := RX4) (T := TX4) (N := 2) (ty := .array .int) hx hb hts i4 tyX4 tyX4_ok nmX4 hown hK hw hS (he1 _) rfl 0 (by decide) (hts (.fieldLink RX4 15 "FerryQuay$Row" "weights" "[I") (by decide +kernel)) rfl hnm rfl (by decide +kernel) rfl rfl (Nat.le_of_ble_eq_true rfl) dX4_init_12 (fun H locs hw hS => ?_)
  refine W.widen (k := 1) (n := cap) (by omega) (by omega) ?_
  exact q_vretA hx hb hr hlk hK hw hS dX4_init_15 ⟨rfl, by show ad1 = u2 ad k2 i (ad1 k2 i); rw [had, u2_self]⟩ rfl
end
section
abbrev rowE (Y : YT) (E : Nat → Nat → Option va_E) (k k2 i cap : Nat) (a : Nat → Nat → Nat) : Nat → Nat → Option va_E := u2 (u2 E k2 i (some (.inl (Y.1, cap, .inl (fun _ => 0))))) k i (some (.inr (4, [.ref (a k2 i), .int 0])))
abbrev ferE (Y : YT) (E : Nat → Nat → Option va_E) (i : Nat) (x : Int32) (a : Nat → Nat → Nat) : Nat → Nat → Option va_E := u2 (rowE Y (u2 (u2 E 6 i (some (.inr (1, [.int x, .null, .int 0])))) 7 i (some (.inr (4, [.null, .int 0])))) 7 8 i 40 a) 6 i (some (.inr (1, [.int x, .ref (a 7 i), .int 0])))
abbrev berE (Y : YT) (E : Nat → Nat → Option va_E) (i : Nat) (x : Int32) (a : Nat → Nat → Nat) : Nat → Nat → Option va_E := u2 (ferE Y (u2 (u2 (rowE Y (u2 E 4 i (some (.inr (4, [.null, .int 0])))) 4 5 i 30 a) 3 i (some (.inr (0, [.ref (a 4 i), .null, .null, .null])))) 6 i (some (.inr (1, [.int 0, .null, .int 0])))) i x a) 3 i (some (.inr (0, [.ref (a 4 i), .ref (a 6 i), .null, .null])))
theorem u2_at {α : Type} {f : Nat → Nat → α} {k i k' i' : Nat} {v : α} (h : k' ≠ k) : u2 f k i v k' i' = f k' i' := congrFun (u2_k h) i'
set_option maxHeartbeats 4000000 in
set_option maxRecDepth 100000 in
theorem c_X1_init (l : Launch) {G : va_G} {Y : YT} {lo : Nat} {ad : Nat → Nat → Nat} {E : Nat → Nat → Option va_E} {i : Nat} (he : E 6 i = some (.inr (1, [.int 0, .null, .int 0]))) (h7 : E 7 i = none) (h8 : E 8 i = none) (x : Int32) : Met l yX1_init wsX1_init ({ frames := 2, cells := 2, slots := 42, locals := 51 }) (va_Pc [.ref (ad 6 i), .int x] (cS G (tysY Y) lo E ad)) (QVa G lo (fun z => z.2 = tysY Y ∧ z.1 = u2 (u2 ad 7 i (z.1 7 i)) 8 i (z.1 8 i)) (fun a _ => ferE Y E i x a)) 2 42 (fun q => lo ≤ q) := by
  refine met_of (cc := cX1_init) (maxL := 2) (ret := none) (by decide) rfl (Nat.le_of_ble_eq_true rfl) rfl ?_
  intro p e s m below meth c ls hx hb hr hlk hml hts hown hnm hw hK hl hS
  have i1 : ∀ w ∈ wsX10, w ∈ wsX1_init := by decide +kernel
  have i4 : ∀ w ∈ wsX40, w ∈ wsX1_init := by decide +kernel
  refine f_aload_n hx hb dX1_init_0 hl 0 rfl rfl ?_
  refine W.objInit hx hb hown (hts (.methodLink RX1 3 objectInit) (by decide +kernel)) (hts (.instanceMethod objectInit) (by decide +kernel)) (hts (.code objectInit ⟨#[0xb1]⟩ 1 none) (by decide +kernel)) rfl (by rw [hml]; exact hl.1) rfl dX1_init_1 (Nat.le_of_ble_eq_true rfl) (Nat.le_of_ble_eq_true rfl) ?_
  refine W.eq (g2 := F0 m 4 ls []) rfl ?_
  refine f_aload_n hx hb dX1_init_4 hl 0 rfl rfl ?_
  refine f_iload_n hx hb dX1_init_5 hl 1 rfl rfl ?_
  refine e_putF (C := RX1) (T := TX1) (N := 3) (ty := .int) hx hb hts i1 tyX1 tyX1_ok nmX1 hown hK hw hS he rfl 0 (by decide) (hts (.fieldLink RX1 9 "FerryQuay$Ferry" "room" "I") (by decide +kernel)) rfl hnm rfl (by decide +kernel) rfl rfl (Nat.le_of_ble_eq_true rfl) dX1_init_6 (fun H locs hw hS => ?_)
  refine f_aload_n hx hb dX1_init_9 hl 0 rfl rfl ?_
  refine e_new (C := RX4) (T := TX4) (N := 2) (ci := 4) (fs := [.null, .int 0]) hx hb hts i4 tyX4 tyX4_ok hown (hts (.classLink RX1 15 RX4) (by decide +kernel)) (hts (.instantiable RX4 2) (by decide +kernel)) (hts (.initialized RX4) (by decide +kernel)) hK hw hS rfl 7 i ((u2_at (by decide)).trans h7) (fun j hj => by rcases (show j = 0 ∨ j = 1 by omega) with rfl | rfl <;> rfl) (Nat.le_of_ble_eq_true rfl) (Nat.le_of_ble_eq_true rfl) dX1_init_10 (fun H ad1 had1 hw hS => ?_)
  refine lv_dup hx hb dX1_init_13 rfl ?_
  refine lv_bipush (v := 40) hx hb dX1_init_14 (by decide) ?_
  refine f_top (y := nI 40) rfl ?_
  refine q_cva (q_runI ⟨hx, hb, hml, hown, hts⟩ (c_X4_init l (E := u2 (u2 E 6 i (some (.inr (1, [.int x, .null, .int 0])))) 7 i (some (.inr (4, [.null, .int 0])))) (k := 7) (i := i) (k2 := 8) (cap := 40) (ad := ad1) u2_self ((u2_at (by decide)).trans ((u2_at (by decide)).trans h8)) (by decide) (by decide)) (cwI 1 hts gX1_init_X4_init rfl rfl rfl (hts (.initialized RX4) (by decide +kernel)) (hts (.methodLink RX1 17 yX4_init) (by decide +kernel)) (hts (.instanceMethod yX4_init) (by decide +kernel)) rfl (by decide +kernel) ⟨Nat.le_of_ble_eq_true rfl, Nat.le_of_ble_eq_true rfl⟩) hK hw rfl hl.1 rfl (by simp [Value.category, va_rf]) dX1_init_16 ⟨Nat.le_of_ble_eq_true rfl, Nat.le_of_ble_eq_true rfl⟩) hS (fun ad2 tys2 H locs hX hK hw hS => ?_)
  obtain ⟨hty, had2⟩ := hX
  dsimp only at hty had2
  subst hty
  have e6 : ad 6 i = ad2 6 i := by rw [had2, had1]; simp [u2, va_up]
  have e7 : ad1 7 i = ad2 7 i := by rw [had2]; simp [u2, va_up]
  refine f_val (congrArg Value.ref e7) ?_
  refine f_val2 (congrArg Value.ref e6) ?_
  refine e_putF (C := RX1) (T := TX1) (N := 3) (ty := .object "FerryQuay$Row") hx hb hts i1 tyX1 tyX1_ok nmX1 hown hK hw hS ((u2_at (by decide)).trans ((u2_at (by decide)).trans ((u2_at (by decide)).trans u2_self))) rfl 1 (by decide) (hts (.fieldLink RX1 20 "FerryQuay$Ferry" "vehicles" "LFerryQuay$Row;") (by decide +kernel)) rfl hnm rfl (by decide +kernel) rfl rfl (Nat.le_of_ble_eq_true rfl) dX1_init_19 (fun H locs hw hS => ?_)
  exact q_vretA hx hb hr hlk hK hw hS dX1_init_22 ⟨rfl, by show ad2 = u2 (u2 ad 7 i (ad2 7 i)) 8 i (ad2 8 i); rw [← e7, had1, u2_self, ← had1, ← had2]⟩ rfl
set_option maxHeartbeats 4000000 in
set_option maxRecDepth 100000 in
theorem c_X0_init (l : Launch) {G : va_G} {Y : YT} {lo : Nat} {ad : Nat → Nat → Nat} {E : Nat → Nat → Option va_E} {i : Nat} (he : E 3 i = some (.inr (0, [.null, .null, .null, .null]))) (h4 : E 4 i = none) (h5 : E 5 i = none) (h6 : E 6 i = none) (h7 : E 7 i = none) (h8 : E 8 i = none) (x : Int32) : Met l yX0_init wsX0_init ({ frames := 3, cells := 5, slots := 77, locals := 72 }) (va_Pc [.ref (ad 3 i), .int x] (cS G (tysY Y) lo E ad)) (QVa G lo (fun z => z.2 = tysY Y ∧ z.1 = u2 (u2 (u2 (u2 (u2 ad 4 i (z.1 4 i)) 5 i (z.1 5 i)) 6 i (z.1 6 i)) 7 i (z.1 7 i)) 8 i (z.1 8 i)) (fun a _ => berE Y E i x a)) 5 77 (fun q => lo ≤ q) := by
  refine met_of (cc := cX0_init) (maxL := 2) (ret := none) (by decide) rfl (Nat.le_of_ble_eq_true rfl) rfl ?_
  intro p e s m below meth c ls hx hb hr hlk hml hts hown hnm hw hK hl hS
  have i0 : ∀ w ∈ wsX00, w ∈ wsX0_init := by decide +kernel
  have i1 : ∀ w ∈ wsX10, w ∈ wsX0_init := by decide +kernel
  have i4 : ∀ w ∈ wsX40, w ∈ wsX0_init := by decide +kernel
  refine f_aload_n hx hb dX0_init_0 hl 0 rfl rfl ?_
  refine W.objInit hx hb hown (hts (.methodLink RX0 3 objectInit) (by decide +kernel)) (hts (.instanceMethod objectInit) (by decide +kernel)) (hts (.code objectInit ⟨#[0xb1]⟩ 1 none) (by decide +kernel)) rfl (by rw [hml]; exact hl.1) rfl dX0_init_1 (Nat.le_of_ble_eq_true rfl) (Nat.le_of_ble_eq_true rfl) ?_
  refine W.eq (g2 := F0 m 4 ls []) rfl ?_
  refine f_aload_n hx hb dX0_init_4 hl 0 rfl rfl ?_
  refine e_new (C := RX4) (T := TX4) (N := 2) (ci := 4) (fs := [.null, .int 0]) hx hb hts i4 tyX4 tyX4_ok hown (hts (.classLink RX0 9 RX4) (by decide +kernel)) (hts (.instantiable RX4 2) (by decide +kernel)) (hts (.initialized RX4) (by decide +kernel)) hK hw hS rfl 4 i h4 (fun j hj => by rcases (show j = 0 ∨ j = 1 by omega) with rfl | rfl <;> rfl) (Nat.le_of_ble_eq_true rfl) (Nat.le_of_ble_eq_true rfl) dX0_init_5 (fun H ad1 had1 hw hS => ?_)
  refine lv_dup hx hb dX0_init_8 rfl ?_
  refine lv_bipush (v := 30) hx hb dX0_init_9 (by decide) ?_
  refine f_top (y := nI 30) rfl ?_
  refine q_cva (q_runI ⟨hx, hb, hml, hown, hts⟩ (c_X4_init l (E := u2 E 4 i (some (.inr (4, [.null, .int 0])))) (k := 4) (i := i) (k2 := 5) (cap := 30) (ad := ad1) u2_self ((u2_at (by decide)).trans h5) (by decide) (by decide)) (cwI 1 hts gX0_init_X4_init rfl rfl rfl (hts (.initialized RX4) (by decide +kernel)) (hts (.methodLink RX0 11 yX4_init) (by decide +kernel)) (hts (.instanceMethod yX4_init) (by decide +kernel)) rfl (by decide +kernel) ⟨Nat.le_of_ble_eq_true rfl, Nat.le_of_ble_eq_true rfl⟩) hK hw rfl hl.1 rfl (by simp [Value.category, va_rf]) dX0_init_11 ⟨Nat.le_of_ble_eq_true rfl, Nat.le_of_ble_eq_true rfl⟩) hS (fun ad2 tys2 H locs hX hK hw hS => ?_)
  obtain ⟨hty, had2⟩ := hX
  dsimp only at hty had2
  subst hty
  have e3 : ad 3 i = ad2 3 i := by rw [had2, had1]; simp [u2, va_up]
  have e4 : ad1 4 i = ad2 4 i := by rw [had2]; simp [u2, va_up]
  refine f_val (congrArg Value.ref e4) ?_
  refine f_val2 (congrArg Value.ref e3) ?_
  refine e_putF (C := RX0) (T := TX0) (N := 4) (ty := .object "FerryQuay$Row") hx hb hts i0 tyX0 tyX0_ok nmX0 hown hK hw hS ((u2_at (by decide)).trans ((u2_at (by decide)).trans ((u2_at (by decide)).trans he))) rfl 0 (by decide) (hts (.fieldLink RX0 14 "FerryQuay$Berth" "lane" "LFerryQuay$Row;") (by decide +kernel)) rfl hnm rfl (by decide +kernel) rfl rfl (Nat.le_of_ble_eq_true rfl) dX0_init_14 (fun H locs hw hS => ?_)
  refine f_aload_n hx hb dX0_init_17 hl 0 rfl rfl ?_
  refine e_new (C := RX1) (T := TX1) (N := 3) (ci := 1) (fs := [.int 0, .null, .int 0]) hx hb hts i1 tyX1 tyX1_ok hown (hts (.classLink RX0 20 RX1) (by decide +kernel)) (hts (.instantiable RX1 3) (by decide +kernel)) (hts (.initialized RX1) (by decide +kernel)) hK hw hS rfl 6 i ((u2_at (by decide)).trans ((u2_at (by decide)).trans ((u2_at (by decide)).trans ((u2_at (by decide)).trans h6)))) (fun j hj => by rcases (show j = 0 ∨ j = 1 ∨ j = 2 by omega) with rfl | rfl | rfl <;> rfl) (Nat.le_of_ble_eq_true rfl) (Nat.le_of_ble_eq_true rfl) dX0_init_18 (fun H ad3 had3 hw hS => ?_)
  refine lv_dup hx hb dX0_init_21 rfl ?_
  refine f_iload_n hx hb dX0_init_22 hl 1 rfl rfl ?_
  refine q_cva (q_runI ⟨hx, hb, hml, hown, hts⟩ (c_X1_init l (E := u2 (u2 (rowE Y (u2 E 4 i (some (.inr (4, [.null, .int 0])))) 4 5 i 30 ad2) 3 i (some (.inr (0, [.ref (ad2 4 i), .null, .null, .null])))) 6 i (some (.inr (1, [.int 0, .null, .int 0])))) (i := i) (ad := ad3) u2_self (by simp [u2, va_up, h7]) (by simp [u2, va_up, h8]) x) (cwI 1 hts gX0_init_X1_init rfl rfl rfl (hts (.initialized RX1) (by decide +kernel)) (hts (.methodLink RX0 22 yX1_init) (by decide +kernel)) (hts (.instanceMethod yX1_init) (by decide +kernel)) rfl (by decide +kernel) ⟨Nat.le_of_ble_eq_true rfl, Nat.le_of_ble_eq_true rfl⟩) hK hw rfl hl.1 rfl (by simp [Value.category, va_rf]) dX0_init_23 ⟨Nat.le_of_ble_eq_true rfl, Nat.le_of_ble_eq_true rfl⟩) hS (fun ad4 tys4 H locs hX hK hw hS => ?_)
  obtain ⟨hty, had4⟩ := hX
  dsimp only at hty had4
  subst hty
  have g3 : ad 3 i = ad4 3 i := by rw [had4, had3]; simp [u2, va_up, e3]
  have g4 : ad2 4 i = ad4 4 i := by rw [had4, had3]; simp [u2, va_up]
  have g5 : ad2 5 i = ad4 5 i := by rw [had4, had3]; simp [u2, va_up]
  have g6 : ad3 6 i = ad4 6 i := by rw [had4]; simp [u2, va_up]
  dsimp only [rowE, ferE] at hw
  rw [g4, g5] at hw
  refine f_val (congrArg Value.ref g6) ?_
  refine f_val2 (congrArg Value.ref g3) ?_
  refine e_put (C := RX0) (T := TX0) (N := 4) (ty := .object "FerryQuay$Ferry") hx hb hts i0 tyX0 tyX0_ok nmX0 hown hK hw hS ((u2_at (by decide)).trans ((u2_at (by decide)).trans ((u2_at (by decide)).trans ((u2_at (by decide)).trans ((u2_at (by decide)).trans ((u2_at (by decide)).trans u2_self)))))) rfl 1 (by decide) (hts (.fieldLink RX0 23 "FerryQuay$Berth" "ferry" "LFerryQuay$Ferry;") (by decide +kernel)) rfl (by decide +kernel) rfl rfl (Nat.le_of_ble_eq_true rfl) dX0_init_26 (fun H locs hw hS => ?_)
  have hz : ad4 = u2 (u2 (u2 (u2 (u2 ad 4 i (ad4 4 i)) 5 i (ad4 5 i)) 6 i (ad4 6 i)) 7 i (ad4 7 i)) 8 i (ad4 8 i) := by
    have hq : ad3 = u2 (u2 (u2 ad 4 i (ad4 4 i)) 5 i (ad4 5 i)) 6 i (ad4 6 i) := by
      have hr : ad2 = u2 (u2 ad 4 i (ad4 4 i)) 5 i (ad4 5 i) := by
        rw [← g4, ← g5, ← e4, had1, u2_self, ← had1]
        exact had2
      rw [← hr, ← g6, had3, u2_self]
    rw [← hq]
    exact had4
  exact q_vretA hx hb hr hlk hK hw hS dX0_init_29 ⟨rfl, hz⟩ rfl
end
section
/-! WHAT EACH CALL DOES, as functions of the state (one for the class and the reference), and what always holds of a state -/
def ix (x : Int32) (n : Nat) : Option Nat := if x < 0 then none else if nI n ≤ x then none else some x.toNatClampNeg
theorem ix_cases (x : Int32) {n : Nat} (hn : n < 2 ^ 31) : (ix x n = none ∧ (x < 0 ∨ nI n ≤ x)) ∨ ∃ j, j < n ∧ x = nI j ∧ ix x n = some j := by
  rcases pk_ix x hn with h | h | ⟨j, hj, rfl⟩
  · exact Or.inl ⟨if_pos h, Or.inl h⟩
  · by_cases h0 : x < 0
    · exact Or.inl ⟨if_pos h0, Or.inl h0⟩
    · exact Or.inl ⟨(if_neg h0).trans (if_pos h), Or.inr h⟩
  · have h2 : j < 2 ^ 31 := Nat.lt_trans hj hn
    exact Or.inr ⟨j, hj, rfl, (if_neg (nI_pos h2)).trans ((if_neg (nI_ge hj hn)).trans (congrArg some (nI_clamp h2)))⟩
abbrev tn (x : Int32) : Nat := x.toNatClampNeg
abbrev ln (z : St) (j : Nat) : Nat := tn (sc z 10 j)
abbrev fo (z : St) (j : Nat) : Nat := tn (sc z 9 j)
abbrev dk (z : St) (f : Nat) : Nat := tn (sc z 14 f)
abbrev inc (z : St) (k i : Nat) : St := us z k i (sc z k i + 1)
abbrev comes (z : St) (j : Nat) (x : Int32) : St := us (u2 z 11 j (va_up (z 11 j) (ln z j) x)) 10 j (nI (ln z j + 1))
abbrev goes (z : St) (j : Nat) : St := u2 (us z 10 j (nI (ln z j - 1))) 11 j (va_cpy (z 11 j) (z 11 j) 1 0 (ln z j - 1))
def sp_gate (ng : Nat) (z : St) : Int32 × St := if ng = 16 then (-3, z) else (nI ng, us z 0 0 (nI (ng + 1)))
def nx_gate (ng : Nat) : Nat := if ng = 16 then ng else ng + 1
def sp_ramp (nr : Nat) (z : St) (x : Int32) : Int32 × St := if x < 1 then (-2, z) else if 1000 < x then (-2, z) else if nr = 16 then (-3, z) else (nI nr, us (us z 4 nr x) 0 1 (nI (nr + 1)))
def nx_ramp (nr : Nat) (x : Int32) : Nat := if x < 1 then nr else if 1000 < x then nr else if nr = 16 then nr else nr + 1
def sp_berth (nb : Nat) (z : St) (x : Int32) : Int32 × St := if x < 0 then (-2, z) else if 10000 < x then (-2, z) else if nb = 8 then (-3, z) else (nI nb, us (us (us (us (us z 12 nb x) 7 nb (-1)) 8 nb (-1)) 9 nb (nI nb)) 0 2 (nI (nb + 1)))
def nx_berth (nb : Nat) (x : Int32) : Nat := if x < 0 then nb else if 10000 < x then nb else if nb = 8 then nb else nb + 1
def sp_hinge (ng nb : Nat) (z : St) (b g : Int32) : Int32 × St := (ix b nb).elim (-2, z) fun j => if g = -1 then (sc z 7 j, us z 7 j g) else (ix g ng).elim (-2, z) fun _ => (sc z 7 j, us z 7 j g)
def sp_lay (nr nb : Nat) (z : St) (b r : Int32) : Int32 × St := (ix b nb).elim (-2, z) fun j => if r = -1 then (sc z 8 j, us z 8 j r) else (ix r nr).elim (-2, z) fun _ => (sc z 8 j, us z 8 j r)
def sp_shut (ng : Nat) (z : St) (g v : Int32) : Int32 × St := (ix g ng).elim (-2, z) fun j => (sc z 1 j, us z 1 j v)
def sp_arrive (nb : Nat) (z : St) (b x : Int32) : Int32 × St := (ix b nb).elim (-2, z) fun j => if x < 0 then (-2, z) else if 2000 < x then (-2, z) else if ln z j = 30 then (-3, z) else (nI (ln z j + 1), inc (comes z j x) 0 3)
abbrev brd (z : St) (f : Nat) (x : Int32) : St := us (us (u2 z 15 f (va_up (z 15 f) (dk z f) x)) 14 f (nI (dk z f + 1))) 13 f (sc z 13 f + x)
def bl (j g : Nat) (n : Int32) : Nat → Int32 → St → Int32 × St
  | 0, w, z => (w, z)
  | t + 1, w, z => if sc z 8 j = -1 then (-4, z) else
      if z 11 j 0 = 0 then (-6, inc (inc (goes (inc z 6 (tn (sc z 8 j))) j) 0 5) 0 6) else
      if sc z 4 (tn (sc z 8 j)) < z 11 j 0 then bl j g n t w (comes (goes (inc z 6 (tn (sc z 8 j))) j) j (z 11 j 0)) else
      if dk z (fo z j) = 40 then (w, inc z 6 (tn (sc z 8 j))) else
      if sc z 12 (fo z j) < sc z 13 (fo z j) + z 11 j 0 then (w, inc z 6 (tn (sc z 8 j))) else
      if w + 1 = n then (w + 1, us (inc (brd (goes (inc z 6 (tn (sc z 8 j))) j) (fo z j) (z 11 j 0)) 3 g) 5 (tn (sc z 8 j)) (sc z 5 (tn (sc z 8 j)) + z 11 j 0)) else
      bl j g n t (w + 1) (us (inc (brd (goes (inc z 6 (tn (sc z 8 j))) j) (fo z j) (z 11 j 0)) 3 g) 5 (tn (sc z 8 j)) (sc z 5 (tn (sc z 8 j)) + z 11 j 0))
def sp_board (nb : Nat) (z : St) (b n : Int32) : Int32 × St := (ix b nb).elim (-2, z) fun j => if n < 1 then (-2, z) else if 30 < n then (-2, z) else
  if sc z 7 j = -1 then (-4, z) else if sc z 1 (tn (sc z 7 j)) = 0 then bl j (tn (sc z 7 j)) n (ln z j) 0 (inc z 2 (tn (sc z 7 j))) else (-5, inc z 2 (tn (sc z 7 j)))
abbrev lnd (z : St) (f : Nat) : St := us (us z 14 f (nI (dk z f - 1))) 13 f (sc z 13 f - z 15 f (dk z f - 1))
def ll (j r f : Nat) : Nat → Int32 → St → Int32 × St
  | 0, w, z => (w, z)
  | t + 1, w, z => if dk z f = 0 then (w, z) else if sc z 7 j = -1 then (-4, z) else
      if sc z 1 (tn (sc z 7 j)) = 0 then
        if sc z 4 r < z 15 f (dk z f - 1) then (-6, inc (inc z 2 (tn (sc z 7 j))) 0 6) else
        if z 15 f (dk z f - 1) = 0 then ll j r f t (w + 1) (inc (lnd (inc z 2 (tn (sc z 7 j))) f) 0 4) else
        if sc z 4 r / 2 < z 15 f (dk z f - 1) then ll j r f t (w + 1) (inc (lnd (inc z 2 (tn (sc z 7 j))) f) 0 4) else
        ll j r f t (w + 1) (us (inc (inc (lnd (inc z 2 (tn (sc z 7 j))) f) 0 4) 3 (tn (sc z 7 j))) 5 r (sc z 5 r + z 15 f (dk z f - 1)))
      else (w, inc z 2 (tn (sc z 7 j)))
def sp_land (nb : Nat) (z : St) (b n : Int32) : Int32 × St := (ix b nb).elim (-2, z) fun j => if n < 1 then (-2, z) else if 40 < n then (-2, z) else
  if sc z 8 j = -1 then (-4, z) else ll j (tn (sc z 8 j)) (fo z j) (tn n) 0 (inc z 6 (tn (sc z 8 j)))
abbrev swp (z : St) (i j : Nat) : St := us (us z 9 i (sc z 9 j)) 9 j (sc z 9 i)
def sp_swap (nb : Nat) (z : St) (a b : Int32) : Int32 × St := (ix a nb).elim (-2, z) fun i => (ix b nb).elim (-2, z) fun j =>
  if sc z 7 i = -1 then (-4, z) else if sc z 7 j = -1 then (-4, inc z 2 (tn (sc z 7 i))) else
  if sc z 1 (tn (sc z 7 i)) = 0 then if sc z 1 (tn (sc z 7 j)) = 0 then
      (sc z 13 (fo z j), swp (inc (inc z 2 (tn (sc z 7 i))) 2 (tn (sc z 7 j))) i j)
    else (-5, inc (inc z 2 (tn (sc z 7 i))) 2 (tn (sc z 7 j)))
  else (-5, inc (inc z 2 (tn (sc z 7 i))) 2 (tn (sc z 7 j)))
def rl (nb : Nat) : Nat → Nat → Int32 → St → Int32 × St
  | 0, _, w, z => (w, z)
  | t + 1, k, w, z => if nb ≤ k then (w, z) else if sc z 7 k = -1 then (w, z) else
      if sc z 1 (tn (sc z 7 k)) = 0 then rl nb t (k + 1) (w + sc z 13 (fo z k)) (inc z 2 (tn (sc z 7 k))) else (-5, inc (inc z 2 (tn (sc z 7 k))) 0 6)
def sp_round (nb : Nat) (z : St) (b n : Int32) : Int32 × St := (ix b nb).elim (-2, z) fun j => if n < 1 then (-2, z) else if 8 < n then (-2, z) else rl nb (tn n) j 0 z
def sp_tend (nr : Nat) (z : St) (r : Int32) : Int32 × St := (ix r nr).elim (-2, z) fun j => if sc z 5 j = 0 then (-5, inc (inc z 6 j) 0 6) else (sc z 5 j, us (inc z 6 j) 5 j 0)
def sl (i j g : Nat) (n : Int32) : Nat → Int32 → St → Int32 × St
  | 0, _, z => (n, z)
  | t + 1, w, z => if sc z 7 j = -1 then (-4, z) else
      if sc z 1 (tn (sc z 7 j)) = 0 then if ln z j = 30 then (w, inc z 2 (tn (sc z 7 j))) else if ln z i = 0 then (w, inc z 2 (tn (sc z 7 j))) else
        sl i j g n t (w + 1) (inc (inc (comes (goes (inc z 2 (tn (sc z 7 j))) i) j (z 11 i 0)) 3 g) 3 (tn (sc z 7 j)))
      else (w, inc z 2 (tn (sc z 7 j)))
def sp_shift (nb : Nat) (z : St) (b c n : Int32) : Int32 × St := (ix b nb).elim (-2, z) fun i => (ix c nb).elim (-2, z) fun j => if i = j then (-2, z) else if n < 1 then (-2, z) else if 30 < n then (-2, z) else
  if sc z 7 i = -1 then (-4, z) else if sc z 1 (tn (sc z 7 i)) = 0 then sl i j (tn (sc z 7 i)) n (tn n) 0 (inc z 2 (tn (sc z 7 i))) else (-5, inc z 2 (tn (sc z 7 i)))
def sp_state (nb : Nat) (z : St) (b x : Int32) : Int32 := (ix b nb).elim (-2) fun j => if x = 0 then sc z 7 j else if x = 1 then sc z 8 j else if x = 2 then sc z 10 j else if x = 3 then sc z 14 (fo z j) else if x = 4 then sc z 13 (fo z j) else if x = 5 then sc z 12 (fo z j) else -2
def sp_waiting (nb : Nat) (z : St) (b x : Int32) : Int32 := (ix b nb).elim (-2) fun j => if x < 0 then -1 else if sc z 10 j ≤ x then -1 else z 11 j (tn x)
def sp_aboard (nb : Nat) (z : St) (b x : Int32) : Int32 := (ix b nb).elim (-2) fun j => if x < 0 then -1 else if sc z 14 (fo z j) ≤ x then -1 else z 15 (fo z j) (tn x)
def sp_ofGate (ng : Nat) (z : St) (g x : Int32) : Int32 := (ix g ng).elim (-2) fun j => if x = 0 then sc z 2 j else if x = 1 then sc z 3 j else if x = 2 then sc z 1 j else -2
def sp_ofRamp (nr : Nat) (z : St) (r x : Int32) : Int32 := (ix r nr).elim (-2) fun j => if x = 0 then sc z 6 j else if x = 1 then sc z 5 j else if x = 2 then sc z 4 j else -2
def sp_count (z : St) (x : Int32) : Int32 := if x = 0 then sc z 0 0 else if x = 1 then sc z 0 1 else if x = 2 then sc z 0 2 else if x = 3 then sc z 0 3 else if x = 4 then sc z 0 4 else if x = 5 then sc z 0 5 else if x = 6 then sc z 0 6 else -2
/-! what always holds -/
def rOK (f : Nat → Nat → Int32) (m n : Nat) : Prop := ∀ i, i < n → (f i 0 = -1 ∨ ∃ g, g < m ∧ f i 0 = nI g)
def iOK (f : Nat → Nat → Int32) (m n : Nat) : Prop := ∀ i, i < n → ∃ g, g < m ∧ f i 0 = nI g
def bOK (f : Nat → Nat → Int32) : Prop := ∀ i, f i 0 = 0 ∨ f i 0 = 1
def zOK (f : Nat → Nat → Int32) (n : Nat) : Prop := ∀ i, n ≤ i → f i 0 = 0
def wOK (f : Nat → Nat → Int32) (n : Nat) : Prop := ∀ i, n ≤ i → f i = fun _ => 0
def Inv (z : St) (ng nr nb : Nat) : Prop :=
  (ng ≤ 16 ∧ nr ≤ 16 ∧ nb ≤ 8 ∧ sc z 0 0 = nI ng ∧ sc z 0 1 = nI nr ∧ sc z 0 2 = nI nb) ∧ rOK (z 7) ng nb ∧ rOK (z 8) nr nb ∧ iOK (z 9) nb nb ∧ iOK (z 10) 31 nb ∧ iOK (z 14) 41 nb ∧ bOK (z 1) ∧
  zOK (z 1) ng ∧ zOK (z 2) ng ∧ zOK (z 3) ng ∧ zOK (z 5) nr ∧ zOK (z 6) nr ∧ zOK (z 10) nb ∧ zOK (z 13) nb ∧ zOK (z 14) nb ∧ wOK (z 11) nb ∧ wOK (z 15) nb
section INV
variable {z : St} {ng nr nb : Nat}
theorem rOK.up {f : Nat → Nat → Int32} {m n i : Nat} {v : Int32} (h : rOK f m n) (hv : v = -1 ∨ ∃ g, g < m ∧ v = nI g) : rOK (va_up f i (fun _ => v)) m n := by
  intro j hj
  by_cases hji : j = i
  · subst hji
    rw [va_up_self]
    exact hv
  · rw [va_up_ne _ _ hji]
    exact h j hj
theorem iOK.up {f : Nat → Nat → Int32} {m n i : Nat} {v : Int32} (h : iOK f m n) (hv : ∃ g, g < m ∧ v = nI g) : iOK (va_up f i (fun _ => v)) m n := by
  intro j hj
  by_cases hji : j = i
  · subst hji
    rw [va_up_self]
    exact hv
  · rw [va_up_ne _ _ hji]
    exact h j hj
theorem bOK.up {f : Nat → Nat → Int32} {i : Nat} {v : Int32} (h : bOK f) (hv : v = 0 ∨ v = 1) : bOK (va_up f i (fun _ => v)) := by
  intro j
  by_cases hji : j = i
  · subst hji
    rw [va_up_self]
    exact hv
  · rw [va_up_ne _ _ hji]
    exact h j
theorem zOK.up {f : Nat → Nat → Int32} {n i : Nat} {r : Nat → Int32} (h : zOK f n) (hi : i < n) : zOK (va_up f i r) n := by
  intro j hj
  rw [va_up_ne _ _ (by omega)]
  exact h j hj
theorem wOK.up {f : Nat → Nat → Int32} {n i : Nat} {r : Nat → Int32} (h : wOK f n) (hi : i < n) : wOK (va_up f i r) n := by
  intro j hj
  rw [va_up_ne _ _ (by omega)]
  exact h j hj
theorem Inv.mg (h : Inv z ng nr nb) : ng ≤ 16 := h.1.1
theorem Inv.mr (h : Inv z ng nr nb) : nr ≤ 16 := h.1.2.1
theorem Inv.mb (h : Inv z ng nr nb) : nb ≤ 8 := h.1.2.2.1
theorem Inv.ng2 (h : Inv z ng nr nb) : ng < 2 ^ 31 := by have := h.mg; omega
theorem Inv.nr2 (h : Inv z ng nr nb) : nr < 2 ^ 31 := by have := h.mr; omega
theorem Inv.nb2 (h : Inv z ng nr nb) : nb < 2 ^ 31 := by have := h.mb; omega
theorem Inv.s0 (h : Inv z ng nr nb) : sc z 0 0 = nI ng := h.1.2.2.2.1
theorem Inv.s1 (h : Inv z ng nr nb) : sc z 0 1 = nI nr := h.1.2.2.2.2.1
theorem Inv.s2 (h : Inv z ng nr nb) : sc z 0 2 = nI nb := h.1.2.2.2.2.2
theorem Inv.c7 (h : Inv z ng nr nb) : rOK (z 7) ng nb := h.2.1
theorem Inv.c8 (h : Inv z ng nr nb) : rOK (z 8) nr nb := h.2.2.1
theorem Inv.c9 (h : Inv z ng nr nb) : iOK (z 9) nb nb := h.2.2.2.1
theorem Inv.c10 (h : Inv z ng nr nb) : iOK (z 10) 31 nb := h.2.2.2.2.1
theorem Inv.c14 (h : Inv z ng nr nb) : iOK (z 14) 41 nb := h.2.2.2.2.2.1
theorem Inv.b1 (h : Inv z ng nr nb) : bOK (z 1) := h.2.2.2.2.2.2.1
theorem Inv.z1 (h : Inv z ng nr nb) : zOK (z 1) ng := h.2.2.2.2.2.2.2.1
theorem Inv.z2 (h : Inv z ng nr nb) : zOK (z 2) ng := h.2.2.2.2.2.2.2.2.1
theorem Inv.z3 (h : Inv z ng nr nb) : zOK (z 3) ng := h.2.2.2.2.2.2.2.2.2.1
theorem Inv.z5 (h : Inv z ng nr nb) : zOK (z 5) nr := h.2.2.2.2.2.2.2.2.2.2.1
theorem Inv.z6 (h : Inv z ng nr nb) : zOK (z 6) nr := h.2.2.2.2.2.2.2.2.2.2.2.1
theorem Inv.z10 (h : Inv z ng nr nb) : zOK (z 10) nb := h.2.2.2.2.2.2.2.2.2.2.2.2.1
theorem Inv.z13 (h : Inv z ng nr nb) : zOK (z 13) nb := h.2.2.2.2.2.2.2.2.2.2.2.2.2.1
theorem Inv.z14 (h : Inv z ng nr nb) : zOK (z 14) nb := h.2.2.2.2.2.2.2.2.2.2.2.2.2.2.1
theorem Inv.w11 (h : Inv z ng nr nb) : wOK (z 11) nb := h.2.2.2.2.2.2.2.2.2.2.2.2.2.2.2.1
theorem Inv.w15 (h : Inv z ng nr nb) : wOK (z 15) nb := h.2.2.2.2.2.2.2.2.2.2.2.2.2.2.2.2
theorem Inv.p1 (h : Inv z ng nr nb) {i : Nat} {v : Int32} (hi : i < ng) (hv : v = 0 ∨ v = 1) : Inv (us z 1 i v) ng nr nb := ⟨h.1, h.c7, h.c8, h.c9, h.c10, h.c14, (h.b1.up hv), (h.z1.up hi), h.z2, h.z3, h.z5, h.z6, h.z10, h.z13, h.z14, h.w11, h.w15⟩
theorem Inv.p2 (h : Inv z ng nr nb) {i : Nat} {v : Int32} (hi : i < ng) : Inv (us z 2 i v) ng nr nb := ⟨h.1, h.c7, h.c8, h.c9, h.c10, h.c14, h.b1, h.z1, (h.z2.up hi), h.z3, h.z5, h.z6, h.z10, h.z13, h.z14, h.w11, h.w15⟩
theorem Inv.p3 (h : Inv z ng nr nb) {i : Nat} {v : Int32} (hi : i < ng) : Inv (us z 3 i v) ng nr nb := ⟨h.1, h.c7, h.c8, h.c9, h.c10, h.c14, h.b1, h.z1, h.z2, (h.z3.up hi), h.z5, h.z6, h.z10, h.z13, h.z14, h.w11, h.w15⟩
theorem Inv.p5 (h : Inv z ng nr nb) {i : Nat} {v : Int32} (hi : i < nr) : Inv (us z 5 i v) ng nr nb := ⟨h.1, h.c7, h.c8, h.c9, h.c10, h.c14, h.b1, h.z1, h.z2, h.z3, (h.z5.up hi), h.z6, h.z10, h.z13, h.z14, h.w11, h.w15⟩
theorem Inv.p6 (h : Inv z ng nr nb) {i : Nat} {v : Int32} (hi : i < nr) : Inv (us z 6 i v) ng nr nb := ⟨h.1, h.c7, h.c8, h.c9, h.c10, h.c14, h.b1, h.z1, h.z2, h.z3, h.z5, (h.z6.up hi), h.z10, h.z13, h.z14, h.w11, h.w15⟩
theorem Inv.p13 (h : Inv z ng nr nb) {i : Nat} {v : Int32} (hi : i < nb) : Inv (us z 13 i v) ng nr nb := ⟨h.1, h.c7, h.c8, h.c9, h.c10, h.c14, h.b1, h.z1, h.z2, h.z3, h.z5, h.z6, h.z10, (h.z13.up hi), h.z14, h.w11, h.w15⟩
theorem Inv.p4 (h : Inv z ng nr nb) {i : Nat} {v : Int32} : Inv (us z 4 i v) ng nr nb := ⟨h.1, h.c7, h.c8, h.c9, h.c10, h.c14, h.b1, h.z1, h.z2, h.z3, h.z5, h.z6, h.z10, h.z13, h.z14, h.w11, h.w15⟩
theorem Inv.p12 (h : Inv z ng nr nb) {i : Nat} {v : Int32} : Inv (us z 12 i v) ng nr nb := ⟨h.1, h.c7, h.c8, h.c9, h.c10, h.c14, h.b1, h.z1, h.z2, h.z3, h.z5, h.z6, h.z10, h.z13, h.z14, h.w11, h.w15⟩
theorem Inv.p7 (h : Inv z ng nr nb) {i : Nat} {v : Int32} (hv : v = -1 ∨ ∃ g, g < ng ∧ v = nI g) : Inv (us z 7 i v) ng nr nb := ⟨h.1, (h.c7.up hv), h.c8, h.c9, h.c10, h.c14, h.b1, h.z1, h.z2, h.z3, h.z5, h.z6, h.z10, h.z13, h.z14, h.w11, h.w15⟩
theorem Inv.p8 (h : Inv z ng nr nb) {i : Nat} {v : Int32} (hv : v = -1 ∨ ∃ g, g < nr ∧ v = nI g) : Inv (us z 8 i v) ng nr nb := ⟨h.1, h.c7, (h.c8.up hv), h.c9, h.c10, h.c14, h.b1, h.z1, h.z2, h.z3, h.z5, h.z6, h.z10, h.z13, h.z14, h.w11, h.w15⟩
theorem Inv.p9 (h : Inv z ng nr nb) {i : Nat} {v : Int32} (hv : ∃ g, g < nb ∧ v = nI g) : Inv (us z 9 i v) ng nr nb := ⟨h.1, h.c7, h.c8, (h.c9.up hv), h.c10, h.c14, h.b1, h.z1, h.z2, h.z3, h.z5, h.z6, h.z10, h.z13, h.z14, h.w11, h.w15⟩
theorem Inv.p10 (h : Inv z ng nr nb) {i : Nat} {v : Int32} (hi : i < nb) (hv : ∃ g, g < 31 ∧ v = nI g) : Inv (us z 10 i v) ng nr nb := ⟨h.1, h.c7, h.c8, h.c9, (h.c10.up hv), h.c14, h.b1, h.z1, h.z2, h.z3, h.z5, h.z6, (h.z10.up hi), h.z13, h.z14, h.w11, h.w15⟩
theorem Inv.p14 (h : Inv z ng nr nb) {i : Nat} {v : Int32} (hi : i < nb) (hv : ∃ g, g < 41 ∧ v = nI g) : Inv (us z 14 i v) ng nr nb := ⟨h.1, h.c7, h.c8, h.c9, h.c10, (h.c14.up hv), h.b1, h.z1, h.z2, h.z3, h.z5, h.z6, h.z10, h.z13, (h.z14.up hi), h.w11, h.w15⟩
theorem Inv.p11 (h : Inv z ng nr nb) {i : Nat} {r : Nat → Int32} (hi : i < nb) : Inv (u2 z 11 i r) ng nr nb := ⟨h.1, h.c7, h.c8, h.c9, h.c10, h.c14, h.b1, h.z1, h.z2, h.z3, h.z5, h.z6, h.z10, h.z13, h.z14, (h.w11.up hi), h.w15⟩
theorem Inv.p15 (h : Inv z ng nr nb) {i : Nat} {r : Nat → Int32} (hi : i < nb) : Inv (u2 z 15 i r) ng nr nb := ⟨h.1, h.c7, h.c8, h.c9, h.c10, h.c14, h.b1, h.z1, h.z2, h.z3, h.z5, h.z6, h.z10, h.z13, h.z14, h.w11, (h.w15.up hi)⟩
theorem Inv.t3 (h : Inv z ng nr nb) {v : Int32} : Inv (us z 0 3 v) ng nr nb := ⟨h.1, h.c7, h.c8, h.c9, h.c10, h.c14, h.b1, h.z1, h.z2, h.z3, h.z5, h.z6, h.z10, h.z13, h.z14, h.w11, h.w15⟩
theorem Inv.t4 (h : Inv z ng nr nb) {v : Int32} : Inv (us z 0 4 v) ng nr nb := ⟨h.1, h.c7, h.c8, h.c9, h.c10, h.c14, h.b1, h.z1, h.z2, h.z3, h.z5, h.z6, h.z10, h.z13, h.z14, h.w11, h.w15⟩
theorem Inv.t5 (h : Inv z ng nr nb) {v : Int32} : Inv (us z 0 5 v) ng nr nb := ⟨h.1, h.c7, h.c8, h.c9, h.c10, h.c14, h.b1, h.z1, h.z2, h.z3, h.z5, h.z6, h.z10, h.z13, h.z14, h.w11, h.w15⟩
theorem Inv.t6 (h : Inv z ng nr nb) {v : Int32} : Inv (us z 0 6 v) ng nr nb := ⟨h.1, h.c7, h.c8, h.c9, h.c10, h.c14, h.b1, h.z1, h.z2, h.z3, h.z5, h.z6, h.z10, h.z13, h.z14, h.w11, h.w15⟩
theorem Inv.gate (h : Inv z ng nr nb) {j : Nat} (hj : j < nb) : sc z 7 j = -1 ∨ ∃ g, g < ng ∧ sc z 7 j = nI g ∧ tn (sc z 7 j) = g := by
  rcases h.c7 j hj with q | ⟨g, hg, q⟩
  · exact Or.inl q
  · exact Or.inr ⟨g, hg, q, by have := h.ng2; show (z 7 j 0).toNatClampNeg = g; rw [q]; exact nI_clamp (by omega)⟩
theorem Inv.ramp (h : Inv z ng nr nb) {j : Nat} (hj : j < nb) : sc z 8 j = -1 ∨ ∃ g, g < nr ∧ sc z 8 j = nI g ∧ tn (sc z 8 j) = g := by
  rcases h.c8 j hj with q | ⟨g, hg, q⟩
  · exact Or.inl q
  · exact Or.inr ⟨g, hg, q, by have := h.nr2; show (z 8 j 0).toNatClampNeg = g; rw [q]; exact nI_clamp (by omega)⟩
theorem Inv.ferry (h : Inv z ng nr nb) {j : Nat} (hj : j < nb) : ∃ g, g < nb ∧ sc z 9 j = nI g ∧ fo z j = g := by
  obtain ⟨g, hg, q⟩ := h.c9 j hj
  exact ⟨g, hg, q, by have := h.nb2; show (z 9 j 0).toNatClampNeg = g; rw [q]; exact nI_clamp (by omega)⟩
theorem Inv.lane (h : Inv z ng nr nb) {j : Nat} (hj : j < nb) : ln z j ≤ 30 ∧ sc z 10 j = nI (ln z j) := by
  obtain ⟨g, hg, q⟩ := h.c10 j hj
  have e : ln z j = g := by show (z 10 j 0).toNatClampNeg = g; rw [q]; exact nI_clamp (by omega)
  exact ⟨by omega, by rw [e]; exact q⟩
theorem Inv.deck (h : Inv z ng nr nb) {j : Nat} (hj : j < nb) : dk z j ≤ 40 ∧ sc z 14 j = nI (dk z j) := by
  obtain ⟨g, hg, q⟩ := h.c14 j hj
  have e : dk z j = g := by show (z 14 j 0).toNatClampNeg = g; rw [q]; exact nI_clamp (by omega)
  exact ⟨by omega, by rw [e]; exact q⟩
theorem Inv.cm (h : Inv z ng nr nb) {j : Nat} {x : Int32} (hj : j < nb) (hn : ln z j < 30) : Inv (comes z j x) ng nr nb := (h.p11 hj).p10 hj ⟨ln z j + 1, by omega, rfl⟩
theorem Inv.gs (h : Inv z ng nr nb) {j : Nat} (hj : j < nb) : Inv (goes z j) ng nr nb := (h.p10 hj ⟨ln z j - 1, by have := (h.lane hj).1; omega, rfl⟩).p11 hj
theorem Inv.bd (h : Inv z ng nr nb) {f : Nat} {x : Int32} (hf : f < nb) (hn : dk z f < 40) : Inv (brd z f x) ng nr nb := ((h.p15 hf).p14 hf ⟨dk z f + 1, by omega, rfl⟩).p13 hf
theorem Inv.ld (h : Inv z ng nr nb) {f : Nat} (hf : f < nb) : Inv (lnd z f) ng nr nb := (h.p14 hf ⟨dk z f - 1, by have := (h.deck hf).1; omega, rfl⟩).p13 hf
end INV
end
section
/-! rows for the class and the reference, in the state's words -/
section CLS
variable {p : Program} {l : Launch} {e : Env} {R : Room} {s : State} {m : MethodId} {args : Array Value} {below : List Frame} {meth : Method} {c : Code} {H : Heap} {locs : List Loc} {cells slots : Nat} {Q : State → Prop}
variable {cc : ByteArray} {pc : Nat} {ls : Array Slot} {rest : List Value} {G : va_G} {lo : Nat} {ad : Nat → Nat → Nat} {H0 : Heap} {Y : YT} {ng nr nb : Nat} {z u zc : St}
theorem q_isp (hx : p.tables.exec = Jvm.exec) (hb : c.code = cc) (hr : meth.sig.returnType = some .int) (hlk : meth.locks = false) (hK : va_K G vwCl (tysY Y) s) (hw : wo G lo (Ew Y ng nr nb zc u ad) ad H) (hS : va_S (fun q => lo ≤ q) s.heap H locs) {v : Int32} {sp : Int32 × St} (hdg : decode cc pc = .ok (.ireturn, 1)) (hsp : sp = (v, zc)) : W p l e R s m args below meth c H locs cells slots (MQ below (QI G (tysY Y) lo sp.1 (Ew Y ng nr nb sp.2 u ad) ad) args s cells slots (fun q => lo ≤ q)) (F0 m pc ls [.int v]) := by
  subst hsp
  exact q_iret hx hb hr hlk hK hw hS hdg rfl rfl
theorem q_ism (hx : p.tables.exec = Jvm.exec) (hb : c.code = cc) (hr : meth.sig.returnType = some .int) (hlk : meth.locks = false) (hK : va_K G vwCl (tysY Y) s) (hw : wo G lo (Ew Y ng nr nb z zc ad) ad H) (hS : va_S (fun q => lo ≤ q) s.heap H locs) {v : Int32} {sp : Int32 × St} (hdg : decode cc pc = .ok (.ireturn, 1)) (hsp : sp = (v, zc)) : W p l e R s m args below meth c H locs cells slots (MQ below (QI G (tysY Y) lo sp.1 (Ew Y ng nr nb z sp.2 ad) ad) args s cells slots (fun q => lo ≤ q)) (F0 m pc ls [.int v]) := by
  subst hsp
  exact q_iret hx hb hr hlk hK hw hS hdg rfl rfl
end CLS
theorem orefN {x : Int32} {f : Nat → Nat} (h : x = -1) : va_rf (oref x f) = .null := by
  subst h
  rfl
theorem orefR {x : Int32} {f : Nat → Nat} {g : Nat} (h : x = nI g) (hg : g < 2 ^ 31) : va_rf (oref x f) = .ref (f g) := by
  subst h
  rw [oref_s hg]
  rfl
section EP
variable {Y : YT} {ng nr nb : Nat} {s u : St} {ad : Nat → Nat → Nat}
theorem Ep_bfR {i g : Nat} (h : i < nb) (hg : g < 2 ^ 31) : u2 (Ew Y ng nr nb s u ad) 3 i (some (.inr (0, [.ref (ad 4 i), .ref (ad 6 g), va_rf (oref (sc s 7 i) (ad 1)), va_rf (oref (sc s 8 i) (ad 2))]))) = Ew Y ng nr nb (us s 9 i (nI g)) u ad := by
  rw [← Ep_bf h, nI_clamp hg]
theorem Ep_b2R {i g : Nat} (h : i < nb) (hg : g < 2 ^ 31) : u2 (Ew Y ng nr nb s u ad) 3 i (some (.inr (0, [.ref (ad 4 i), .ref (ad 6 (sc s 9 i).toNatClampNeg), .ref (ad 1 g), va_rf (oref (sc s 8 i) (ad 2))]))) = Ew Y ng nr nb (us s 7 i (nI g)) u ad := by
  rw [← Ep_b2 h, orefR rfl hg]
theorem Ep_b3R {i g : Nat} (h : i < nb) (hg : g < 2 ^ 31) : u2 (Ew Y ng nr nb s u ad) 3 i (some (.inr (0, [.ref (ad 4 i), .ref (ad 6 (sc s 9 i).toNatClampNeg), va_rf (oref (sc s 7 i) (ad 1)), .ref (ad 2 g)]))) = Ew Y ng nr nb (us s 8 i (nI g)) u ad := by
  rw [← Ep_b3 h, orefR rfl hg]
theorem Ep_b2N {i : Nat} (h : i < nb) : u2 (Ew Y ng nr nb s u ad) 3 i (some (.inr (0, [.ref (ad 4 i), .ref (ad 6 (sc s 9 i).toNatClampNeg), .null, va_rf (oref (sc s 8 i) (ad 2))]))) = Ew Y ng nr nb (us s 7 i (-1)) u ad := by
  rw [← Ep_b2 h, orefN rfl]
theorem Ep_b3N {i : Nat} (h : i < nb) : u2 (Ew Y ng nr nb s u ad) 3 i (some (.inr (0, [.ref (ad 4 i), .ref (ad 6 (sc s 9 i).toNatClampNeg), va_rf (oref (sc s 7 i) (ad 1)), .null]))) = Ew Y ng nr nb (us s 8 i (-1)) u ad := by
  rw [← Ep_b3 h, orefN rfl]
theorem Ep_comes {j n : Nat} {x : Int32} (hj : j < nb) (hn : ln s j = n) : u2 (u2 (Ew Y ng nr nb s u ad) 5 j (some (.inl (Y.1, 30, .inl (va_up (s 11 j) n x))))) 4 j (some (.inr (4, [.ref (ad 5 j), .int (nI (n + 1))]))) = Ew Y ng nr nb (comes s j x) u ad := by
  subst hn
  rw [Ep_larr hj, Ep_lane hj]
theorem Ep_goes {j n : Nat} (hj : j < nb) (hn : ln s j = n) : u2 (u2 (Ew Y ng nr nb s u ad) 4 j (some (.inr (4, [.ref (ad 5 j), .int (nI (n - 1))])))) 5 j (some (.inl (Y.1, 30, .inl (va_cpy (s 11 j) (s 11 j) 1 0 (n - 1))))) = Ew Y ng nr nb (goes s j) u ad := by
  subst hn
  rw [Ep_lane hj, Ep_larr hj]
theorem Ep_brd {f n : Nat} {x : Int32} (hf : f < nb) (hn : dk s f = n) : u2 (u2 (u2 (Ew Y ng nr nb s u ad) 8 f (some (.inl (Y.1, 40, .inl (va_up (s 15 f) n x))))) 7 f (some (.inr (4, [.ref (ad 8 f), .int (nI (n + 1))])))) 6 f (some (.inr (1, [.int (sc s 12 f), .ref (ad 7 f), .int (sc s 13 f + x)]))) = Ew Y ng nr nb (brd s f x) u ad := by
  subst hn
  rw [Ep_farr hf, Ep_frow hf]
  exact Ep_ferry (s := us (u2 s 15 f (va_up (s 15 f) (dk s f) x)) 14 f (nI (dk s f + 1))) hf
theorem us_comm {z : St} {k k' i i' : Nat} {a b : Int32} (h : k ≠ k') : us (us z k i a) k' i' b = us (us z k' i' b) k i a := by
  have h' : k' ≠ k := fun q => h q.symm
  funext x y
  by_cases hx : x = k
  · subst hx
    simp [us, u2, va_up, h, h']
  · by_cases hx2 : x = k'
    · subst hx2
      simp [us, u2, va_up, h, h']
    · simp [us, u2, va_up, hx, hx2]
theorem Ep_lnd {f n : Nat} (hf : f < nb) (hn : dk s f = n) : u2 (u2 (Ew Y ng nr nb s u ad) 6 f (some (.inr (1, [.int (sc s 12 f), .ref (ad 7 f), .int (sc s 13 f - s 15 f (n - 1))])))) 7 f (some (.inr (4, [.ref (ad 8 f), .int (nI (n - 1))]))) = Ew Y ng nr nb (lnd s f) u ad := by
  subst hn
  rw [Ep_ferry hf, Ep_frow hf, us_comm (by decide)]
end EP
theorem sw_out {x : Int32} {n : Nat} (hn : n + 1 < 2 ^ 31) (h : ∀ k, k ≤ n → x ≠ nI k) : x.toInt < 0 ∨ (n : Int) < x.toInt := by
  rcases pk_ix x hn with q | q | ⟨j, hj, q⟩
  · have := Int32.lt_iff_toInt_lt.mp q
    exact Or.inl (by simpa using this)
  · have h1 := Int32.le_iff_toInt_le.mp q
    rw [nI_toInt hn] at h1
    exact Or.inr (by omega)
  · exact absurd q (h j (by omega))
end
section
set_option maxHeartbeats 4000000 in
set_option maxRecDepth 100000 in
theorem c_X5_isWithin (l : Launch) {G : va_G} {Y : YT} {lo : Nat} {ad : Nat → Nat → Nat} {E : Nat → Nat → Option va_E} (x y t : Int32) : Met l yX5_isWithin wsX5_isWithin ({ frames := 0, cells := 0, slots := 0, locals := 0 }) (va_Pc [.int x, .int y, .int t] (cS G (tysY Y) lo E ad)) (QI G (tysY Y) lo (if x < y then 0 else if t < x then 0 else 1) E ad) 0 0 (fun q => lo ≤ q) := by
  refine met_of (cc := cX5_isWithin) (maxL := 3) (ret := (some .boolean)) (by decide) rfl (Nat.le_of_ble_eq_true rfl) rfl ?_
  intro p e s m below meth c ls hx hb hr hlk hml hts hown hnm hw hK hl hS
  refine f_iload_n hx hb dX5_isWithin_0 hl 0 rfl rfl ?_
  refine f_iload_n hx hb dX5_isWithin_1 hl 1 rfl rfl ?_
  refine lv_icmp_lt (tgt := 14) hx hb dX5_isWithin_2 (by decide) (fun c2 => ?_) (fun c2 => ?_)
  · refine lv_iconst (v := 0) hx hb dX5_isWithin_14 (by decide) ?_
    exact q_zret hx hb hr hlk hK hw hS dX5_isWithin_15 rfl (by simp [c2]) rfl
  · refine f_iload_n hx hb dX5_isWithin_5 hl 0 rfl rfl ?_
    refine f_iload_n hx hb dX5_isWithin_6 hl 2 rfl rfl ?_
    refine lv_icmp_gt (tgt := 14) hx hb dX5_isWithin_7 (by decide) (fun c7 => ?_) (fun c7 => ?_)
    · refine lv_iconst (v := 0) hx hb dX5_isWithin_14 (by decide) ?_
      exact q_zret hx hb hr hlk hK hw hS dX5_isWithin_15 rfl (by simp [c2, c7]) rfl
    · refine lv_iconst (v := 1) hx hb dX5_isWithin_10 (by decide) ?_
      refine lv_goto (tgt := 15) hx hb dX5_isWithin_11 (by decide) ?_
      exact q_zret hx hb hr hlk hK hw hS dX5_isWithin_15 rfl (by simp [c2, c7]) rfl
set_option maxHeartbeats 4000000 in
set_option maxRecDepth 100000 in
theorem c_X5_alarm (l : Launch) {G : va_G} {Y : YT} {lo : Nat} {ad : Nat → Nat → Nat} {ng nr nb : Nat} {z u : St} (hI : Inv z ng nr nb) (x : Int32) : Met l yX5_alarm wsX5_alarm ({ frames := 0, cells := 0, slots := 0, locals := 0 }) (va_Pc [.ref (ad 0 0), .int x] (cS G (tysY Y) lo (Ew Y ng nr nb z u ad) ad)) (QI G (tysY Y) lo x (Ew Y ng nr nb (inc z 0 6) u ad) ad) 0 0 (fun q => lo ≤ q) := by
  refine met_of (cc := cX5_alarm) (maxL := 2) (ret := (some .int)) (by decide) rfl (Nat.le_of_ble_eq_true rfl) rfl ?_
  intro p e s m below meth c ls hx hb hr hlk hml hts hown hnm hw hK hl hS
  have i5 : ∀ w ∈ wsX50, w ∈ wsX5_alarm := by decide +kernel
  have hng := hI.mg
  have hnr := hI.mr
  have hnb := hI.mb
  refine f_aload_n hx hb dX5_alarm_0 hl 0 rfl rfl ?_
  refine lv_dup hx hb dX5_alarm_1 rfl ?_
  refine e_get (C := RX5) (T := TX5) (N := 10) hx hb hts i5 hown hK hw Ew_fq rfl 9 (by decide) (hts (.fieldLink RX5 170 "FerryQuay" "alarms" "I") (by decide +kernel)) rfl dX5_alarm_2 ?_
  refine lv_iconst (v := 1) hx hb dX5_alarm_5 (by decide) ?_
  refine lv_iadd hx hb dX5_alarm_6 ?_
  refine e_put (C := RX5) (T := TX5) (N := 10) (ty := .int) hx hb hts i5 tyX5 tyX5_ok nmX5 hown hK hw hS Ew_fq rfl 9 (by decide) (hts (.fieldLink RX5 170 "FerryQuay" "alarms" "I") (by decide +kernel)) rfl (by decide +kernel) rfl rfl (Nat.le_of_ble_eq_true rfl) dX5_alarm_7 (fun H locs hw hS => ?_)
  have hw := hw.cast Ep_fq6
  refine f_iload_n hx hb dX5_alarm_10 hl 1 rfl rfl ?_
  exact q_iret hx hb hr hlk hK hw hS dX5_alarm_11 rfl rfl
set_option maxHeartbeats 4000000 in
set_option maxRecDepth 100000 in
theorem c_X5_gateAt (l : Launch) {G : va_G} {Y : YT} {lo : Nat} {ad : Nat → Nat → Nat} {ng nr nb : Nat} {z u : St} (hI : Inv z ng nr nb) (x : Int32) : Met l yX5_gateAt wsX5_gateAt ({ frames := 0, cells := 0, slots := 0, locals := 0 }) (va_Pc [.ref (ad 0 0), .int x] (cS G (tysY Y) lo (Ew Y ng nr nb z u ad) ad)) (QQ G (tysY Y) lo ((ix x ng).map (ad 1)) (Ew Y ng nr nb z u ad) ad) 0 0 (fun q => lo ≤ q) := by
  refine met_of (cc := cX5_gateAt) (maxL := 2) (ret := (some (.object "FerryQuay$Gate"))) (by decide) rfl (Nat.le_of_ble_eq_true rfl) rfl ?_
  intro p e s m below meth c ls hx hb hr hlk hml hts hown hnm hw hK hl hS
  have i5 : ∀ w ∈ wsX50, w ∈ wsX5_gateAt := by decide +kernel
  have hng := hI.mg
  have hnr := hI.mr
  have hnb := hI.mb
  rcases ix_cases x hI.ng2 with ⟨hix, hbad⟩ | ⟨j, hj, rfl, hix⟩
  · refine f_iload_n hx hb dX5_gateAt_0 hl 1 rfl rfl ?_
    refine lv_if_lt (tgt := 30) hx hb dX5_gateAt_1 (by decide) (fun c1 => ?_) (fun c1 => ?_)
    · refine lv_null hx hb dX5_gateAt_30 ?_
      exact q_aret (v := none) hx hb hr hlk hK hw hS dX5_gateAt_31 (by rw [hix]; rfl) rfl
    · refine f_iload_n hx hb dX5_gateAt_4 hl 1 rfl rfl ?_
      refine f_aload_n hx hb dX5_gateAt_5 hl 0 rfl rfl ?_
      refine e_get (C := RX5) (T := TX5) (N := 10) hx hb hts i5 hown hK hw Ew_fq rfl 3 (by decide) (hts (.fieldLink RX5 27 "FerryQuay" "gateCount" "I") (by decide +kernel)) rfl dX5_gateAt_6 ?_
      refine f_top hI.s0 ?_
      refine lv_icmp_ge (tgt := 30) hx hb dX5_gateAt_9 (by decide) (fun c9 => ?_) (fun c9 => absurd (hbad.resolve_left c1) c9)
      refine lv_null hx hb dX5_gateAt_30 ?_
      exact q_aret (v := none) hx hb hr hlk hK hw hS dX5_gateAt_31 (by rw [hix]; rfl) rfl
  · refine f_iload_n hx hb dX5_gateAt_0 hl 1 rfl rfl ?_
    refine lv_if_lt (tgt := 30) hx hb dX5_gateAt_1 (by decide) (fun c1 => absurd c1 (nI_pos (by omega))) (fun c1 => ?_)
    refine f_iload_n hx hb dX5_gateAt_4 hl 1 rfl rfl ?_
    refine f_aload_n hx hb dX5_gateAt_5 hl 0 rfl rfl ?_
    refine e_get (C := RX5) (T := TX5) (N := 10) hx hb hts i5 hown hK hw Ew_fq rfl 3 (by decide) (hts (.fieldLink RX5 27 "FerryQuay" "gateCount" "I") (by decide +kernel)) rfl dX5_gateAt_6 ?_
    refine f_top hI.s0 ?_
    refine lv_icmp_ge (tgt := 30) hx hb dX5_gateAt_9 (by decide) (fun c9 => absurd c9 (nI_ge hj hI.ng2)) (fun c9 => ?_)
    refine f_iload_n hx hb dX5_gateAt_12 hl 1 rfl rfl ?_
    refine f_aload_n hx hb dX5_gateAt_13 hl 0 rfl rfl ?_
    refine e_get (C := RX5) (T := TX5) (N := 10) hx hb hts i5 hown hK hw Ew_fq rfl 0 (by decide) (hts (.fieldLink RX5 11 "FerryQuay" "gates" "[LFerryQuay$Gate;") (by decide +kernel)) rfl dX5_gateAt_14 ?_
    refine e_alen (v := nI 16) hx hb hK hw 2 Ew_ga rfl rfl dX5_gateAt_17 ?_
    refine lv_icmp_ge (tgt := 30) hx hb dX5_gateAt_18 (by decide) (fun c18 => absurd c18 (nI_ge (by omega) (by decide))) (fun c18 => ?_)
    refine f_aload_n hx hb dX5_gateAt_21 hl 0 rfl rfl ?_
    refine e_get (C := RX5) (T := TX5) (N := 10) hx hb hts i5 hown hK hw Ew_fq rfl 0 (by decide) (hts (.fieldLink RX5 11 "FerryQuay" "gates" "[LFerryQuay$Gate;") (by decide +kernel)) rfl dX5_gateAt_22 ?_
    refine f_iload_n hx hb dX5_gateAt_25 hl 1 rfl rfl ?_
    refine e_aaldN (r := some (ad 1 j)) hx hb hK hw 2 Ew_ga rfl rfl (by omega) (by decide) (if_pos hj) dX5_gateAt_26 ?_
    refine lv_goto (tgt := 31) hx hb dX5_gateAt_27 (by decide) ?_
    exact q_aret (v := some (ad 1 j)) hx hb hr hlk hK hw hS dX5_gateAt_31 (by rw [hix]; rfl) rfl
set_option maxHeartbeats 4000000 in
set_option maxRecDepth 100000 in
theorem c_X5_rampAt (l : Launch) {G : va_G} {Y : YT} {lo : Nat} {ad : Nat → Nat → Nat} {ng nr nb : Nat} {z u : St} (hI : Inv z ng nr nb) (x : Int32) : Met l yX5_rampAt wsX5_rampAt ({ frames := 0, cells := 0, slots := 0, locals := 0 }) (va_Pc [.ref (ad 0 0), .int x] (cS G (tysY Y) lo (Ew Y ng nr nb z u ad) ad)) (QQ G (tysY Y) lo ((ix x nr).map (ad 2)) (Ew Y ng nr nb z u ad) ad) 0 0 (fun q => lo ≤ q) := by
  refine met_of (cc := cX5_rampAt) (maxL := 2) (ret := (some (.object "FerryQuay$Ramp"))) (by decide) rfl (Nat.le_of_ble_eq_true rfl) rfl ?_
  intro p e s m below meth c ls hx hb hr hlk hml hts hown hnm hw hK hl hS
  have i5 : ∀ w ∈ wsX50, w ∈ wsX5_rampAt := by decide +kernel
  have hng := hI.mg
  have hnr := hI.mr
  have hnb := hI.mb
  rcases ix_cases x hI.nr2 with ⟨hix, hbad⟩ | ⟨j, hj, rfl, hix⟩
  · refine f_iload_n hx hb dX5_rampAt_0 hl 1 rfl rfl ?_
    refine lv_if_lt (tgt := 30) hx hb dX5_rampAt_1 (by decide) (fun c1 => ?_) (fun c1 => ?_)
    · refine lv_null hx hb dX5_rampAt_30 ?_
      exact q_aret (v := none) hx hb hr hlk hK hw hS dX5_rampAt_31 (by rw [hix]; rfl) rfl
    · refine f_iload_n hx hb dX5_rampAt_4 hl 1 rfl rfl ?_
      refine f_aload_n hx hb dX5_rampAt_5 hl 0 rfl rfl ?_
      refine e_get (C := RX5) (T := TX5) (N := 10) hx hb hts i5 hown hK hw Ew_fq rfl 4 (by decide) (hts (.fieldLink RX5 38 "FerryQuay" "rampCount" "I") (by decide +kernel)) rfl dX5_rampAt_6 ?_
      refine f_top hI.s1 ?_
      refine lv_icmp_ge (tgt := 30) hx hb dX5_rampAt_9 (by decide) (fun c9 => ?_) (fun c9 => absurd (hbad.resolve_left c1) c9)
      refine lv_null hx hb dX5_rampAt_30 ?_
      exact q_aret (v := none) hx hb hr hlk hK hw hS dX5_rampAt_31 (by rw [hix]; rfl) rfl
  · refine f_iload_n hx hb dX5_rampAt_0 hl 1 rfl rfl ?_
    refine lv_if_lt (tgt := 30) hx hb dX5_rampAt_1 (by decide) (fun c1 => absurd c1 (nI_pos (by omega))) (fun c1 => ?_)
    refine f_iload_n hx hb dX5_rampAt_4 hl 1 rfl rfl ?_
    refine f_aload_n hx hb dX5_rampAt_5 hl 0 rfl rfl ?_
    refine e_get (C := RX5) (T := TX5) (N := 10) hx hb hts i5 hown hK hw Ew_fq rfl 4 (by decide) (hts (.fieldLink RX5 38 "FerryQuay" "rampCount" "I") (by decide +kernel)) rfl dX5_rampAt_6 ?_
    refine f_top hI.s1 ?_
    refine lv_icmp_ge (tgt := 30) hx hb dX5_rampAt_9 (by decide) (fun c9 => absurd c9 (nI_ge hj hI.nr2)) (fun c9 => ?_)
    refine f_iload_n hx hb dX5_rampAt_12 hl 1 rfl rfl ?_
    refine f_aload_n hx hb dX5_rampAt_13 hl 0 rfl rfl ?_
    refine e_get (C := RX5) (T := TX5) (N := 10) hx hb hts i5 hown hK hw Ew_fq rfl 1 (by decide) (hts (.fieldLink RX5 17 "FerryQuay" "ramps" "[LFerryQuay$Ramp;") (by decide +kernel)) rfl dX5_rampAt_14 ?_
    refine e_alen (v := nI 16) hx hb hK hw 3 Ew_ra rfl rfl dX5_rampAt_17 ?_
    refine lv_icmp_ge (tgt := 30) hx hb dX5_rampAt_18 (by decide) (fun c18 => absurd c18 (nI_ge (by omega) (by decide))) (fun c18 => ?_)
    refine f_aload_n hx hb dX5_rampAt_21 hl 0 rfl rfl ?_
    refine e_get (C := RX5) (T := TX5) (N := 10) hx hb hts i5 hown hK hw Ew_fq rfl 1 (by decide) (hts (.fieldLink RX5 17 "FerryQuay" "ramps" "[LFerryQuay$Ramp;") (by decide +kernel)) rfl dX5_rampAt_22 ?_
    refine f_iload_n hx hb dX5_rampAt_25 hl 1 rfl rfl ?_
    refine e_aaldN (r := some (ad 2 j)) hx hb hK hw 3 Ew_ra rfl rfl (by omega) (by decide) (if_pos hj) dX5_rampAt_26 ?_
    refine lv_goto (tgt := 31) hx hb dX5_rampAt_27 (by decide) ?_
    exact q_aret (v := some (ad 2 j)) hx hb hr hlk hK hw hS dX5_rampAt_31 (by rw [hix]; rfl) rfl
set_option maxHeartbeats 4000000 in
set_option maxRecDepth 100000 in
theorem c_X5_berthAt (l : Launch) {G : va_G} {Y : YT} {lo : Nat} {ad : Nat → Nat → Nat} {ng nr nb : Nat} {z u : St} (hI : Inv z ng nr nb) (x : Int32) : Met l yX5_berthAt wsX5_berthAt ({ frames := 0, cells := 0, slots := 0, locals := 0 }) (va_Pc [.ref (ad 0 0), .int x] (cS G (tysY Y) lo (Ew Y ng nr nb z u ad) ad)) (QQ G (tysY Y) lo ((ix x nb).map (ad 3)) (Ew Y ng nr nb z u ad) ad) 0 0 (fun q => lo ≤ q) := by
  refine met_of (cc := cX5_berthAt) (maxL := 2) (ret := (some (.object "FerryQuay$Berth"))) (by decide) rfl (Nat.le_of_ble_eq_true rfl) rfl ?_
  intro p e s m below meth c ls hx hb hr hlk hml hts hown hnm hw hK hl hS
  have i5 : ∀ w ∈ wsX50, w ∈ wsX5_berthAt := by decide +kernel
  have hng := hI.mg
  have hnr := hI.mr
  have hnb := hI.mb
  rcases ix_cases x hI.nb2 with ⟨hix, hbad⟩ | ⟨j, hj, rfl, hix⟩
  · refine f_iload_n hx hb dX5_berthAt_0 hl 1 rfl rfl ?_
    refine lv_if_lt (tgt := 30) hx hb dX5_berthAt_1 (by decide) (fun c1 => ?_) (fun c1 => ?_)
    · refine lv_null hx hb dX5_berthAt_30 ?_
      exact q_aret (v := none) hx hb hr hlk hK hw hS dX5_berthAt_31 (by rw [hix]; rfl) rfl
    · refine f_iload_n hx hb dX5_berthAt_4 hl 1 rfl rfl ?_
      refine f_aload_n hx hb dX5_berthAt_5 hl 0 rfl rfl ?_
      refine e_get (C := RX5) (T := TX5) (N := 10) hx hb hts i5 hown hK hw Ew_fq rfl 5 (by decide) (hts (.fieldLink RX5 44 "FerryQuay" "berthCount" "I") (by decide +kernel)) rfl dX5_berthAt_6 ?_
      refine f_top hI.s2 ?_
      refine lv_icmp_ge (tgt := 30) hx hb dX5_berthAt_9 (by decide) (fun c9 => ?_) (fun c9 => absurd (hbad.resolve_left c1) c9)
      refine lv_null hx hb dX5_berthAt_30 ?_
      exact q_aret (v := none) hx hb hr hlk hK hw hS dX5_berthAt_31 (by rw [hix]; rfl) rfl
  · refine f_iload_n hx hb dX5_berthAt_0 hl 1 rfl rfl ?_
    refine lv_if_lt (tgt := 30) hx hb dX5_berthAt_1 (by decide) (fun c1 => absurd c1 (nI_pos (by omega))) (fun c1 => ?_)
    refine f_iload_n hx hb dX5_berthAt_4 hl 1 rfl rfl ?_
    refine f_aload_n hx hb dX5_berthAt_5 hl 0 rfl rfl ?_
    refine e_get (C := RX5) (T := TX5) (N := 10) hx hb hts i5 hown hK hw Ew_fq rfl 5 (by decide) (hts (.fieldLink RX5 44 "FerryQuay" "berthCount" "I") (by decide +kernel)) rfl dX5_berthAt_6 ?_
    refine f_top hI.s2 ?_
    refine lv_icmp_ge (tgt := 30) hx hb dX5_berthAt_9 (by decide) (fun c9 => absurd c9 (nI_ge hj hI.nb2)) (fun c9 => ?_)
    refine f_iload_n hx hb dX5_berthAt_12 hl 1 rfl rfl ?_
    refine f_aload_n hx hb dX5_berthAt_13 hl 0 rfl rfl ?_
    refine e_get (C := RX5) (T := TX5) (N := 10) hx hb hts i5 hown hK hw Ew_fq rfl 2 (by decide) (hts (.fieldLink RX5 23 "FerryQuay" "berths" "[LFerryQuay$Berth;") (by decide +kernel)) rfl dX5_berthAt_14 ?_
    refine e_alen (v := nI 8) hx hb hK hw 4 Ew_ba rfl rfl dX5_berthAt_17 ?_
    refine lv_icmp_ge (tgt := 30) hx hb dX5_berthAt_18 (by decide) (fun c18 => absurd c18 (nI_ge (by omega) (by decide))) (fun c18 => ?_)
    refine f_aload_n hx hb dX5_berthAt_21 hl 0 rfl rfl ?_
    refine e_get (C := RX5) (T := TX5) (N := 10) hx hb hts i5 hown hK hw Ew_fq rfl 2 (by decide) (hts (.fieldLink RX5 23 "FerryQuay" "berths" "[LFerryQuay$Berth;") (by decide +kernel)) rfl dX5_berthAt_22 ?_
    refine f_iload_n hx hb dX5_berthAt_25 hl 1 rfl rfl ?_
    refine e_aaldN (r := some (ad 3 j)) hx hb hK hw 4 Ew_ba rfl rfl (by omega) (by decide) (if_pos hj) dX5_berthAt_26 ?_
    refine lv_goto (tgt := 31) hx hb dX5_berthAt_27 (by decide) ?_
    exact q_aret (v := some (ad 3 j)) hx hb hr hlk hK hw hS dX5_berthAt_31 (by rw [hix]; rfl) rfl
set_option maxHeartbeats 4000000 in
set_option maxRecDepth 100000 in
theorem c_X2_shutAsNumber (l : Launch) {G : va_G} {Y : YT} {lo : Nat} {ad : Nat → Nat → Nat} {ng nr nb : Nat} {z u : St} (hI : Inv z ng nr nb) {j : Nat} (hj : j < ng) : Met l yX2_shutAsNumber wsX2_shutAsNumber ({ frames := 0, cells := 0, slots := 0, locals := 0 }) (va_Pc [.ref (ad 1 j)] (cS G (tysY Y) lo (Ew Y ng nr nb z u ad) ad)) (QI G (tysY Y) lo (sc z 1 j) (Ew Y ng nr nb z u ad) ad) 0 0 (fun q => lo ≤ q) := by
  refine met_of (cc := cX2_shutAsNumber) (maxL := 1) (ret := (some .int)) (by decide) rfl (Nat.le_of_ble_eq_true rfl) rfl ?_
  intro p e s m below meth c ls hx hb hr hlk hml hts hown hnm hw hK hl hS
  have i2 : ∀ w ∈ wsX20, w ∈ wsX2_shutAsNumber := by decide +kernel
  have hng := hI.mg
  have hnr := hI.mr
  have hnb := hI.mb
  refine f_aload_n hx hb dX2_shutAsNumber_0 hl 0 rfl rfl ?_
  refine e_get (C := RX2) (T := TX2) (N := 4) hx hb hts i2 hown hK hw (Ew_gate (by assumption)) rfl 1 (by decide) (hts (.fieldLink RX2 13 "FerryQuay$Gate" "isShut" "Z") (by decide +kernel)) rfl dX2_shutAsNumber_1 ?_
  refine lv_if_eq (tgt := 11) hx hb dX2_shutAsNumber_4 (by decide) (fun c4 => ?_) (fun c4 => ?_)
  · refine lv_iconst (v := 0) hx hb dX2_shutAsNumber_11 (by decide) ?_
    exact q_iret hx hb hr hlk hK hw hS dX2_shutAsNumber_12 (by rcases hI.b1 j with hq | hq <;> first | exact hq.symm | exact absurd hq c4 | exact absurd (hq.symm.trans c4) (by decide)) rfl
  · refine lv_iconst (v := 1) hx hb dX2_shutAsNumber_7 (by decide) ?_
    refine lv_goto (tgt := 12) hx hb dX2_shutAsNumber_8 (by decide) ?_
    exact q_iret hx hb hr hlk hK hw hS dX2_shutAsNumber_12 (by rcases hI.b1 j with hq | hq <;> first | exact hq.symm | exact absurd hq c4 | exact absurd (hq.symm.trans c4) (by decide)) rfl
set_option maxHeartbeats 4000000 in
set_option maxRecDepth 100000 in
theorem c_X0_gateNumber (l : Launch) {G : va_G} {Y : YT} {lo : Nat} {ad : Nat → Nat → Nat} {ng nr nb : Nat} {z u : St} (hI : Inv z ng nr nb) {j : Nat} (hj : j < nb) : Met l yX0_gateNumber wsX0_gateNumber ({ frames := 0, cells := 0, slots := 0, locals := 0 }) (va_Pc [.ref (ad 3 j)] (cS G (tysY Y) lo (Ew Y ng nr nb z u ad) ad)) (QI G (tysY Y) lo (sc z 7 j) (Ew Y ng nr nb z u ad) ad) 0 0 (fun q => lo ≤ q) := by
  refine met_of (cc := cX0_gateNumber) (maxL := 1) (ret := (some .int)) (by decide) rfl (Nat.le_of_ble_eq_true rfl) rfl ?_
  intro p e s m below meth c ls hx hb hr hlk hml hts hown hnm hw hK hl hS
  have i0 : ∀ w ∈ wsX00, w ∈ wsX0_gateNumber := by decide +kernel
  have i2 : ∀ w ∈ wsX20, w ∈ wsX0_gateNumber := by decide +kernel
  have hng := hI.mg
  have hnr := hI.mr
  have hnb := hI.mb
  rcases hI.gate hj with hG | ⟨g, hg, hG, hGt⟩
  · refine f_aload_n hx hb dX0_gateNumber_0 hl 0 rfl rfl ?_
    refine e_get (C := RX0) (T := TX0) (N := 4) hx hb hts i0 hown hK hw (Ew_berth (by assumption)) rfl 2 (by decide) (hts (.fieldLink RX0 27 "FerryQuay$Berth" "gate" "LFerryQuay$Gate;") (by decide +kernel)) rfl dX0_gateNumber_1 ?_
    refine f_val (orefN hG) ?_
    refine lv_ifnonnullN hx hb dX0_gateNumber_4 ?_
    refine lv_iconst (v := (-1)) hx hb dX0_gateNumber_7 (by decide) ?_
    refine lv_goto (tgt := 18) hx hb dX0_gateNumber_8 (by decide) ?_
    exact q_iret hx hb hr hlk hK hw hS dX0_gateNumber_18 hG.symm rfl
  · refine f_aload_n hx hb dX0_gateNumber_0 hl 0 rfl rfl ?_
    refine e_get (C := RX0) (T := TX0) (N := 4) hx hb hts i0 hown hK hw (Ew_berth (by assumption)) rfl 2 (by decide) (hts (.fieldLink RX0 27 "FerryQuay$Berth" "gate" "LFerryQuay$Gate;") (by decide +kernel)) rfl dX0_gateNumber_1 ?_
    refine f_val (orefR hG (by omega)) ?_
    refine lv_ifnonnull (tgt := 11) hx hb dX0_gateNumber_4 (by decide) ?_
    refine f_aload_n hx hb dX0_gateNumber_11 hl 0 rfl rfl ?_
    refine e_get (C := RX0) (T := TX0) (N := 4) hx hb hts i0 hown hK hw (Ew_berth (by assumption)) rfl 2 (by decide) (hts (.fieldLink RX0 27 "FerryQuay$Berth" "gate" "LFerryQuay$Gate;") (by decide +kernel)) rfl dX0_gateNumber_12 ?_
    refine f_val (orefR hG (by omega)) ?_
    refine e_get (C := RX2) (T := TX2) (N := 4) hx hb hts i2 hown hK hw (Ew_gate (by assumption)) rfl 0 (by decide) (hts (.fieldLink RX0 31 "FerryQuay$Gate" "number" "I") (by decide +kernel)) rfl dX0_gateNumber_15 ?_
    exact q_iret hx hb hr hlk hK hw hS dX0_gateNumber_18 hG.symm rfl
set_option maxHeartbeats 4000000 in
set_option maxRecDepth 100000 in
theorem c_X0_rampNumber (l : Launch) {G : va_G} {Y : YT} {lo : Nat} {ad : Nat → Nat → Nat} {ng nr nb : Nat} {z u : St} (hI : Inv z ng nr nb) {j : Nat} (hj : j < nb) : Met l yX0_rampNumber wsX0_rampNumber ({ frames := 0, cells := 0, slots := 0, locals := 0 }) (va_Pc [.ref (ad 3 j)] (cS G (tysY Y) lo (Ew Y ng nr nb z u ad) ad)) (QI G (tysY Y) lo (sc z 8 j) (Ew Y ng nr nb z u ad) ad) 0 0 (fun q => lo ≤ q) := by
  refine met_of (cc := cX0_rampNumber) (maxL := 1) (ret := (some .int)) (by decide) rfl (Nat.le_of_ble_eq_true rfl) rfl ?_
  intro p e s m below meth c ls hx hb hr hlk hml hts hown hnm hw hK hl hS
  have i0 : ∀ w ∈ wsX00, w ∈ wsX0_rampNumber := by decide +kernel
  have i3 : ∀ w ∈ wsX30, w ∈ wsX0_rampNumber := by decide +kernel
  have hng := hI.mg
  have hnr := hI.mr
  have hnb := hI.mb
  rcases hI.ramp hj with hG | ⟨g, hg, hG, hGt⟩
  · refine f_aload_n hx hb dX0_rampNumber_0 hl 0 rfl rfl ?_
    refine e_get (C := RX0) (T := TX0) (N := 4) hx hb hts i0 hown hK hw (Ew_berth (by assumption)) rfl 3 (by decide) (hts (.fieldLink RX0 37 "FerryQuay$Berth" "ramp" "LFerryQuay$Ramp;") (by decide +kernel)) rfl dX0_rampNumber_1 ?_
    refine f_val (orefN hG) ?_
    refine lv_ifnonnullN hx hb dX0_rampNumber_4 ?_
    refine lv_iconst (v := (-1)) hx hb dX0_rampNumber_7 (by decide) ?_
    refine lv_goto (tgt := 18) hx hb dX0_rampNumber_8 (by decide) ?_
    exact q_iret hx hb hr hlk hK hw hS dX0_rampNumber_18 hG.symm rfl
  · refine f_aload_n hx hb dX0_rampNumber_0 hl 0 rfl rfl ?_
    refine e_get (C := RX0) (T := TX0) (N := 4) hx hb hts i0 hown hK hw (Ew_berth (by assumption)) rfl 3 (by decide) (hts (.fieldLink RX0 37 "FerryQuay$Berth" "ramp" "LFerryQuay$Ramp;") (by decide +kernel)) rfl dX0_rampNumber_1 ?_
    refine f_val (orefR hG (by omega)) ?_
    refine lv_ifnonnull (tgt := 11) hx hb dX0_rampNumber_4 (by decide) ?_
    refine f_aload_n hx hb dX0_rampNumber_11 hl 0 rfl rfl ?_
    refine e_get (C := RX0) (T := TX0) (N := 4) hx hb hts i0 hown hK hw (Ew_berth (by assumption)) rfl 3 (by decide) (hts (.fieldLink RX0 37 "FerryQuay$Berth" "ramp" "LFerryQuay$Ramp;") (by decide +kernel)) rfl dX0_rampNumber_12 ?_
    refine f_val (orefR hG (by omega)) ?_
    refine e_get (C := RX3) (T := TX3) (N := 4) hx hb hts i3 hown hK hw (Ew_ramp (by assumption)) rfl 0 (by decide) (hts (.fieldLink RX0 41 "FerryQuay$Ramp" "number" "I") (by decide +kernel)) rfl dX0_rampNumber_15 ?_
    exact q_iret hx hb hr hlk hK hw hS dX0_rampNumber_18 hG.symm rfl
end
section
set_option maxHeartbeats 4000000 in
set_option maxRecDepth 100000 in
theorem c_X5_tend (l : Launch) {G : va_G} {Y : YT} {lo : Nat} {ad : Nat → Nat → Nat} {ng nr nb : Nat} {z u : St} (hI : Inv z ng nr nb) (x : Int32) : Met l yX5_tend wsX5_tend ({ frames := 1, cells := 0, slots := 0, locals := 21 }) (va_Pc [.ref (ad 0 0), .int x] (cS G (tysY Y) lo (Ew Y ng nr nb z u ad) ad)) (QI G (tysY Y) lo (sp_tend nr z x).1 (Ew Y ng nr nb (sp_tend nr z x).2 u ad) ad) 0 0 (fun q => lo ≤ q) := by
  refine met_of (cc := cX5_tend) (maxL := 4) (ret := (some .int)) (by decide) rfl (Nat.le_of_ble_eq_true rfl) rfl ?_
  intro p e s m below meth c ls hx hb hr hlk hml hts hown hnm hw hK hl hS
  have i3 : ∀ w ∈ wsX30, w ∈ wsX5_tend := by decide +kernel
  have i5 : ∀ w ∈ wsX50, w ∈ wsX5_tend := by decide +kernel
  have hng := hI.mg
  have hnr := hI.mr
  have hnb := hI.mb
  rcases ix_cases x hI.nr2 with ⟨hix, hbad⟩ | ⟨j, hj, rfl, hix⟩
  · refine f_aload_n hx hb dX5_tend_0 hl 0 rfl rfl ?_
    refine f_iload_n hx hb dX5_tend_1 hl 1 rfl rfl ?_
    refine q_cq (q_runV (C := RX5) (T := TX5) (N := 10) ⟨hx, hb, hml, hown, hts⟩ (c_X5_rampAt l hI x) (cwV 1 hts gX5_tend_X5_rampAt rfl rfl rfl (by decide +kernel) ⟨Nat.le_of_ble_eq_true rfl, Nat.le_of_ble_eq_true rfl⟩) hK hw Ew_fq rfl rfl hl.1 rfl (by simp [Value.category, va_rf]) dX5_tend_2 ⟨Nat.le_of_ble_eq_true rfl, Nat.le_of_ble_eq_true rfl⟩) hS (fun H locs hw hS => ?_)
    refine f_val (y := .null) (by rw [hix]; rfl) ?_
    refine f_astore_nN hx hb dX5_tend_5 hl 2 rfl (by decide) (fun ls hl => ?_)
    refine f_aload_nN hx hb dX5_tend_6 hl 2 rfl rfl ?_
    refine lv_ifnonnullN hx hb dX5_tend_7 ?_
    refine lv_bipush (v := (-2)) hx hb dX5_tend_10 (by decide) ?_
    exact q_isp hx hb hr hlk hK hw hS dX5_tend_12 (by rw [sp_tend, hix]; exact rfl)
  · refine f_aload_n hx hb dX5_tend_0 hl 0 rfl rfl ?_
    refine f_iload_n hx hb dX5_tend_1 hl 1 rfl rfl ?_
    refine q_cq (q_runV (C := RX5) (T := TX5) (N := 10) ⟨hx, hb, hml, hown, hts⟩ (c_X5_rampAt l hI (nI j)) (cwV 1 hts gX5_tend_X5_rampAt rfl rfl rfl (by decide +kernel) ⟨Nat.le_of_ble_eq_true rfl, Nat.le_of_ble_eq_true rfl⟩) hK hw Ew_fq rfl rfl hl.1 rfl (by simp [Value.category, va_rf]) dX5_tend_2 ⟨Nat.le_of_ble_eq_true rfl, Nat.le_of_ble_eq_true rfl⟩) hS (fun H locs hw hS => ?_)
    refine f_val (y := .ref (ad 2 j)) (by rw [hix]; rfl) ?_
    refine f_astore_n hx hb dX5_tend_5 hl 2 rfl (by decide) (fun ls hl => ?_)
    refine f_aload_n hx hb dX5_tend_6 hl 2 rfl rfl ?_
    refine lv_ifnonnull (tgt := 13) hx hb dX5_tend_7 (by decide) ?_
    refine f_aload_n hx hb dX5_tend_13 hl 2 rfl rfl ?_
    refine lv_dup hx hb dX5_tend_14 rfl ?_
    refine e_get (C := RX3) (T := TX3) (N := 4) hx hb hts i3 hown hK hw (Ew_ramp (by assumption)) rfl 2 (by decide) (hts (.fieldLink RX5 108 "FerryQuay$Ramp" "taken" "I") (by decide +kernel)) rfl dX5_tend_15 ?_
    refine lv_iconst (v := 1) hx hb dX5_tend_18 (by decide) ?_
    refine lv_iadd hx hb dX5_tend_19 ?_
    refine e_put (C := RX3) (T := TX3) (N := 4) (ty := .int) hx hb hts i3 tyX3 tyX3_ok nmX3 hown hK hw hS (Ew_ramp (by assumption)) rfl 2 (by decide) (hts (.fieldLink RX5 108 "FerryQuay$Ramp" "taken" "I") (by decide +kernel)) rfl (by decide +kernel) rfl rfl (Nat.le_of_ble_eq_true rfl) dX5_tend_20 (fun H locs hw hS => ?_)
    have hw := hw.cast (Ep_ramp2 (by assumption))
    refine f_aload_n hx hb dX5_tend_23 hl 2 rfl rfl ?_
    refine e_get (C := RX3) (T := TX3) (N := 4) hx hb hts i3 hown hK hw (Ew_ramp (by assumption)) rfl 3 (by decide) (hts (.fieldLink RX5 141 "FerryQuay$Ramp" "wear" "I") (by decide +kernel)) rfl dX5_tend_24 ?_
    refine lv_if_ne (tgt := 37) hx hb dX5_tend_27 (by decide) (fun c27 => ?_) (fun c27 => ?_)
    · refine f_aload_n hx hb dX5_tend_37 hl 2 rfl rfl ?_
      refine e_get (C := RX3) (T := TX3) (N := 4) hx hb hts i3 hown hK hw (Ew_ramp (by assumption)) rfl 3 (by decide) (hts (.fieldLink RX5 141 "FerryQuay$Ramp" "wear" "I") (by decide +kernel)) rfl dX5_tend_38 ?_
      refine f_istore_n hx hb dX5_tend_41 hl 3 rfl (by decide) (fun ls hl => ?_)
      refine f_aload_n hx hb dX5_tend_42 hl 2 rfl rfl ?_
      refine lv_iconst (v := 0) hx hb dX5_tend_43 (by decide) ?_
      refine e_put (C := RX3) (T := TX3) (N := 4) (ty := .int) hx hb hts i3 tyX3 tyX3_ok nmX3 hown hK hw hS (Ew_ramp (by assumption)) rfl 3 (by decide) (hts (.fieldLink RX5 141 "FerryQuay$Ramp" "wear" "I") (by decide +kernel)) rfl (by decide +kernel) rfl rfl (Nat.le_of_ble_eq_true rfl) dX5_tend_44 (fun H locs hw hS => ?_)
      have hw := hw.cast (Ep_ramp3 (by assumption))
      refine f_iload_n hx hb dX5_tend_47 hl 3 rfl rfl ?_
      exact q_isp hx hb hr hlk hK hw hS dX5_tend_48 (by rw [sp_tend, hix]; dsimp only [Option.elim]; exact (if_neg c27))
    · refine f_aload_n hx hb dX5_tend_30 hl 0 rfl rfl ?_
      refine lv_bipush (v := (-5)) hx hb dX5_tend_31 (by decide) ?_
      refine q_ci (q_runV (C := RX5) (T := TX5) (N := 10) ⟨hx, hb, hml, hown, hts⟩ (c_X5_alarm l (hI.p6 hj) (-5)) (cwV 1 hts gX5_tend_X5_alarm rfl rfl rfl (by decide +kernel) ⟨Nat.le_of_ble_eq_true rfl, Nat.le_of_ble_eq_true rfl⟩) hK hw Ew_fq rfl rfl hl.1 rfl (by simp [Value.category, va_rf]) dX5_tend_33 ⟨Nat.le_of_ble_eq_true rfl, Nat.le_of_ble_eq_true rfl⟩) hS (fun H locs hw hS => ?_)
      exact q_isp hx hb hr hlk hK hw hS dX5_tend_36 (by rw [sp_tend, hix]; dsimp only [Option.elim]; exact (if_pos c27))
set_option maxHeartbeats 4000000 in
set_option maxRecDepth 100000 in
theorem c_X5_shut (l : Launch) {G : va_G} {Y : YT} {lo : Nat} {ad : Nat → Nat → Nat} {ng nr nb : Nat} {z u : St} (hI : Inv z ng nr nb) (x v : Int32) (hv : v = 0 ∨ v = 1) : Met l yX5_shut wsX5_shut ({ frames := 1, cells := 0, slots := 0, locals := 21 }) (va_Pc [.ref (ad 0 0), .int x, .int v] (cS G (tysY Y) lo (Ew Y ng nr nb z u ad) ad)) (QI G (tysY Y) lo (sp_shut ng z x v).1 (Ew Y ng nr nb (sp_shut ng z x v).2 u ad) ad) 0 0 (fun q => lo ≤ q) := by
  refine met_of (cc := cX5_shut) (maxL := 5) (ret := (some .int)) (by decide) rfl (Nat.le_of_ble_eq_true rfl) rfl ?_
  intro p e s m below meth c ls hx hb hr hlk hml hts hown hnm hw hK hl hS
  have i2 : ∀ w ∈ wsX20, w ∈ wsX5_shut := by decide +kernel
  have i5 : ∀ w ∈ wsX50, w ∈ wsX5_shut := by decide +kernel
  have hng := hI.mg
  have hnr := hI.mr
  have hnb := hI.mb
  rcases ix_cases x hI.ng2 with ⟨hix, hbad⟩ | ⟨j, hj, rfl, hix⟩
  · refine f_aload_n hx hb dX5_shut_0 hl 0 rfl rfl ?_
    refine f_iload_n hx hb dX5_shut_1 hl 1 rfl rfl ?_
    refine q_cq (q_runV (C := RX5) (T := TX5) (N := 10) ⟨hx, hb, hml, hown, hts⟩ (c_X5_gateAt l hI x) (cwV 1 hts gX5_shut_X5_gateAt rfl rfl rfl (by decide +kernel) ⟨Nat.le_of_ble_eq_true rfl, Nat.le_of_ble_eq_true rfl⟩) hK hw Ew_fq rfl rfl hl.1 rfl (by simp [Value.category, va_rf]) dX5_shut_2 ⟨Nat.le_of_ble_eq_true rfl, Nat.le_of_ble_eq_true rfl⟩) hS (fun H locs hw hS => ?_)
    refine f_val (y := .null) (by rw [hix]; rfl) ?_
    refine f_astore_nN hx hb dX5_shut_5 hl 3 rfl (by decide) (fun ls hl => ?_)
    refine f_aload_nN hx hb dX5_shut_6 hl 3 rfl rfl ?_
    refine lv_ifnonnullN hx hb dX5_shut_7 ?_
    refine lv_bipush (v := (-2)) hx hb dX5_shut_10 (by decide) ?_
    exact q_isp hx hb hr hlk hK hw hS dX5_shut_12 (by rw [sp_shut, hix]; exact rfl)
  · refine f_aload_n hx hb dX5_shut_0 hl 0 rfl rfl ?_
    refine f_iload_n hx hb dX5_shut_1 hl 1 rfl rfl ?_
    refine q_cq (q_runV (C := RX5) (T := TX5) (N := 10) ⟨hx, hb, hml, hown, hts⟩ (c_X5_gateAt l hI (nI j)) (cwV 1 hts gX5_shut_X5_gateAt rfl rfl rfl (by decide +kernel) ⟨Nat.le_of_ble_eq_true rfl, Nat.le_of_ble_eq_true rfl⟩) hK hw Ew_fq rfl rfl hl.1 rfl (by simp [Value.category, va_rf]) dX5_shut_2 ⟨Nat.le_of_ble_eq_true rfl, Nat.le_of_ble_eq_true rfl⟩) hS (fun H locs hw hS => ?_)
    refine f_val (y := .ref (ad 1 j)) (by rw [hix]; rfl) ?_
    refine f_astore_n hx hb dX5_shut_5 hl 3 rfl (by decide) (fun ls hl => ?_)
    refine f_aload_n hx hb dX5_shut_6 hl 3 rfl rfl ?_
    refine lv_ifnonnull (tgt := 13) hx hb dX5_shut_7 (by decide) ?_
    refine f_aload_n hx hb dX5_shut_13 hl 3 rfl rfl ?_
    refine q_ci (q_runV (C := RX2) (T := TX2) (N := 4) ⟨hx, hb, hml, hown, hts⟩ (c_X2_shutAsNumber l hI (by assumption)) (cwV 0 hts gX5_shut_X2_shutAsNumber rfl rfl rfl (by decide +kernel) ⟨Nat.le_of_ble_eq_true rfl, Nat.le_of_ble_eq_true rfl⟩) hK hw (Ew_gate (by assumption)) rfl rfl hl.1 rfl (by simp [Value.category, va_rf]) dX5_shut_14 ⟨Nat.le_of_ble_eq_true rfl, Nat.le_of_ble_eq_true rfl⟩) hS (fun H locs hw hS => ?_)
    refine f_istore hx hb dX5_shut_17 hl (by decide) (fun ls hl => ?_)
    refine f_aload_n hx hb dX5_shut_19 hl 3 rfl rfl ?_
    refine f_iload_n hx hb dX5_shut_20 hl 2 rfl rfl ?_
    refine e_put (C := RX2) (T := TX2) (N := 4) (ty := .boolean) hx hb hts i2 tyX2 tyX2_ok nmX2 hown hK hw hS (Ew_gate (by assumption)) rfl 1 (by decide) (hts (.fieldLink RX5 78 "FerryQuay$Gate" "isShut" "Z") (by decide +kernel)) rfl (by decide +kernel) (by rcases hv with rfl | rfl <;> rfl) (by rcases hv with rfl | rfl <;> rfl) (Nat.le_of_ble_eq_true rfl) dX5_shut_21 (fun H locs hw hS => ?_)
    have hw := hw.cast (Ep_gate1 (by assumption))
    refine f_iload hx hb dX5_shut_24 hl rfl ?_
    exact q_isp hx hb hr hlk hK hw hS dX5_shut_26 (by rw [sp_shut, hix]; exact rfl)
set_option maxHeartbeats 4000000 in
set_option maxRecDepth 100000 in
theorem c_X5_hinge (l : Launch) {G : va_G} {Y : YT} {lo : Nat} {ad : Nat → Nat → Nat} {ng nr nb : Nat} {z u : St} (hI : Inv z ng nr nb) (x y : Int32) : Met l yX5_hinge wsX5_hinge ({ frames := 1, cells := 0, slots := 0, locals := 21 }) (va_Pc [.ref (ad 0 0), .int x, .int y] (cS G (tysY Y) lo (Ew Y ng nr nb z u ad) ad)) (QI G (tysY Y) lo (sp_hinge ng nb z x y).1 (Ew Y ng nr nb (sp_hinge ng nb z x y).2 u ad) ad) 0 0 (fun q => lo ≤ q) := by
  refine met_of (cc := cX5_hinge) (maxL := 6) (ret := (some .int)) (by decide) rfl (Nat.le_of_ble_eq_true rfl) rfl ?_
  intro p e s m below meth c ls hx hb hr hlk hml hts hown hnm hw hK hl hS
  have i0 : ∀ w ∈ wsX00, w ∈ wsX5_hinge := by decide +kernel
  have i5 : ∀ w ∈ wsX50, w ∈ wsX5_hinge := by decide +kernel
  have hng := hI.mg
  have hnr := hI.mr
  have hnb := hI.mb
  rcases ix_cases x hI.nb2 with ⟨hix, hbad⟩ | ⟨j, hj, rfl, hix⟩
  · rcases ix_cases y hI.ng2 with ⟨hiy, hbad2⟩ | ⟨k, hk, rfl, hiy⟩
    · refine f_aload_n hx hb dX5_hinge_0 hl 0 rfl rfl ?_
      refine f_iload_n hx hb dX5_hinge_1 hl 1 rfl rfl ?_
      refine q_cq (q_runV (C := RX5) (T := TX5) (N := 10) ⟨hx, hb, hml, hown, hts⟩ (c_X5_berthAt l hI x) (cwV 1 hts gX5_hinge_X5_berthAt rfl rfl rfl (by decide +kernel) ⟨Nat.le_of_ble_eq_true rfl, Nat.le_of_ble_eq_true rfl⟩) hK hw Ew_fq rfl rfl hl.1 rfl (by simp [Value.category, va_rf]) dX5_hinge_2 ⟨Nat.le_of_ble_eq_true rfl, Nat.le_of_ble_eq_true rfl⟩) hS (fun H locs hw hS => ?_)
      refine f_val (y := .null) (by rw [hix]; rfl) ?_
      refine f_astore_nN hx hb dX5_hinge_5 hl 3 rfl (by decide) (fun ls hl => ?_)
      refine f_aload_n hx hb dX5_hinge_6 hl 0 rfl rfl ?_
      refine f_iload_n hx hb dX5_hinge_7 hl 2 rfl rfl ?_
      refine q_cq (q_runV (C := RX5) (T := TX5) (N := 10) ⟨hx, hb, hml, hown, hts⟩ (c_X5_gateAt l hI y) (cwV 1 hts gX5_hinge_X5_gateAt rfl rfl rfl (by decide +kernel) ⟨Nat.le_of_ble_eq_true rfl, Nat.le_of_ble_eq_true rfl⟩) hK hw Ew_fq rfl rfl hl.1 rfl (by simp [Value.category, va_rf]) dX5_hinge_8 ⟨Nat.le_of_ble_eq_true rfl, Nat.le_of_ble_eq_true rfl⟩) hS (fun H locs hw hS => ?_)
      refine f_val (y := .null) (by rw [hiy]; rfl) ?_
      refine f_astoreN hx hb dX5_hinge_11 hl (by decide) (fun ls hl => ?_)
      refine f_aload_nN hx hb dX5_hinge_13 hl 3 rfl rfl ?_
      refine lv_ifnullN (tgt := 27) hx hb dX5_hinge_14 (by decide) ?_
      refine lv_bipush (v := (-2)) hx hb dX5_hinge_27 (by decide) ?_
      exact q_isp hx hb hr hlk hK hw hS dX5_hinge_29 (by rw [sp_hinge, hix]; exact rfl)
    · refine f_aload_n hx hb dX5_hinge_0 hl 0 rfl rfl ?_
      refine f_iload_n hx hb dX5_hinge_1 hl 1 rfl rfl ?_
      refine q_cq (q_runV (C := RX5) (T := TX5) (N := 10) ⟨hx, hb, hml, hown, hts⟩ (c_X5_berthAt l hI x) (cwV 1 hts gX5_hinge_X5_berthAt rfl rfl rfl (by decide +kernel) ⟨Nat.le_of_ble_eq_true rfl, Nat.le_of_ble_eq_true rfl⟩) hK hw Ew_fq rfl rfl hl.1 rfl (by simp [Value.category, va_rf]) dX5_hinge_2 ⟨Nat.le_of_ble_eq_true rfl, Nat.le_of_ble_eq_true rfl⟩) hS (fun H locs hw hS => ?_)
      refine f_val (y := .null) (by rw [hix]; rfl) ?_
      refine f_astore_nN hx hb dX5_hinge_5 hl 3 rfl (by decide) (fun ls hl => ?_)
      refine f_aload_n hx hb dX5_hinge_6 hl 0 rfl rfl ?_
      refine f_iload_n hx hb dX5_hinge_7 hl 2 rfl rfl ?_
      refine q_cq (q_runV (C := RX5) (T := TX5) (N := 10) ⟨hx, hb, hml, hown, hts⟩ (c_X5_gateAt l hI (nI k)) (cwV 1 hts gX5_hinge_X5_gateAt rfl rfl rfl (by decide +kernel) ⟨Nat.le_of_ble_eq_true rfl, Nat.le_of_ble_eq_true rfl⟩) hK hw Ew_fq rfl rfl hl.1 rfl (by simp [Value.category, va_rf]) dX5_hinge_8 ⟨Nat.le_of_ble_eq_true rfl, Nat.le_of_ble_eq_true rfl⟩) hS (fun H locs hw hS => ?_)
      refine f_val (y := .ref (ad 1 k)) (by rw [hiy]; rfl) ?_
      refine f_astore hx hb dX5_hinge_11 hl (by decide) (fun ls hl => ?_)
      refine f_aload_nN hx hb dX5_hinge_13 hl 3 rfl rfl ?_
      refine lv_ifnullN (tgt := 27) hx hb dX5_hinge_14 (by decide) ?_
      refine lv_bipush (v := (-2)) hx hb dX5_hinge_27 (by decide) ?_
      exact q_isp hx hb hr hlk hK hw hS dX5_hinge_29 (by rw [sp_hinge, hix]; exact rfl)
  · rcases ix_cases y hI.ng2 with ⟨hiy, hbad2⟩ | ⟨k, hk, rfl, hiy⟩
    · refine f_aload_n hx hb dX5_hinge_0 hl 0 rfl rfl ?_
      refine f_iload_n hx hb dX5_hinge_1 hl 1 rfl rfl ?_
      refine q_cq (q_runV (C := RX5) (T := TX5) (N := 10) ⟨hx, hb, hml, hown, hts⟩ (c_X5_berthAt l hI (nI j)) (cwV 1 hts gX5_hinge_X5_berthAt rfl rfl rfl (by decide +kernel) ⟨Nat.le_of_ble_eq_true rfl, Nat.le_of_ble_eq_true rfl⟩) hK hw Ew_fq rfl rfl hl.1 rfl (by simp [Value.category, va_rf]) dX5_hinge_2 ⟨Nat.le_of_ble_eq_true rfl, Nat.le_of_ble_eq_true rfl⟩) hS (fun H locs hw hS => ?_)
      refine f_val (y := .ref (ad 3 j)) (by rw [hix]; rfl) ?_
      refine f_astore_n hx hb dX5_hinge_5 hl 3 rfl (by decide) (fun ls hl => ?_)
      refine f_aload_n hx hb dX5_hinge_6 hl 0 rfl rfl ?_
      refine f_iload_n hx hb dX5_hinge_7 hl 2 rfl rfl ?_
      refine q_cq (q_runV (C := RX5) (T := TX5) (N := 10) ⟨hx, hb, hml, hown, hts⟩ (c_X5_gateAt l hI y) (cwV 1 hts gX5_hinge_X5_gateAt rfl rfl rfl (by decide +kernel) ⟨Nat.le_of_ble_eq_true rfl, Nat.le_of_ble_eq_true rfl⟩) hK hw Ew_fq rfl rfl hl.1 rfl (by simp [Value.category, va_rf]) dX5_hinge_8 ⟨Nat.le_of_ble_eq_true rfl, Nat.le_of_ble_eq_true rfl⟩) hS (fun H locs hw hS => ?_)
      refine f_val (y := .null) (by rw [hiy]; rfl) ?_
      refine f_astoreN hx hb dX5_hinge_11 hl (by decide) (fun ls hl => ?_)
      refine f_aload_n hx hb dX5_hinge_13 hl 3 rfl rfl ?_
      refine lv_ifnull hx hb dX5_hinge_14 ?_
      refine f_aloadN hx hb dX5_hinge_17 hl rfl ?_
      refine lv_ifnonnullN hx hb dX5_hinge_19 ?_
      refine f_iload_n hx hb dX5_hinge_22 hl 2 rfl rfl ?_
      refine lv_iconst (v := (-1)) hx hb dX5_hinge_23 (by decide) ?_
      refine lv_icmp_eq (tgt := 30) hx hb dX5_hinge_24 (by decide) (fun c24 => ?_) (fun c24 => ?_)
      · refine f_aload_n hx hb dX5_hinge_30 hl 3 rfl rfl ?_
        refine q_ci (q_runV (C := RX0) (T := TX0) (N := 4) ⟨hx, hb, hml, hown, hts⟩ (c_X0_gateNumber l hI (by assumption)) (cwV 0 hts gX5_hinge_X0_gateNumber rfl rfl rfl (by decide +kernel) ⟨Nat.le_of_ble_eq_true rfl, Nat.le_of_ble_eq_true rfl⟩) hK hw (Ew_berth (by assumption)) rfl rfl hl.1 rfl (by simp [Value.category, va_rf]) dX5_hinge_31 ⟨Nat.le_of_ble_eq_true rfl, Nat.le_of_ble_eq_true rfl⟩) hS (fun H locs hw hS => ?_)
        refine f_istore hx hb dX5_hinge_34 hl (by decide) (fun ls hl => ?_)
        refine f_aload_n hx hb dX5_hinge_36 hl 3 rfl rfl ?_
        refine f_aloadN hx hb dX5_hinge_37 hl rfl ?_
        subst c24
        refine e_put (C := RX0) (T := TX0) (N := 4) (ty := .object "FerryQuay$Gate") hx hb hts i0 tyX0 tyX0_ok nmX0 hown hK hw hS (Ew_berth (by assumption)) rfl 2 (by decide) (hts (.fieldLink RX5 60 "FerryQuay$Berth" "gate" "LFerryQuay$Gate;") (by decide +kernel)) rfl (by decide +kernel) rfl rfl (Nat.le_of_ble_eq_true rfl) dX5_hinge_39 (fun H locs hw hS => ?_)
        have hw := hw.cast (Ep_b2N (by assumption))
        refine f_iload hx hb dX5_hinge_42 hl rfl ?_
        exact q_isp hx hb hr hlk hK hw hS dX5_hinge_44 (by rw [sp_hinge, hix]; dsimp only [Option.elim]; exact if_pos rfl)
      · refine lv_bipush (v := (-2)) hx hb dX5_hinge_27 (by decide) ?_
        exact q_isp hx hb hr hlk hK hw hS dX5_hinge_29 (by rw [sp_hinge, hix]; exact (if_neg c24).trans (by rw [hiy]; rfl))
    · refine f_aload_n hx hb dX5_hinge_0 hl 0 rfl rfl ?_
      refine f_iload_n hx hb dX5_hinge_1 hl 1 rfl rfl ?_
      refine q_cq (q_runV (C := RX5) (T := TX5) (N := 10) ⟨hx, hb, hml, hown, hts⟩ (c_X5_berthAt l hI (nI j)) (cwV 1 hts gX5_hinge_X5_berthAt rfl rfl rfl (by decide +kernel) ⟨Nat.le_of_ble_eq_true rfl, Nat.le_of_ble_eq_true rfl⟩) hK hw Ew_fq rfl rfl hl.1 rfl (by simp [Value.category, va_rf]) dX5_hinge_2 ⟨Nat.le_of_ble_eq_true rfl, Nat.le_of_ble_eq_true rfl⟩) hS (fun H locs hw hS => ?_)
      refine f_val (y := .ref (ad 3 j)) (by rw [hix]; rfl) ?_
      refine f_astore_n hx hb dX5_hinge_5 hl 3 rfl (by decide) (fun ls hl => ?_)
      refine f_aload_n hx hb dX5_hinge_6 hl 0 rfl rfl ?_
      refine f_iload_n hx hb dX5_hinge_7 hl 2 rfl rfl ?_
      refine q_cq (q_runV (C := RX5) (T := TX5) (N := 10) ⟨hx, hb, hml, hown, hts⟩ (c_X5_gateAt l hI (nI k)) (cwV 1 hts gX5_hinge_X5_gateAt rfl rfl rfl (by decide +kernel) ⟨Nat.le_of_ble_eq_true rfl, Nat.le_of_ble_eq_true rfl⟩) hK hw Ew_fq rfl rfl hl.1 rfl (by simp [Value.category, va_rf]) dX5_hinge_8 ⟨Nat.le_of_ble_eq_true rfl, Nat.le_of_ble_eq_true rfl⟩) hS (fun H locs hw hS => ?_)
      refine f_val (y := .ref (ad 1 k)) (by rw [hiy]; rfl) ?_
      refine f_astore hx hb dX5_hinge_11 hl (by decide) (fun ls hl => ?_)
      refine f_aload_n hx hb dX5_hinge_13 hl 3 rfl rfl ?_
      refine lv_ifnull hx hb dX5_hinge_14 ?_
      refine f_aload hx hb dX5_hinge_17 hl rfl ?_
      refine lv_ifnonnull (tgt := 30) hx hb dX5_hinge_19 (by decide) ?_
      refine f_aload_n hx hb dX5_hinge_30 hl 3 rfl rfl ?_
      refine q_ci (q_runV (C := RX0) (T := TX0) (N := 4) ⟨hx, hb, hml, hown, hts⟩ (c_X0_gateNumber l hI (by assumption)) (cwV 0 hts gX5_hinge_X0_gateNumber rfl rfl rfl (by decide +kernel) ⟨Nat.le_of_ble_eq_true rfl, Nat.le_of_ble_eq_true rfl⟩) hK hw (Ew_berth (by assumption)) rfl rfl hl.1 rfl (by simp [Value.category, va_rf]) dX5_hinge_31 ⟨Nat.le_of_ble_eq_true rfl, Nat.le_of_ble_eq_true rfl⟩) hS (fun H locs hw hS => ?_)
      refine f_istore hx hb dX5_hinge_34 hl (by decide) (fun ls hl => ?_)
      refine f_aload_n hx hb dX5_hinge_36 hl 3 rfl rfl ?_
      refine f_aload hx hb dX5_hinge_37 hl rfl ?_
      refine e_put (C := RX0) (T := TX0) (N := 4) (ty := .object "FerryQuay$Gate") hx hb hts i0 tyX0 tyX0_ok nmX0 hown hK hw hS (Ew_berth (by assumption)) rfl 2 (by decide) (hts (.fieldLink RX5 60 "FerryQuay$Berth" "gate" "LFerryQuay$Gate;") (by decide +kernel)) rfl (by decide +kernel) rfl rfl (Nat.le_of_ble_eq_true rfl) dX5_hinge_39 (fun H locs hw hS => ?_)
      have hw := hw.cast (Ep_b2R (by assumption) (by omega))
      refine f_iload hx hb dX5_hinge_42 hl rfl ?_
      exact q_isp hx hb hr hlk hK hw hS dX5_hinge_44 (by rw [sp_hinge, hix]; exact (if_neg (nI_m1 (by omega))).trans (by rw [hiy]; rfl))
set_option maxHeartbeats 4000000 in
set_option maxRecDepth 100000 in
theorem c_X5_lay (l : Launch) {G : va_G} {Y : YT} {lo : Nat} {ad : Nat → Nat → Nat} {ng nr nb : Nat} {z u : St} (hI : Inv z ng nr nb) (x y : Int32) : Met l yX5_lay wsX5_lay ({ frames := 1, cells := 0, slots := 0, locals := 21 }) (va_Pc [.ref (ad 0 0), .int x, .int y] (cS G (tysY Y) lo (Ew Y ng nr nb z u ad) ad)) (QI G (tysY Y) lo (sp_lay nr nb z x y).1 (Ew Y ng nr nb (sp_lay nr nb z x y).2 u ad) ad) 0 0 (fun q => lo ≤ q) := by
  refine met_of (cc := cX5_lay) (maxL := 6) (ret := (some .int)) (by decide) rfl (Nat.le_of_ble_eq_true rfl) rfl ?_
  intro p e s m below meth c ls hx hb hr hlk hml hts hown hnm hw hK hl hS
  have i0 : ∀ w ∈ wsX00, w ∈ wsX5_lay := by decide +kernel
  have i5 : ∀ w ∈ wsX50, w ∈ wsX5_lay := by decide +kernel
  have hng := hI.mg
  have hnr := hI.mr
  have hnb := hI.mb
  rcases ix_cases x hI.nb2 with ⟨hix, hbad⟩ | ⟨j, hj, rfl, hix⟩
  · rcases ix_cases y hI.nr2 with ⟨hiy, hbad2⟩ | ⟨k, hk, rfl, hiy⟩
    · refine f_aload_n hx hb dX5_lay_0 hl 0 rfl rfl ?_
      refine f_iload_n hx hb dX5_lay_1 hl 1 rfl rfl ?_
      refine q_cq (q_runV (C := RX5) (T := TX5) (N := 10) ⟨hx, hb, hml, hown, hts⟩ (c_X5_berthAt l hI x) (cwV 1 hts gX5_lay_X5_berthAt rfl rfl rfl (by decide +kernel) ⟨Nat.le_of_ble_eq_true rfl, Nat.le_of_ble_eq_true rfl⟩) hK hw Ew_fq rfl rfl hl.1 rfl (by simp [Value.category, va_rf]) dX5_lay_2 ⟨Nat.le_of_ble_eq_true rfl, Nat.le_of_ble_eq_true rfl⟩) hS (fun H locs hw hS => ?_)
      refine f_val (y := .null) (by rw [hix]; rfl) ?_
      refine f_astore_nN hx hb dX5_lay_5 hl 3 rfl (by decide) (fun ls hl => ?_)
      refine f_aload_n hx hb dX5_lay_6 hl 0 rfl rfl ?_
      refine f_iload_n hx hb dX5_lay_7 hl 2 rfl rfl ?_
      refine q_cq (q_runV (C := RX5) (T := TX5) (N := 10) ⟨hx, hb, hml, hown, hts⟩ (c_X5_rampAt l hI y) (cwV 1 hts gX5_lay_X5_rampAt rfl rfl rfl (by decide +kernel) ⟨Nat.le_of_ble_eq_true rfl, Nat.le_of_ble_eq_true rfl⟩) hK hw Ew_fq rfl rfl hl.1 rfl (by simp [Value.category, va_rf]) dX5_lay_8 ⟨Nat.le_of_ble_eq_true rfl, Nat.le_of_ble_eq_true rfl⟩) hS (fun H locs hw hS => ?_)
      refine f_val (y := .null) (by rw [hiy]; rfl) ?_
      refine f_astoreN hx hb dX5_lay_11 hl (by decide) (fun ls hl => ?_)
      refine f_aload_nN hx hb dX5_lay_13 hl 3 rfl rfl ?_
      refine lv_ifnullN (tgt := 27) hx hb dX5_lay_14 (by decide) ?_
      refine lv_bipush (v := (-2)) hx hb dX5_lay_27 (by decide) ?_
      exact q_isp hx hb hr hlk hK hw hS dX5_lay_29 (by rw [sp_lay, hix]; exact rfl)
    · refine f_aload_n hx hb dX5_lay_0 hl 0 rfl rfl ?_
      refine f_iload_n hx hb dX5_lay_1 hl 1 rfl rfl ?_
      refine q_cq (q_runV (C := RX5) (T := TX5) (N := 10) ⟨hx, hb, hml, hown, hts⟩ (c_X5_berthAt l hI x) (cwV 1 hts gX5_lay_X5_berthAt rfl rfl rfl (by decide +kernel) ⟨Nat.le_of_ble_eq_true rfl, Nat.le_of_ble_eq_true rfl⟩) hK hw Ew_fq rfl rfl hl.1 rfl (by simp [Value.category, va_rf]) dX5_lay_2 ⟨Nat.le_of_ble_eq_true rfl, Nat.le_of_ble_eq_true rfl⟩) hS (fun H locs hw hS => ?_)
      refine f_val (y := .null) (by rw [hix]; rfl) ?_
      refine f_astore_nN hx hb dX5_lay_5 hl 3 rfl (by decide) (fun ls hl => ?_)
      refine f_aload_n hx hb dX5_lay_6 hl 0 rfl rfl ?_
      refine f_iload_n hx hb dX5_lay_7 hl 2 rfl rfl ?_
      refine q_cq (q_runV (C := RX5) (T := TX5) (N := 10) ⟨hx, hb, hml, hown, hts⟩ (c_X5_rampAt l hI (nI k)) (cwV 1 hts gX5_lay_X5_rampAt rfl rfl rfl (by decide +kernel) ⟨Nat.le_of_ble_eq_true rfl, Nat.le_of_ble_eq_true rfl⟩) hK hw Ew_fq rfl rfl hl.1 rfl (by simp [Value.category, va_rf]) dX5_lay_8 ⟨Nat.le_of_ble_eq_true rfl, Nat.le_of_ble_eq_true rfl⟩) hS (fun H locs hw hS => ?_)
      refine f_val (y := .ref (ad 2 k)) (by rw [hiy]; rfl) ?_
      refine f_astore hx hb dX5_lay_11 hl (by decide) (fun ls hl => ?_)
      refine f_aload_nN hx hb dX5_lay_13 hl 3 rfl rfl ?_
      refine lv_ifnullN (tgt := 27) hx hb dX5_lay_14 (by decide) ?_
      refine lv_bipush (v := (-2)) hx hb dX5_lay_27 (by decide) ?_
      exact q_isp hx hb hr hlk hK hw hS dX5_lay_29 (by rw [sp_lay, hix]; exact rfl)
  · rcases ix_cases y hI.nr2 with ⟨hiy, hbad2⟩ | ⟨k, hk, rfl, hiy⟩
    · refine f_aload_n hx hb dX5_lay_0 hl 0 rfl rfl ?_
      refine f_iload_n hx hb dX5_lay_1 hl 1 rfl rfl ?_
      refine q_cq (q_runV (C := RX5) (T := TX5) (N := 10) ⟨hx, hb, hml, hown, hts⟩ (c_X5_berthAt l hI (nI j)) (cwV 1 hts gX5_lay_X5_berthAt rfl rfl rfl (by decide +kernel) ⟨Nat.le_of_ble_eq_true rfl, Nat.le_of_ble_eq_true rfl⟩) hK hw Ew_fq rfl rfl hl.1 rfl (by simp [Value.category, va_rf]) dX5_lay_2 ⟨Nat.le_of_ble_eq_true rfl, Nat.le_of_ble_eq_true rfl⟩) hS (fun H locs hw hS => ?_)
      refine f_val (y := .ref (ad 3 j)) (by rw [hix]; rfl) ?_
      refine f_astore_n hx hb dX5_lay_5 hl 3 rfl (by decide) (fun ls hl => ?_)
      refine f_aload_n hx hb dX5_lay_6 hl 0 rfl rfl ?_
      refine f_iload_n hx hb dX5_lay_7 hl 2 rfl rfl ?_
      refine q_cq (q_runV (C := RX5) (T := TX5) (N := 10) ⟨hx, hb, hml, hown, hts⟩ (c_X5_rampAt l hI y) (cwV 1 hts gX5_lay_X5_rampAt rfl rfl rfl (by decide +kernel) ⟨Nat.le_of_ble_eq_true rfl, Nat.le_of_ble_eq_true rfl⟩) hK hw Ew_fq rfl rfl hl.1 rfl (by simp [Value.category, va_rf]) dX5_lay_8 ⟨Nat.le_of_ble_eq_true rfl, Nat.le_of_ble_eq_true rfl⟩) hS (fun H locs hw hS => ?_)
      refine f_val (y := .null) (by rw [hiy]; rfl) ?_
      refine f_astoreN hx hb dX5_lay_11 hl (by decide) (fun ls hl => ?_)
      refine f_aload_n hx hb dX5_lay_13 hl 3 rfl rfl ?_
      refine lv_ifnull hx hb dX5_lay_14 ?_
      refine f_aloadN hx hb dX5_lay_17 hl rfl ?_
      refine lv_ifnonnullN hx hb dX5_lay_19 ?_
      refine f_iload_n hx hb dX5_lay_22 hl 2 rfl rfl ?_
      refine lv_iconst (v := (-1)) hx hb dX5_lay_23 (by decide) ?_
      refine lv_icmp_eq (tgt := 30) hx hb dX5_lay_24 (by decide) (fun c24 => ?_) (fun c24 => ?_)
      · refine f_aload_n hx hb dX5_lay_30 hl 3 rfl rfl ?_
        refine q_ci (q_runV (C := RX0) (T := TX0) (N := 4) ⟨hx, hb, hml, hown, hts⟩ (c_X0_rampNumber l hI (by assumption)) (cwV 0 hts gX5_lay_X0_rampNumber rfl rfl rfl (by decide +kernel) ⟨Nat.le_of_ble_eq_true rfl, Nat.le_of_ble_eq_true rfl⟩) hK hw (Ew_berth (by assumption)) rfl rfl hl.1 rfl (by simp [Value.category, va_rf]) dX5_lay_31 ⟨Nat.le_of_ble_eq_true rfl, Nat.le_of_ble_eq_true rfl⟩) hS (fun H locs hw hS => ?_)
        refine f_istore hx hb dX5_lay_34 hl (by decide) (fun ls hl => ?_)
        refine f_aload_n hx hb dX5_lay_36 hl 3 rfl rfl ?_
        refine f_aloadN hx hb dX5_lay_37 hl rfl ?_
        subst c24
        refine e_put (C := RX0) (T := TX0) (N := 4) (ty := .object "FerryQuay$Ramp") hx hb hts i0 tyX0 tyX0_ok nmX0 hown hK hw hS (Ew_berth (by assumption)) rfl 3 (by decide) (hts (.fieldLink RX5 71 "FerryQuay$Berth" "ramp" "LFerryQuay$Ramp;") (by decide +kernel)) rfl (by decide +kernel) rfl rfl (Nat.le_of_ble_eq_true rfl) dX5_lay_39 (fun H locs hw hS => ?_)
        have hw := hw.cast (Ep_b3N (by assumption))
        refine f_iload hx hb dX5_lay_42 hl rfl ?_
        exact q_isp hx hb hr hlk hK hw hS dX5_lay_44 (by rw [sp_lay, hix]; dsimp only [Option.elim]; exact if_pos rfl)
      · refine lv_bipush (v := (-2)) hx hb dX5_lay_27 (by decide) ?_
        exact q_isp hx hb hr hlk hK hw hS dX5_lay_29 (by rw [sp_lay, hix]; exact (if_neg c24).trans (by rw [hiy]; rfl))
    · refine f_aload_n hx hb dX5_lay_0 hl 0 rfl rfl ?_
      refine f_iload_n hx hb dX5_lay_1 hl 1 rfl rfl ?_
      refine q_cq (q_runV (C := RX5) (T := TX5) (N := 10) ⟨hx, hb, hml, hown, hts⟩ (c_X5_berthAt l hI (nI j)) (cwV 1 hts gX5_lay_X5_berthAt rfl rfl rfl (by decide +kernel) ⟨Nat.le_of_ble_eq_true rfl, Nat.le_of_ble_eq_true rfl⟩) hK hw Ew_fq rfl rfl hl.1 rfl (by simp [Value.category, va_rf]) dX5_lay_2 ⟨Nat.le_of_ble_eq_true rfl, Nat.le_of_ble_eq_true rfl⟩) hS (fun H locs hw hS => ?_)
      refine f_val (y := .ref (ad 3 j)) (by rw [hix]; rfl) ?_
      refine f_astore_n hx hb dX5_lay_5 hl 3 rfl (by decide) (fun ls hl => ?_)
      refine f_aload_n hx hb dX5_lay_6 hl 0 rfl rfl ?_
      refine f_iload_n hx hb dX5_lay_7 hl 2 rfl rfl ?_
      refine q_cq (q_runV (C := RX5) (T := TX5) (N := 10) ⟨hx, hb, hml, hown, hts⟩ (c_X5_rampAt l hI (nI k)) (cwV 1 hts gX5_lay_X5_rampAt rfl rfl rfl (by decide +kernel) ⟨Nat.le_of_ble_eq_true rfl, Nat.le_of_ble_eq_true rfl⟩) hK hw Ew_fq rfl rfl hl.1 rfl (by simp [Value.category, va_rf]) dX5_lay_8 ⟨Nat.le_of_ble_eq_true rfl, Nat.le_of_ble_eq_true rfl⟩) hS (fun H locs hw hS => ?_)
      refine f_val (y := .ref (ad 2 k)) (by rw [hiy]; rfl) ?_
      refine f_astore hx hb dX5_lay_11 hl (by decide) (fun ls hl => ?_)
      refine f_aload_n hx hb dX5_lay_13 hl 3 rfl rfl ?_
      refine lv_ifnull hx hb dX5_lay_14 ?_
      refine f_aload hx hb dX5_lay_17 hl rfl ?_
      refine lv_ifnonnull (tgt := 30) hx hb dX5_lay_19 (by decide) ?_
      refine f_aload_n hx hb dX5_lay_30 hl 3 rfl rfl ?_
      refine q_ci (q_runV (C := RX0) (T := TX0) (N := 4) ⟨hx, hb, hml, hown, hts⟩ (c_X0_rampNumber l hI (by assumption)) (cwV 0 hts gX5_lay_X0_rampNumber rfl rfl rfl (by decide +kernel) ⟨Nat.le_of_ble_eq_true rfl, Nat.le_of_ble_eq_true rfl⟩) hK hw (Ew_berth (by assumption)) rfl rfl hl.1 rfl (by simp [Value.category, va_rf]) dX5_lay_31 ⟨Nat.le_of_ble_eq_true rfl, Nat.le_of_ble_eq_true rfl⟩) hS (fun H locs hw hS => ?_)
      refine f_istore hx hb dX5_lay_34 hl (by decide) (fun ls hl => ?_)
      refine f_aload_n hx hb dX5_lay_36 hl 3 rfl rfl ?_
      refine f_aload hx hb dX5_lay_37 hl rfl ?_
      refine e_put (C := RX0) (T := TX0) (N := 4) (ty := .object "FerryQuay$Ramp") hx hb hts i0 tyX0 tyX0_ok nmX0 hown hK hw hS (Ew_berth (by assumption)) rfl 3 (by decide) (hts (.fieldLink RX5 71 "FerryQuay$Berth" "ramp" "LFerryQuay$Ramp;") (by decide +kernel)) rfl (by decide +kernel) rfl rfl (Nat.le_of_ble_eq_true rfl) dX5_lay_39 (fun H locs hw hS => ?_)
      have hw := hw.cast (Ep_b3R (by assumption) (by omega))
      refine f_iload hx hb dX5_lay_42 hl rfl ?_
      exact q_isp hx hb hr hlk hK hw hS dX5_lay_44 (by rw [sp_lay, hix]; exact (if_neg (nI_m1 (by omega))).trans (by rw [hiy]; rfl))
set_option maxHeartbeats 4000000 in
set_option maxRecDepth 100000 in
theorem c_X5_ofGate (l : Launch) {G : va_G} {Y : YT} {lo : Nat} {ad : Nat → Nat → Nat} {ng nr nb : Nat} {z u : St} (hI : Inv z ng nr nb) (x y : Int32) : Met l yX5_ofGate wsX5_ofGate ({ frames := 1, cells := 0, slots := 0, locals := 21 }) (va_Pc [.ref (ad 0 0), .int x, .int y] (cS G (tysY Y) lo (Ew Y ng nr nb z u ad) ad)) (QI G (tysY Y) lo (sp_ofGate ng z x y) (Ew Y ng nr nb z u ad) ad) 0 0 (fun q => lo ≤ q) := by
  refine met_of (cc := cX5_ofGate) (maxL := 4) (ret := (some .int)) (by decide) rfl (Nat.le_of_ble_eq_true rfl) rfl ?_
  intro p e s m below meth c ls hx hb hr hlk hml hts hown hnm hw hK hl hS
  have i2 : ∀ w ∈ wsX20, w ∈ wsX5_ofGate := by decide +kernel
  have i5 : ∀ w ∈ wsX50, w ∈ wsX5_ofGate := by decide +kernel
  have hng := hI.mg
  have hnr := hI.mr
  have hnb := hI.mb
  rcases ix_cases x hI.ng2 with ⟨hix, hbad⟩ | ⟨j, hj, rfl, hix⟩
  · refine f_aload_n hx hb dX5_ofGate_0 hl 0 rfl rfl ?_
    refine f_iload_n hx hb dX5_ofGate_1 hl 1 rfl rfl ?_
    refine q_cq (q_runV (C := RX5) (T := TX5) (N := 10) ⟨hx, hb, hml, hown, hts⟩ (c_X5_gateAt l hI x) (cwV 1 hts gX5_ofGate_X5_gateAt rfl rfl rfl (by decide +kernel) ⟨Nat.le_of_ble_eq_true rfl, Nat.le_of_ble_eq_true rfl⟩) hK hw Ew_fq rfl rfl hl.1 rfl (by simp [Value.category, va_rf]) dX5_ofGate_2 ⟨Nat.le_of_ble_eq_true rfl, Nat.le_of_ble_eq_true rfl⟩) hS (fun H locs hw hS => ?_)
    refine f_val (y := .null) (by rw [hix]; rfl) ?_
    refine f_astore_nN hx hb dX5_ofGate_5 hl 3 rfl (by decide) (fun ls hl => ?_)
    refine f_aload_nN hx hb dX5_ofGate_6 hl 3 rfl rfl ?_
    refine lv_ifnonnullN hx hb dX5_ofGate_7 ?_
    refine lv_bipush (v := (-2)) hx hb dX5_ofGate_10 (by decide) ?_
    exact q_iret hx hb hr hlk hK hw hS dX5_ofGate_12 (Eq.symm (by rw [sp_ofGate, hix]; exact rfl)) rfl
  · refine f_aload_n hx hb dX5_ofGate_0 hl 0 rfl rfl ?_
    refine f_iload_n hx hb dX5_ofGate_1 hl 1 rfl rfl ?_
    refine q_cq (q_runV (C := RX5) (T := TX5) (N := 10) ⟨hx, hb, hml, hown, hts⟩ (c_X5_gateAt l hI (nI j)) (cwV 1 hts gX5_ofGate_X5_gateAt rfl rfl rfl (by decide +kernel) ⟨Nat.le_of_ble_eq_true rfl, Nat.le_of_ble_eq_true rfl⟩) hK hw Ew_fq rfl rfl hl.1 rfl (by simp [Value.category, va_rf]) dX5_ofGate_2 ⟨Nat.le_of_ble_eq_true rfl, Nat.le_of_ble_eq_true rfl⟩) hS (fun H locs hw hS => ?_)
    refine f_val (y := .ref (ad 1 j)) (by rw [hix]; rfl) ?_
    refine f_astore_n hx hb dX5_ofGate_5 hl 3 rfl (by decide) (fun ls hl => ?_)
    refine f_aload_n hx hb dX5_ofGate_6 hl 3 rfl rfl ?_
    refine lv_ifnonnull (tgt := 13) hx hb dX5_ofGate_7 (by decide) ?_
    refine f_iload_n hx hb dX5_ofGate_13 hl 2 rfl rfl ?_
    by_cases hs0 : y = 0
    · subst hs0
      refine lv_tableIn (tgt := 40) hx hb dX5_ofGate_14 (by decide) (by decide) rfl (by decide) ?_
      refine f_aload_n hx hb dX5_ofGate_40 hl 3 rfl rfl ?_
      refine e_get (C := RX2) (T := TX2) (N := 4) hx hb hts i2 hown hK hw (Ew_gate (by assumption)) rfl 2 (by decide) (hts (.fieldLink RX5 101 "FerryQuay$Gate" "taken" "I") (by decide +kernel)) rfl dX5_ofGate_41 ?_
      exact q_iret hx hb hr hlk hK hw hS dX5_ofGate_44 (Eq.symm (by rw [sp_ofGate, hix]; dsimp only [Option.elim]; exact (if_pos rfl))) rfl
    · by_cases hs1 : y = 1
      · subst hs1
        refine lv_tableIn (tgt := 45) hx hb dX5_ofGate_14 (by decide) (by decide) rfl (by decide) ?_
        refine f_aload_n hx hb dX5_ofGate_45 hl 3 rfl rfl ?_
        refine e_get (C := RX2) (T := TX2) (N := 4) hx hb hts i2 hown hK hw (Ew_gate (by assumption)) rfl 3 (by decide) (hts (.fieldLink RX5 138 "FerryQuay$Gate" "passed" "I") (by decide +kernel)) rfl dX5_ofGate_46 ?_
        exact q_iret hx hb hr hlk hK hw hS dX5_ofGate_49 (Eq.symm (by rw [sp_ofGate, hix]; dsimp only [Option.elim]; exact (Eq.trans (if_neg (by decide)) (if_pos rfl)))) rfl
      · by_cases hs2 : y = 2
        · subst hs2
          refine lv_tableIn (tgt := 50) hx hb dX5_ofGate_14 (by decide) (by decide) rfl (by decide) ?_
          refine f_aload_n hx hb dX5_ofGate_50 hl 3 rfl rfl ?_
          refine q_ci (q_runV (C := RX2) (T := TX2) (N := 4) ⟨hx, hb, hml, hown, hts⟩ (c_X2_shutAsNumber l hI (by assumption)) (cwV 0 hts gX5_ofGate_X2_shutAsNumber rfl rfl rfl (by decide +kernel) ⟨Nat.le_of_ble_eq_true rfl, Nat.le_of_ble_eq_true rfl⟩) hK hw (Ew_gate (by assumption)) rfl rfl hl.1 rfl (by simp [Value.category, va_rf]) dX5_ofGate_51 ⟨Nat.le_of_ble_eq_true rfl, Nat.le_of_ble_eq_true rfl⟩) hS (fun H locs hw hS => ?_)
          exact q_iret hx hb hr hlk hK hw hS dX5_ofGate_54 (Eq.symm (by rw [sp_ofGate, hix]; dsimp only [Option.elim]; exact (Eq.trans (if_neg (by decide)) (Eq.trans (if_neg (by decide)) (if_pos rfl))))) rfl
        · refine lv_tableOut (tgt := 55) hx hb dX5_ofGate_14 (sw_out (n := 2) (by decide) (fun k hk => by rcases (show k = 0 ∨ k = 1 ∨ k = 2 by omega) with rfl | rfl | rfl <;> assumption)) (by decide) ?_
          refine lv_bipush (v := (-2)) hx hb dX5_ofGate_55 (by decide) ?_
          exact q_iret hx hb hr hlk hK hw hS dX5_ofGate_57 (Eq.symm (by rw [sp_ofGate, hix]; dsimp only [Option.elim]; exact (Eq.trans (if_neg hs0) (Eq.trans (if_neg hs1) (if_neg hs2))))) rfl
set_option maxHeartbeats 4000000 in
set_option maxRecDepth 100000 in
theorem c_X5_ofRamp (l : Launch) {G : va_G} {Y : YT} {lo : Nat} {ad : Nat → Nat → Nat} {ng nr nb : Nat} {z u : St} (hI : Inv z ng nr nb) (x y : Int32) : Met l yX5_ofRamp wsX5_ofRamp ({ frames := 1, cells := 0, slots := 0, locals := 21 }) (va_Pc [.ref (ad 0 0), .int x, .int y] (cS G (tysY Y) lo (Ew Y ng nr nb z u ad) ad)) (QI G (tysY Y) lo (sp_ofRamp nr z x y) (Ew Y ng nr nb z u ad) ad) 0 0 (fun q => lo ≤ q) := by
  refine met_of (cc := cX5_ofRamp) (maxL := 4) (ret := (some .int)) (by decide) rfl (Nat.le_of_ble_eq_true rfl) rfl ?_
  intro p e s m below meth c ls hx hb hr hlk hml hts hown hnm hw hK hl hS
  have i3 : ∀ w ∈ wsX30, w ∈ wsX5_ofRamp := by decide +kernel
  have i5 : ∀ w ∈ wsX50, w ∈ wsX5_ofRamp := by decide +kernel
  have hng := hI.mg
  have hnr := hI.mr
  have hnb := hI.mb
  rcases ix_cases x hI.nr2 with ⟨hix, hbad⟩ | ⟨j, hj, rfl, hix⟩
  · refine f_aload_n hx hb dX5_ofRamp_0 hl 0 rfl rfl ?_
    refine f_iload_n hx hb dX5_ofRamp_1 hl 1 rfl rfl ?_
    refine q_cq (q_runV (C := RX5) (T := TX5) (N := 10) ⟨hx, hb, hml, hown, hts⟩ (c_X5_rampAt l hI x) (cwV 1 hts gX5_ofRamp_X5_rampAt rfl rfl rfl (by decide +kernel) ⟨Nat.le_of_ble_eq_true rfl, Nat.le_of_ble_eq_true rfl⟩) hK hw Ew_fq rfl rfl hl.1 rfl (by simp [Value.category, va_rf]) dX5_ofRamp_2 ⟨Nat.le_of_ble_eq_true rfl, Nat.le_of_ble_eq_true rfl⟩) hS (fun H locs hw hS => ?_)
    refine f_val (y := .null) (by rw [hix]; rfl) ?_
    refine f_astore_nN hx hb dX5_ofRamp_5 hl 3 rfl (by decide) (fun ls hl => ?_)
    refine f_aload_nN hx hb dX5_ofRamp_6 hl 3 rfl rfl ?_
    refine lv_ifnonnullN hx hb dX5_ofRamp_7 ?_
    refine lv_bipush (v := (-2)) hx hb dX5_ofRamp_10 (by decide) ?_
    exact q_iret hx hb hr hlk hK hw hS dX5_ofRamp_12 (Eq.symm (by rw [sp_ofRamp, hix]; exact rfl)) rfl
  · refine f_aload_n hx hb dX5_ofRamp_0 hl 0 rfl rfl ?_
    refine f_iload_n hx hb dX5_ofRamp_1 hl 1 rfl rfl ?_
    refine q_cq (q_runV (C := RX5) (T := TX5) (N := 10) ⟨hx, hb, hml, hown, hts⟩ (c_X5_rampAt l hI (nI j)) (cwV 1 hts gX5_ofRamp_X5_rampAt rfl rfl rfl (by decide +kernel) ⟨Nat.le_of_ble_eq_true rfl, Nat.le_of_ble_eq_true rfl⟩) hK hw Ew_fq rfl rfl hl.1 rfl (by simp [Value.category, va_rf]) dX5_ofRamp_2 ⟨Nat.le_of_ble_eq_true rfl, Nat.le_of_ble_eq_true rfl⟩) hS (fun H locs hw hS => ?_)
    refine f_val (y := .ref (ad 2 j)) (by rw [hix]; rfl) ?_
    refine f_astore_n hx hb dX5_ofRamp_5 hl 3 rfl (by decide) (fun ls hl => ?_)
    refine f_aload_n hx hb dX5_ofRamp_6 hl 3 rfl rfl ?_
    refine lv_ifnonnull (tgt := 13) hx hb dX5_ofRamp_7 (by decide) ?_
    refine f_iload_n hx hb dX5_ofRamp_13 hl 2 rfl rfl ?_
    by_cases hs0 : y = 0
    · subst hs0
      refine lv_tableIn (tgt := 40) hx hb dX5_ofRamp_14 (by decide) (by decide) rfl (by decide) ?_
      refine f_aload_n hx hb dX5_ofRamp_40 hl 3 rfl rfl ?_
      refine e_get (C := RX3) (T := TX3) (N := 4) hx hb hts i3 hown hK hw (Ew_ramp (by assumption)) rfl 2 (by decide) (hts (.fieldLink RX5 108 "FerryQuay$Ramp" "taken" "I") (by decide +kernel)) rfl dX5_ofRamp_41 ?_
      exact q_iret hx hb hr hlk hK hw hS dX5_ofRamp_44 (Eq.symm (by rw [sp_ofRamp, hix]; dsimp only [Option.elim]; exact (if_pos rfl))) rfl
    · by_cases hs1 : y = 1
      · subst hs1
        refine lv_tableIn (tgt := 45) hx hb dX5_ofRamp_14 (by decide) (by decide) rfl (by decide) ?_
        refine f_aload_n hx hb dX5_ofRamp_45 hl 3 rfl rfl ?_
        refine e_get (C := RX3) (T := TX3) (N := 4) hx hb hts i3 hown hK hw (Ew_ramp (by assumption)) rfl 3 (by decide) (hts (.fieldLink RX5 141 "FerryQuay$Ramp" "wear" "I") (by decide +kernel)) rfl dX5_ofRamp_46 ?_
        exact q_iret hx hb hr hlk hK hw hS dX5_ofRamp_49 (Eq.symm (by rw [sp_ofRamp, hix]; dsimp only [Option.elim]; exact (Eq.trans (if_neg (by decide)) (if_pos rfl)))) rfl
      · by_cases hs2 : y = 2
        · subst hs2
          refine lv_tableIn (tgt := 50) hx hb dX5_ofRamp_14 (by decide) (by decide) rfl (by decide) ?_
          refine f_aload_n hx hb dX5_ofRamp_50 hl 3 rfl rfl ?_
          refine e_get (C := RX3) (T := TX3) (N := 4) hx hb hts i3 hown hK hw (Ew_ramp (by assumption)) rfl 1 (by decide) (hts (.fieldLink RX5 122 "FerryQuay$Ramp" "limit" "I") (by decide +kernel)) rfl dX5_ofRamp_51 ?_
          exact q_iret hx hb hr hlk hK hw hS dX5_ofRamp_54 (Eq.symm (by rw [sp_ofRamp, hix]; dsimp only [Option.elim]; exact (Eq.trans (if_neg (by decide)) (Eq.trans (if_neg (by decide)) (if_pos rfl))))) rfl
        · refine lv_tableOut (tgt := 55) hx hb dX5_ofRamp_14 (sw_out (n := 2) (by decide) (fun k hk => by rcases (show k = 0 ∨ k = 1 ∨ k = 2 by omega) with rfl | rfl | rfl <;> assumption)) (by decide) ?_
          refine lv_bipush (v := (-2)) hx hb dX5_ofRamp_55 (by decide) ?_
          exact q_iret hx hb hr hlk hK hw hS dX5_ofRamp_57 (Eq.symm (by rw [sp_ofRamp, hix]; dsimp only [Option.elim]; exact (Eq.trans (if_neg hs0) (Eq.trans (if_neg hs1) (if_neg hs2))))) rfl
set_option maxHeartbeats 4000000 in
set_option maxRecDepth 100000 in
theorem c_X5_state (l : Launch) {G : va_G} {Y : YT} {lo : Nat} {ad : Nat → Nat → Nat} {ng nr nb : Nat} {z u : St} (hI : Inv z ng nr nb) (x y : Int32) : Met l yX5_state wsX5_state ({ frames := 1, cells := 0, slots := 0, locals := 21 }) (va_Pc [.ref (ad 0 0), .int x, .int y] (cS G (tysY Y) lo (Ew Y ng nr nb z u ad) ad)) (QI G (tysY Y) lo (sp_state nb z x y) (Ew Y ng nr nb z u ad) ad) 0 0 (fun q => lo ≤ q) := by
  refine met_of (cc := cX5_state) (maxL := 4) (ret := (some .int)) (by decide) rfl (Nat.le_of_ble_eq_true rfl) rfl ?_
  intro p e s m below meth c ls hx hb hr hlk hml hts hown hnm hw hK hl hS
  have i0 : ∀ w ∈ wsX00, w ∈ wsX5_state := by decide +kernel
  have i1 : ∀ w ∈ wsX10, w ∈ wsX5_state := by decide +kernel
  have i4 : ∀ w ∈ wsX40, w ∈ wsX5_state := by decide +kernel
  have i5 : ∀ w ∈ wsX50, w ∈ wsX5_state := by decide +kernel
  have hng := hI.mg
  have hnr := hI.mr
  have hnb := hI.mb
  rcases ix_cases x hI.nb2 with ⟨hix, hbad⟩ | ⟨j, hj, rfl, hix⟩
  · refine f_aload_n hx hb dX5_state_0 hl 0 rfl rfl ?_
    refine f_iload_n hx hb dX5_state_1 hl 1 rfl rfl ?_
    refine q_cq (q_runV (C := RX5) (T := TX5) (N := 10) ⟨hx, hb, hml, hown, hts⟩ (c_X5_berthAt l hI x) (cwV 1 hts gX5_state_X5_berthAt rfl rfl rfl (by decide +kernel) ⟨Nat.le_of_ble_eq_true rfl, Nat.le_of_ble_eq_true rfl⟩) hK hw Ew_fq rfl rfl hl.1 rfl (by simp [Value.category, va_rf]) dX5_state_2 ⟨Nat.le_of_ble_eq_true rfl, Nat.le_of_ble_eq_true rfl⟩) hS (fun H locs hw hS => ?_)
    refine f_val (y := .null) (by rw [hix]; rfl) ?_
    refine f_astore_nN hx hb dX5_state_5 hl 3 rfl (by decide) (fun ls hl => ?_)
    refine f_aload_nN hx hb dX5_state_6 hl 3 rfl rfl ?_
    refine lv_ifnonnullN hx hb dX5_state_7 ?_
    refine lv_bipush (v := (-2)) hx hb dX5_state_10 (by decide) ?_
    exact q_iret hx hb hr hlk hK hw hS dX5_state_12 (Eq.symm (by rw [sp_state, hix]; exact rfl)) rfl
  · obtain ⟨f, hf, hF, hFt⟩ := hI.ferry hj
    refine f_aload_n hx hb dX5_state_0 hl 0 rfl rfl ?_
    refine f_iload_n hx hb dX5_state_1 hl 1 rfl rfl ?_
    refine q_cq (q_runV (C := RX5) (T := TX5) (N := 10) ⟨hx, hb, hml, hown, hts⟩ (c_X5_berthAt l hI (nI j)) (cwV 1 hts gX5_state_X5_berthAt rfl rfl rfl (by decide +kernel) ⟨Nat.le_of_ble_eq_true rfl, Nat.le_of_ble_eq_true rfl⟩) hK hw Ew_fq rfl rfl hl.1 rfl (by simp [Value.category, va_rf]) dX5_state_2 ⟨Nat.le_of_ble_eq_true rfl, Nat.le_of_ble_eq_true rfl⟩) hS (fun H locs hw hS => ?_)
    refine f_val (y := .ref (ad 3 j)) (by rw [hix]; rfl) ?_
    refine f_astore_n hx hb dX5_state_5 hl 3 rfl (by decide) (fun ls hl => ?_)
    refine f_aload_n hx hb dX5_state_6 hl 3 rfl rfl ?_
    refine lv_ifnonnull (tgt := 13) hx hb dX5_state_7 (by decide) ?_
    refine f_iload_n hx hb dX5_state_13 hl 2 rfl rfl ?_
    by_cases hs0 : y = 0
    · subst hs0
      refine lv_tableIn (tgt := 52) hx hb dX5_state_14 (by decide) (by decide) rfl (by decide) ?_
      refine f_aload_n hx hb dX5_state_52 hl 3 rfl rfl ?_
      refine q_ci (q_runV (C := RX0) (T := TX0) (N := 4) ⟨hx, hb, hml, hown, hts⟩ (c_X0_gateNumber l hI (by assumption)) (cwV 0 hts gX5_state_X0_gateNumber rfl rfl rfl (by decide +kernel) ⟨Nat.le_of_ble_eq_true rfl, Nat.le_of_ble_eq_true rfl⟩) hK hw (Ew_berth (by assumption)) rfl rfl hl.1 rfl (by simp [Value.category, va_rf]) dX5_state_53 ⟨Nat.le_of_ble_eq_true rfl, Nat.le_of_ble_eq_true rfl⟩) hS (fun H locs hw hS => ?_)
      exact q_iret hx hb hr hlk hK hw hS dX5_state_56 (Eq.symm (by rw [sp_state, hix]; dsimp only [Option.elim]; exact (if_pos rfl))) rfl
    · by_cases hs1 : y = 1
      · subst hs1
        refine lv_tableIn (tgt := 57) hx hb dX5_state_14 (by decide) (by decide) rfl (by decide) ?_
        refine f_aload_n hx hb dX5_state_57 hl 3 rfl rfl ?_
        refine q_ci (q_runV (C := RX0) (T := TX0) (N := 4) ⟨hx, hb, hml, hown, hts⟩ (c_X0_rampNumber l hI (by assumption)) (cwV 0 hts gX5_state_X0_rampNumber rfl rfl rfl (by decide +kernel) ⟨Nat.le_of_ble_eq_true rfl, Nat.le_of_ble_eq_true rfl⟩) hK hw (Ew_berth (by assumption)) rfl rfl hl.1 rfl (by simp [Value.category, va_rf]) dX5_state_58 ⟨Nat.le_of_ble_eq_true rfl, Nat.le_of_ble_eq_true rfl⟩) hS (fun H locs hw hS => ?_)
        exact q_iret hx hb hr hlk hK hw hS dX5_state_61 (Eq.symm (by rw [sp_state, hix]; dsimp only [Option.elim]; exact (Eq.trans (if_neg (by decide)) (if_pos rfl)))) rfl
      · by_cases hs2 : y = 2
        · subst hs2
          refine lv_tableIn (tgt := 62) hx hb dX5_state_14 (by decide) (by decide) rfl (by decide) ?_
          refine f_aload_n hx hb dX5_state_62 hl 3 rfl rfl ?_
          refine e_get (C := RX0) (T := TX0) (N := 4) hx hb hts i0 hown hK hw (Ew_berth (by assumption)) rfl 0 (by decide) (hts (.fieldLink RX5 82 "FerryQuay$Berth" "lane" "LFerryQuay$Row;") (by decide +kernel)) rfl dX5_state_63 ?_
          refine e_get (C := RX4) (T := TX4) (N := 2) hx hb hts i4 hown hK hw (Ew_lane (by assumption)) rfl 1 (by decide) (hts (.fieldLink RX5 98 "FerryQuay$Row" "size" "I") (by decide +kernel)) rfl dX5_state_66 ?_
          exact q_iret hx hb hr hlk hK hw hS dX5_state_69 (Eq.symm (by rw [sp_state, hix]; dsimp only [Option.elim]; exact (Eq.trans (if_neg (by decide)) (Eq.trans (if_neg (by decide)) (if_pos rfl))))) rfl
        · by_cases hs3 : y = 3
          · subst hs3
            refine lv_tableIn (tgt := 70) hx hb dX5_state_14 (by decide) (by decide) rfl (by decide) ?_
            refine f_aload_n hx hb dX5_state_70 hl 3 rfl rfl ?_
            refine e_get (C := RX0) (T := TX0) (N := 4) hx hb hts i0 hown hK hw (Ew_berth (by assumption)) rfl 1 (by decide) (hts (.fieldLink RX5 125 "FerryQuay$Berth" "ferry" "LFerryQuay$Ferry;") (by decide +kernel)) rfl dX5_state_71 ?_
            refine f_val (congrArg (fun q => Value.ref (ad 6 q)) hFt) ?_
            refine e_get (C := RX1) (T := TX1) (N := 3) hx hb hts i1 hown hK hw (Ew_ferry (by assumption)) rfl 1 (by decide) (hts (.fieldLink RX5 148 "FerryQuay$Ferry" "vehicles" "LFerryQuay$Row;") (by decide +kernel)) rfl dX5_state_74 ?_
            refine e_get (C := RX4) (T := TX4) (N := 2) hx hb hts i4 hown hK hw (Ew_frow (by assumption)) rfl 1 (by decide) (hts (.fieldLink RX5 98 "FerryQuay$Row" "size" "I") (by decide +kernel)) rfl dX5_state_77 ?_
            exact q_iret hx hb hr hlk hK hw hS dX5_state_80 (Eq.symm (by rw [sp_state, hix]; dsimp only [Option.elim]; exact (Eq.trans (if_neg (by decide)) (Eq.trans (if_neg (by decide)) (Eq.trans (if_neg (by decide)) (Eq.trans (if_pos rfl) (congrArg (fun q => sc z 14 q) hFt))))))) rfl
          · by_cases hs4 : y = 4
            · subst hs4
              refine lv_tableIn (tgt := 81) hx hb dX5_state_14 (by decide) (by decide) rfl (by decide) ?_
              refine f_aload_n hx hb dX5_state_81 hl 3 rfl rfl ?_
              refine e_get (C := RX0) (T := TX0) (N := 4) hx hb hts i0 hown hK hw (Ew_berth (by assumption)) rfl 1 (by decide) (hts (.fieldLink RX5 125 "FerryQuay$Berth" "ferry" "LFerryQuay$Ferry;") (by decide +kernel)) rfl dX5_state_82 ?_
              refine f_val (congrArg (fun q => Value.ref (ad 6 q)) hFt) ?_
              refine e_get (C := RX1) (T := TX1) (N := 3) hx hb hts i1 hown hK hw (Ew_ferry (by assumption)) rfl 2 (by decide) (hts (.fieldLink RX5 160 "FerryQuay$Ferry" "load" "I") (by decide +kernel)) rfl dX5_state_85 ?_
              exact q_iret hx hb hr hlk hK hw hS dX5_state_88 (Eq.symm (by rw [sp_state, hix]; dsimp only [Option.elim]; exact (Eq.trans (if_neg (by decide)) (Eq.trans (if_neg (by decide)) (Eq.trans (if_neg (by decide)) (Eq.trans (if_neg (by decide)) (Eq.trans (if_pos rfl) (congrArg (fun q => sc z 13 q) hFt)))))))) rfl
            · by_cases hs5 : y = 5
              · subst hs5
                refine lv_tableIn (tgt := 89) hx hb dX5_state_14 (by decide) (by decide) rfl (by decide) ?_
                refine f_aload_n hx hb dX5_state_89 hl 3 rfl rfl ?_
                refine e_get (C := RX0) (T := TX0) (N := 4) hx hb hts i0 hown hK hw (Ew_berth (by assumption)) rfl 1 (by decide) (hts (.fieldLink RX5 125 "FerryQuay$Berth" "ferry" "LFerryQuay$Ferry;") (by decide +kernel)) rfl dX5_state_90 ?_
                refine f_val (congrArg (fun q => Value.ref (ad 6 q)) hFt) ?_
                refine e_get (C := RX1) (T := TX1) (N := 3) hx hb hts i1 hown hK hw (Ew_ferry (by assumption)) rfl 0 (by decide) (hts (.fieldLink RX5 167 "FerryQuay$Ferry" "room" "I") (by decide +kernel)) rfl dX5_state_93 ?_
                exact q_iret hx hb hr hlk hK hw hS dX5_state_96 (Eq.symm (by rw [sp_state, hix]; dsimp only [Option.elim]; exact (Eq.trans (if_neg (by decide)) (Eq.trans (if_neg (by decide)) (Eq.trans (if_neg (by decide)) (Eq.trans (if_neg (by decide)) (Eq.trans (if_neg (by decide)) (Eq.trans (if_pos rfl) (congrArg (fun q => sc z 12 q) hFt))))))))) rfl
              · refine lv_tableOut (tgt := 97) hx hb dX5_state_14 (sw_out (n := 5) (by decide) (fun k hk => by rcases (show k = 0 ∨ k = 1 ∨ k = 2 ∨ k = 3 ∨ k = 4 ∨ k = 5 by omega) with rfl | rfl | rfl | rfl | rfl | rfl <;> assumption)) (by decide) ?_
                refine lv_bipush (v := (-2)) hx hb dX5_state_97 (by decide) ?_
                exact q_iret hx hb hr hlk hK hw hS dX5_state_99 (Eq.symm (by rw [sp_state, hix]; dsimp only [Option.elim]; exact (Eq.trans (if_neg hs0) (Eq.trans (if_neg hs1) (Eq.trans (if_neg hs2) (Eq.trans (if_neg hs3) (Eq.trans (if_neg hs4) (if_neg hs5)))))))) rfl
set_option maxHeartbeats 4000000 in
set_option maxRecDepth 100000 in
theorem c_X5_count (l : Launch) {G : va_G} {Y : YT} {lo : Nat} {ad : Nat → Nat → Nat} {ng nr nb : Nat} {z u : St} (hI : Inv z ng nr nb) (y : Int32) : Met l yX5_count wsX5_count ({ frames := 0, cells := 0, slots := 0, locals := 0 }) (va_Pc [.ref (ad 0 0), .int y] (cS G (tysY Y) lo (Ew Y ng nr nb z u ad) ad)) (QI G (tysY Y) lo (sp_count z y) (Ew Y ng nr nb z u ad) ad) 0 0 (fun q => lo ≤ q) := by
  refine met_of (cc := cX5_count) (maxL := 2) (ret := (some .int)) (by decide) rfl (Nat.le_of_ble_eq_true rfl) rfl ?_
  intro p e s m below meth c ls hx hb hr hlk hml hts hown hnm hw hK hl hS
  have i5 : ∀ w ∈ wsX50, w ∈ wsX5_count := by decide +kernel
  have hng := hI.mg
  have hnr := hI.mr
  have hnb := hI.mb
  refine f_iload_n hx hb dX5_count_0 hl 1 rfl rfl ?_
  by_cases hs0 : y = 0
  · subst hs0
    refine lv_tableIn (tgt := 44) hx hb dX5_count_1 (by decide) (by decide) rfl (by decide) ?_
    refine f_aload_n hx hb dX5_count_44 hl 0 rfl rfl ?_
    refine e_get (C := RX5) (T := TX5) (N := 10) hx hb hts i5 hown hK hw Ew_fq rfl 3 (by decide) (hts (.fieldLink RX5 27 "FerryQuay" "gateCount" "I") (by decide +kernel)) rfl dX5_count_45 ?_
    exact q_iret hx hb hr hlk hK hw hS dX5_count_48 (Eq.symm (by rw [sp_count]; exact (if_pos rfl))) rfl
  · by_cases hs1 : y = 1
    · subst hs1
      refine lv_tableIn (tgt := 49) hx hb dX5_count_1 (by decide) (by decide) rfl (by decide) ?_
      refine f_aload_n hx hb dX5_count_49 hl 0 rfl rfl ?_
      refine e_get (C := RX5) (T := TX5) (N := 10) hx hb hts i5 hown hK hw Ew_fq rfl 4 (by decide) (hts (.fieldLink RX5 38 "FerryQuay" "rampCount" "I") (by decide +kernel)) rfl dX5_count_50 ?_
      exact q_iret hx hb hr hlk hK hw hS dX5_count_53 (Eq.symm (by rw [sp_count]; exact (Eq.trans (if_neg (by decide)) (if_pos rfl)))) rfl
    · by_cases hs2 : y = 2
      · subst hs2
        refine lv_tableIn (tgt := 54) hx hb dX5_count_1 (by decide) (by decide) rfl (by decide) ?_
        refine f_aload_n hx hb dX5_count_54 hl 0 rfl rfl ?_
        refine e_get (C := RX5) (T := TX5) (N := 10) hx hb hts i5 hown hK hw Ew_fq rfl 5 (by decide) (hts (.fieldLink RX5 44 "FerryQuay" "berthCount" "I") (by decide +kernel)) rfl dX5_count_55 ?_
        exact q_iret hx hb hr hlk hK hw hS dX5_count_58 (Eq.symm (by rw [sp_count]; exact (Eq.trans (if_neg (by decide)) (Eq.trans (if_neg (by decide)) (if_pos rfl))))) rfl
      · by_cases hs3 : y = 3
        · subst hs3
          refine lv_tableIn (tgt := 59) hx hb dX5_count_1 (by decide) (by decide) rfl (by decide) ?_
          refine f_aload_n hx hb dX5_count_59 hl 0 rfl rfl ?_
          refine e_get (C := RX5) (T := TX5) (N := 10) hx hb hts i5 hown hK hw Ew_fq rfl 6 (by decide) (hts (.fieldLink RX5 95 "FerryQuay" "arrived" "I") (by decide +kernel)) rfl dX5_count_60 ?_
          exact q_iret hx hb hr hlk hK hw hS dX5_count_63 (Eq.symm (by rw [sp_count]; exact (Eq.trans (if_neg (by decide)) (Eq.trans (if_neg (by decide)) (Eq.trans (if_neg (by decide)) (if_pos rfl)))))) rfl
        · by_cases hs4 : y = 4
          · subst hs4
            refine lv_tableIn (tgt := 64) hx hb dX5_count_1 (by decide) (by decide) rfl (by decide) ?_
            refine f_aload_n hx hb dX5_count_64 hl 0 rfl rfl ?_
            refine e_get (C := RX5) (T := TX5) (N := 10) hx hb hts i5 hown hK hw Ew_fq rfl 7 (by decide) (hts (.fieldLink RX5 157 "FerryQuay" "gone" "I") (by decide +kernel)) rfl dX5_count_65 ?_
            exact q_iret hx hb hr hlk hK hw hS dX5_count_68 (Eq.symm (by rw [sp_count]; exact (Eq.trans (if_neg (by decide)) (Eq.trans (if_neg (by decide)) (Eq.trans (if_neg (by decide)) (Eq.trans (if_neg (by decide)) (if_pos rfl))))))) rfl
          · by_cases hs5 : y = 5
            · subst hs5
              refine lv_tableIn (tgt := 69) hx hb dX5_count_1 (by decide) (by decide) rfl (by decide) ?_
              refine f_aload_n hx hb dX5_count_69 hl 0 rfl rfl ?_
              refine e_get (C := RX5) (T := TX5) (N := 10) hx hb hts i5 hown hK hw Ew_fq rfl 8 (by decide) (hts (.fieldLink RX5 116 "FerryQuay" "towed" "I") (by decide +kernel)) rfl dX5_count_70 ?_
              exact q_iret hx hb hr hlk hK hw hS dX5_count_73 (Eq.symm (by rw [sp_count]; exact (Eq.trans (if_neg (by decide)) (Eq.trans (if_neg (by decide)) (Eq.trans (if_neg (by decide)) (Eq.trans (if_neg (by decide)) (Eq.trans (if_neg (by decide)) (if_pos rfl)))))))) rfl
            · by_cases hs6 : y = 6
              · subst hs6
                refine lv_tableIn (tgt := 74) hx hb dX5_count_1 (by decide) (by decide) rfl (by decide) ?_
                refine f_aload_n hx hb dX5_count_74 hl 0 rfl rfl ?_
                refine e_get (C := RX5) (T := TX5) (N := 10) hx hb hts i5 hown hK hw Ew_fq rfl 9 (by decide) (hts (.fieldLink RX5 170 "FerryQuay" "alarms" "I") (by decide +kernel)) rfl dX5_count_75 ?_
                exact q_iret hx hb hr hlk hK hw hS dX5_count_78 (Eq.symm (by rw [sp_count]; exact (Eq.trans (if_neg (by decide)) (Eq.trans (if_neg (by decide)) (Eq.trans (if_neg (by decide)) (Eq.trans (if_neg (by decide)) (Eq.trans (if_neg (by decide)) (Eq.trans (if_neg (by decide)) (if_pos rfl))))))))) rfl
              · refine lv_tableOut (tgt := 79) hx hb dX5_count_1 (sw_out (n := 6) (by decide) (fun k hk => by rcases (show k = 0 ∨ k = 1 ∨ k = 2 ∨ k = 3 ∨ k = 4 ∨ k = 5 ∨ k = 6 by omega) with rfl | rfl | rfl | rfl | rfl | rfl | rfl <;> assumption)) (by decide) ?_
                refine lv_bipush (v := (-2)) hx hb dX5_count_79 (by decide) ?_
                exact q_iret hx hb hr hlk hK hw hS dX5_count_81 (Eq.symm (by rw [sp_count]; exact (Eq.trans (if_neg hs0) (Eq.trans (if_neg hs1) (Eq.trans (if_neg hs2) (Eq.trans (if_neg hs3) (Eq.trans (if_neg hs4) (Eq.trans (if_neg hs5) (if_neg hs6))))))))) rfl
theorem wAt_w {n cap : Nat} {a : Int32} {f : Nat → Int32} {y : Int32} (ha : a = nI n) (hn : n ≤ cap) (hcap : cap < 2 ^ 31) : (if y < 0 then (-1 : Int32) else if a ≤ y then -1 else f (tn y)) = (if y < 0 then -1 else if nI n ≤ y then -1 else if nI cap ≤ y then -1 else f y.toNatClampNeg) := by
  subst ha
  by_cases h1 : y < 0
  · rw [if_pos h1, if_pos h1]
  · rw [if_neg h1, if_neg h1]
    by_cases h2 : nI n ≤ y
    · rw [if_pos h2, if_pos h2]
    · rw [if_neg h2, if_neg h2, if_neg (fun h3 => h2 (Int32.le_trans (nI_le hn hcap) h3))]
theorem he_size {E : Option va_E} {r : Value} {a : Int32} {n : Nat} (h : E = some (.inr (4, [r, .int a]))) (ha : a = nI n) : E = some (.inr (4, [r, .int (nI n)])) := ha ▸ h
set_option maxHeartbeats 4000000 in
set_option maxRecDepth 100000 in
theorem c_X5_waiting (l : Launch) {G : va_G} {Y : YT} {lo : Nat} {ad : Nat → Nat → Nat} {ng nr nb : Nat} {z u : St} (hI : Inv z ng nr nb) (x y : Int32) : Met l yX5_waiting wsX5_waiting ({ frames := 1, cells := 0, slots := 0, locals := 21 }) (va_Pc [.ref (ad 0 0), .int x, .int y] (cS G (tysY Y) lo (Ew Y ng nr nb z u ad) ad)) (QI G (tysY Y) lo (sp_waiting nb z x y) (Ew Y ng nr nb z u ad) ad) 0 0 (fun q => lo ≤ q) := by
  refine met_of (cc := cX5_waiting) (maxL := 4) (ret := (some .int)) (by decide) rfl (Nat.le_of_ble_eq_true rfl) rfl ?_
  intro p e s m below meth c ls hx hb hr hlk hml hts hown hnm hw hK hl hS
  have i0 : ∀ w ∈ wsX00, w ∈ wsX5_waiting := by decide +kernel
  have hng := hI.mg
  have hnr := hI.mr
  have hnb := hI.mb
  rcases ix_cases x hI.nb2 with ⟨hix, hbad⟩ | ⟨j, hj, rfl, hix⟩
  · refine f_aload_n hx hb dX5_waiting_0 hl 0 rfl rfl ?_
    refine f_iload_n hx hb dX5_waiting_1 hl 1 rfl rfl ?_
    refine q_cq (q_runV (C := RX5) (T := TX5) (N := 10) ⟨hx, hb, hml, hown, hts⟩ (c_X5_berthAt l hI x) (cwV 1 hts gX5_waiting_X5_berthAt rfl rfl rfl (by decide +kernel) ⟨Nat.le_of_ble_eq_true rfl, Nat.le_of_ble_eq_true rfl⟩) hK hw Ew_fq rfl rfl hl.1 rfl (by simp [Value.category, va_rf]) dX5_waiting_2 ⟨Nat.le_of_ble_eq_true rfl, Nat.le_of_ble_eq_true rfl⟩) hS (fun H locs hw hS => ?_)
    refine f_val (y := .null) (by rw [hix]; rfl) ?_
    refine f_astore_nN hx hb dX5_waiting_5 hl 3 rfl (by decide) (fun ls hl => ?_)
    refine f_aload_nN hx hb dX5_waiting_6 hl 3 rfl rfl ?_
    refine lv_ifnonnullN hx hb dX5_waiting_7 ?_
    refine lv_bipush (v := (-2)) hx hb dX5_waiting_10 (by decide) ?_
    refine lv_goto (tgt := 23) hx hb dX5_waiting_12 (by decide) ?_
    exact q_iret hx hb hr hlk hK hw hS dX5_waiting_23 (Eq.symm (by rw [sp_waiting, hix]; exact rfl)) rfl
  · obtain ⟨hL, hLn⟩ := hI.lane hj
    refine f_aload_n hx hb dX5_waiting_0 hl 0 rfl rfl ?_
    refine f_iload_n hx hb dX5_waiting_1 hl 1 rfl rfl ?_
    refine q_cq (q_runV (C := RX5) (T := TX5) (N := 10) ⟨hx, hb, hml, hown, hts⟩ (c_X5_berthAt l hI (nI j)) (cwV 1 hts gX5_waiting_X5_berthAt rfl rfl rfl (by decide +kernel) ⟨Nat.le_of_ble_eq_true rfl, Nat.le_of_ble_eq_true rfl⟩) hK hw Ew_fq rfl rfl hl.1 rfl (by simp [Value.category, va_rf]) dX5_waiting_2 ⟨Nat.le_of_ble_eq_true rfl, Nat.le_of_ble_eq_true rfl⟩) hS (fun H locs hw hS => ?_)
    refine f_val (y := .ref (ad 3 j)) (by rw [hix]; rfl) ?_
    refine f_astore_n hx hb dX5_waiting_5 hl 3 rfl (by decide) (fun ls hl => ?_)
    refine f_aload_n hx hb dX5_waiting_6 hl 3 rfl rfl ?_
    refine lv_ifnonnull (tgt := 15) hx hb dX5_waiting_7 (by decide) ?_
    refine f_aload_n hx hb dX5_waiting_15 hl 3 rfl rfl ?_
    refine e_get (C := RX0) (T := TX0) (N := 4) hx hb hts i0 hown hK hw (Ew_berth (by assumption)) rfl 0 (by decide) (hts (.fieldLink RX5 82 "FerryQuay$Berth" "lane" "LFerryQuay$Row;") (by decide +kernel)) rfl dX5_waiting_16 ?_
    refine f_iload_n hx hb dX5_waiting_19 hl 2 rfl rfl ?_
    refine q_ci (q_runV (C := RX4) (T := TX4) (N := 2) ⟨hx, hb, hml, hown, hts⟩ (c_X4_weightAt l (he_size (Ew_lane hj) hLn) (Ew_larr hj) (by decide) y) (cwV 1 hts gX5_waiting_X4_weightAt rfl rfl rfl (by decide +kernel) ⟨Nat.le_of_ble_eq_true rfl, Nat.le_of_ble_eq_true rfl⟩) hK hw (Ew_lane (by assumption)) rfl rfl hl.1 rfl (by simp [Value.category, va_rf]) dX5_waiting_20 ⟨Nat.le_of_ble_eq_true rfl, Nat.le_of_ble_eq_true rfl⟩) hS (fun H locs hw hS => ?_)
    exact q_iret hx hb hr hlk hK hw hS dX5_waiting_23 (Eq.symm (by rw [sp_waiting, hix]; dsimp only [Option.elim]; exact wAt_w hLn hL (by decide))) rfl
set_option maxHeartbeats 4000000 in
set_option maxRecDepth 100000 in
theorem c_X5_aboard (l : Launch) {G : va_G} {Y : YT} {lo : Nat} {ad : Nat → Nat → Nat} {ng nr nb : Nat} {z u : St} (hI : Inv z ng nr nb) (x y : Int32) : Met l yX5_aboard wsX5_aboard ({ frames := 1, cells := 0, slots := 0, locals := 21 }) (va_Pc [.ref (ad 0 0), .int x, .int y] (cS G (tysY Y) lo (Ew Y ng nr nb z u ad) ad)) (QI G (tysY Y) lo (sp_aboard nb z x y) (Ew Y ng nr nb z u ad) ad) 0 0 (fun q => lo ≤ q) := by
  refine met_of (cc := cX5_aboard) (maxL := 4) (ret := (some .int)) (by decide) rfl (Nat.le_of_ble_eq_true rfl) rfl ?_
  intro p e s m below meth c ls hx hb hr hlk hml hts hown hnm hw hK hl hS
  have i0 : ∀ w ∈ wsX00, w ∈ wsX5_aboard := by decide +kernel
  have i1 : ∀ w ∈ wsX10, w ∈ wsX5_aboard := by decide +kernel
  have hng := hI.mg
  have hnr := hI.mr
  have hnb := hI.mb
  rcases ix_cases x hI.nb2 with ⟨hix, hbad⟩ | ⟨j, hj, rfl, hix⟩
  · refine f_aload_n hx hb dX5_aboard_0 hl 0 rfl rfl ?_
    refine f_iload_n hx hb dX5_aboard_1 hl 1 rfl rfl ?_
    refine q_cq (q_runV (C := RX5) (T := TX5) (N := 10) ⟨hx, hb, hml, hown, hts⟩ (c_X5_berthAt l hI x) (cwV 1 hts gX5_aboard_X5_berthAt rfl rfl rfl (by decide +kernel) ⟨Nat.le_of_ble_eq_true rfl, Nat.le_of_ble_eq_true rfl⟩) hK hw Ew_fq rfl rfl hl.1 rfl (by simp [Value.category, va_rf]) dX5_aboard_2 ⟨Nat.le_of_ble_eq_true rfl, Nat.le_of_ble_eq_true rfl⟩) hS (fun H locs hw hS => ?_)
    refine f_val (y := .null) (by rw [hix]; rfl) ?_
    refine f_astore_nN hx hb dX5_aboard_5 hl 3 rfl (by decide) (fun ls hl => ?_)
    refine f_aload_nN hx hb dX5_aboard_6 hl 3 rfl rfl ?_
    refine lv_ifnonnullN hx hb dX5_aboard_7 ?_
    refine lv_bipush (v := (-2)) hx hb dX5_aboard_10 (by decide) ?_
    refine lv_goto (tgt := 26) hx hb dX5_aboard_12 (by decide) ?_
    exact q_iret hx hb hr hlk hK hw hS dX5_aboard_26 (Eq.symm (by rw [sp_aboard, hix]; exact rfl)) rfl
  · obtain ⟨f, hf, hF, hFt⟩ := hI.ferry hj
    obtain ⟨hL, hLn⟩ := hI.deck hf
    refine f_aload_n hx hb dX5_aboard_0 hl 0 rfl rfl ?_
    refine f_iload_n hx hb dX5_aboard_1 hl 1 rfl rfl ?_
    refine q_cq (q_runV (C := RX5) (T := TX5) (N := 10) ⟨hx, hb, hml, hown, hts⟩ (c_X5_berthAt l hI (nI j)) (cwV 1 hts gX5_aboard_X5_berthAt rfl rfl rfl (by decide +kernel) ⟨Nat.le_of_ble_eq_true rfl, Nat.le_of_ble_eq_true rfl⟩) hK hw Ew_fq rfl rfl hl.1 rfl (by simp [Value.category, va_rf]) dX5_aboard_2 ⟨Nat.le_of_ble_eq_true rfl, Nat.le_of_ble_eq_true rfl⟩) hS (fun H locs hw hS => ?_)
    refine f_val (y := .ref (ad 3 j)) (by rw [hix]; rfl) ?_
    refine f_astore_n hx hb dX5_aboard_5 hl 3 rfl (by decide) (fun ls hl => ?_)
    refine f_aload_n hx hb dX5_aboard_6 hl 3 rfl rfl ?_
    refine lv_ifnonnull (tgt := 15) hx hb dX5_aboard_7 (by decide) ?_
    refine f_aload_n hx hb dX5_aboard_15 hl 3 rfl rfl ?_
    refine e_get (C := RX0) (T := TX0) (N := 4) hx hb hts i0 hown hK hw (Ew_berth (by assumption)) rfl 1 (by decide) (hts (.fieldLink RX5 125 "FerryQuay$Berth" "ferry" "LFerryQuay$Ferry;") (by decide +kernel)) rfl dX5_aboard_16 ?_
    refine f_val (congrArg (fun q => Value.ref (ad 6 q)) hFt) ?_
    refine e_get (C := RX1) (T := TX1) (N := 3) hx hb hts i1 hown hK hw (Ew_ferry (by assumption)) rfl 1 (by decide) (hts (.fieldLink RX5 148 "FerryQuay$Ferry" "vehicles" "LFerryQuay$Row;") (by decide +kernel)) rfl dX5_aboard_19 ?_
    refine f_iload_n hx hb dX5_aboard_22 hl 2 rfl rfl ?_
    refine q_ci (q_runV (C := RX4) (T := TX4) (N := 2) ⟨hx, hb, hml, hown, hts⟩ (c_X4_weightAt l (he_size (Ew_frow hf) hLn) (Ew_farr hf) (by decide) y) (cwV 1 hts gX5_aboard_X4_weightAt rfl rfl rfl (by decide +kernel) ⟨Nat.le_of_ble_eq_true rfl, Nat.le_of_ble_eq_true rfl⟩) hK hw (Ew_frow (by assumption)) rfl rfl hl.1 rfl (by simp [Value.category, va_rf]) dX5_aboard_23 ⟨Nat.le_of_ble_eq_true rfl, Nat.le_of_ble_eq_true rfl⟩) hS (fun H locs hw hS => ?_)
    exact q_iret hx hb hr hlk hK hw hS dX5_aboard_26 (Eq.symm (by rw [sp_aboard, hix]; dsimp only [Option.elim]; exact (by rw [hFt]; exact wAt_w hLn hL (by decide)))) rfl
set_option maxHeartbeats 4000000 in
set_option maxRecDepth 100000 in
theorem c_X5_arrive (l : Launch) {G : va_G} {Y : YT} {lo : Nat} {ad : Nat → Nat → Nat} {ng nr nb : Nat} {z u : St} (hI : Inv z ng nr nb) (x y : Int32) : Met l yX5_arrive wsX5_arrive ({ frames := 1, cells := 0, slots := 0, locals := 22 }) (va_Pc [.ref (ad 0 0), .int x, .int y] (cS G (tysY Y) lo (Ew Y ng nr nb z u ad) ad)) (QI G (tysY Y) lo (sp_arrive nb z x y).1 (Ew Y ng nr nb (sp_arrive nb z x y).2 u ad) ad) 0 0 (fun q => lo ≤ q) := by
  refine met_of (cc := cX5_arrive) (maxL := 4) (ret := (some .int)) (by decide) rfl (Nat.le_of_ble_eq_true rfl) rfl ?_
  intro p e s m below meth c ls hx hb hr hlk hml hts hown hnm hw hK hl hS
  have i0 : ∀ w ∈ wsX00, w ∈ wsX5_arrive := by decide +kernel
  have i4 : ∀ w ∈ wsX40, w ∈ wsX5_arrive := by decide +kernel
  have i5 : ∀ w ∈ wsX50, w ∈ wsX5_arrive := by decide +kernel
  have hng := hI.mg
  have hnr := hI.mr
  have hnb := hI.mb
  rcases ix_cases x hI.nb2 with ⟨hix, hbad⟩ | ⟨j, hj, rfl, hix⟩
  · refine f_aload_n hx hb dX5_arrive_0 hl 0 rfl rfl ?_
    refine f_iload_n hx hb dX5_arrive_1 hl 1 rfl rfl ?_
    refine q_cq (q_runV (C := RX5) (T := TX5) (N := 10) ⟨hx, hb, hml, hown, hts⟩ (c_X5_berthAt l hI x) (cwV 1 hts gX5_arrive_X5_berthAt rfl rfl rfl (by decide +kernel) ⟨Nat.le_of_ble_eq_true rfl, Nat.le_of_ble_eq_true rfl⟩) hK hw Ew_fq rfl rfl hl.1 rfl (by simp [Value.category, va_rf]) dX5_arrive_2 ⟨Nat.le_of_ble_eq_true rfl, Nat.le_of_ble_eq_true rfl⟩) hS (fun H locs hw hS => ?_)
    refine f_val (y := .null) (by rw [hix]; rfl) ?_
    refine f_astore_nN hx hb dX5_arrive_5 hl 3 rfl (by decide) (fun ls hl => ?_)
    refine f_aload_nN hx hb dX5_arrive_6 hl 3 rfl rfl ?_
    refine lv_ifnullN (tgt := 21) hx hb dX5_arrive_7 (by decide) ?_
    refine lv_bipush (v := (-2)) hx hb dX5_arrive_21 (by decide) ?_
    exact q_isp hx hb hr hlk hK hw hS dX5_arrive_23 (by rw [sp_arrive, hix]; exact rfl)
  · obtain ⟨hL, hLn⟩ := hI.lane hj
    by_cases h1 : y < 0
    · refine f_aload_n hx hb dX5_arrive_0 hl 0 rfl rfl ?_
      refine f_iload_n hx hb dX5_arrive_1 hl 1 rfl rfl ?_
      refine q_cq (q_runV (C := RX5) (T := TX5) (N := 10) ⟨hx, hb, hml, hown, hts⟩ (c_X5_berthAt l hI (nI j)) (cwV 1 hts gX5_arrive_X5_berthAt rfl rfl rfl (by decide +kernel) ⟨Nat.le_of_ble_eq_true rfl, Nat.le_of_ble_eq_true rfl⟩) hK hw Ew_fq rfl rfl hl.1 rfl (by simp [Value.category, va_rf]) dX5_arrive_2 ⟨Nat.le_of_ble_eq_true rfl, Nat.le_of_ble_eq_true rfl⟩) hS (fun H locs hw hS => ?_)
      refine f_val (y := .ref (ad 3 j)) (by rw [hix]; rfl) ?_
      refine f_astore_n hx hb dX5_arrive_5 hl 3 rfl (by decide) (fun ls hl => ?_)
      refine f_aload_n hx hb dX5_arrive_6 hl 3 rfl rfl ?_
      refine lv_ifnull hx hb dX5_arrive_7 ?_
      refine f_iload_n hx hb dX5_arrive_10 hl 2 rfl rfl ?_
      refine lv_iconst (v := 0) hx hb dX5_arrive_11 (by decide) ?_
      refine lv_sipush (v := 2000) hx hb dX5_arrive_12 (by decide) ?_
      refine q_ci (q_runS ⟨hx, hb, hml, hown, hts⟩ (c_X5_isWithin l y 0 2000) (va_cwS 3 hts gX5_arrive_X5_isWithin rfl rfl rfl (by decide +kernel) ⟨Nat.le_of_ble_eq_true rfl, Nat.le_of_ble_eq_true rfl⟩) hK hw rfl hl.1 rfl (by simp [Value.category, va_rf]) dX5_arrive_15 ⟨Nat.le_of_ble_eq_true rfl, Nat.le_of_ble_eq_true rfl⟩) hS (fun H locs hw hS => ?_)
      refine f_top (y := 0) (if_pos h1) ?_
      refine lv_if_ne (tgt := 24) hx hb dX5_arrive_18 (by decide) (fun c18 => absurd (by decide) c18) (fun c18 => ?_)
      refine lv_bipush (v := (-2)) hx hb dX5_arrive_21 (by decide) ?_
      exact q_isp hx hb hr hlk hK hw hS dX5_arrive_23 (by rw [sp_arrive, hix]; dsimp only [Option.elim]; exact (if_pos h1))
    · by_cases h2 : 2000 < y
      · refine f_aload_n hx hb dX5_arrive_0 hl 0 rfl rfl ?_
        refine f_iload_n hx hb dX5_arrive_1 hl 1 rfl rfl ?_
        refine q_cq (q_runV (C := RX5) (T := TX5) (N := 10) ⟨hx, hb, hml, hown, hts⟩ (c_X5_berthAt l hI (nI j)) (cwV 1 hts gX5_arrive_X5_berthAt rfl rfl rfl (by decide +kernel) ⟨Nat.le_of_ble_eq_true rfl, Nat.le_of_ble_eq_true rfl⟩) hK hw Ew_fq rfl rfl hl.1 rfl (by simp [Value.category, va_rf]) dX5_arrive_2 ⟨Nat.le_of_ble_eq_true rfl, Nat.le_of_ble_eq_true rfl⟩) hS (fun H locs hw hS => ?_)
        refine f_val (y := .ref (ad 3 j)) (by rw [hix]; rfl) ?_
        refine f_astore_n hx hb dX5_arrive_5 hl 3 rfl (by decide) (fun ls hl => ?_)
        refine f_aload_n hx hb dX5_arrive_6 hl 3 rfl rfl ?_
        refine lv_ifnull hx hb dX5_arrive_7 ?_
        refine f_iload_n hx hb dX5_arrive_10 hl 2 rfl rfl ?_
        refine lv_iconst (v := 0) hx hb dX5_arrive_11 (by decide) ?_
        refine lv_sipush (v := 2000) hx hb dX5_arrive_12 (by decide) ?_
        refine q_ci (q_runS ⟨hx, hb, hml, hown, hts⟩ (c_X5_isWithin l y 0 2000) (va_cwS 3 hts gX5_arrive_X5_isWithin rfl rfl rfl (by decide +kernel) ⟨Nat.le_of_ble_eq_true rfl, Nat.le_of_ble_eq_true rfl⟩) hK hw rfl hl.1 rfl (by simp [Value.category, va_rf]) dX5_arrive_15 ⟨Nat.le_of_ble_eq_true rfl, Nat.le_of_ble_eq_true rfl⟩) hS (fun H locs hw hS => ?_)
        refine f_top (y := 0) ((if_neg h1).trans (if_pos h2)) ?_
        refine lv_if_ne (tgt := 24) hx hb dX5_arrive_18 (by decide) (fun c18 => absurd (by decide) c18) (fun c18 => ?_)
        refine lv_bipush (v := (-2)) hx hb dX5_arrive_21 (by decide) ?_
        exact q_isp hx hb hr hlk hK hw hS dX5_arrive_23 (by rw [sp_arrive, hix]; dsimp only [Option.elim]; exact (Eq.trans (if_neg h1) (if_pos h2)))
      · by_cases hq : ln z j = 30
        · refine f_aload_n hx hb dX5_arrive_0 hl 0 rfl rfl ?_
          refine f_iload_n hx hb dX5_arrive_1 hl 1 rfl rfl ?_
          refine q_cq (q_runV (C := RX5) (T := TX5) (N := 10) ⟨hx, hb, hml, hown, hts⟩ (c_X5_berthAt l hI (nI j)) (cwV 1 hts gX5_arrive_X5_berthAt rfl rfl rfl (by decide +kernel) ⟨Nat.le_of_ble_eq_true rfl, Nat.le_of_ble_eq_true rfl⟩) hK hw Ew_fq rfl rfl hl.1 rfl (by simp [Value.category, va_rf]) dX5_arrive_2 ⟨Nat.le_of_ble_eq_true rfl, Nat.le_of_ble_eq_true rfl⟩) hS (fun H locs hw hS => ?_)
          refine f_val (y := .ref (ad 3 j)) (by rw [hix]; rfl) ?_
          refine f_astore_n hx hb dX5_arrive_5 hl 3 rfl (by decide) (fun ls hl => ?_)
          refine f_aload_n hx hb dX5_arrive_6 hl 3 rfl rfl ?_
          refine lv_ifnull hx hb dX5_arrive_7 ?_
          refine f_iload_n hx hb dX5_arrive_10 hl 2 rfl rfl ?_
          refine lv_iconst (v := 0) hx hb dX5_arrive_11 (by decide) ?_
          refine lv_sipush (v := 2000) hx hb dX5_arrive_12 (by decide) ?_
          refine q_ci (q_runS ⟨hx, hb, hml, hown, hts⟩ (c_X5_isWithin l y 0 2000) (va_cwS 3 hts gX5_arrive_X5_isWithin rfl rfl rfl (by decide +kernel) ⟨Nat.le_of_ble_eq_true rfl, Nat.le_of_ble_eq_true rfl⟩) hK hw rfl hl.1 rfl (by simp [Value.category, va_rf]) dX5_arrive_15 ⟨Nat.le_of_ble_eq_true rfl, Nat.le_of_ble_eq_true rfl⟩) hS (fun H locs hw hS => ?_)
          refine f_top (y := 1) ((if_neg h1).trans (if_neg h2)) ?_
          refine lv_if_ne (tgt := 24) hx hb dX5_arrive_18 (by decide) (fun c18 => ?_) (fun c18 => absurd c18 (by decide))
          refine f_aload_n hx hb dX5_arrive_24 hl 3 rfl rfl ?_
          refine e_get (C := RX0) (T := TX0) (N := 4) hx hb hts i0 hown hK hw (Ew_berth (by assumption)) rfl 0 (by decide) (hts (.fieldLink RX5 82 "FerryQuay$Berth" "lane" "LFerryQuay$Row;") (by decide +kernel)) rfl dX5_arrive_25 ?_
          refine q_ci (q_runV (C := RX4) (T := TX4) (N := 2) ⟨hx, hb, hml, hown, hts⟩ (c_X4_isFull l (he_size (Ew_lane hj) hLn) (Ew_larr hj) (by decide) hL) (cwV 0 hts gX5_arrive_X4_isFull rfl rfl rfl (by decide +kernel) ⟨Nat.le_of_ble_eq_true rfl, Nat.le_of_ble_eq_true rfl⟩) hK hw (Ew_lane (by assumption)) rfl rfl hl.1 rfl (by simp [Value.category, va_rf]) dX5_arrive_28 ⟨Nat.le_of_ble_eq_true rfl, Nat.le_of_ble_eq_true rfl⟩) hS (fun H locs hw hS => ?_)
          refine f_top (y := 1) (if_neg (by omega)) ?_
          refine lv_if_eq (tgt := 37) hx hb dX5_arrive_31 (by decide) (fun c31 => absurd c31 (by decide)) (fun c31 => ?_)
          refine lv_bipush (v := (-3)) hx hb dX5_arrive_34 (by decide) ?_
          exact q_isp hx hb hr hlk hK hw hS dX5_arrive_36 (by rw [sp_arrive, hix]; dsimp only [Option.elim]; exact (Eq.trans (if_neg h1) (Eq.trans (if_neg h2) (if_pos hq))))
        · refine f_aload_n hx hb dX5_arrive_0 hl 0 rfl rfl ?_
          refine f_iload_n hx hb dX5_arrive_1 hl 1 rfl rfl ?_
          refine q_cq (q_runV (C := RX5) (T := TX5) (N := 10) ⟨hx, hb, hml, hown, hts⟩ (c_X5_berthAt l hI (nI j)) (cwV 1 hts gX5_arrive_X5_berthAt rfl rfl rfl (by decide +kernel) ⟨Nat.le_of_ble_eq_true rfl, Nat.le_of_ble_eq_true rfl⟩) hK hw Ew_fq rfl rfl hl.1 rfl (by simp [Value.category, va_rf]) dX5_arrive_2 ⟨Nat.le_of_ble_eq_true rfl, Nat.le_of_ble_eq_true rfl⟩) hS (fun H locs hw hS => ?_)
          refine f_val (y := .ref (ad 3 j)) (by rw [hix]; rfl) ?_
          refine f_astore_n hx hb dX5_arrive_5 hl 3 rfl (by decide) (fun ls hl => ?_)
          refine f_aload_n hx hb dX5_arrive_6 hl 3 rfl rfl ?_
          refine lv_ifnull hx hb dX5_arrive_7 ?_
          refine f_iload_n hx hb dX5_arrive_10 hl 2 rfl rfl ?_
          refine lv_iconst (v := 0) hx hb dX5_arrive_11 (by decide) ?_
          refine lv_sipush (v := 2000) hx hb dX5_arrive_12 (by decide) ?_
          refine q_ci (q_runS ⟨hx, hb, hml, hown, hts⟩ (c_X5_isWithin l y 0 2000) (va_cwS 3 hts gX5_arrive_X5_isWithin rfl rfl rfl (by decide +kernel) ⟨Nat.le_of_ble_eq_true rfl, Nat.le_of_ble_eq_true rfl⟩) hK hw rfl hl.1 rfl (by simp [Value.category, va_rf]) dX5_arrive_15 ⟨Nat.le_of_ble_eq_true rfl, Nat.le_of_ble_eq_true rfl⟩) hS (fun H locs hw hS => ?_)
          refine f_top (y := 1) ((if_neg h1).trans (if_neg h2)) ?_
          refine lv_if_ne (tgt := 24) hx hb dX5_arrive_18 (by decide) (fun c18 => ?_) (fun c18 => absurd c18 (by decide))
          refine f_aload_n hx hb dX5_arrive_24 hl 3 rfl rfl ?_
          refine e_get (C := RX0) (T := TX0) (N := 4) hx hb hts i0 hown hK hw (Ew_berth (by assumption)) rfl 0 (by decide) (hts (.fieldLink RX5 82 "FerryQuay$Berth" "lane" "LFerryQuay$Row;") (by decide +kernel)) rfl dX5_arrive_25 ?_
          refine q_ci (q_runV (C := RX4) (T := TX4) (N := 2) ⟨hx, hb, hml, hown, hts⟩ (c_X4_isFull l (he_size (Ew_lane hj) hLn) (Ew_larr hj) (by decide) hL) (cwV 0 hts gX5_arrive_X4_isFull rfl rfl rfl (by decide +kernel) ⟨Nat.le_of_ble_eq_true rfl, Nat.le_of_ble_eq_true rfl⟩) hK hw (Ew_lane (by assumption)) rfl rfl hl.1 rfl (by simp [Value.category, va_rf]) dX5_arrive_28 ⟨Nat.le_of_ble_eq_true rfl, Nat.le_of_ble_eq_true rfl⟩) hS (fun H locs hw hS => ?_)
          refine f_top (y := 0) (if_pos (by omega)) ?_
          refine lv_if_eq (tgt := 37) hx hb dX5_arrive_31 (by decide) (fun c31 => ?_) (fun c31 => absurd (by decide) c31)
          refine f_aload_n hx hb dX5_arrive_37 hl 3 rfl rfl ?_
          refine e_get (C := RX0) (T := TX0) (N := 4) hx hb hts i0 hown hK hw (Ew_berth (by assumption)) rfl 0 (by decide) (hts (.fieldLink RX5 82 "FerryQuay$Berth" "lane" "LFerryQuay$Row;") (by decide +kernel)) rfl dX5_arrive_38 ?_
          refine f_iload_n hx hb dX5_arrive_41 hl 2 rfl rfl ?_
          refine q_cv (q_runV (C := RX4) (T := TX4) (N := 2) ⟨hx, hb, hml, hown, hts⟩ (c_X4_addLast l (he_size (Ew_lane hj) hLn) (Ew_larr hj) (by decide) y (by omega)) (cwV 1 hts gX5_arrive_X4_addLast rfl rfl rfl (by decide +kernel) ⟨Nat.le_of_ble_eq_true rfl, Nat.le_of_ble_eq_true rfl⟩) hK hw (Ew_lane (by assumption)) rfl rfl hl.1 rfl (by simp [Value.category, va_rf]) dX5_arrive_42 ⟨Nat.le_of_ble_eq_true rfl, Nat.le_of_ble_eq_true rfl⟩) hS (fun H locs hw hS => ?_)
          have hw := hw.cast (Ep_comes hj rfl)
          refine f_aload_n hx hb dX5_arrive_45 hl 0 rfl rfl ?_
          refine lv_dup hx hb dX5_arrive_46 rfl ?_
          refine e_get (C := RX5) (T := TX5) (N := 10) hx hb hts i5 hown hK hw Ew_fq rfl 6 (by decide) (hts (.fieldLink RX5 95 "FerryQuay" "arrived" "I") (by decide +kernel)) rfl dX5_arrive_47 ?_
          refine lv_iconst (v := 1) hx hb dX5_arrive_50 (by decide) ?_
          refine lv_iadd hx hb dX5_arrive_51 ?_
          refine e_put (C := RX5) (T := TX5) (N := 10) (ty := .int) hx hb hts i5 tyX5 tyX5_ok nmX5 hown hK hw hS Ew_fq rfl 6 (by decide) (hts (.fieldLink RX5 95 "FerryQuay" "arrived" "I") (by decide +kernel)) rfl (by decide +kernel) rfl rfl (Nat.le_of_ble_eq_true rfl) dX5_arrive_52 (fun H locs hw hS => ?_)
          have hw := hw.cast Ep_fq3
          refine f_aload_n hx hb dX5_arrive_55 hl 3 rfl rfl ?_
          refine e_get (C := RX0) (T := TX0) (N := 4) hx hb hts i0 hown hK hw (Ew_berth (by assumption)) rfl 0 (by decide) (hts (.fieldLink RX5 82 "FerryQuay$Berth" "lane" "LFerryQuay$Row;") (by decide +kernel)) rfl dX5_arrive_56 ?_
          refine e_get (C := RX4) (T := TX4) (N := 2) hx hb hts i4 hown hK hw (Ew_lane (by assumption)) rfl 1 (by decide) (hts (.fieldLink RX5 98 "FerryQuay$Row" "size" "I") (by decide +kernel)) rfl dX5_arrive_59 ?_
          refine f_top (y := nI (ln z j + 1)) ((sc_k (by decide)).trans sc_s) ?_
          exact q_isp hx hb hr hlk hK hw hS dX5_arrive_62 (by rw [sp_arrive, hix]; dsimp only [Option.elim]; exact (Eq.trans (if_neg h1) (Eq.trans (if_neg h2) (if_neg hq))))
end
section
theorem lh.list {ls : Array Slot} {n : Nat} {f : Nat → Option Value} (h : lh ls n f) (l : List (Nat × Value)) (hl : ∀ q ∈ l, f q.1 = some q.2) : lh ls n (fun i => (l.find? (fun q => q.1 == i)).map (fun q => q.2)) := by
  refine ⟨h.1, h.2.1, fun i v hv => ?_⟩
  obtain ⟨q, h1, h2⟩ := Option.map_eq_some_iff.mp hv
  have hm := List.mem_of_find?_eq_some h1
  have hi := List.find?_some h1
  simp at hi
  subst h2
  subst hi
  exact h.2.2 q.1 q.2 (hl q hm)
theorem notm1 {x : Int32} {g : Nat} (h : x = nI g) (hg : g < 2 ^ 31) : ¬ x = -1 := fun q => nI_m1 hg (h.symm.trans q)
theorem ln_goes {z : St} {j : Nat} (h : ln z j < 2 ^ 31) : ln (goes z j) j = ln z j - 1 := by
  show tn (sc (us z 10 j (nI (ln z j - 1))) 10 j) = _
  rw [sc_s]
  exact nI_clamp (by omega)
theorem ln_comes {z : St} {j : Nat} {x : Int32} (h : ln z j + 1 < 2 ^ 31) : ln (comes z j x) j = ln z j + 1 := by
  show tn (sc (us (u2 z 11 j _) 10 j (nI (ln z j + 1))) 10 j) = _
  rw [sc_s]
  exact nI_clamp h
theorem dk_lnd {z : St} {f : Nat} (h : dk z f < 2 ^ 31) : dk (lnd z f) f = dk z f - 1 := by
  show tn (sc (us z 14 f (nI (dk z f - 1))) 14 f) = _
  rw [sc_s]
  exact nI_clamp (by omega)
end
section
set_option maxHeartbeats 4000000 in
set_option maxRecDepth 100000 in
theorem c_X5_boardThrough (l : Launch) {G : va_G} {Y : YT} {lo : Nat} {ad : Nat → Nat → Nat} {ng nr nb : Nat} {z u : St} (hI : Inv z ng nr nb) {j g : Nat} (hj : j < nb) (hg : g < ng) (n : Int32) : Met l yX5_boardThrough wsX5_boardThrough ({ frames := 2, cells := 0, slots := 0, locals := 50 }) (va_Pc [.ref (ad 0 0), .ref (ad 1 g), .ref (ad 3 j), .int n] (cS G (tysY Y) lo (Ew Y ng nr nb z u ad) ad)) (QI G (tysY Y) lo (bl j g n (ln z j) 0 z).1 (Ew Y ng nr nb (bl j g n (ln z j) 0 z).2 u ad) ad) 0 0 (fun q => lo ≤ q) := by
  refine met_of (cc := cX5_boardThrough) (maxL := 10) (ret := (some .int)) (by decide) rfl (Nat.le_of_ble_eq_true rfl) rfl ?_
  intro p e s m below meth c ls hx hb hr hlk hml hts hown hnm hw hK hl hS
  have i0 : ∀ w ∈ wsX00, w ∈ wsX5_boardThrough := by decide +kernel
  have i1 : ∀ w ∈ wsX10, w ∈ wsX5_boardThrough := by decide +kernel
  have i2 : ∀ w ∈ wsX20, w ∈ wsX5_boardThrough := by decide +kernel
  have i3 : ∀ w ∈ wsX30, w ∈ wsX5_boardThrough := by decide +kernel
  have i4 : ∀ w ∈ wsX40, w ∈ wsX5_boardThrough := by decide +kernel
  have i5 : ∀ w ∈ wsX50, w ∈ wsX5_boardThrough := by decide +kernel
  have hng := hI.mg
  have hnr := hI.mr
  have hnb := hI.mb
  obtain ⟨hL, hLn⟩ := hI.lane hj
  rcases hI.ramp hj with hR | ⟨r, hr2, hR, hRt⟩
  · refine f_aload_n hx hb dX5_boardThrough_0 hl 2 rfl rfl ?_
    refine e_get (C := RX0) (T := TX0) (N := 4) hx hb hts i0 hown hK hw (Ew_berth (by assumption)) rfl 0 (by decide) (hts (.fieldLink RX5 82 "FerryQuay$Berth" "lane" "LFerryQuay$Row;") (by decide +kernel)) rfl dX5_boardThrough_1 ?_
    refine f_astore hx hb dX5_boardThrough_4 hl (by decide) (fun ls hl => ?_)
    refine f_aload_n hx hb dX5_boardThrough_6 hl 2 rfl rfl ?_
    refine e_get (C := RX0) (T := TX0) (N := 4) hx hb hts i0 hown hK hw (Ew_berth (by assumption)) rfl 3 (by decide) (hts (.fieldLink RX5 71 "FerryQuay$Berth" "ramp" "LFerryQuay$Ramp;") (by decide +kernel)) rfl dX5_boardThrough_7 ?_
    refine f_val (orefN hR) ?_
    refine f_astoreN hx hb dX5_boardThrough_10 hl (by decide) (fun ls hl => ?_)
    refine f_aload hx hb dX5_boardThrough_12 hl rfl ?_
    refine e_get (C := RX4) (T := TX4) (N := 2) hx hb hts i4 hown hK hw (Ew_lane (by assumption)) rfl 1 (by decide) (hts (.fieldLink RX5 98 "FerryQuay$Row" "size" "I") (by decide +kernel)) rfl dX5_boardThrough_14 ?_
    refine f_top (y := nI (ln z j)) hLn ?_
    refine f_istore hx hb dX5_boardThrough_17 hl (by decide) (fun ls hl => ?_)
    refine lv_iconst (v := 0) hx hb dX5_boardThrough_19 (by decide) ?_
    refine f_istore hx hb dX5_boardThrough_20 hl (by decide) (fun ls hl => ?_)
    refine lv_iconst (v := 0) hx hb dX5_boardThrough_22 (by decide) ?_
    refine f_top (y := nI 0) rfl ?_
    refine f_istore hx hb dX5_boardThrough_23 hl (by decide) (fun ls hl => ?_)
    have loop : ∀ (t : Nat) (w : Int32) (k : Nat) (zc : St) (H : Heap) (locs : List Loc) (ls : Array Slot), Inv zc ng nr nb → t ≤ ln zc j → k + t = ln z j → sc zc 8 j = -1 → bl j g n t w zc = bl j g n (ln z j) 0 z → wo G lo (Ew Y ng nr nb zc u ad) ad H → va_S (fun q => lo ≤ q) s.heap H locs → lh ls 10 (fun i => ([(0, .ref (ad 0 0)), (1, .ref (ad 1 g)), (2, .ref (ad 3 j)), (3, .int n), (4, .ref (ad 4 j)), (5, .null), (6, .int (nI (ln z j))), (7, .int w), (8, .int (nI k))].find? (fun q => q.1 == i)).map (fun q => q.2)) → W p l e (headSpec wsX5_boardThrough ({ frames := 2, cells := 0, slots := 0, locals := 50 })).room s m ([.ref (ad 0 0), .ref (ad 1 g), .ref (ad 3 j), .int n] : List Value).toArray below meth c H locs 0 0 (MQ below (QI G (tysY Y) lo (bl j g n (ln z j) 0 z).1 (Ew Y ng nr nb (bl j g n (ln z j) 0 z).2 u ad) ad) ([.ref (ad 0 0), .ref (ad 1 g), .ref (ad 3 j), .int n] : List Value).toArray s 0 0 (fun q => lo ≤ q)) (F0 m 25 ls []) := by
      intro t
      induction t with
      | zero =>
        intro w k zc H locs ls hI hle hkt hR hsp hw hS hl
        obtain ⟨hL, hLn⟩ := hI.lane hj
        obtain ⟨f, hf, hF, hFt⟩ := hI.ferry hj
        obtain ⟨hD, hDn⟩ := hI.deck hf
        refine f_iload hx hb dX5_boardThrough_25 hl rfl ?_
        refine f_iload hx hb dX5_boardThrough_27 hl rfl ?_
        refine lv_icmp_ge (tgt := 180) hx hb dX5_boardThrough_29 (by decide) (fun c29 => ?_) (fun c29 => absurd (nI_le (by omega) (by omega)) c29)
        refine f_iload hx hb dX5_boardThrough_180 hl rfl ?_
        exact q_isp hx hb hr hlk hK hw hS dX5_boardThrough_182 hsp.symm
      | succ t ih =>
        intro w k zc H locs ls hI hle hkt hR hsp hw hS hl
        obtain ⟨hL, hLn⟩ := hI.lane hj
        obtain ⟨f, hf, hF, hFt⟩ := hI.ferry hj
        obtain ⟨hD, hDn⟩ := hI.deck hf
        refine f_iload hx hb dX5_boardThrough_25 hl rfl ?_
        refine f_iload hx hb dX5_boardThrough_27 hl rfl ?_
        refine lv_icmp_ge (tgt := 180) hx hb dX5_boardThrough_29 (by decide) (fun c29 => absurd c29 (nI_ge (by omega) (by omega))) (fun c29 => ?_)
        refine f_aloadN hx hb dX5_boardThrough_32 hl rfl ?_
        refine lv_ifnonnullN hx hb dX5_boardThrough_34 ?_
        refine lv_bipush (v := (-4)) hx hb dX5_boardThrough_37 (by decide) ?_
        exact q_isp hx hb hr hlk hK hw hS dX5_boardThrough_39 (hsp.symm.trans (by rw [bl]; exact (if_pos hR)))
    exact loop (ln z j) 0 0 z _ _ _ hI (Nat.le_refl _) (by omega) hR rfl hw hS (hl.list [(0, .ref (ad 0 0)), (1, .ref (ad 1 g)), (2, .ref (ad 3 j)), (3, .int n), (4, .ref (ad 4 j)), (5, .null), (6, .int (nI (ln z j))), (7, .int 0), (8, .int (nI 0))] (List.forall_mem_cons.mpr ⟨rfl, List.forall_mem_cons.mpr ⟨rfl, List.forall_mem_cons.mpr ⟨rfl, List.forall_mem_cons.mpr ⟨rfl, List.forall_mem_cons.mpr ⟨rfl, List.forall_mem_cons.mpr ⟨rfl, List.forall_mem_cons.mpr ⟨rfl, List.forall_mem_cons.mpr ⟨rfl, List.forall_mem_cons.mpr ⟨rfl, fun _ h => absurd h List.not_mem_nil⟩⟩⟩⟩⟩⟩⟩⟩⟩))
  · refine f_aload_n hx hb dX5_boardThrough_0 hl 2 rfl rfl ?_
    refine e_get (C := RX0) (T := TX0) (N := 4) hx hb hts i0 hown hK hw (Ew_berth (by assumption)) rfl 0 (by decide) (hts (.fieldLink RX5 82 "FerryQuay$Berth" "lane" "LFerryQuay$Row;") (by decide +kernel)) rfl dX5_boardThrough_1 ?_
    refine f_astore hx hb dX5_boardThrough_4 hl (by decide) (fun ls hl => ?_)
    refine f_aload_n hx hb dX5_boardThrough_6 hl 2 rfl rfl ?_
    refine e_get (C := RX0) (T := TX0) (N := 4) hx hb hts i0 hown hK hw (Ew_berth (by assumption)) rfl 3 (by decide) (hts (.fieldLink RX5 71 "FerryQuay$Berth" "ramp" "LFerryQuay$Ramp;") (by decide +kernel)) rfl dX5_boardThrough_7 ?_
    refine f_val (orefR hR (by omega)) ?_
    refine f_astore hx hb dX5_boardThrough_10 hl (by decide) (fun ls hl => ?_)
    refine f_aload hx hb dX5_boardThrough_12 hl rfl ?_
    refine e_get (C := RX4) (T := TX4) (N := 2) hx hb hts i4 hown hK hw (Ew_lane (by assumption)) rfl 1 (by decide) (hts (.fieldLink RX5 98 "FerryQuay$Row" "size" "I") (by decide +kernel)) rfl dX5_boardThrough_14 ?_
    refine f_top (y := nI (ln z j)) hLn ?_
    refine f_istore hx hb dX5_boardThrough_17 hl (by decide) (fun ls hl => ?_)
    refine lv_iconst (v := 0) hx hb dX5_boardThrough_19 (by decide) ?_
    refine f_istore hx hb dX5_boardThrough_20 hl (by decide) (fun ls hl => ?_)
    refine lv_iconst (v := 0) hx hb dX5_boardThrough_22 (by decide) ?_
    refine f_top (y := nI 0) rfl ?_
    refine f_istore hx hb dX5_boardThrough_23 hl (by decide) (fun ls hl => ?_)
    have loop : ∀ (t : Nat) (w : Int32) (k : Nat) (zc : St) (H : Heap) (locs : List Loc) (ls : Array Slot), Inv zc ng nr nb → t ≤ ln zc j → k + t = ln z j → sc zc 8 j = nI r → bl j g n t w zc = bl j g n (ln z j) 0 z → wo G lo (Ew Y ng nr nb zc u ad) ad H → va_S (fun q => lo ≤ q) s.heap H locs → lh ls 10 (fun i => ([(0, .ref (ad 0 0)), (1, .ref (ad 1 g)), (2, .ref (ad 3 j)), (3, .int n), (4, .ref (ad 4 j)), (5, .ref (ad 2 r)), (6, .int (nI (ln z j))), (7, .int w), (8, .int (nI k))].find? (fun q => q.1 == i)).map (fun q => q.2)) → W p l e (headSpec wsX5_boardThrough ({ frames := 2, cells := 0, slots := 0, locals := 50 })).room s m ([.ref (ad 0 0), .ref (ad 1 g), .ref (ad 3 j), .int n] : List Value).toArray below meth c H locs 0 0 (MQ below (QI G (tysY Y) lo (bl j g n (ln z j) 0 z).1 (Ew Y ng nr nb (bl j g n (ln z j) 0 z).2 u ad) ad) ([.ref (ad 0 0), .ref (ad 1 g), .ref (ad 3 j), .int n] : List Value).toArray s 0 0 (fun q => lo ≤ q)) (F0 m 25 ls []) := by
      intro t
      induction t with
      | zero =>
        intro w k zc H locs ls hI hle hkt hR hsp hw hS hl
        obtain ⟨hL, hLn⟩ := hI.lane hj
        obtain ⟨f, hf, hF, hFt⟩ := hI.ferry hj
        obtain ⟨hD, hDn⟩ := hI.deck hf
        have hRt : tn (sc zc 8 j) = r := by rw [hR]; exact nI_clamp (by omega)
        have lg : ln (goes (inc zc 6 r) j) j = ln zc j - 1 := ln_goes (z := inc zc 6 r) (by show ln zc j < 2 ^ 31; omega)
        have lc : ∀ x, ln (comes (goes (inc zc 6 r) j) j x) j = ln zc j - 1 + 1 := fun x => (ln_comes (by rw [lg]; omega)).trans (by rw [lg])
        refine f_iload hx hb dX5_boardThrough_25 hl rfl ?_
        refine f_iload hx hb dX5_boardThrough_27 hl rfl ?_
        refine lv_icmp_ge (tgt := 180) hx hb dX5_boardThrough_29 (by decide) (fun c29 => ?_) (fun c29 => absurd (nI_le (by omega) (by omega)) c29)
        refine f_iload hx hb dX5_boardThrough_180 hl rfl ?_
        exact q_isp hx hb hr hlk hK hw hS dX5_boardThrough_182 hsp.symm
      | succ t ih =>
        intro w k zc H locs ls hI hle hkt hR hsp hw hS hl
        obtain ⟨hL, hLn⟩ := hI.lane hj
        obtain ⟨f, hf, hF, hFt⟩ := hI.ferry hj
        obtain ⟨hD, hDn⟩ := hI.deck hf
        have hRt : tn (sc zc 8 j) = r := by rw [hR]; exact nI_clamp (by omega)
        have lg : ln (goes (inc zc 6 r) j) j = ln zc j - 1 := ln_goes (z := inc zc 6 r) (by show ln zc j < 2 ^ 31; omega)
        have lc : ∀ x, ln (comes (goes (inc zc 6 r) j) j x) j = ln zc j - 1 + 1 := fun x => (ln_comes (by rw [lg]; omega)).trans (by rw [lg])
        refine f_iload hx hb dX5_boardThrough_25 hl rfl ?_
        refine f_iload hx hb dX5_boardThrough_27 hl rfl ?_
        refine lv_icmp_ge (tgt := 180) hx hb dX5_boardThrough_29 (by decide) (fun c29 => absurd c29 (nI_ge (by omega) (by omega))) (fun c29 => ?_)
        refine f_aload hx hb dX5_boardThrough_32 hl rfl ?_
        refine lv_ifnonnull (tgt := 40) hx hb dX5_boardThrough_34 (by decide) ?_
        refine f_aload hx hb dX5_boardThrough_40 hl rfl ?_
        refine lv_dup hx hb dX5_boardThrough_42 rfl ?_
        refine e_get (C := RX3) (T := TX3) (N := 4) hx hb hts i3 hown hK hw (Ew_ramp (by assumption)) rfl 2 (by decide) (hts (.fieldLink RX5 108 "FerryQuay$Ramp" "taken" "I") (by decide +kernel)) rfl dX5_boardThrough_43 ?_
        refine lv_iconst (v := 1) hx hb dX5_boardThrough_46 (by decide) ?_
        refine lv_iadd hx hb dX5_boardThrough_47 ?_
        refine e_put (C := RX3) (T := TX3) (N := 4) (ty := .int) hx hb hts i3 tyX3 tyX3_ok nmX3 hown hK hw hS (Ew_ramp (by assumption)) rfl 2 (by decide) (hts (.fieldLink RX5 108 "FerryQuay$Ramp" "taken" "I") (by decide +kernel)) rfl (by decide +kernel) rfl rfl (Nat.le_of_ble_eq_true rfl) dX5_boardThrough_48 (fun H locs hw hS => ?_)
        have hw := hw.cast (Ep_ramp2 (by assumption))
        refine f_aload hx hb dX5_boardThrough_51 hl rfl ?_
        refine lv_iconst (v := 0) hx hb dX5_boardThrough_53 (by decide) ?_
        refine f_top (y := nI 0) rfl ?_
        refine q_ci (q_runV (C := RX4) (T := TX4) (N := 2) ⟨hx, hb, hml, hown, hts⟩ (c_X4_weightAt l (he_size (Ew_lane (s := inc zc 6 r) hj) hLn) (Ew_larr hj) (by decide) (nI 0)) (cwV 1 hts gX5_boardThrough_X4_weightAt rfl rfl rfl (by decide +kernel) ⟨Nat.le_of_ble_eq_true rfl, Nat.le_of_ble_eq_true rfl⟩) hK hw (Ew_lane (by assumption)) rfl rfl hl.1 rfl (by simp [Value.category, va_rf]) dX5_boardThrough_54 ⟨Nat.le_of_ble_eq_true rfl, Nat.le_of_ble_eq_true rfl⟩) hS (fun H locs hw hS => ?_)
        refine f_top (y := zc 11 j 0) (wAt_in (by omega) hL (by decide)) ?_
        refine f_istore hx hb dX5_boardThrough_57 hl (by decide) (fun ls hl => ?_)
        refine f_iload hx hb dX5_boardThrough_59 hl rfl ?_
        refine lv_if_ne (tgt := 86) hx hb dX5_boardThrough_61 (by decide) (fun c61 => ?_) (fun c61 => ?_)
        · refine f_iload hx hb dX5_boardThrough_86 hl rfl ?_
          refine f_aload hx hb dX5_boardThrough_88 hl rfl ?_
          refine e_get (C := RX3) (T := TX3) (N := 4) hx hb hts i3 hown hK hw (Ew_ramp (by assumption)) rfl 1 (by decide) (hts (.fieldLink RX5 122 "FerryQuay$Ramp" "limit" "I") (by decide +kernel)) rfl dX5_boardThrough_90 ?_
          refine lv_icmp_le (tgt := 111) hx hb dX5_boardThrough_93 (by decide) (fun c93 => ?_) (fun c93 => ?_)
          · refine f_aload_n hx hb dX5_boardThrough_111 hl 2 rfl rfl ?_
            refine e_get (C := RX0) (T := TX0) (N := 4) hx hb hts i0 hown hK hw (Ew_berth (by assumption)) rfl 1 (by decide) (hts (.fieldLink RX5 125 "FerryQuay$Berth" "ferry" "LFerryQuay$Ferry;") (by decide +kernel)) rfl dX5_boardThrough_112 ?_
            refine f_val (congrArg (fun q => Value.ref (ad 6 q)) hFt) ?_
            refine f_iload hx hb dX5_boardThrough_115 hl rfl ?_
            refine q_ci (q_runV (C := RX1) (T := TX1) (N := 3) ⟨hx, hb, hml, hown, hts⟩ (c_X1_hasRoomFor l (Ew_ferry hf) (he_size (Ew_frow (s := inc zc 6 r) hf) hDn) (Ew_farr hf) (by decide) (zc 11 j 0) hD) (cwV 1 hts gX5_boardThrough_X1_hasRoomFor rfl rfl rfl (by decide +kernel) ⟨Nat.le_of_ble_eq_true rfl, Nat.le_of_ble_eq_true rfl⟩) hK hw (Ew_ferry (by assumption)) rfl rfl hl.1 rfl (by simp [Value.category, va_rf]) dX5_boardThrough_117 ⟨Nat.le_of_ble_eq_true rfl, Nat.le_of_ble_eq_true rfl⟩) hS (fun H locs hw hS => ?_)
            by_cases hq : dk zc f = 40
            · refine f_top (y := 0) (if_neg (by omega)) ?_
              refine lv_if_ne (tgt := 126) hx hb dX5_boardThrough_120 (by decide) (fun c120 => absurd (by decide) c120) (fun c120 => ?_)
              refine f_iload hx hb dX5_boardThrough_123 hl rfl ?_
              exact q_isp hx hb hr hlk hK hw hS dX5_boardThrough_125 (hsp.symm.trans (by rw [bl, hRt, hFt]; exact (Eq.trans (if_neg (notm1 hR (by omega))) (Eq.trans (if_neg c61) (Eq.trans (if_neg (Int32.not_lt.mpr c93)) (if_pos hq))))))
            · by_cases hq2 : sc zc 12 f < sc zc 13 f + zc 11 j 0
              · refine f_top (y := 0) (Eq.trans (if_pos (by omega)) (if_pos hq2)) ?_
                refine lv_if_ne (tgt := 126) hx hb dX5_boardThrough_120 (by decide) (fun c120 => absurd (by decide) c120) (fun c120 => ?_)
                refine f_iload hx hb dX5_boardThrough_123 hl rfl ?_
                exact q_isp hx hb hr hlk hK hw hS dX5_boardThrough_125 (hsp.symm.trans (by rw [bl, hRt, hFt]; exact (Eq.trans (if_neg (notm1 hR (by omega))) (Eq.trans (if_neg c61) (Eq.trans (if_neg (Int32.not_lt.mpr c93)) (Eq.trans (if_neg hq) (if_pos hq2)))))))
              · refine f_top (y := 1) (Eq.trans (if_pos (by omega)) (if_neg hq2)) ?_
                refine lv_if_ne (tgt := 126) hx hb dX5_boardThrough_120 (by decide) (fun c120 => ?_) (fun c120 => absurd c120 (by decide))
                refine f_aload hx hb dX5_boardThrough_126 hl rfl ?_
                refine q_cv (q_runV (C := RX4) (T := TX4) (N := 2) ⟨hx, hb, hml, hown, hts⟩ (c_X4_removeFirst l (he_size (Ew_lane (s := inc zc 6 r) hj) hLn) (Ew_larr hj) (by decide) (by omega) hL) (cwV 0 hts gX5_boardThrough_X4_removeFirst rfl rfl rfl (by decide +kernel) ⟨Nat.le_of_ble_eq_true rfl, Nat.le_of_ble_eq_true rfl⟩) hK hw (Ew_lane (by assumption)) rfl rfl hl.1 rfl (by simp [Value.category, va_rf]) dX5_boardThrough_128 ⟨Nat.le_of_ble_eq_true rfl, Nat.le_of_ble_eq_true rfl⟩) hS (fun H locs hw hS => ?_)
                have hw := hw.cast (Ep_goes hj rfl)
                refine f_aload_n hx hb dX5_boardThrough_131 hl 2 rfl rfl ?_
                refine e_get (C := RX0) (T := TX0) (N := 4) hx hb hts i0 hown hK hw (Ew_berth (by assumption)) rfl 1 (by decide) (hts (.fieldLink RX5 125 "FerryQuay$Berth" "ferry" "LFerryQuay$Ferry;") (by decide +kernel)) rfl dX5_boardThrough_132 ?_
                refine f_val (congrArg (fun q => Value.ref (ad 6 q)) hFt) ?_
                refine f_iload hx hb dX5_boardThrough_135 hl rfl ?_
                refine q_cv (q_runV (C := RX1) (T := TX1) (N := 3) ⟨hx, hb, hml, hown, hts⟩ (c_X1_takeAboard l (Ew_ferry hf) (he_size (Ew_frow (s := goes (inc zc 6 r) j) hf) hDn) (Ew_farr hf) (by decide) (zc 11 j 0) (by omega)) (cwV 1 hts gX5_boardThrough_X1_takeAboard rfl rfl rfl (by decide +kernel) ⟨Nat.le_of_ble_eq_true rfl, Nat.le_of_ble_eq_true rfl⟩) hK hw (Ew_ferry (by assumption)) rfl rfl hl.1 rfl (by simp [Value.category, va_rf]) dX5_boardThrough_137 ⟨Nat.le_of_ble_eq_true rfl, Nat.le_of_ble_eq_true rfl⟩) hS (fun H locs hw hS => ?_)
                have hw := hw.cast (Ep_brd hf rfl)
                refine f_aload_n hx hb dX5_boardThrough_140 hl 1 rfl rfl ?_
                refine lv_dup hx hb dX5_boardThrough_141 rfl ?_
                refine e_get (C := RX2) (T := TX2) (N := 4) hx hb hts i2 hown hK hw (Ew_gate (by assumption)) rfl 3 (by decide) (hts (.fieldLink RX5 138 "FerryQuay$Gate" "passed" "I") (by decide +kernel)) rfl dX5_boardThrough_142 ?_
                refine lv_iconst (v := 1) hx hb dX5_boardThrough_145 (by decide) ?_
                refine lv_iadd hx hb dX5_boardThrough_146 ?_
                refine e_put (C := RX2) (T := TX2) (N := 4) (ty := .int) hx hb hts i2 tyX2 tyX2_ok nmX2 hown hK hw hS (Ew_gate (by assumption)) rfl 3 (by decide) (hts (.fieldLink RX5 138 "FerryQuay$Gate" "passed" "I") (by decide +kernel)) rfl (by decide +kernel) rfl rfl (Nat.le_of_ble_eq_true rfl) dX5_boardThrough_147 (fun H locs hw hS => ?_)
                have hw := hw.cast (Ep_gate3 (by assumption))
                refine f_aload hx hb dX5_boardThrough_150 hl rfl ?_
                refine lv_dup hx hb dX5_boardThrough_152 rfl ?_
                refine e_get (C := RX3) (T := TX3) (N := 4) hx hb hts i3 hown hK hw (Ew_ramp (by assumption)) rfl 3 (by decide) (hts (.fieldLink RX5 141 "FerryQuay$Ramp" "wear" "I") (by decide +kernel)) rfl dX5_boardThrough_153 ?_
                refine f_iload hx hb dX5_boardThrough_156 hl rfl ?_
                refine lv_iadd hx hb dX5_boardThrough_158 ?_
                refine e_put (C := RX3) (T := TX3) (N := 4) (ty := .int) hx hb hts i3 tyX3 tyX3_ok nmX3 hown hK hw hS (Ew_ramp (by assumption)) rfl 3 (by decide) (hts (.fieldLink RX5 141 "FerryQuay$Ramp" "wear" "I") (by decide +kernel)) rfl (by decide +kernel) rfl rfl (Nat.le_of_ble_eq_true rfl) dX5_boardThrough_159 (fun H locs hw hS => ?_)
                have hw := hw.cast (Ep_ramp3 (by assumption))
                refine f_iinc (d := 1) hx hb dX5_boardThrough_162 hl rfl (by decide) (by decide) (fun ls hl => ?_)
                refine f_iload hx hb dX5_boardThrough_165 hl rfl ?_
                refine f_iload_n hx hb dX5_boardThrough_167 hl 3 rfl rfl ?_
                refine lv_icmp_ne (tgt := 174) hx hb dX5_boardThrough_168 (by decide) (fun c168 => ?_) (fun c168 => ?_)
                · refine f_iinc (d := 1) hx hb dX5_boardThrough_174 hl rfl (by decide) (by decide) (fun ls hl => ?_)
                  rw [nI_1] at hl
                  refine lv_goto (tgt := 25) hx hb dX5_boardThrough_177 (by decide) ?_
                  exact ih (w + 1) (k + 1) _ _ _ _ (((((hI.p6 hr2).gs hj).bd hf (by show dk zc f < 40; omega)).p3 hg).p5 hr2) (by show t ≤ ln (goes (inc zc 6 r) j) j; rw [lg]; omega) (by omega) hR (Eq.trans (Eq.symm (by rw [bl, hRt, hFt]; exact (Eq.trans (if_neg (notm1 hR (by omega))) (Eq.trans (if_neg c61) (Eq.trans (if_neg (Int32.not_lt.mpr c93)) (Eq.trans (if_neg hq) (Eq.trans (if_neg hq2) (if_neg c168)))))))) hsp) hw hS (hl.list [(0, .ref (ad 0 0)), (1, .ref (ad 1 g)), (2, .ref (ad 3 j)), (3, .int n), (4, .ref (ad 4 j)), (5, .ref (ad 2 r)), (6, .int (nI (ln z j))), (7, .int (w + 1)), (8, .int (nI (k + 1)))] (List.forall_mem_cons.mpr ⟨rfl, List.forall_mem_cons.mpr ⟨rfl, List.forall_mem_cons.mpr ⟨rfl, List.forall_mem_cons.mpr ⟨rfl, List.forall_mem_cons.mpr ⟨rfl, List.forall_mem_cons.mpr ⟨rfl, List.forall_mem_cons.mpr ⟨rfl, List.forall_mem_cons.mpr ⟨rfl, List.forall_mem_cons.mpr ⟨rfl, fun _ h => absurd h List.not_mem_nil⟩⟩⟩⟩⟩⟩⟩⟩⟩))
                · refine f_iload hx hb dX5_boardThrough_171 hl rfl ?_
                  exact q_isp hx hb hr hlk hK hw hS dX5_boardThrough_173 (hsp.symm.trans (by rw [bl, hRt, hFt]; exact (Eq.trans (if_neg (notm1 hR (by omega))) (Eq.trans (if_neg c61) (Eq.trans (if_neg (Int32.not_lt.mpr c93)) (Eq.trans (if_neg hq) (Eq.trans (if_neg hq2) (if_pos c168))))))))
          · refine f_aload hx hb dX5_boardThrough_96 hl rfl ?_
            refine q_cv (q_runV (C := RX4) (T := TX4) (N := 2) ⟨hx, hb, hml, hown, hts⟩ (c_X4_removeFirst l (he_size (Ew_lane (s := inc zc 6 r) hj) hLn) (Ew_larr hj) (by decide) (by omega) hL) (cwV 0 hts gX5_boardThrough_X4_removeFirst rfl rfl rfl (by decide +kernel) ⟨Nat.le_of_ble_eq_true rfl, Nat.le_of_ble_eq_true rfl⟩) hK hw (Ew_lane (by assumption)) rfl rfl hl.1 rfl (by simp [Value.category, va_rf]) dX5_boardThrough_98 ⟨Nat.le_of_ble_eq_true rfl, Nat.le_of_ble_eq_true rfl⟩) hS (fun H locs hw hS => ?_)
            have hw := hw.cast (Ep_goes hj rfl)
            refine f_aload hx hb dX5_boardThrough_101 hl rfl ?_
            refine f_iload hx hb dX5_boardThrough_103 hl rfl ?_
            refine q_cv (q_runV (C := RX4) (T := TX4) (N := 2) ⟨hx, hb, hml, hown, hts⟩ (c_X4_addLast l (he_size (Ew_lane (s := goes (inc zc 6 r) j) hj) (sc_s (s := inc zc 6 r) (k := 10) (i := j) (v := nI (ln zc j - 1)))) (Ew_larr hj) (by decide) (zc 11 j 0) (by omega)) (cwV 1 hts gX5_boardThrough_X4_addLast rfl rfl rfl (by decide +kernel) ⟨Nat.le_of_ble_eq_true rfl, Nat.le_of_ble_eq_true rfl⟩) hK hw (Ew_lane (by assumption)) rfl rfl hl.1 rfl (by simp [Value.category, va_rf]) dX5_boardThrough_105 ⟨Nat.le_of_ble_eq_true rfl, Nat.le_of_ble_eq_true rfl⟩) hS (fun H locs hw hS => ?_)
            have hw := hw.cast (Ep_comes hj (ln_goes (z := inc zc 6 r) (by show ln zc j < 2 ^ 31; omega)))
            refine lv_goto (tgt := 174) hx hb dX5_boardThrough_108 (by decide) ?_
            refine f_iinc (d := 1) hx hb dX5_boardThrough_174 hl rfl (by decide) (by decide) (fun ls hl => ?_)
            rw [nI_1] at hl
            refine lv_goto (tgt := 25) hx hb dX5_boardThrough_177 (by decide) ?_
            exact ih w (k + 1) _ _ _ _ (((hI.p6 hr2).gs hj).cm hj (by rw [lg]; omega)) (by rw [lc]; omega) (by omega) hR (Eq.trans (Eq.symm (by rw [bl, hRt]; exact (Eq.trans (if_neg (notm1 hR (by omega))) (Eq.trans (if_neg c61) (if_pos (Int32.not_le.mp c93)))))) hsp) hw hS (hl.list [(0, .ref (ad 0 0)), (1, .ref (ad 1 g)), (2, .ref (ad 3 j)), (3, .int n), (4, .ref (ad 4 j)), (5, .ref (ad 2 r)), (6, .int (nI (ln z j))), (7, .int w), (8, .int (nI (k + 1)))] (List.forall_mem_cons.mpr ⟨rfl, List.forall_mem_cons.mpr ⟨rfl, List.forall_mem_cons.mpr ⟨rfl, List.forall_mem_cons.mpr ⟨rfl, List.forall_mem_cons.mpr ⟨rfl, List.forall_mem_cons.mpr ⟨rfl, List.forall_mem_cons.mpr ⟨rfl, List.forall_mem_cons.mpr ⟨rfl, List.forall_mem_cons.mpr ⟨rfl, fun _ h => absurd h List.not_mem_nil⟩⟩⟩⟩⟩⟩⟩⟩⟩))
        · refine f_aload hx hb dX5_boardThrough_64 hl rfl ?_
          refine q_cv (q_runV (C := RX4) (T := TX4) (N := 2) ⟨hx, hb, hml, hown, hts⟩ (c_X4_removeFirst l (he_size (Ew_lane (s := inc zc 6 r) hj) hLn) (Ew_larr hj) (by decide) (by omega) hL) (cwV 0 hts gX5_boardThrough_X4_removeFirst rfl rfl rfl (by decide +kernel) ⟨Nat.le_of_ble_eq_true rfl, Nat.le_of_ble_eq_true rfl⟩) hK hw (Ew_lane (by assumption)) rfl rfl hl.1 rfl (by simp [Value.category, va_rf]) dX5_boardThrough_66 ⟨Nat.le_of_ble_eq_true rfl, Nat.le_of_ble_eq_true rfl⟩) hS (fun H locs hw hS => ?_)
          have hw := hw.cast (Ep_goes hj rfl)
          refine f_aload_n hx hb dX5_boardThrough_69 hl 0 rfl rfl ?_
          refine lv_dup hx hb dX5_boardThrough_70 rfl ?_
          refine e_get (C := RX5) (T := TX5) (N := 10) hx hb hts i5 hown hK hw Ew_fq rfl 8 (by decide) (hts (.fieldLink RX5 116 "FerryQuay" "towed" "I") (by decide +kernel)) rfl dX5_boardThrough_71 ?_
          refine lv_iconst (v := 1) hx hb dX5_boardThrough_74 (by decide) ?_
          refine lv_iadd hx hb dX5_boardThrough_75 ?_
          refine e_put (C := RX5) (T := TX5) (N := 10) (ty := .int) hx hb hts i5 tyX5 tyX5_ok nmX5 hown hK hw hS Ew_fq rfl 8 (by decide) (hts (.fieldLink RX5 116 "FerryQuay" "towed" "I") (by decide +kernel)) rfl (by decide +kernel) rfl rfl (Nat.le_of_ble_eq_true rfl) dX5_boardThrough_76 (fun H locs hw hS => ?_)
          have hw := hw.cast Ep_fq5
          refine f_aload_n hx hb dX5_boardThrough_79 hl 0 rfl rfl ?_
          refine lv_bipush (v := (-6)) hx hb dX5_boardThrough_80 (by decide) ?_
          refine q_ci (q_runV (C := RX5) (T := TX5) (N := 10) ⟨hx, hb, hml, hown, hts⟩ (c_X5_alarm l (((hI.p6 hr2).gs hj).t5) (-6)) (cwV 1 hts gX5_boardThrough_X5_alarm rfl rfl rfl (by decide +kernel) ⟨Nat.le_of_ble_eq_true rfl, Nat.le_of_ble_eq_true rfl⟩) hK hw Ew_fq rfl rfl hl.1 rfl (by simp [Value.category, va_rf]) dX5_boardThrough_82 ⟨Nat.le_of_ble_eq_true rfl, Nat.le_of_ble_eq_true rfl⟩) hS (fun H locs hw hS => ?_)
          exact q_isp hx hb hr hlk hK hw hS dX5_boardThrough_85 (hsp.symm.trans (by rw [bl, hRt]; exact (Eq.trans (if_neg (notm1 hR (by omega))) (if_pos c61))))
    exact loop (ln z j) 0 0 z _ _ _ hI (Nat.le_refl _) (by omega) hR rfl hw hS (hl.list [(0, .ref (ad 0 0)), (1, .ref (ad 1 g)), (2, .ref (ad 3 j)), (3, .int n), (4, .ref (ad 4 j)), (5, .ref (ad 2 r)), (6, .int (nI (ln z j))), (7, .int 0), (8, .int (nI 0))] (List.forall_mem_cons.mpr ⟨rfl, List.forall_mem_cons.mpr ⟨rfl, List.forall_mem_cons.mpr ⟨rfl, List.forall_mem_cons.mpr ⟨rfl, List.forall_mem_cons.mpr ⟨rfl, List.forall_mem_cons.mpr ⟨rfl, List.forall_mem_cons.mpr ⟨rfl, List.forall_mem_cons.mpr ⟨rfl, List.forall_mem_cons.mpr ⟨rfl, fun _ h => absurd h List.not_mem_nil⟩⟩⟩⟩⟩⟩⟩⟩⟩))
end
section
theorem rng_of {n M : Int32} {m : Nat} (hM : M.toInt = m) (h1 : ¬ n < 1) (h2 : ¬ M < n) : ∃ N, N ≤ m ∧ n = nI N := nI_of2 hM (fun q => h1 (Int32.lt_trans q (by decide))) (Int32.not_lt.mp h2)
theorem ix_in {q n : Nat} (hn : n < 2 ^ 31) (h : q < n) : ix (nI q) n = some q := by
  have h2 : q < 2 ^ 31 := Nat.lt_trans h hn
  exact (if_neg (nI_pos h2)).trans ((if_neg (nI_ge h hn)).trans (congrArg some (nI_clamp h2)))
theorem ix_no {q n : Nat} (hq : q < 2 ^ 31) (h : n ≤ q) : ix (nI q) n = none := (if_neg (nI_pos hq)).trans (if_pos (nI_le h hq))
theorem goes_comes {z : St} {i j : Nat} {x : Int32} (h : i ≠ j) : goes (comes z j x) i = comes (goes z i) j x := by
  have h' : j ≠ i := fun q => h q.symm
  have e1 : sc (comes z j x) 10 i = sc z 10 i := by
    show sc (us (u2 z 11 j _) 10 j _) 10 i = _
    rw [sc_i h]
    rfl
  have e2 : (comes z j x) 11 i = z 11 i := by
    show (u2 z 11 j _) 11 i = _
    rw [u2_i h]
  have e3 : sc (goes z i) 10 j = sc z 10 j := by
    show sc (us z 10 i _) 10 j = _
    rw [sc_i h']
  have e4 : (goes z i) 11 j = z 11 j := by
    show (u2 (us z 10 i _) 11 i _) 11 j = _
    rw [u2_i h']
    rfl
  unfold goes comes ln
  rw [show sc (us (u2 z 11 j (va_up (z 11 j) (tn (sc z 10 j)) x)) 10 j (nI (tn (sc z 10 j) + 1))) 10 i = sc z 10 i from e1,
    show (us (u2 z 11 j (va_up (z 11 j) (tn (sc z 10 j)) x)) 10 j (nI (tn (sc z 10 j) + 1))) 11 i = z 11 i from e2,
    show sc (u2 (us z 10 i (nI (tn (sc z 10 i) - 1))) 11 i (va_cpy (z 11 i) (z 11 i) 1 0 (tn (sc z 10 i) - 1))) 10 j = sc z 10 j from e3,
    show (u2 (us z 10 i (nI (tn (sc z 10 i) - 1))) 11 i (va_cpy (z 11 i) (z 11 i) 1 0 (tn (sc z 10 i) - 1))) 11 j = z 11 j from e4]
  generalize nI (tn (sc z 10 i) - 1) = b
  generalize nI (tn (sc z 10 j) + 1) = a
  generalize va_cpy (z 11 i) (z 11 i) 1 0 (tn (sc z 10 i) - 1) = B
  generalize va_up (z 11 j) (tn (sc z 10 j)) x = A
  funext k y
  by_cases h10 : k = 10
  · subst h10
    by_cases hy : y = i
    · subst hy
      simp [us, u2, va_up, h]
    · by_cases hy2 : y = j
      · subst hy2
        simp [us, u2, va_up, h']
      · simp [us, u2, va_up, hy, hy2]
  · by_cases h11 : k = 11
    · subst h11
      by_cases hy : y = i
      · subst hy
        simp [us, u2, va_up, h]
      · by_cases hy2 : y = j
        · subst hy2
          simp [us, u2, va_up, h']
        · simp [us, u2, va_up, hy, hy2]
    · simp [us, u2, va_up, h10, h11]
theorem swp_fo {z : St} {i j f1 f2 : Nat} (h1 : sc z 9 i = nI f1) (h2 : sc z 9 j = nI f2) (hf1 : f1 < 2 ^ 31) (hf2 : f2 < 2 ^ 31) : tn (sc (us (us z 9 i (nI f2)) 9 j (nI f1)) 9 i) = f2 := by
  by_cases h : i = j
  · subst h
    have e : f1 = f2 := (nI_eq hf1 hf2).mp (h1.symm.trans h2)
    rw [sc_s, e]
    exact nI_clamp hf2
  · rw [sc_i h, sc_s]
    exact nI_clamp hf2
end
section
set_option maxHeartbeats 4000000 in
set_option maxRecDepth 100000 in
theorem c_X5_board (l : Launch) {G : va_G} {Y : YT} {lo : Nat} {ad : Nat → Nat → Nat} {ng nr nb : Nat} {z u : St} (hI : Inv z ng nr nb) (x n : Int32) : Met l yX5_board wsX5_board ({ frames := 3, cells := 0, slots := 0, locals := 79 }) (va_Pc [.ref (ad 0 0), .int x, .int n] (cS G (tysY Y) lo (Ew Y ng nr nb z u ad) ad)) (QI G (tysY Y) lo (sp_board nb z x n).1 (Ew Y ng nr nb (sp_board nb z x n).2 u ad) ad) 0 0 (fun q => lo ≤ q) := by
  refine met_of (cc := cX5_board) (maxL := 5) (ret := (some .int)) (by decide) rfl (Nat.le_of_ble_eq_true rfl) rfl ?_
  intro p e s m below meth c ls hx hb hr hlk hml hts hown hnm hw hK hl hS
  have i0 : ∀ w ∈ wsX00, w ∈ wsX5_board := by decide +kernel
  have i2 : ∀ w ∈ wsX20, w ∈ wsX5_board := by decide +kernel
  have i5 : ∀ w ∈ wsX50, w ∈ wsX5_board := by decide +kernel
  have hng := hI.mg
  have hnr := hI.mr
  have hnb := hI.mb
  rcases ix_cases x hI.nb2 with ⟨hix, hbad⟩ | ⟨j, hj, rfl, hix⟩
  · refine f_aload_n hx hb dX5_board_0 hl 0 rfl rfl ?_
    refine f_iload_n hx hb dX5_board_1 hl 1 rfl rfl ?_
    refine q_cq (q_runV (C := RX5) (T := TX5) (N := 10) ⟨hx, hb, hml, hown, hts⟩ (c_X5_berthAt l hI x) (cwV 1 hts gX5_board_X5_berthAt rfl rfl rfl (by decide +kernel) ⟨Nat.le_of_ble_eq_true rfl, Nat.le_of_ble_eq_true rfl⟩) hK hw Ew_fq rfl rfl hl.1 rfl (by simp [Value.category, va_rf]) dX5_board_2 ⟨Nat.le_of_ble_eq_true rfl, Nat.le_of_ble_eq_true rfl⟩) hS (fun H locs hw hS => ?_)
    refine f_val (y := .null) (by rw [hix]; rfl) ?_
    refine f_astore_nN hx hb dX5_board_5 hl 3 rfl (by decide) (fun ls hl => ?_)
    refine f_aload_nN hx hb dX5_board_6 hl 3 rfl rfl ?_
    refine lv_ifnullN (tgt := 20) hx hb dX5_board_7 (by decide) ?_
    refine lv_bipush (v := (-2)) hx hb dX5_board_20 (by decide) ?_
    exact q_isp hx hb hr hlk hK hw hS dX5_board_22 (by rw [sp_board, hix]; exact rfl)
  · by_cases h1 : n < 1
    · refine f_aload_n hx hb dX5_board_0 hl 0 rfl rfl ?_
      refine f_iload_n hx hb dX5_board_1 hl 1 rfl rfl ?_
      refine q_cq (q_runV (C := RX5) (T := TX5) (N := 10) ⟨hx, hb, hml, hown, hts⟩ (c_X5_berthAt l hI (nI j)) (cwV 1 hts gX5_board_X5_berthAt rfl rfl rfl (by decide +kernel) ⟨Nat.le_of_ble_eq_true rfl, Nat.le_of_ble_eq_true rfl⟩) hK hw Ew_fq rfl rfl hl.1 rfl (by simp [Value.category, va_rf]) dX5_board_2 ⟨Nat.le_of_ble_eq_true rfl, Nat.le_of_ble_eq_true rfl⟩) hS (fun H locs hw hS => ?_)
      refine f_val (y := .ref (ad 3 j)) (by rw [hix]; rfl) ?_
      refine f_astore_n hx hb dX5_board_5 hl 3 rfl (by decide) (fun ls hl => ?_)
      refine f_aload_n hx hb dX5_board_6 hl 3 rfl rfl ?_
      refine lv_ifnull hx hb dX5_board_7 ?_
      refine f_iload_n hx hb dX5_board_10 hl 2 rfl rfl ?_
      refine lv_iconst (v := 1) hx hb dX5_board_11 (by decide) ?_
      refine lv_bipush (v := 30) hx hb dX5_board_12 (by decide) ?_
      refine q_ci (q_runS ⟨hx, hb, hml, hown, hts⟩ (c_X5_isWithin l n 1 30) (va_cwS 3 hts gX5_board_X5_isWithin rfl rfl rfl (by decide +kernel) ⟨Nat.le_of_ble_eq_true rfl, Nat.le_of_ble_eq_true rfl⟩) hK hw rfl hl.1 rfl (by simp [Value.category, va_rf]) dX5_board_14 ⟨Nat.le_of_ble_eq_true rfl, Nat.le_of_ble_eq_true rfl⟩) hS (fun H locs hw hS => ?_)
      refine f_top (y := 0) (if_pos h1) ?_
      refine lv_if_ne (tgt := 23) hx hb dX5_board_17 (by decide) (fun c17 => absurd (by decide) c17) (fun c17 => ?_)
      refine lv_bipush (v := (-2)) hx hb dX5_board_20 (by decide) ?_
      exact q_isp hx hb hr hlk hK hw hS dX5_board_22 (by rw [sp_board, hix]; dsimp only [Option.elim]; exact (if_pos h1))
    · by_cases h2 : 30 < n
      · refine f_aload_n hx hb dX5_board_0 hl 0 rfl rfl ?_
        refine f_iload_n hx hb dX5_board_1 hl 1 rfl rfl ?_
        refine q_cq (q_runV (C := RX5) (T := TX5) (N := 10) ⟨hx, hb, hml, hown, hts⟩ (c_X5_berthAt l hI (nI j)) (cwV 1 hts gX5_board_X5_berthAt rfl rfl rfl (by decide +kernel) ⟨Nat.le_of_ble_eq_true rfl, Nat.le_of_ble_eq_true rfl⟩) hK hw Ew_fq rfl rfl hl.1 rfl (by simp [Value.category, va_rf]) dX5_board_2 ⟨Nat.le_of_ble_eq_true rfl, Nat.le_of_ble_eq_true rfl⟩) hS (fun H locs hw hS => ?_)
        refine f_val (y := .ref (ad 3 j)) (by rw [hix]; rfl) ?_
        refine f_astore_n hx hb dX5_board_5 hl 3 rfl (by decide) (fun ls hl => ?_)
        refine f_aload_n hx hb dX5_board_6 hl 3 rfl rfl ?_
        refine lv_ifnull hx hb dX5_board_7 ?_
        refine f_iload_n hx hb dX5_board_10 hl 2 rfl rfl ?_
        refine lv_iconst (v := 1) hx hb dX5_board_11 (by decide) ?_
        refine lv_bipush (v := 30) hx hb dX5_board_12 (by decide) ?_
        refine q_ci (q_runS ⟨hx, hb, hml, hown, hts⟩ (c_X5_isWithin l n 1 30) (va_cwS 3 hts gX5_board_X5_isWithin rfl rfl rfl (by decide +kernel) ⟨Nat.le_of_ble_eq_true rfl, Nat.le_of_ble_eq_true rfl⟩) hK hw rfl hl.1 rfl (by simp [Value.category, va_rf]) dX5_board_14 ⟨Nat.le_of_ble_eq_true rfl, Nat.le_of_ble_eq_true rfl⟩) hS (fun H locs hw hS => ?_)
        refine f_top (y := 0) (Eq.trans (if_neg h1) (if_pos h2)) ?_
        refine lv_if_ne (tgt := 23) hx hb dX5_board_17 (by decide) (fun c17 => absurd (by decide) c17) (fun c17 => ?_)
        refine lv_bipush (v := (-2)) hx hb dX5_board_20 (by decide) ?_
        exact q_isp hx hb hr hlk hK hw hS dX5_board_22 (by rw [sp_board, hix]; dsimp only [Option.elim]; exact (Eq.trans (if_neg h1) (if_pos h2)))
      · rcases hI.gate hj with hG | ⟨g, hg, hG, hGt⟩
        · refine f_aload_n hx hb dX5_board_0 hl 0 rfl rfl ?_
          refine f_iload_n hx hb dX5_board_1 hl 1 rfl rfl ?_
          refine q_cq (q_runV (C := RX5) (T := TX5) (N := 10) ⟨hx, hb, hml, hown, hts⟩ (c_X5_berthAt l hI (nI j)) (cwV 1 hts gX5_board_X5_berthAt rfl rfl rfl (by decide +kernel) ⟨Nat.le_of_ble_eq_true rfl, Nat.le_of_ble_eq_true rfl⟩) hK hw Ew_fq rfl rfl hl.1 rfl (by simp [Value.category, va_rf]) dX5_board_2 ⟨Nat.le_of_ble_eq_true rfl, Nat.le_of_ble_eq_true rfl⟩) hS (fun H locs hw hS => ?_)
          refine f_val (y := .ref (ad 3 j)) (by rw [hix]; rfl) ?_
          refine f_astore_n hx hb dX5_board_5 hl 3 rfl (by decide) (fun ls hl => ?_)
          refine f_aload_n hx hb dX5_board_6 hl 3 rfl rfl ?_
          refine lv_ifnull hx hb dX5_board_7 ?_
          refine f_iload_n hx hb dX5_board_10 hl 2 rfl rfl ?_
          refine lv_iconst (v := 1) hx hb dX5_board_11 (by decide) ?_
          refine lv_bipush (v := 30) hx hb dX5_board_12 (by decide) ?_
          refine q_ci (q_runS ⟨hx, hb, hml, hown, hts⟩ (c_X5_isWithin l n 1 30) (va_cwS 3 hts gX5_board_X5_isWithin rfl rfl rfl (by decide +kernel) ⟨Nat.le_of_ble_eq_true rfl, Nat.le_of_ble_eq_true rfl⟩) hK hw rfl hl.1 rfl (by simp [Value.category, va_rf]) dX5_board_14 ⟨Nat.le_of_ble_eq_true rfl, Nat.le_of_ble_eq_true rfl⟩) hS (fun H locs hw hS => ?_)
          refine f_top (y := 1) (Eq.trans (if_neg h1) (if_neg h2)) ?_
          refine lv_if_ne (tgt := 23) hx hb dX5_board_17 (by decide) (fun c17 => ?_) (fun c17 => absurd c17 (by decide))
          refine f_aload_n hx hb dX5_board_23 hl 3 rfl rfl ?_
          refine e_get (C := RX0) (T := TX0) (N := 4) hx hb hts i0 hown hK hw (Ew_berth (by assumption)) rfl 2 (by decide) (hts (.fieldLink RX5 60 "FerryQuay$Berth" "gate" "LFerryQuay$Gate;") (by decide +kernel)) rfl dX5_board_24 ?_
          refine f_val (orefN hG) ?_
          refine f_astoreN hx hb dX5_board_27 hl (by decide) (fun ls hl => ?_)
          refine f_aloadN hx hb dX5_board_29 hl rfl ?_
          refine lv_ifnonnullN hx hb dX5_board_31 ?_
          refine lv_bipush (v := (-4)) hx hb dX5_board_34 (by decide) ?_
          exact q_isp hx hb hr hlk hK hw hS dX5_board_36 (by rw [sp_board, hix]; dsimp only [Option.elim]; exact (Eq.trans (if_neg h1) (Eq.trans (if_neg h2) (if_pos hG))))
        · refine f_aload_n hx hb dX5_board_0 hl 0 rfl rfl ?_
          refine f_iload_n hx hb dX5_board_1 hl 1 rfl rfl ?_
          refine q_cq (q_runV (C := RX5) (T := TX5) (N := 10) ⟨hx, hb, hml, hown, hts⟩ (c_X5_berthAt l hI (nI j)) (cwV 1 hts gX5_board_X5_berthAt rfl rfl rfl (by decide +kernel) ⟨Nat.le_of_ble_eq_true rfl, Nat.le_of_ble_eq_true rfl⟩) hK hw Ew_fq rfl rfl hl.1 rfl (by simp [Value.category, va_rf]) dX5_board_2 ⟨Nat.le_of_ble_eq_true rfl, Nat.le_of_ble_eq_true rfl⟩) hS (fun H locs hw hS => ?_)
          refine f_val (y := .ref (ad 3 j)) (by rw [hix]; rfl) ?_
          refine f_astore_n hx hb dX5_board_5 hl 3 rfl (by decide) (fun ls hl => ?_)
          refine f_aload_n hx hb dX5_board_6 hl 3 rfl rfl ?_
          refine lv_ifnull hx hb dX5_board_7 ?_
          refine f_iload_n hx hb dX5_board_10 hl 2 rfl rfl ?_
          refine lv_iconst (v := 1) hx hb dX5_board_11 (by decide) ?_
          refine lv_bipush (v := 30) hx hb dX5_board_12 (by decide) ?_
          refine q_ci (q_runS ⟨hx, hb, hml, hown, hts⟩ (c_X5_isWithin l n 1 30) (va_cwS 3 hts gX5_board_X5_isWithin rfl rfl rfl (by decide +kernel) ⟨Nat.le_of_ble_eq_true rfl, Nat.le_of_ble_eq_true rfl⟩) hK hw rfl hl.1 rfl (by simp [Value.category, va_rf]) dX5_board_14 ⟨Nat.le_of_ble_eq_true rfl, Nat.le_of_ble_eq_true rfl⟩) hS (fun H locs hw hS => ?_)
          refine f_top (y := 1) (Eq.trans (if_neg h1) (if_neg h2)) ?_
          refine lv_if_ne (tgt := 23) hx hb dX5_board_17 (by decide) (fun c17 => ?_) (fun c17 => absurd c17 (by decide))
          refine f_aload_n hx hb dX5_board_23 hl 3 rfl rfl ?_
          refine e_get (C := RX0) (T := TX0) (N := 4) hx hb hts i0 hown hK hw (Ew_berth (by assumption)) rfl 2 (by decide) (hts (.fieldLink RX5 60 "FerryQuay$Berth" "gate" "LFerryQuay$Gate;") (by decide +kernel)) rfl dX5_board_24 ?_
          refine f_val (orefR hG (by omega)) ?_
          refine f_astore hx hb dX5_board_27 hl (by decide) (fun ls hl => ?_)
          refine f_aload hx hb dX5_board_29 hl rfl ?_
          refine lv_ifnonnull (tgt := 37) hx hb dX5_board_31 (by decide) ?_
          refine f_aload hx hb dX5_board_37 hl rfl ?_
          refine lv_dup hx hb dX5_board_39 rfl ?_
          refine e_get (C := RX2) (T := TX2) (N := 4) hx hb hts i2 hown hK hw (Ew_gate (by assumption)) rfl 2 (by decide) (hts (.fieldLink RX5 101 "FerryQuay$Gate" "taken" "I") (by decide +kernel)) rfl dX5_board_40 ?_
          refine lv_iconst (v := 1) hx hb dX5_board_43 (by decide) ?_
          refine lv_iadd hx hb dX5_board_44 ?_
          refine e_put (C := RX2) (T := TX2) (N := 4) (ty := .int) hx hb hts i2 tyX2 tyX2_ok nmX2 hown hK hw hS (Ew_gate (by assumption)) rfl 2 (by decide) (hts (.fieldLink RX5 101 "FerryQuay$Gate" "taken" "I") (by decide +kernel)) rfl (by decide +kernel) rfl rfl (Nat.le_of_ble_eq_true rfl) dX5_board_45 (fun H locs hw hS => ?_)
          have hw := hw.cast (Ep_gate2 (by assumption))
          refine f_aload hx hb dX5_board_48 hl rfl ?_
          refine e_get (C := RX2) (T := TX2) (N := 4) hx hb hts i2 hown hK hw (Ew_gate (by assumption)) rfl 1 (by decide) (hts (.fieldLink RX5 78 "FerryQuay$Gate" "isShut" "Z") (by decide +kernel)) rfl dX5_board_50 ?_
          refine lv_if_eq (tgt := 59) hx hb dX5_board_53 (by decide) (fun c53 => ?_) (fun c53 => ?_)
          · refine f_aload_n hx hb dX5_board_59 hl 0 rfl rfl ?_
            refine f_aload hx hb dX5_board_60 hl rfl ?_
            refine f_aload_n hx hb dX5_board_62 hl 3 rfl rfl ?_
            refine f_iload_n hx hb dX5_board_63 hl 2 rfl rfl ?_
            refine q_ci (q_runV (C := RX5) (T := TX5) (N := 10) ⟨hx, hb, hml, hown, hts⟩ (c_X5_boardThrough l (z := inc z 2 g) (hI.p2 hg) hj hg n) (cwV 3 hts gX5_board_X5_boardThrough rfl rfl rfl (by decide +kernel) ⟨Nat.le_of_ble_eq_true rfl, Nat.le_of_ble_eq_true rfl⟩) hK hw Ew_fq rfl rfl hl.1 rfl (by simp [Value.category, va_rf]) dX5_board_64 ⟨Nat.le_of_ble_eq_true rfl, Nat.le_of_ble_eq_true rfl⟩) hS (fun H locs hw hS => ?_)
            exact q_isp hx hb hr hlk hK hw hS dX5_board_67 (by rw [sp_board, hix]; dsimp only [Option.elim]; rw [hGt]; exact (Eq.trans (if_neg h1) (Eq.trans (if_neg h2) (Eq.trans (if_neg (notm1 hG (by omega))) (if_pos c53)))))
          · refine lv_bipush (v := (-5)) hx hb dX5_board_56 (by decide) ?_
            exact q_isp hx hb hr hlk hK hw hS dX5_board_58 (by rw [sp_board, hix]; dsimp only [Option.elim]; rw [hGt]; exact (Eq.trans (if_neg h1) (Eq.trans (if_neg h2) (Eq.trans (if_neg (notm1 hG (by omega))) (if_neg c53)))))
set_option maxHeartbeats 4000000 in
set_option maxRecDepth 100000 in
theorem c_X5_landOver (l : Launch) {G : va_G} {Y : YT} {lo : Nat} {ad : Nat → Nat → Nat} {ng nr nb : Nat} {z u : St} (hI : Inv z ng nr nb) {j r N : Nat} (hj : j < nb) (hr2 : r < nr) (hN : N ≤ 40) : Met l yX5_landOver wsX5_landOver ({ frames := 3, cells := 0, slots := 0, locals := 61 }) (va_Pc [.ref (ad 0 0), .ref (ad 2 r), .ref (ad 3 j), .int (nI N)] (cS G (tysY Y) lo (Ew Y ng nr nb z u ad) ad)) (QI G (tysY Y) lo (ll j r (fo z j) N 0 z).1 (Ew Y ng nr nb (ll j r (fo z j) N 0 z).2 u ad) ad) 0 0 (fun q => lo ≤ q) := by
  refine met_of (cc := cX5_landOver) (maxL := 8) (ret := (some .int)) (by decide) rfl (Nat.le_of_ble_eq_true rfl) rfl ?_
  intro p e s m below meth c ls hx hb hr hlk hml hts hown hnm hw hK hl hS
  have i0 : ∀ w ∈ wsX00, w ∈ wsX5_landOver := by decide +kernel
  have i1 : ∀ w ∈ wsX10, w ∈ wsX5_landOver := by decide +kernel
  have i2 : ∀ w ∈ wsX20, w ∈ wsX5_landOver := by decide +kernel
  have i3 : ∀ w ∈ wsX30, w ∈ wsX5_landOver := by decide +kernel
  have i4 : ∀ w ∈ wsX40, w ∈ wsX5_landOver := by decide +kernel
  have i5 : ∀ w ∈ wsX50, w ∈ wsX5_landOver := by decide +kernel
  have hng := hI.mg
  have hnr := hI.mr
  have hnb := hI.mb
  obtain ⟨f, hf, hF, hFt⟩ := hI.ferry hj
  rcases hI.gate hj with hG | ⟨g, hg, hG, hGt⟩
  · refine f_aload_n hx hb dX5_landOver_0 hl 2 rfl rfl ?_
    refine e_get (C := RX0) (T := TX0) (N := 4) hx hb hts i0 hown hK hw (Ew_berth (by assumption)) rfl 1 (by decide) (hts (.fieldLink RX5 125 "FerryQuay$Berth" "ferry" "LFerryQuay$Ferry;") (by decide +kernel)) rfl dX5_landOver_1 ?_
    refine f_val (congrArg (fun q => Value.ref (ad 6 q)) hFt) ?_
    refine f_astore hx hb dX5_landOver_4 hl (by decide) (fun ls hl => ?_)
    refine f_aload_n hx hb dX5_landOver_6 hl 2 rfl rfl ?_
    refine e_get (C := RX0) (T := TX0) (N := 4) hx hb hts i0 hown hK hw (Ew_berth (by assumption)) rfl 2 (by decide) (hts (.fieldLink RX5 60 "FerryQuay$Berth" "gate" "LFerryQuay$Gate;") (by decide +kernel)) rfl dX5_landOver_7 ?_
    refine f_val (orefN hG) ?_
    refine f_astoreN hx hb dX5_landOver_10 hl (by decide) (fun ls hl => ?_)
    refine lv_iconst (v := 0) hx hb dX5_landOver_12 (by decide) ?_
    refine f_istore hx hb dX5_landOver_13 hl (by decide) (fun ls hl => ?_)
    have loop : ∀ (t : Nat) (w : Int32) (k : Nat) (zc : St) (H : Heap) (locs : List Loc) (ls : Array Slot), Inv zc ng nr nb → w = nI k → k + t = N → sc zc 7 j = -1 → ll j r f t w zc = ll j r (fo z j) N 0 z → wo G lo (Ew Y ng nr nb zc u ad) ad H → va_S (fun q => lo ≤ q) s.heap H locs → lh ls 8 (fun i9 => ([(0, .ref (ad 0 0)), (1, .ref (ad 2 r)), (2, .ref (ad 3 j)), (3, .int (nI N)), (4, .ref (ad 6 f)), (5, .null), (6, .int w)].find? (fun q => q.1 == i9)).map (fun q => q.2)) → W p l e (headSpec wsX5_landOver ({ frames := 3, cells := 0, slots := 0, locals := 61 })).room s m ([.ref (ad 0 0), .ref (ad 2 r), .ref (ad 3 j), .int (nI N)] : List Value).toArray below meth c H locs 0 0 (MQ below (QI G (tysY Y) lo (ll j r (fo z j) N 0 z).1 (Ew Y ng nr nb (ll j r (fo z j) N 0 z).2 u ad) ad) ([.ref (ad 0 0), .ref (ad 2 r), .ref (ad 3 j), .int (nI N)] : List Value).toArray s 0 0 (fun q => lo ≤ q)) (F0 m 15 ls []) := by
      intro t
      induction t with
      | zero =>
        intro w k zc H locs ls hI hwk hkt hG hsp hw hS hl
        obtain ⟨hD, hDn⟩ := hI.deck hf
        refine f_iload hx hb dX5_landOver_15 hl rfl ?_
        refine f_iload_n hx hb dX5_landOver_17 hl 3 rfl rfl ?_
        refine lv_icmp_ge (tgt := 144) hx hb dX5_landOver_18 (by decide) (fun c18 => ?_) (fun c18 => absurd (by rw [hwk]; exact nI_le (by omega) (by omega)) c18)
        refine f_iload hx hb dX5_landOver_144 hl rfl ?_
        exact q_isp hx hb hr hlk hK hw hS dX5_landOver_146 hsp.symm
      | succ t ih =>
        intro w k zc H locs ls hI hwk hkt hG hsp hw hS hl
        obtain ⟨hD, hDn⟩ := hI.deck hf
        refine f_iload hx hb dX5_landOver_15 hl rfl ?_
        refine f_iload_n hx hb dX5_landOver_17 hl 3 rfl rfl ?_
        refine lv_icmp_ge (tgt := 144) hx hb dX5_landOver_18 (by decide) (fun c18 => absurd c18 (by rw [hwk]; exact nI_ge (by omega) (by omega))) (fun c18 => ?_)
        refine f_aload hx hb dX5_landOver_21 hl rfl ?_
        refine e_get (C := RX1) (T := TX1) (N := 3) hx hb hts i1 hown hK hw (Ew_ferry (by assumption)) rfl 1 (by decide) (hts (.fieldLink RX5 148 "FerryQuay$Ferry" "vehicles" "LFerryQuay$Row;") (by decide +kernel)) rfl dX5_landOver_23 ?_
        refine e_get (C := RX4) (T := TX4) (N := 2) hx hb hts i4 hown hK hw (Ew_frow (by assumption)) rfl 1 (by decide) (hts (.fieldLink RX5 98 "FerryQuay$Row" "size" "I") (by decide +kernel)) rfl dX5_landOver_26 ?_
        refine f_top (y := nI (dk zc f)) hDn ?_
        by_cases hd : dk zc f = 0
        · refine lv_if_le (tgt := 144) hx hb dX5_landOver_29 (by decide) (fun c29 => ?_) (fun c29 => absurd (by rw [hd]; decide) c29)
          refine f_iload hx hb dX5_landOver_144 hl rfl ?_
          exact q_isp hx hb hr hlk hK hw hS dX5_landOver_146 (hsp.symm.trans (by rw [ll]; exact (if_pos hd)))
        · refine lv_if_le (tgt := 144) hx hb dX5_landOver_29 (by decide) (fun c29 => absurd c29 (nI_nle (by omega) (by omega))) (fun c29 => ?_)
          refine f_aloadN hx hb dX5_landOver_32 hl rfl ?_
          refine lv_ifnonnullN hx hb dX5_landOver_34 ?_
          refine lv_bipush (v := (-4)) hx hb dX5_landOver_37 (by decide) ?_
          exact q_isp hx hb hr hlk hK hw hS dX5_landOver_39 (hsp.symm.trans (by rw [ll]; exact (Eq.trans (if_neg hd) (if_pos hG))))
    exact loop N 0 0 z _ _ _ hI rfl (by omega) hG (by rw [hFt]) hw hS (hl.list [(0, .ref (ad 0 0)), (1, .ref (ad 2 r)), (2, .ref (ad 3 j)), (3, .int (nI N)), (4, .ref (ad 6 f)), (5, .null), (6, .int 0)] (List.forall_mem_cons.mpr ⟨rfl, List.forall_mem_cons.mpr ⟨rfl, List.forall_mem_cons.mpr ⟨rfl, List.forall_mem_cons.mpr ⟨rfl, List.forall_mem_cons.mpr ⟨rfl, List.forall_mem_cons.mpr ⟨rfl, List.forall_mem_cons.mpr ⟨rfl, fun _ h => absurd h List.not_mem_nil⟩⟩⟩⟩⟩⟩⟩))
  · refine f_aload_n hx hb dX5_landOver_0 hl 2 rfl rfl ?_
    refine e_get (C := RX0) (T := TX0) (N := 4) hx hb hts i0 hown hK hw (Ew_berth (by assumption)) rfl 1 (by decide) (hts (.fieldLink RX5 125 "FerryQuay$Berth" "ferry" "LFerryQuay$Ferry;") (by decide +kernel)) rfl dX5_landOver_1 ?_
    refine f_val (congrArg (fun q => Value.ref (ad 6 q)) hFt) ?_
    refine f_astore hx hb dX5_landOver_4 hl (by decide) (fun ls hl => ?_)
    refine f_aload_n hx hb dX5_landOver_6 hl 2 rfl rfl ?_
    refine e_get (C := RX0) (T := TX0) (N := 4) hx hb hts i0 hown hK hw (Ew_berth (by assumption)) rfl 2 (by decide) (hts (.fieldLink RX5 60 "FerryQuay$Berth" "gate" "LFerryQuay$Gate;") (by decide +kernel)) rfl dX5_landOver_7 ?_
    refine f_val (orefR hG (by omega)) ?_
    refine f_astore hx hb dX5_landOver_10 hl (by decide) (fun ls hl => ?_)
    refine lv_iconst (v := 0) hx hb dX5_landOver_12 (by decide) ?_
    refine f_istore hx hb dX5_landOver_13 hl (by decide) (fun ls hl => ?_)
    have loop : ∀ (t : Nat) (w : Int32) (k : Nat) (zc : St) (H : Heap) (locs : List Loc) (ls : Array Slot), Inv zc ng nr nb → w = nI k → k + t = N → sc zc 7 j = nI g → ll j r f t w zc = ll j r (fo z j) N 0 z → wo G lo (Ew Y ng nr nb zc u ad) ad H → va_S (fun q => lo ≤ q) s.heap H locs → lh ls 8 (fun i9 => ([(0, .ref (ad 0 0)), (1, .ref (ad 2 r)), (2, .ref (ad 3 j)), (3, .int (nI N)), (4, .ref (ad 6 f)), (5, .ref (ad 1 g)), (6, .int w)].find? (fun q => q.1 == i9)).map (fun q => q.2)) → W p l e (headSpec wsX5_landOver ({ frames := 3, cells := 0, slots := 0, locals := 61 })).room s m ([.ref (ad 0 0), .ref (ad 2 r), .ref (ad 3 j), .int (nI N)] : List Value).toArray below meth c H locs 0 0 (MQ below (QI G (tysY Y) lo (ll j r (fo z j) N 0 z).1 (Ew Y ng nr nb (ll j r (fo z j) N 0 z).2 u ad) ad) ([.ref (ad 0 0), .ref (ad 2 r), .ref (ad 3 j), .int (nI N)] : List Value).toArray s 0 0 (fun q => lo ≤ q)) (F0 m 15 ls []) := by
      intro t
      induction t with
      | zero =>
        intro w k zc H locs ls hI hwk hkt hG hsp hw hS hl
        obtain ⟨hD, hDn⟩ := hI.deck hf
        have hGt : tn (sc zc 7 j) = g := by rw [hG]; exact nI_clamp (by omega)
        refine f_iload hx hb dX5_landOver_15 hl rfl ?_
        refine f_iload_n hx hb dX5_landOver_17 hl 3 rfl rfl ?_
        refine lv_icmp_ge (tgt := 144) hx hb dX5_landOver_18 (by decide) (fun c18 => ?_) (fun c18 => absurd (by rw [hwk]; exact nI_le (by omega) (by omega)) c18)
        refine f_iload hx hb dX5_landOver_144 hl rfl ?_
        exact q_isp hx hb hr hlk hK hw hS dX5_landOver_146 hsp.symm
      | succ t ih =>
        intro w k zc H locs ls hI hwk hkt hG hsp hw hS hl
        obtain ⟨hD, hDn⟩ := hI.deck hf
        have hGt : tn (sc zc 7 j) = g := by rw [hG]; exact nI_clamp (by omega)
        refine f_iload hx hb dX5_landOver_15 hl rfl ?_
        refine f_iload_n hx hb dX5_landOver_17 hl 3 rfl rfl ?_
        refine lv_icmp_ge (tgt := 144) hx hb dX5_landOver_18 (by decide) (fun c18 => absurd c18 (by rw [hwk]; exact nI_ge (by omega) (by omega))) (fun c18 => ?_)
        refine f_aload hx hb dX5_landOver_21 hl rfl ?_
        refine e_get (C := RX1) (T := TX1) (N := 3) hx hb hts i1 hown hK hw (Ew_ferry (by assumption)) rfl 1 (by decide) (hts (.fieldLink RX5 148 "FerryQuay$Ferry" "vehicles" "LFerryQuay$Row;") (by decide +kernel)) rfl dX5_landOver_23 ?_
        refine e_get (C := RX4) (T := TX4) (N := 2) hx hb hts i4 hown hK hw (Ew_frow (by assumption)) rfl 1 (by decide) (hts (.fieldLink RX5 98 "FerryQuay$Row" "size" "I") (by decide +kernel)) rfl dX5_landOver_26 ?_
        refine f_top (y := nI (dk zc f)) hDn ?_
        by_cases hd : dk zc f = 0
        · refine lv_if_le (tgt := 144) hx hb dX5_landOver_29 (by decide) (fun c29 => ?_) (fun c29 => absurd (by rw [hd]; decide) c29)
          refine f_iload hx hb dX5_landOver_144 hl rfl ?_
          exact q_isp hx hb hr hlk hK hw hS dX5_landOver_146 (hsp.symm.trans (by rw [ll]; exact (if_pos hd)))
        · refine lv_if_le (tgt := 144) hx hb dX5_landOver_29 (by decide) (fun c29 => absurd c29 (nI_nle (by omega) (by omega))) (fun c29 => ?_)
          refine f_aload hx hb dX5_landOver_32 hl rfl ?_
          refine lv_ifnonnull (tgt := 40) hx hb dX5_landOver_34 (by decide) ?_
          refine f_aload hx hb dX5_landOver_40 hl rfl ?_
          refine lv_dup hx hb dX5_landOver_42 rfl ?_
          refine e_get (C := RX2) (T := TX2) (N := 4) hx hb hts i2 hown hK hw (Ew_gate (by assumption)) rfl 2 (by decide) (hts (.fieldLink RX5 101 "FerryQuay$Gate" "taken" "I") (by decide +kernel)) rfl dX5_landOver_43 ?_
          refine lv_iconst (v := 1) hx hb dX5_landOver_46 (by decide) ?_
          refine lv_iadd hx hb dX5_landOver_47 ?_
          refine e_put (C := RX2) (T := TX2) (N := 4) (ty := .int) hx hb hts i2 tyX2 tyX2_ok nmX2 hown hK hw hS (Ew_gate (by assumption)) rfl 2 (by decide) (hts (.fieldLink RX5 101 "FerryQuay$Gate" "taken" "I") (by decide +kernel)) rfl (by decide +kernel) rfl rfl (Nat.le_of_ble_eq_true rfl) dX5_landOver_48 (fun H locs hw hS => ?_)
          have hw := hw.cast (Ep_gate2 (by assumption))
          refine f_aload hx hb dX5_landOver_51 hl rfl ?_
          refine e_get (C := RX2) (T := TX2) (N := 4) hx hb hts i2 hown hK hw (Ew_gate (by assumption)) rfl 1 (by decide) (hts (.fieldLink RX5 78 "FerryQuay$Gate" "isShut" "Z") (by decide +kernel)) rfl dX5_landOver_53 ?_
          refine lv_if_eq (tgt := 62) hx hb dX5_landOver_56 (by decide) (fun c56 => ?_) (fun c56 => ?_)
          · refine f_aload hx hb dX5_landOver_62 hl rfl ?_
            refine q_ci (q_runV (C := RX1) (T := TX1) (N := 3) ⟨hx, hb, hml, hown, hts⟩ (c_X1_weightOfLast l (Ew_ferry hf) (he_size (Ew_frow (s := inc zc 2 g) hf) hDn) (Ew_farr hf) (by decide) (by omega) hD) (cwV 0 hts gX5_landOver_X1_weightOfLast rfl rfl rfl (by decide +kernel) ⟨Nat.le_of_ble_eq_true rfl, Nat.le_of_ble_eq_true rfl⟩) hK hw (Ew_ferry (by assumption)) rfl rfl hl.1 rfl (by simp [Value.category, va_rf]) dX5_landOver_64 ⟨Nat.le_of_ble_eq_true rfl, Nat.le_of_ble_eq_true rfl⟩) hS (fun H locs hw hS => ?_)
            refine f_top (y := zc 15 f (dk zc f - 1)) rfl ?_
            refine f_istore hx hb dX5_landOver_67 hl (by decide) (fun ls hl => ?_)
            refine f_iload hx hb dX5_landOver_69 hl rfl ?_
            refine f_aload_n hx hb dX5_landOver_71 hl 1 rfl rfl ?_
            refine e_get (C := RX3) (T := TX3) (N := 4) hx hb hts i3 hown hK hw (Ew_ramp (by assumption)) rfl 1 (by decide) (hts (.fieldLink RX5 122 "FerryQuay$Ramp" "limit" "I") (by decide +kernel)) rfl dX5_landOver_72 ?_
            refine lv_icmp_le (tgt := 85) hx hb dX5_landOver_75 (by decide) (fun c75 => ?_) (fun c75 => ?_)
            · refine f_aload hx hb dX5_landOver_85 hl rfl ?_
              refine q_cv (q_runV (C := RX1) (T := TX1) (N := 3) ⟨hx, hb, hml, hown, hts⟩ (c_X1_putLastAshore l (Ew_ferry hf) (he_size (Ew_frow (s := inc zc 2 g) hf) hDn) (Ew_farr hf) (by decide) (by omega) hD) (cwV 0 hts gX5_landOver_X1_putLastAshore rfl rfl rfl (by decide +kernel) ⟨Nat.le_of_ble_eq_true rfl, Nat.le_of_ble_eq_true rfl⟩) hK hw (Ew_ferry (by assumption)) rfl rfl hl.1 rfl (by simp [Value.category, va_rf]) dX5_landOver_87 ⟨Nat.le_of_ble_eq_true rfl, Nat.le_of_ble_eq_true rfl⟩) hS (fun H locs hw hS => ?_)
              have hw := hw.cast (Ep_lnd hf rfl)
              refine f_aload_n hx hb dX5_landOver_90 hl 0 rfl rfl ?_
              refine lv_dup hx hb dX5_landOver_91 rfl ?_
              refine e_get (C := RX5) (T := TX5) (N := 10) hx hb hts i5 hown hK hw Ew_fq rfl 7 (by decide) (hts (.fieldLink RX5 157 "FerryQuay" "gone" "I") (by decide +kernel)) rfl dX5_landOver_92 ?_
              refine lv_iconst (v := 1) hx hb dX5_landOver_95 (by decide) ?_
              refine lv_iadd hx hb dX5_landOver_96 ?_
              refine e_put (C := RX5) (T := TX5) (N := 10) (ty := .int) hx hb hts i5 tyX5 tyX5_ok nmX5 hown hK hw hS Ew_fq rfl 7 (by decide) (hts (.fieldLink RX5 157 "FerryQuay" "gone" "I") (by decide +kernel)) rfl (by decide +kernel) rfl rfl (Nat.le_of_ble_eq_true rfl) dX5_landOver_97 (fun H locs hw hS => ?_)
              have hw := hw.cast Ep_fq4
              refine f_iinc (d := 1) hx hb dX5_landOver_100 hl rfl (by decide) (by decide) (fun ls hl => ?_)
              refine f_iload hx hb dX5_landOver_103 hl rfl ?_
              refine lv_if_eq (tgt := 141) hx hb dX5_landOver_105 (by decide) (fun c105 => ?_) (fun c105 => ?_)
              · refine lv_goto (tgt := 15) hx hb dX5_landOver_141 (by decide) ?_
                exact ih (w + 1) (k + 1) _ _ _ _ (((hI.p2 hg).ld hf).t4) (by rw [hwk]; exact nI_1 k) (by omega) hG (Eq.trans (Eq.symm (by rw [ll, hGt]; exact (Eq.trans (if_neg hd) (Eq.trans (if_neg (notm1 hG (by omega))) (Eq.trans (if_pos c56) (Eq.trans (if_neg (Int32.not_lt.mpr c75)) (if_pos c105))))))) hsp) hw hS (hl.list [(0, .ref (ad 0 0)), (1, .ref (ad 2 r)), (2, .ref (ad 3 j)), (3, .int (nI N)), (4, .ref (ad 6 f)), (5, .ref (ad 1 g)), (6, .int (w + 1))] (List.forall_mem_cons.mpr ⟨rfl, List.forall_mem_cons.mpr ⟨rfl, List.forall_mem_cons.mpr ⟨rfl, List.forall_mem_cons.mpr ⟨rfl, List.forall_mem_cons.mpr ⟨rfl, List.forall_mem_cons.mpr ⟨rfl, List.forall_mem_cons.mpr ⟨rfl, fun _ h => absurd h List.not_mem_nil⟩⟩⟩⟩⟩⟩⟩))
              · refine f_iload hx hb dX5_landOver_108 hl rfl ?_
                refine f_aload_n hx hb dX5_landOver_110 hl 1 rfl rfl ?_
                refine e_get (C := RX3) (T := TX3) (N := 4) hx hb hts i3 hown hK hw (Ew_ramp (by assumption)) rfl 1 (by decide) (hts (.fieldLink RX5 122 "FerryQuay$Ramp" "limit" "I") (by decide +kernel)) rfl dX5_landOver_111 ?_
                refine lv_iconst (v := 2) hx hb dX5_landOver_114 (by decide) ?_
                refine lv_idiv hx hb dX5_landOver_115 (by decide) ?_
                refine lv_icmp_gt (tgt := 141) hx hb dX5_landOver_116 (by decide) (fun c116 => ?_) (fun c116 => ?_)
                · refine lv_goto (tgt := 15) hx hb dX5_landOver_141 (by decide) ?_
                  exact ih (w + 1) (k + 1) _ _ _ _ (((hI.p2 hg).ld hf).t4) (by rw [hwk]; exact nI_1 k) (by omega) hG (Eq.trans (Eq.symm (by rw [ll, hGt]; exact (Eq.trans (if_neg hd) (Eq.trans (if_neg (notm1 hG (by omega))) (Eq.trans (if_pos c56) (Eq.trans (if_neg (Int32.not_lt.mpr c75)) (Eq.trans (if_neg c105) (if_pos c116)))))))) hsp) hw hS (hl.list [(0, .ref (ad 0 0)), (1, .ref (ad 2 r)), (2, .ref (ad 3 j)), (3, .int (nI N)), (4, .ref (ad 6 f)), (5, .ref (ad 1 g)), (6, .int (w + 1))] (List.forall_mem_cons.mpr ⟨rfl, List.forall_mem_cons.mpr ⟨rfl, List.forall_mem_cons.mpr ⟨rfl, List.forall_mem_cons.mpr ⟨rfl, List.forall_mem_cons.mpr ⟨rfl, List.forall_mem_cons.mpr ⟨rfl, List.forall_mem_cons.mpr ⟨rfl, fun _ h => absurd h List.not_mem_nil⟩⟩⟩⟩⟩⟩⟩))
                · refine f_aload hx hb dX5_landOver_119 hl rfl ?_
                  refine lv_dup hx hb dX5_landOver_121 rfl ?_
                  refine e_get (C := RX2) (T := TX2) (N := 4) hx hb hts i2 hown hK hw (Ew_gate (by assumption)) rfl 3 (by decide) (hts (.fieldLink RX5 138 "FerryQuay$Gate" "passed" "I") (by decide +kernel)) rfl dX5_landOver_122 ?_
                  refine lv_iconst (v := 1) hx hb dX5_landOver_125 (by decide) ?_
                  refine lv_iadd hx hb dX5_landOver_126 ?_
                  refine e_put (C := RX2) (T := TX2) (N := 4) (ty := .int) hx hb hts i2 tyX2 tyX2_ok nmX2 hown hK hw hS (Ew_gate (by assumption)) rfl 3 (by decide) (hts (.fieldLink RX5 138 "FerryQuay$Gate" "passed" "I") (by decide +kernel)) rfl (by decide +kernel) rfl rfl (Nat.le_of_ble_eq_true rfl) dX5_landOver_127 (fun H locs hw hS => ?_)
                  have hw := hw.cast (Ep_gate3 (by assumption))
                  refine f_aload_n hx hb dX5_landOver_130 hl 1 rfl rfl ?_
                  refine lv_dup hx hb dX5_landOver_131 rfl ?_
                  refine e_get (C := RX3) (T := TX3) (N := 4) hx hb hts i3 hown hK hw (Ew_ramp (by assumption)) rfl 3 (by decide) (hts (.fieldLink RX5 141 "FerryQuay$Ramp" "wear" "I") (by decide +kernel)) rfl dX5_landOver_132 ?_
                  refine f_iload hx hb dX5_landOver_135 hl rfl ?_
                  refine lv_iadd hx hb dX5_landOver_137 ?_
                  refine e_put (C := RX3) (T := TX3) (N := 4) (ty := .int) hx hb hts i3 tyX3 tyX3_ok nmX3 hown hK hw hS (Ew_ramp (by assumption)) rfl 3 (by decide) (hts (.fieldLink RX5 141 "FerryQuay$Ramp" "wear" "I") (by decide +kernel)) rfl (by decide +kernel) rfl rfl (Nat.le_of_ble_eq_true rfl) dX5_landOver_138 (fun H locs hw hS => ?_)
                  have hw := hw.cast (Ep_ramp3 (by assumption))
                  refine lv_goto (tgt := 15) hx hb dX5_landOver_141 (by decide) ?_
                  exact ih (w + 1) (k + 1) _ _ _ _ (((((hI.p2 hg).ld hf).t4).p3 hg).p5 hr2) (by rw [hwk]; exact nI_1 k) (by omega) hG (Eq.trans (Eq.symm (by rw [ll, hGt]; exact (Eq.trans (if_neg hd) (Eq.trans (if_neg (notm1 hG (by omega))) (Eq.trans (if_pos c56) (Eq.trans (if_neg (Int32.not_lt.mpr c75)) (Eq.trans (if_neg c105) (if_neg c116)))))))) hsp) hw hS (hl.list [(0, .ref (ad 0 0)), (1, .ref (ad 2 r)), (2, .ref (ad 3 j)), (3, .int (nI N)), (4, .ref (ad 6 f)), (5, .ref (ad 1 g)), (6, .int (w + 1))] (List.forall_mem_cons.mpr ⟨rfl, List.forall_mem_cons.mpr ⟨rfl, List.forall_mem_cons.mpr ⟨rfl, List.forall_mem_cons.mpr ⟨rfl, List.forall_mem_cons.mpr ⟨rfl, List.forall_mem_cons.mpr ⟨rfl, List.forall_mem_cons.mpr ⟨rfl, fun _ h => absurd h List.not_mem_nil⟩⟩⟩⟩⟩⟩⟩))
            · refine f_aload_n hx hb dX5_landOver_78 hl 0 rfl rfl ?_
              refine lv_bipush (v := (-6)) hx hb dX5_landOver_79 (by decide) ?_
              refine q_ci (q_runV (C := RX5) (T := TX5) (N := 10) ⟨hx, hb, hml, hown, hts⟩ (c_X5_alarm l (hI.p2 hg) (-6)) (cwV 1 hts gX5_landOver_X5_alarm rfl rfl rfl (by decide +kernel) ⟨Nat.le_of_ble_eq_true rfl, Nat.le_of_ble_eq_true rfl⟩) hK hw Ew_fq rfl rfl hl.1 rfl (by simp [Value.category, va_rf]) dX5_landOver_81 ⟨Nat.le_of_ble_eq_true rfl, Nat.le_of_ble_eq_true rfl⟩) hS (fun H locs hw hS => ?_)
              exact q_isp hx hb hr hlk hK hw hS dX5_landOver_84 (hsp.symm.trans (by rw [ll, hGt]; exact (Eq.trans (if_neg hd) (Eq.trans (if_neg (notm1 hG (by omega))) (Eq.trans (if_pos c56) (if_pos (Int32.not_le.mp c75)))))))
          · refine f_iload hx hb dX5_landOver_59 hl rfl ?_
            exact q_isp hx hb hr hlk hK hw hS dX5_landOver_61 (hsp.symm.trans (by rw [ll, hGt]; exact (Eq.trans (if_neg hd) (Eq.trans (if_neg (notm1 hG (by omega))) (if_neg c56)))))
    exact loop N 0 0 z _ _ _ hI rfl (by omega) hG (by rw [hFt]) hw hS (hl.list [(0, .ref (ad 0 0)), (1, .ref (ad 2 r)), (2, .ref (ad 3 j)), (3, .int (nI N)), (4, .ref (ad 6 f)), (5, .ref (ad 1 g)), (6, .int 0)] (List.forall_mem_cons.mpr ⟨rfl, List.forall_mem_cons.mpr ⟨rfl, List.forall_mem_cons.mpr ⟨rfl, List.forall_mem_cons.mpr ⟨rfl, List.forall_mem_cons.mpr ⟨rfl, List.forall_mem_cons.mpr ⟨rfl, List.forall_mem_cons.mpr ⟨rfl, fun _ h => absurd h List.not_mem_nil⟩⟩⟩⟩⟩⟩⟩))
set_option maxHeartbeats 4000000 in
set_option maxRecDepth 100000 in
theorem c_X5_land (l : Launch) {G : va_G} {Y : YT} {lo : Nat} {ad : Nat → Nat → Nat} {ng nr nb : Nat} {z u : St} (hI : Inv z ng nr nb) (x n : Int32) : Met l yX5_land wsX5_land ({ frames := 4, cells := 0, slots := 0, locals := 88 }) (va_Pc [.ref (ad 0 0), .int x, .int n] (cS G (tysY Y) lo (Ew Y ng nr nb z u ad) ad)) (QI G (tysY Y) lo (sp_land nb z x n).1 (Ew Y ng nr nb (sp_land nb z x n).2 u ad) ad) 0 0 (fun q => lo ≤ q) := by
  refine met_of (cc := cX5_land) (maxL := 5) (ret := (some .int)) (by decide) rfl (Nat.le_of_ble_eq_true rfl) rfl ?_
  intro p e s m below meth c ls hx hb hr hlk hml hts hown hnm hw hK hl hS
  have i0 : ∀ w ∈ wsX00, w ∈ wsX5_land := by decide +kernel
  have i3 : ∀ w ∈ wsX30, w ∈ wsX5_land := by decide +kernel
  have i5 : ∀ w ∈ wsX50, w ∈ wsX5_land := by decide +kernel
  have hng := hI.mg
  have hnr := hI.mr
  have hnb := hI.mb
  rcases ix_cases x hI.nb2 with ⟨hix, hbad⟩ | ⟨j, hj, rfl, hix⟩
  · refine f_aload_n hx hb dX5_land_0 hl 0 rfl rfl ?_
    refine f_iload_n hx hb dX5_land_1 hl 1 rfl rfl ?_
    refine q_cq (q_runV (C := RX5) (T := TX5) (N := 10) ⟨hx, hb, hml, hown, hts⟩ (c_X5_berthAt l hI x) (cwV 1 hts gX5_land_X5_berthAt rfl rfl rfl (by decide +kernel) ⟨Nat.le_of_ble_eq_true rfl, Nat.le_of_ble_eq_true rfl⟩) hK hw Ew_fq rfl rfl hl.1 rfl (by simp [Value.category, va_rf]) dX5_land_2 ⟨Nat.le_of_ble_eq_true rfl, Nat.le_of_ble_eq_true rfl⟩) hS (fun H locs hw hS => ?_)
    refine f_val (y := .null) (by rw [hix]; rfl) ?_
    refine f_astore_nN hx hb dX5_land_5 hl 3 rfl (by decide) (fun ls hl => ?_)
    refine f_aload_nN hx hb dX5_land_6 hl 3 rfl rfl ?_
    refine lv_ifnullN (tgt := 20) hx hb dX5_land_7 (by decide) ?_
    refine lv_bipush (v := (-2)) hx hb dX5_land_20 (by decide) ?_
    exact q_isp hx hb hr hlk hK hw hS dX5_land_22 (by rw [sp_land, hix]; exact rfl)
  · by_cases h1 : n < 1
    · refine f_aload_n hx hb dX5_land_0 hl 0 rfl rfl ?_
      refine f_iload_n hx hb dX5_land_1 hl 1 rfl rfl ?_
      refine q_cq (q_runV (C := RX5) (T := TX5) (N := 10) ⟨hx, hb, hml, hown, hts⟩ (c_X5_berthAt l hI (nI j)) (cwV 1 hts gX5_land_X5_berthAt rfl rfl rfl (by decide +kernel) ⟨Nat.le_of_ble_eq_true rfl, Nat.le_of_ble_eq_true rfl⟩) hK hw Ew_fq rfl rfl hl.1 rfl (by simp [Value.category, va_rf]) dX5_land_2 ⟨Nat.le_of_ble_eq_true rfl, Nat.le_of_ble_eq_true rfl⟩) hS (fun H locs hw hS => ?_)
      refine f_val (y := .ref (ad 3 j)) (by rw [hix]; rfl) ?_
      refine f_astore_n hx hb dX5_land_5 hl 3 rfl (by decide) (fun ls hl => ?_)
      refine f_aload_n hx hb dX5_land_6 hl 3 rfl rfl ?_
      refine lv_ifnull hx hb dX5_land_7 ?_
      refine f_iload_n hx hb dX5_land_10 hl 2 rfl rfl ?_
      refine lv_iconst (v := 1) hx hb dX5_land_11 (by decide) ?_
      refine lv_bipush (v := 40) hx hb dX5_land_12 (by decide) ?_
      refine q_ci (q_runS ⟨hx, hb, hml, hown, hts⟩ (c_X5_isWithin l n 1 40) (va_cwS 3 hts gX5_land_X5_isWithin rfl rfl rfl (by decide +kernel) ⟨Nat.le_of_ble_eq_true rfl, Nat.le_of_ble_eq_true rfl⟩) hK hw rfl hl.1 rfl (by simp [Value.category, va_rf]) dX5_land_14 ⟨Nat.le_of_ble_eq_true rfl, Nat.le_of_ble_eq_true rfl⟩) hS (fun H locs hw hS => ?_)
      refine f_top (y := 0) (if_pos h1) ?_
      refine lv_if_ne (tgt := 23) hx hb dX5_land_17 (by decide) (fun c17 => absurd (by decide) c17) (fun c17 => ?_)
      refine lv_bipush (v := (-2)) hx hb dX5_land_20 (by decide) ?_
      exact q_isp hx hb hr hlk hK hw hS dX5_land_22 (by rw [sp_land, hix]; dsimp only [Option.elim]; exact (if_pos h1))
    · by_cases h2 : 40 < n
      · refine f_aload_n hx hb dX5_land_0 hl 0 rfl rfl ?_
        refine f_iload_n hx hb dX5_land_1 hl 1 rfl rfl ?_
        refine q_cq (q_runV (C := RX5) (T := TX5) (N := 10) ⟨hx, hb, hml, hown, hts⟩ (c_X5_berthAt l hI (nI j)) (cwV 1 hts gX5_land_X5_berthAt rfl rfl rfl (by decide +kernel) ⟨Nat.le_of_ble_eq_true rfl, Nat.le_of_ble_eq_true rfl⟩) hK hw Ew_fq rfl rfl hl.1 rfl (by simp [Value.category, va_rf]) dX5_land_2 ⟨Nat.le_of_ble_eq_true rfl, Nat.le_of_ble_eq_true rfl⟩) hS (fun H locs hw hS => ?_)
        refine f_val (y := .ref (ad 3 j)) (by rw [hix]; rfl) ?_
        refine f_astore_n hx hb dX5_land_5 hl 3 rfl (by decide) (fun ls hl => ?_)
        refine f_aload_n hx hb dX5_land_6 hl 3 rfl rfl ?_
        refine lv_ifnull hx hb dX5_land_7 ?_
        refine f_iload_n hx hb dX5_land_10 hl 2 rfl rfl ?_
        refine lv_iconst (v := 1) hx hb dX5_land_11 (by decide) ?_
        refine lv_bipush (v := 40) hx hb dX5_land_12 (by decide) ?_
        refine q_ci (q_runS ⟨hx, hb, hml, hown, hts⟩ (c_X5_isWithin l n 1 40) (va_cwS 3 hts gX5_land_X5_isWithin rfl rfl rfl (by decide +kernel) ⟨Nat.le_of_ble_eq_true rfl, Nat.le_of_ble_eq_true rfl⟩) hK hw rfl hl.1 rfl (by simp [Value.category, va_rf]) dX5_land_14 ⟨Nat.le_of_ble_eq_true rfl, Nat.le_of_ble_eq_true rfl⟩) hS (fun H locs hw hS => ?_)
        refine f_top (y := 0) (Eq.trans (if_neg h1) (if_pos h2)) ?_
        refine lv_if_ne (tgt := 23) hx hb dX5_land_17 (by decide) (fun c17 => absurd (by decide) c17) (fun c17 => ?_)
        refine lv_bipush (v := (-2)) hx hb dX5_land_20 (by decide) ?_
        exact q_isp hx hb hr hlk hK hw hS dX5_land_22 (by rw [sp_land, hix]; dsimp only [Option.elim]; exact (Eq.trans (if_neg h1) (if_pos h2)))
      · obtain ⟨N, hN, rfl⟩ := rng_of (M := 40) (m := 40) (by decide) h1 h2
        rcases hI.ramp hj with hR | ⟨r, hr2, hR, hRt⟩
        · refine f_aload_n hx hb dX5_land_0 hl 0 rfl rfl ?_
          refine f_iload_n hx hb dX5_land_1 hl 1 rfl rfl ?_
          refine q_cq (q_runV (C := RX5) (T := TX5) (N := 10) ⟨hx, hb, hml, hown, hts⟩ (c_X5_berthAt l hI (nI j)) (cwV 1 hts gX5_land_X5_berthAt rfl rfl rfl (by decide +kernel) ⟨Nat.le_of_ble_eq_true rfl, Nat.le_of_ble_eq_true rfl⟩) hK hw Ew_fq rfl rfl hl.1 rfl (by simp [Value.category, va_rf]) dX5_land_2 ⟨Nat.le_of_ble_eq_true rfl, Nat.le_of_ble_eq_true rfl⟩) hS (fun H locs hw hS => ?_)
          refine f_val (y := .ref (ad 3 j)) (by rw [hix]; rfl) ?_
          refine f_astore_n hx hb dX5_land_5 hl 3 rfl (by decide) (fun ls hl => ?_)
          refine f_aload_n hx hb dX5_land_6 hl 3 rfl rfl ?_
          refine lv_ifnull hx hb dX5_land_7 ?_
          refine f_iload_n hx hb dX5_land_10 hl 2 rfl rfl ?_
          refine lv_iconst (v := 1) hx hb dX5_land_11 (by decide) ?_
          refine lv_bipush (v := 40) hx hb dX5_land_12 (by decide) ?_
          refine q_ci (q_runS ⟨hx, hb, hml, hown, hts⟩ (c_X5_isWithin l (nI N) 1 40) (va_cwS 3 hts gX5_land_X5_isWithin rfl rfl rfl (by decide +kernel) ⟨Nat.le_of_ble_eq_true rfl, Nat.le_of_ble_eq_true rfl⟩) hK hw rfl hl.1 rfl (by simp [Value.category, va_rf]) dX5_land_14 ⟨Nat.le_of_ble_eq_true rfl, Nat.le_of_ble_eq_true rfl⟩) hS (fun H locs hw hS => ?_)
          refine f_top (y := 1) (Eq.trans (if_neg h1) (if_neg h2)) ?_
          refine lv_if_ne (tgt := 23) hx hb dX5_land_17 (by decide) (fun c17 => ?_) (fun c17 => absurd c17 (by decide))
          refine f_aload_n hx hb dX5_land_23 hl 3 rfl rfl ?_
          refine e_get (C := RX0) (T := TX0) (N := 4) hx hb hts i0 hown hK hw (Ew_berth (by assumption)) rfl 3 (by decide) (hts (.fieldLink RX5 71 "FerryQuay$Berth" "ramp" "LFerryQuay$Ramp;") (by decide +kernel)) rfl dX5_land_24 ?_
          refine f_val (orefN hR) ?_
          refine f_astoreN hx hb dX5_land_27 hl (by decide) (fun ls hl => ?_)
          refine f_aloadN hx hb dX5_land_29 hl rfl ?_
          refine lv_ifnonnullN hx hb dX5_land_31 ?_
          refine lv_bipush (v := (-4)) hx hb dX5_land_34 (by decide) ?_
          exact q_isp hx hb hr hlk hK hw hS dX5_land_36 (by rw [sp_land, hix]; dsimp only [Option.elim]; exact (Eq.trans (if_neg h1) (Eq.trans (if_neg h2) (if_pos hR))))
        · refine f_aload_n hx hb dX5_land_0 hl 0 rfl rfl ?_
          refine f_iload_n hx hb dX5_land_1 hl 1 rfl rfl ?_
          refine q_cq (q_runV (C := RX5) (T := TX5) (N := 10) ⟨hx, hb, hml, hown, hts⟩ (c_X5_berthAt l hI (nI j)) (cwV 1 hts gX5_land_X5_berthAt rfl rfl rfl (by decide +kernel) ⟨Nat.le_of_ble_eq_true rfl, Nat.le_of_ble_eq_true rfl⟩) hK hw Ew_fq rfl rfl hl.1 rfl (by simp [Value.category, va_rf]) dX5_land_2 ⟨Nat.le_of_ble_eq_true rfl, Nat.le_of_ble_eq_true rfl⟩) hS (fun H locs hw hS => ?_)
          refine f_val (y := .ref (ad 3 j)) (by rw [hix]; rfl) ?_
          refine f_astore_n hx hb dX5_land_5 hl 3 rfl (by decide) (fun ls hl => ?_)
          refine f_aload_n hx hb dX5_land_6 hl 3 rfl rfl ?_
          refine lv_ifnull hx hb dX5_land_7 ?_
          refine f_iload_n hx hb dX5_land_10 hl 2 rfl rfl ?_
          refine lv_iconst (v := 1) hx hb dX5_land_11 (by decide) ?_
          refine lv_bipush (v := 40) hx hb dX5_land_12 (by decide) ?_
          refine q_ci (q_runS ⟨hx, hb, hml, hown, hts⟩ (c_X5_isWithin l (nI N) 1 40) (va_cwS 3 hts gX5_land_X5_isWithin rfl rfl rfl (by decide +kernel) ⟨Nat.le_of_ble_eq_true rfl, Nat.le_of_ble_eq_true rfl⟩) hK hw rfl hl.1 rfl (by simp [Value.category, va_rf]) dX5_land_14 ⟨Nat.le_of_ble_eq_true rfl, Nat.le_of_ble_eq_true rfl⟩) hS (fun H locs hw hS => ?_)
          refine f_top (y := 1) (Eq.trans (if_neg h1) (if_neg h2)) ?_
          refine lv_if_ne (tgt := 23) hx hb dX5_land_17 (by decide) (fun c17 => ?_) (fun c17 => absurd c17 (by decide))
          refine f_aload_n hx hb dX5_land_23 hl 3 rfl rfl ?_
          refine e_get (C := RX0) (T := TX0) (N := 4) hx hb hts i0 hown hK hw (Ew_berth (by assumption)) rfl 3 (by decide) (hts (.fieldLink RX5 71 "FerryQuay$Berth" "ramp" "LFerryQuay$Ramp;") (by decide +kernel)) rfl dX5_land_24 ?_
          refine f_val (orefR hR (by omega)) ?_
          refine f_astore hx hb dX5_land_27 hl (by decide) (fun ls hl => ?_)
          refine f_aload hx hb dX5_land_29 hl rfl ?_
          refine lv_ifnonnull (tgt := 37) hx hb dX5_land_31 (by decide) ?_
          refine f_aload hx hb dX5_land_37 hl rfl ?_
          refine lv_dup hx hb dX5_land_39 rfl ?_
          refine e_get (C := RX3) (T := TX3) (N := 4) hx hb hts i3 hown hK hw (Ew_ramp (by assumption)) rfl 2 (by decide) (hts (.fieldLink RX5 108 "FerryQuay$Ramp" "taken" "I") (by decide +kernel)) rfl dX5_land_40 ?_
          refine lv_iconst (v := 1) hx hb dX5_land_43 (by decide) ?_
          refine lv_iadd hx hb dX5_land_44 ?_
          refine e_put (C := RX3) (T := TX3) (N := 4) (ty := .int) hx hb hts i3 tyX3 tyX3_ok nmX3 hown hK hw hS (Ew_ramp (by assumption)) rfl 2 (by decide) (hts (.fieldLink RX5 108 "FerryQuay$Ramp" "taken" "I") (by decide +kernel)) rfl (by decide +kernel) rfl rfl (Nat.le_of_ble_eq_true rfl) dX5_land_45 (fun H locs hw hS => ?_)
          have hw := hw.cast (Ep_ramp2 (by assumption))
          refine f_aload_n hx hb dX5_land_48 hl 0 rfl rfl ?_
          refine f_aload hx hb dX5_land_49 hl rfl ?_
          refine f_aload_n hx hb dX5_land_51 hl 3 rfl rfl ?_
          refine f_iload_n hx hb dX5_land_52 hl 2 rfl rfl ?_
          refine q_ci (q_runV (C := RX5) (T := TX5) (N := 10) ⟨hx, hb, hml, hown, hts⟩ (c_X5_landOver l (z := inc z 6 r) (hI.p6 hr2) hj hr2 hN) (cwV 3 hts gX5_land_X5_landOver rfl rfl rfl (by decide +kernel) ⟨Nat.le_of_ble_eq_true rfl, Nat.le_of_ble_eq_true rfl⟩) hK hw Ew_fq rfl rfl hl.1 rfl (by simp [Value.category, va_rf]) dX5_land_53 ⟨Nat.le_of_ble_eq_true rfl, Nat.le_of_ble_eq_true rfl⟩) hS (fun H locs hw hS => ?_)
          exact q_isp hx hb hr hlk hK hw hS dX5_land_56 (by rw [sp_land, hix]; dsimp only [Option.elim]; rw [hRt, show tn (nI N) = N from nI_clamp (by omega)]; exact (Eq.trans (if_neg h1) (Eq.trans (if_neg h2) (if_neg (notm1 hR (by omega))))))
end
section
set_option maxHeartbeats 4000000 in
set_option maxRecDepth 100000 in
theorem c_X5_shiftThrough (l : Launch) {G : va_G} {Y : YT} {lo : Nat} {ad : Nat → Nat → Nat} {ng nr nb : Nat} {z u : St} (hI : Inv z ng nr nb) {i j g N : Nat} (hi : i < nb) (hj : j < nb) (hij : i ≠ j) (hg : g < ng) (hN : N ≤ 30) : Met l yX5_shiftThrough wsX5_shiftThrough ({ frames := 2, cells := 0, slots := 0, locals := 50 }) (va_Pc [.ref (ad 0 0), .ref (ad 1 g), .ref (ad 4 i), .ref (ad 3 j), .int (nI N)] (cS G (tysY Y) lo (Ew Y ng nr nb z u ad) ad)) (QI G (tysY Y) lo (sl i j g (nI N) N 0 z).1 (Ew Y ng nr nb (sl i j g (nI N) N 0 z).2 u ad) ad) 0 0 (fun q => lo ≤ q) := by
  refine met_of (cc := cX5_shiftThrough) (maxL := 7) (ret := (some .int)) (by decide) rfl (Nat.le_of_ble_eq_true rfl) rfl ?_
  intro p e s m below meth c ls hx hb hr hlk hml hts hown hnm hw hK hl hS
  have i0 : ∀ w ∈ wsX00, w ∈ wsX5_shiftThrough := by decide +kernel
  have i2 : ∀ w ∈ wsX20, w ∈ wsX5_shiftThrough := by decide +kernel
  have i4 : ∀ w ∈ wsX40, w ∈ wsX5_shiftThrough := by decide +kernel
  have hng := hI.mg
  have hnr := hI.mr
  have hnb := hI.mb
  rcases hI.gate hj with hG | ⟨h, hh, hG, hGt⟩
  · refine f_aload_n hx hb dX5_shiftThrough_0 hl 3 rfl rfl ?_
    refine e_get (C := RX0) (T := TX0) (N := 4) hx hb hts i0 hown hK hw (Ew_berth (by assumption)) rfl 2 (by decide) (hts (.fieldLink RX5 60 "FerryQuay$Berth" "gate" "LFerryQuay$Gate;") (by decide +kernel)) rfl dX5_shiftThrough_1 ?_
    refine f_val (orefN hG) ?_
    refine f_astoreN hx hb dX5_shiftThrough_4 hl (by decide) (fun ls hl => ?_)
    refine lv_iconst (v := 0) hx hb dX5_shiftThrough_6 (by decide) ?_
    refine f_istore hx hb dX5_shiftThrough_7 hl (by decide) (fun ls hl => ?_)
    have loop : ∀ (t : Nat) (w : Int32) (k : Nat) (zc : St) (H : Heap) (locs : List Loc) (ls : Array Slot), Inv zc ng nr nb → w = nI k → k + t = N → sc zc 7 j = -1 → sl i j g (nI N) t w zc = sl i j g (nI N) N 0 z → wo G lo (Ew Y ng nr nb zc u ad) ad H → va_S (fun q => lo ≤ q) s.heap H locs → lh ls 7 (fun i9 => ([(0, .ref (ad 0 0)), (1, .ref (ad 1 g)), (2, .ref (ad 4 i)), (3, .ref (ad 3 j)), (4, .int (nI N)), (5, .null), (6, .int w)].find? (fun q => q.1 == i9)).map (fun q => q.2)) → W p l e (headSpec wsX5_shiftThrough ({ frames := 2, cells := 0, slots := 0, locals := 50 })).room s m ([.ref (ad 0 0), .ref (ad 1 g), .ref (ad 4 i), .ref (ad 3 j), .int (nI N)] : List Value).toArray below meth c H locs 0 0 (MQ below (QI G (tysY Y) lo (sl i j g (nI N) N 0 z).1 (Ew Y ng nr nb (sl i j g (nI N) N 0 z).2 u ad) ad) ([.ref (ad 0 0), .ref (ad 1 g), .ref (ad 4 i), .ref (ad 3 j), .int (nI N)] : List Value).toArray s 0 0 (fun q => lo ≤ q)) (F0 m 9 ls []) := by
      intro t
      induction t with
      | zero =>
        intro w k zc H locs ls hI hwk hkt hG hsp hw hS hl
        obtain ⟨hL, hLn⟩ := hI.lane hj
        obtain ⟨hM, hMn⟩ := hI.lane hi
        refine f_iload hx hb dX5_shiftThrough_9 hl rfl ?_
        refine f_iload hx hb dX5_shiftThrough_11 hl rfl ?_
        refine lv_icmp_ge (tgt := 106) hx hb dX5_shiftThrough_13 (by decide) (fun c13 => ?_) (fun c13 => absurd (by rw [hwk]; exact nI_le (by omega) (by omega)) c13)
        refine f_iload hx hb dX5_shiftThrough_106 hl rfl ?_
        exact q_isp hx hb hr hlk hK hw hS dX5_shiftThrough_108 hsp.symm
      | succ t ih =>
        intro w k zc H locs ls hI hwk hkt hG hsp hw hS hl
        obtain ⟨hL, hLn⟩ := hI.lane hj
        obtain ⟨hM, hMn⟩ := hI.lane hi
        refine f_iload hx hb dX5_shiftThrough_9 hl rfl ?_
        refine f_iload hx hb dX5_shiftThrough_11 hl rfl ?_
        refine lv_icmp_ge (tgt := 106) hx hb dX5_shiftThrough_13 (by decide) (fun c13 => absurd c13 (by rw [hwk]; exact nI_ge (by omega) (by omega))) (fun c13 => ?_)
        refine f_aloadN hx hb dX5_shiftThrough_16 hl rfl ?_
        refine lv_ifnonnullN hx hb dX5_shiftThrough_18 ?_
        refine lv_bipush (v := (-4)) hx hb dX5_shiftThrough_21 (by decide) ?_
        exact q_isp hx hb hr hlk hK hw hS dX5_shiftThrough_23 (hsp.symm.trans (by rw [sl]; exact (if_pos hG)))
    exact loop N 0 0 z _ _ _ hI rfl (by omega) hG rfl hw hS (hl.list [(0, .ref (ad 0 0)), (1, .ref (ad 1 g)), (2, .ref (ad 4 i)), (3, .ref (ad 3 j)), (4, .int (nI N)), (5, .null), (6, .int 0)] (List.forall_mem_cons.mpr ⟨rfl, List.forall_mem_cons.mpr ⟨rfl, List.forall_mem_cons.mpr ⟨rfl, List.forall_mem_cons.mpr ⟨rfl, List.forall_mem_cons.mpr ⟨rfl, List.forall_mem_cons.mpr ⟨rfl, List.forall_mem_cons.mpr ⟨rfl, fun _ h => absurd h List.not_mem_nil⟩⟩⟩⟩⟩⟩⟩))
  · refine f_aload_n hx hb dX5_shiftThrough_0 hl 3 rfl rfl ?_
    refine e_get (C := RX0) (T := TX0) (N := 4) hx hb hts i0 hown hK hw (Ew_berth (by assumption)) rfl 2 (by decide) (hts (.fieldLink RX5 60 "FerryQuay$Berth" "gate" "LFerryQuay$Gate;") (by decide +kernel)) rfl dX5_shiftThrough_1 ?_
    refine f_val (orefR hG (by omega)) ?_
    refine f_astore hx hb dX5_shiftThrough_4 hl (by decide) (fun ls hl => ?_)
    refine lv_iconst (v := 0) hx hb dX5_shiftThrough_6 (by decide) ?_
    refine f_istore hx hb dX5_shiftThrough_7 hl (by decide) (fun ls hl => ?_)
    have loop : ∀ (t : Nat) (w : Int32) (k : Nat) (zc : St) (H : Heap) (locs : List Loc) (ls : Array Slot), Inv zc ng nr nb → w = nI k → k + t = N → sc zc 7 j = nI h → sl i j g (nI N) t w zc = sl i j g (nI N) N 0 z → wo G lo (Ew Y ng nr nb zc u ad) ad H → va_S (fun q => lo ≤ q) s.heap H locs → lh ls 7 (fun i9 => ([(0, .ref (ad 0 0)), (1, .ref (ad 1 g)), (2, .ref (ad 4 i)), (3, .ref (ad 3 j)), (4, .int (nI N)), (5, .ref (ad 1 h)), (6, .int w)].find? (fun q => q.1 == i9)).map (fun q => q.2)) → W p l e (headSpec wsX5_shiftThrough ({ frames := 2, cells := 0, slots := 0, locals := 50 })).room s m ([.ref (ad 0 0), .ref (ad 1 g), .ref (ad 4 i), .ref (ad 3 j), .int (nI N)] : List Value).toArray below meth c H locs 0 0 (MQ below (QI G (tysY Y) lo (sl i j g (nI N) N 0 z).1 (Ew Y ng nr nb (sl i j g (nI N) N 0 z).2 u ad) ad) ([.ref (ad 0 0), .ref (ad 1 g), .ref (ad 4 i), .ref (ad 3 j), .int (nI N)] : List Value).toArray s 0 0 (fun q => lo ≤ q)) (F0 m 9 ls []) := by
      intro t
      induction t with
      | zero =>
        intro w k zc H locs ls hI hwk hkt hG hsp hw hS hl
        obtain ⟨hL, hLn⟩ := hI.lane hj
        obtain ⟨hM, hMn⟩ := hI.lane hi
        have hGt : tn (sc zc 7 j) = h := by rw [hG]; exact nI_clamp (by omega)
        refine f_iload hx hb dX5_shiftThrough_9 hl rfl ?_
        refine f_iload hx hb dX5_shiftThrough_11 hl rfl ?_
        refine lv_icmp_ge (tgt := 106) hx hb dX5_shiftThrough_13 (by decide) (fun c13 => ?_) (fun c13 => absurd (by rw [hwk]; exact nI_le (by omega) (by omega)) c13)
        refine f_iload hx hb dX5_shiftThrough_106 hl rfl ?_
        exact q_isp hx hb hr hlk hK hw hS dX5_shiftThrough_108 hsp.symm
      | succ t ih =>
        intro w k zc H locs ls hI hwk hkt hG hsp hw hS hl
        obtain ⟨hL, hLn⟩ := hI.lane hj
        obtain ⟨hM, hMn⟩ := hI.lane hi
        have hGt : tn (sc zc 7 j) = h := by rw [hG]; exact nI_clamp (by omega)
        refine f_iload hx hb dX5_shiftThrough_9 hl rfl ?_
        refine f_iload hx hb dX5_shiftThrough_11 hl rfl ?_
        refine lv_icmp_ge (tgt := 106) hx hb dX5_shiftThrough_13 (by decide) (fun c13 => absurd c13 (by rw [hwk]; exact nI_ge (by omega) (by omega))) (fun c13 => ?_)
        refine f_aload hx hb dX5_shiftThrough_16 hl rfl ?_
        refine lv_ifnonnull (tgt := 24) hx hb dX5_shiftThrough_18 (by decide) ?_
        refine f_aload hx hb dX5_shiftThrough_24 hl rfl ?_
        refine lv_dup hx hb dX5_shiftThrough_26 rfl ?_
        refine e_get (C := RX2) (T := TX2) (N := 4) hx hb hts i2 hown hK hw (Ew_gate (by assumption)) rfl 2 (by decide) (hts (.fieldLink RX5 101 "FerryQuay$Gate" "taken" "I") (by decide +kernel)) rfl dX5_shiftThrough_27 ?_
        refine lv_iconst (v := 1) hx hb dX5_shiftThrough_30 (by decide) ?_
        refine lv_iadd hx hb dX5_shiftThrough_31 ?_
        refine e_put (C := RX2) (T := TX2) (N := 4) (ty := .int) hx hb hts i2 tyX2 tyX2_ok nmX2 hown hK hw hS (Ew_gate (by assumption)) rfl 2 (by decide) (hts (.fieldLink RX5 101 "FerryQuay$Gate" "taken" "I") (by decide +kernel)) rfl (by decide +kernel) rfl rfl (Nat.le_of_ble_eq_true rfl) dX5_shiftThrough_32 (fun H locs hw hS => ?_)
        have hw := hw.cast (Ep_gate2 (by assumption))
        refine f_aload hx hb dX5_shiftThrough_35 hl rfl ?_
        refine e_get (C := RX2) (T := TX2) (N := 4) hx hb hts i2 hown hK hw (Ew_gate (by assumption)) rfl 1 (by decide) (hts (.fieldLink RX5 78 "FerryQuay$Gate" "isShut" "Z") (by decide +kernel)) rfl dX5_shiftThrough_37 ?_
        refine lv_if_ne (tgt := 60) hx hb dX5_shiftThrough_40 (by decide) (fun c40 => ?_) (fun c40 => ?_)
        · refine f_iload hx hb dX5_shiftThrough_60 hl rfl ?_
          exact q_isp hx hb hr hlk hK hw hS dX5_shiftThrough_62 (hsp.symm.trans (by rw [sl, hGt]; exact (Eq.trans (if_neg (notm1 hG (by omega))) (if_neg c40))))
        · refine f_aload_n hx hb dX5_shiftThrough_43 hl 3 rfl rfl ?_
          refine e_get (C := RX0) (T := TX0) (N := 4) hx hb hts i0 hown hK hw (Ew_berth (by assumption)) rfl 0 (by decide) (hts (.fieldLink RX5 82 "FerryQuay$Berth" "lane" "LFerryQuay$Row;") (by decide +kernel)) rfl dX5_shiftThrough_44 ?_
          refine q_ci (q_runV (C := RX4) (T := TX4) (N := 2) ⟨hx, hb, hml, hown, hts⟩ (c_X4_isFull l (he_size (Ew_lane (s := inc zc 2 h) hj) hLn) (Ew_larr hj) (by decide) hL) (cwV 0 hts gX5_shiftThrough_X4_isFull rfl rfl rfl (by decide +kernel) ⟨Nat.le_of_ble_eq_true rfl, Nat.le_of_ble_eq_true rfl⟩) hK hw (Ew_lane (by assumption)) rfl rfl hl.1 rfl (by simp [Value.category, va_rf]) dX5_shiftThrough_47 ⟨Nat.le_of_ble_eq_true rfl, Nat.le_of_ble_eq_true rfl⟩) hS (fun H locs hw hS => ?_)
          by_cases hq : ln zc j = 30
          · refine f_top (y := 1) (if_neg (by omega)) ?_
            refine lv_if_ne (tgt := 60) hx hb dX5_shiftThrough_50 (by decide) (fun c50 => ?_) (fun c50 => absurd c50 (by decide))
            refine f_iload hx hb dX5_shiftThrough_60 hl rfl ?_
            exact q_isp hx hb hr hlk hK hw hS dX5_shiftThrough_62 (hsp.symm.trans (by rw [sl, hGt]; exact (Eq.trans (if_neg (notm1 hG (by omega))) (Eq.trans (if_pos c40) (if_pos hq)))))
          · refine f_top (y := 0) (if_pos (by omega)) ?_
            refine lv_if_ne (tgt := 60) hx hb dX5_shiftThrough_50 (by decide) (fun c50 => absurd (by decide) c50) (fun c50 => ?_)
            refine f_aload_n hx hb dX5_shiftThrough_53 hl 2 rfl rfl ?_
            refine e_get (C := RX4) (T := TX4) (N := 2) hx hb hts i4 hown hK hw (Ew_lane (by assumption)) rfl 1 (by decide) (hts (.fieldLink RX5 98 "FerryQuay$Row" "size" "I") (by decide +kernel)) rfl dX5_shiftThrough_54 ?_
            refine f_top (y := nI (ln zc i)) hMn ?_
            by_cases he : ln zc i = 0
            · refine lv_if_ne (tgt := 63) hx hb dX5_shiftThrough_57 (by decide) (fun c57 => absurd (by rw [he]; rfl) c57) (fun c57 => ?_)
              refine f_iload hx hb dX5_shiftThrough_60 hl rfl ?_
              exact q_isp hx hb hr hlk hK hw hS dX5_shiftThrough_62 (hsp.symm.trans (by rw [sl, hGt]; exact (Eq.trans (if_neg (notm1 hG (by omega))) (Eq.trans (if_pos c40) (Eq.trans (if_neg hq) (if_pos he))))))
            · refine lv_if_ne (tgt := 63) hx hb dX5_shiftThrough_57 (by decide) (fun c57 => ?_) (fun c57 => absurd c57 (nI_ne0 (by omega) (by omega)))
              refine f_aload_n hx hb dX5_shiftThrough_63 hl 3 rfl rfl ?_
              refine e_get (C := RX0) (T := TX0) (N := 4) hx hb hts i0 hown hK hw (Ew_berth (by assumption)) rfl 0 (by decide) (hts (.fieldLink RX5 82 "FerryQuay$Berth" "lane" "LFerryQuay$Row;") (by decide +kernel)) rfl dX5_shiftThrough_64 ?_
              refine f_aload_n hx hb dX5_shiftThrough_67 hl 2 rfl rfl ?_
              refine lv_iconst (v := 0) hx hb dX5_shiftThrough_68 (by decide) ?_
              refine f_top (y := nI 0) rfl ?_
              refine q_ci (q_runV (C := RX4) (T := TX4) (N := 2) ⟨hx, hb, hml, hown, hts⟩ (c_X4_weightAt l (he_size (Ew_lane (s := inc zc 2 h) hi) hMn) (Ew_larr hi) (by decide) (nI 0)) (cwV 1 hts gX5_shiftThrough_X4_weightAt rfl rfl rfl (by decide +kernel) ⟨Nat.le_of_ble_eq_true rfl, Nat.le_of_ble_eq_true rfl⟩) hK hw (Ew_lane (by assumption)) rfl rfl hl.1 rfl (by simp [Value.category, va_rf]) dX5_shiftThrough_69 ⟨Nat.le_of_ble_eq_true rfl, Nat.le_of_ble_eq_true rfl⟩) hS (fun H locs hw hS => ?_)
              refine f_top (y := zc 11 i 0) (wAt_in (by omega) hM (by decide)) ?_
              refine q_cv (q_runV (C := RX4) (T := TX4) (N := 2) ⟨hx, hb, hml, hown, hts⟩ (c_X4_addLast l (he_size (Ew_lane (s := inc zc 2 h) hj) hLn) (Ew_larr hj) (by decide) (zc 11 i 0) (by omega)) (cwV 1 hts gX5_shiftThrough_X4_addLast rfl rfl rfl (by decide +kernel) ⟨Nat.le_of_ble_eq_true rfl, Nat.le_of_ble_eq_true rfl⟩) hK hw (Ew_lane (by assumption)) rfl rfl hl.1 rfl (by simp [Value.category, va_rf]) dX5_shiftThrough_72 ⟨Nat.le_of_ble_eq_true rfl, Nat.le_of_ble_eq_true rfl⟩) hS (fun H locs hw hS => ?_)
              have hw := hw.cast (Ep_comes hj rfl)
              refine f_aload_n hx hb dX5_shiftThrough_75 hl 2 rfl rfl ?_
              refine q_cv (q_runV (C := RX4) (T := TX4) (N := 2) ⟨hx, hb, hml, hown, hts⟩ (c_X4_removeFirst l (he_size (Ew_lane (s := comes (inc zc 2 h) j (zc 11 i 0)) hi) ((sc_i hij).trans hMn)) (Ew_larr hi) (by decide) (by omega) hM) (cwV 0 hts gX5_shiftThrough_X4_removeFirst rfl rfl rfl (by decide +kernel) ⟨Nat.le_of_ble_eq_true rfl, Nat.le_of_ble_eq_true rfl⟩) hK hw (Ew_lane (by assumption)) rfl rfl hl.1 rfl (by simp [Value.category, va_rf]) dX5_shiftThrough_76 ⟨Nat.le_of_ble_eq_true rfl, Nat.le_of_ble_eq_true rfl⟩) hS (fun H locs hw hS => ?_)
              have hw := hw.cast (Ep_goes hi (show tn (sc (comes (inc zc 2 h) j (zc 11 i 0)) 10 i) = _ from congrArg tn (sc_i hij)))
              rw [goes_comes hij] at hw
              have lj : ln (goes (inc zc 2 h) i) j = ln zc j := congrArg tn (show sc (us (inc zc 2 h) 10 i (nI (ln (inc zc 2 h) i - 1))) 10 j = _ from sc_i (fun q => hij q.symm))
              refine f_aload_n hx hb dX5_shiftThrough_79 hl 1 rfl rfl ?_
              refine lv_dup hx hb dX5_shiftThrough_80 rfl ?_
              refine e_get (C := RX2) (T := TX2) (N := 4) hx hb hts i2 hown hK hw (Ew_gate (by assumption)) rfl 3 (by decide) (hts (.fieldLink RX5 138 "FerryQuay$Gate" "passed" "I") (by decide +kernel)) rfl dX5_shiftThrough_81 ?_
              refine lv_iconst (v := 1) hx hb dX5_shiftThrough_84 (by decide) ?_
              refine lv_iadd hx hb dX5_shiftThrough_85 ?_
              refine e_put (C := RX2) (T := TX2) (N := 4) (ty := .int) hx hb hts i2 tyX2 tyX2_ok nmX2 hown hK hw hS (Ew_gate (by assumption)) rfl 3 (by decide) (hts (.fieldLink RX5 138 "FerryQuay$Gate" "passed" "I") (by decide +kernel)) rfl (by decide +kernel) rfl rfl (Nat.le_of_ble_eq_true rfl) dX5_shiftThrough_86 (fun H locs hw hS => ?_)
              have hw := hw.cast (Ep_gate3 (by assumption))
              refine f_aload hx hb dX5_shiftThrough_89 hl rfl ?_
              refine lv_dup hx hb dX5_shiftThrough_91 rfl ?_
              refine e_get (C := RX2) (T := TX2) (N := 4) hx hb hts i2 hown hK hw (Ew_gate (by assumption)) rfl 3 (by decide) (hts (.fieldLink RX5 138 "FerryQuay$Gate" "passed" "I") (by decide +kernel)) rfl dX5_shiftThrough_92 ?_
              refine lv_iconst (v := 1) hx hb dX5_shiftThrough_95 (by decide) ?_
              refine lv_iadd hx hb dX5_shiftThrough_96 ?_
              refine e_put (C := RX2) (T := TX2) (N := 4) (ty := .int) hx hb hts i2 tyX2 tyX2_ok nmX2 hown hK hw hS (Ew_gate (by assumption)) rfl 3 (by decide) (hts (.fieldLink RX5 138 "FerryQuay$Gate" "passed" "I") (by decide +kernel)) rfl (by decide +kernel) rfl rfl (Nat.le_of_ble_eq_true rfl) dX5_shiftThrough_97 (fun H locs hw hS => ?_)
              have hw := hw.cast (Ep_gate3 (by assumption))
              refine f_iinc (d := 1) hx hb dX5_shiftThrough_100 hl rfl (by decide) (by decide) (fun ls hl => ?_)
              refine lv_goto (tgt := 9) hx hb dX5_shiftThrough_103 (by decide) ?_
              exact ih (w + 1) (k + 1) _ _ _ _ ((((((hI.p2 hh).gs hi).cm hj (by show ln (goes (inc zc 2 h) i) j < 30; rw [lj]; omega)).p3 hg).p3 hh)) (by rw [hwk]; exact nI_1 k) (by omega) hG (Eq.trans (Eq.symm (by rw [sl, hGt]; exact (Eq.trans (if_neg (notm1 hG (by omega))) (Eq.trans (if_pos c40) (Eq.trans (if_neg hq) (if_neg he)))))) hsp) hw hS (hl.list [(0, .ref (ad 0 0)), (1, .ref (ad 1 g)), (2, .ref (ad 4 i)), (3, .ref (ad 3 j)), (4, .int (nI N)), (5, .ref (ad 1 h)), (6, .int (w + 1))] (List.forall_mem_cons.mpr ⟨rfl, List.forall_mem_cons.mpr ⟨rfl, List.forall_mem_cons.mpr ⟨rfl, List.forall_mem_cons.mpr ⟨rfl, List.forall_mem_cons.mpr ⟨rfl, List.forall_mem_cons.mpr ⟨rfl, List.forall_mem_cons.mpr ⟨rfl, fun _ h => absurd h List.not_mem_nil⟩⟩⟩⟩⟩⟩⟩))
    exact loop N 0 0 z _ _ _ hI rfl (by omega) hG rfl hw hS (hl.list [(0, .ref (ad 0 0)), (1, .ref (ad 1 g)), (2, .ref (ad 4 i)), (3, .ref (ad 3 j)), (4, .int (nI N)), (5, .ref (ad 1 h)), (6, .int 0)] (List.forall_mem_cons.mpr ⟨rfl, List.forall_mem_cons.mpr ⟨rfl, List.forall_mem_cons.mpr ⟨rfl, List.forall_mem_cons.mpr ⟨rfl, List.forall_mem_cons.mpr ⟨rfl, List.forall_mem_cons.mpr ⟨rfl, List.forall_mem_cons.mpr ⟨rfl, fun _ h => absurd h List.not_mem_nil⟩⟩⟩⟩⟩⟩⟩))
set_option maxHeartbeats 4000000 in
set_option maxRecDepth 100000 in
theorem c_X5_shift (l : Launch) {G : va_G} {Y : YT} {lo : Nat} {ad : Nat → Nat → Nat} {ng nr nb : Nat} {z u : St} (hI : Inv z ng nr nb) (x y n : Int32) : Met l yX5_shift wsX5_shift ({ frames := 3, cells := 0, slots := 0, locals := 76 }) (va_Pc [.ref (ad 0 0), .int x, .int y, .int n] (cS G (tysY Y) lo (Ew Y ng nr nb z u ad) ad)) (QI G (tysY Y) lo (sp_shift nb z x y n).1 (Ew Y ng nr nb (sp_shift nb z x y n).2 u ad) ad) 0 0 (fun q => lo ≤ q) := by
  refine met_of (cc := cX5_shift) (maxL := 7) (ret := (some .int)) (by decide) rfl (Nat.le_of_ble_eq_true rfl) rfl ?_
  intro p e s m below meth c ls hx hb hr hlk hml hts hown hnm hw hK hl hS
  have i0 : ∀ w ∈ wsX00, w ∈ wsX5_shift := by decide +kernel
  have i2 : ∀ w ∈ wsX20, w ∈ wsX5_shift := by decide +kernel
  have i5 : ∀ w ∈ wsX50, w ∈ wsX5_shift := by decide +kernel
  have hng := hI.mg
  have hnr := hI.mr
  have hnb := hI.mb
  rcases ix_cases x hI.nb2 with ⟨hix, hbad⟩ | ⟨i, hi, rfl, hix⟩
  · rcases ix_cases y hI.nb2 with ⟨hiy, hbad2⟩ | ⟨j, hj, rfl, hiy⟩
    · refine f_aload_n hx hb dX5_shift_0 hl 0 rfl rfl ?_
      refine f_iload_n hx hb dX5_shift_1 hl 1 rfl rfl ?_
      refine q_cq (q_runV (C := RX5) (T := TX5) (N := 10) ⟨hx, hb, hml, hown, hts⟩ (c_X5_berthAt l hI x) (cwV 1 hts gX5_shift_X5_berthAt rfl rfl rfl (by decide +kernel) ⟨Nat.le_of_ble_eq_true rfl, Nat.le_of_ble_eq_true rfl⟩) hK hw Ew_fq rfl rfl hl.1 rfl (by simp [Value.category, va_rf]) dX5_shift_2 ⟨Nat.le_of_ble_eq_true rfl, Nat.le_of_ble_eq_true rfl⟩) hS (fun H locs hw hS => ?_)
      refine f_val (y := .null) (by rw [hix]; rfl) ?_
      refine f_astoreN hx hb dX5_shift_5 hl (by decide) (fun ls hl => ?_)
      refine f_aload_n hx hb dX5_shift_7 hl 0 rfl rfl ?_
      refine f_iload_n hx hb dX5_shift_8 hl 2 rfl rfl ?_
      refine q_cq (q_runV (C := RX5) (T := TX5) (N := 10) ⟨hx, hb, hml, hown, hts⟩ (c_X5_berthAt l hI y) (cwV 1 hts gX5_shift_X5_berthAt rfl rfl rfl (by decide +kernel) ⟨Nat.le_of_ble_eq_true rfl, Nat.le_of_ble_eq_true rfl⟩) hK hw Ew_fq rfl rfl hl.1 rfl (by simp [Value.category, va_rf]) dX5_shift_9 ⟨Nat.le_of_ble_eq_true rfl, Nat.le_of_ble_eq_true rfl⟩) hS (fun H locs hw hS => ?_)
      refine f_val (y := .null) (by rw [hiy]; rfl) ?_
      refine f_astoreN hx hb dX5_shift_12 hl (by decide) (fun ls hl => ?_)
      refine f_aloadN hx hb dX5_shift_14 hl rfl ?_
      refine lv_ifnullN (tgt := 39) hx hb dX5_shift_16 (by decide) ?_
      refine lv_bipush (v := (-2)) hx hb dX5_shift_39 (by decide) ?_
      exact q_isp hx hb hr hlk hK hw hS dX5_shift_41 (by rw [sp_shift, hix]; rfl)
    · refine f_aload_n hx hb dX5_shift_0 hl 0 rfl rfl ?_
      refine f_iload_n hx hb dX5_shift_1 hl 1 rfl rfl ?_
      refine q_cq (q_runV (C := RX5) (T := TX5) (N := 10) ⟨hx, hb, hml, hown, hts⟩ (c_X5_berthAt l hI x) (cwV 1 hts gX5_shift_X5_berthAt rfl rfl rfl (by decide +kernel) ⟨Nat.le_of_ble_eq_true rfl, Nat.le_of_ble_eq_true rfl⟩) hK hw Ew_fq rfl rfl hl.1 rfl (by simp [Value.category, va_rf]) dX5_shift_2 ⟨Nat.le_of_ble_eq_true rfl, Nat.le_of_ble_eq_true rfl⟩) hS (fun H locs hw hS => ?_)
      refine f_val (y := .null) (by rw [hix]; rfl) ?_
      refine f_astoreN hx hb dX5_shift_5 hl (by decide) (fun ls hl => ?_)
      refine f_aload_n hx hb dX5_shift_7 hl 0 rfl rfl ?_
      refine f_iload_n hx hb dX5_shift_8 hl 2 rfl rfl ?_
      refine q_cq (q_runV (C := RX5) (T := TX5) (N := 10) ⟨hx, hb, hml, hown, hts⟩ (c_X5_berthAt l hI (nI j)) (cwV 1 hts gX5_shift_X5_berthAt rfl rfl rfl (by decide +kernel) ⟨Nat.le_of_ble_eq_true rfl, Nat.le_of_ble_eq_true rfl⟩) hK hw Ew_fq rfl rfl hl.1 rfl (by simp [Value.category, va_rf]) dX5_shift_9 ⟨Nat.le_of_ble_eq_true rfl, Nat.le_of_ble_eq_true rfl⟩) hS (fun H locs hw hS => ?_)
      refine f_val (y := .ref (ad 3 j)) (by rw [hiy]; rfl) ?_
      refine f_astore hx hb dX5_shift_12 hl (by decide) (fun ls hl => ?_)
      refine f_aloadN hx hb dX5_shift_14 hl rfl ?_
      refine lv_ifnullN (tgt := 39) hx hb dX5_shift_16 (by decide) ?_
      refine lv_bipush (v := (-2)) hx hb dX5_shift_39 (by decide) ?_
      exact q_isp hx hb hr hlk hK hw hS dX5_shift_41 (by rw [sp_shift, hix]; rfl)
  · rcases ix_cases y hI.nb2 with ⟨hiy, hbad2⟩ | ⟨j, hj, rfl, hiy⟩
    · refine f_aload_n hx hb dX5_shift_0 hl 0 rfl rfl ?_
      refine f_iload_n hx hb dX5_shift_1 hl 1 rfl rfl ?_
      refine q_cq (q_runV (C := RX5) (T := TX5) (N := 10) ⟨hx, hb, hml, hown, hts⟩ (c_X5_berthAt l hI (nI i)) (cwV 1 hts gX5_shift_X5_berthAt rfl rfl rfl (by decide +kernel) ⟨Nat.le_of_ble_eq_true rfl, Nat.le_of_ble_eq_true rfl⟩) hK hw Ew_fq rfl rfl hl.1 rfl (by simp [Value.category, va_rf]) dX5_shift_2 ⟨Nat.le_of_ble_eq_true rfl, Nat.le_of_ble_eq_true rfl⟩) hS (fun H locs hw hS => ?_)
      refine f_val (y := .ref (ad 3 i)) (by rw [hix]; rfl) ?_
      refine f_astore hx hb dX5_shift_5 hl (by decide) (fun ls hl => ?_)
      refine f_aload_n hx hb dX5_shift_7 hl 0 rfl rfl ?_
      refine f_iload_n hx hb dX5_shift_8 hl 2 rfl rfl ?_
      refine q_cq (q_runV (C := RX5) (T := TX5) (N := 10) ⟨hx, hb, hml, hown, hts⟩ (c_X5_berthAt l hI y) (cwV 1 hts gX5_shift_X5_berthAt rfl rfl rfl (by decide +kernel) ⟨Nat.le_of_ble_eq_true rfl, Nat.le_of_ble_eq_true rfl⟩) hK hw Ew_fq rfl rfl hl.1 rfl (by simp [Value.category, va_rf]) dX5_shift_9 ⟨Nat.le_of_ble_eq_true rfl, Nat.le_of_ble_eq_true rfl⟩) hS (fun H locs hw hS => ?_)
      refine f_val (y := .null) (by rw [hiy]; rfl) ?_
      refine f_astoreN hx hb dX5_shift_12 hl (by decide) (fun ls hl => ?_)
      refine f_aload hx hb dX5_shift_14 hl rfl ?_
      refine lv_ifnull hx hb dX5_shift_16 ?_
      refine f_aloadN hx hb dX5_shift_19 hl rfl ?_
      refine lv_ifnullN (tgt := 39) hx hb dX5_shift_21 (by decide) ?_
      refine lv_bipush (v := (-2)) hx hb dX5_shift_39 (by decide) ?_
      exact q_isp hx hb hr hlk hK hw hS dX5_shift_41 (by rw [sp_shift, hix, hiy]; rfl)
    · by_cases hij : i = j
      · refine f_aload_n hx hb dX5_shift_0 hl 0 rfl rfl ?_
        refine f_iload_n hx hb dX5_shift_1 hl 1 rfl rfl ?_
        refine q_cq (q_runV (C := RX5) (T := TX5) (N := 10) ⟨hx, hb, hml, hown, hts⟩ (c_X5_berthAt l hI (nI i)) (cwV 1 hts gX5_shift_X5_berthAt rfl rfl rfl (by decide +kernel) ⟨Nat.le_of_ble_eq_true rfl, Nat.le_of_ble_eq_true rfl⟩) hK hw Ew_fq rfl rfl hl.1 rfl (by simp [Value.category, va_rf]) dX5_shift_2 ⟨Nat.le_of_ble_eq_true rfl, Nat.le_of_ble_eq_true rfl⟩) hS (fun H locs hw hS => ?_)
        refine f_val (y := .ref (ad 3 i)) (by rw [hix]; rfl) ?_
        refine f_astore hx hb dX5_shift_5 hl (by decide) (fun ls hl => ?_)
        refine f_aload_n hx hb dX5_shift_7 hl 0 rfl rfl ?_
        refine f_iload_n hx hb dX5_shift_8 hl 2 rfl rfl ?_
        refine q_cq (q_runV (C := RX5) (T := TX5) (N := 10) ⟨hx, hb, hml, hown, hts⟩ (c_X5_berthAt l hI (nI j)) (cwV 1 hts gX5_shift_X5_berthAt rfl rfl rfl (by decide +kernel) ⟨Nat.le_of_ble_eq_true rfl, Nat.le_of_ble_eq_true rfl⟩) hK hw Ew_fq rfl rfl hl.1 rfl (by simp [Value.category, va_rf]) dX5_shift_9 ⟨Nat.le_of_ble_eq_true rfl, Nat.le_of_ble_eq_true rfl⟩) hS (fun H locs hw hS => ?_)
        refine f_val (y := .ref (ad 3 j)) (by rw [hiy]; rfl) ?_
        refine f_astore hx hb dX5_shift_12 hl (by decide) (fun ls hl => ?_)
        refine f_aload hx hb dX5_shift_14 hl rfl ?_
        refine lv_ifnull hx hb dX5_shift_16 ?_
        refine f_aload hx hb dX5_shift_19 hl rfl ?_
        refine lv_ifnull hx hb dX5_shift_21 ?_
        refine f_iload_n hx hb dX5_shift_24 hl 1 rfl rfl ?_
        refine f_iload_n hx hb dX5_shift_25 hl 2 rfl rfl ?_
        refine lv_icmp_eq (tgt := 39) hx hb dX5_shift_26 (by decide) (fun c26 => ?_) (fun c26 => absurd (by rw [hij]) c26)
        refine lv_bipush (v := (-2)) hx hb dX5_shift_39 (by decide) ?_
        exact q_isp hx hb hr hlk hK hw hS dX5_shift_41 (by rw [sp_shift, hix, hiy]; dsimp only [Option.elim]; exact (if_pos hij))
      · by_cases h1 : n < 1
        · refine f_aload_n hx hb dX5_shift_0 hl 0 rfl rfl ?_
          refine f_iload_n hx hb dX5_shift_1 hl 1 rfl rfl ?_
          refine q_cq (q_runV (C := RX5) (T := TX5) (N := 10) ⟨hx, hb, hml, hown, hts⟩ (c_X5_berthAt l hI (nI i)) (cwV 1 hts gX5_shift_X5_berthAt rfl rfl rfl (by decide +kernel) ⟨Nat.le_of_ble_eq_true rfl, Nat.le_of_ble_eq_true rfl⟩) hK hw Ew_fq rfl rfl hl.1 rfl (by simp [Value.category, va_rf]) dX5_shift_2 ⟨Nat.le_of_ble_eq_true rfl, Nat.le_of_ble_eq_true rfl⟩) hS (fun H locs hw hS => ?_)
          refine f_val (y := .ref (ad 3 i)) (by rw [hix]; rfl) ?_
          refine f_astore hx hb dX5_shift_5 hl (by decide) (fun ls hl => ?_)
          refine f_aload_n hx hb dX5_shift_7 hl 0 rfl rfl ?_
          refine f_iload_n hx hb dX5_shift_8 hl 2 rfl rfl ?_
          refine q_cq (q_runV (C := RX5) (T := TX5) (N := 10) ⟨hx, hb, hml, hown, hts⟩ (c_X5_berthAt l hI (nI j)) (cwV 1 hts gX5_shift_X5_berthAt rfl rfl rfl (by decide +kernel) ⟨Nat.le_of_ble_eq_true rfl, Nat.le_of_ble_eq_true rfl⟩) hK hw Ew_fq rfl rfl hl.1 rfl (by simp [Value.category, va_rf]) dX5_shift_9 ⟨Nat.le_of_ble_eq_true rfl, Nat.le_of_ble_eq_true rfl⟩) hS (fun H locs hw hS => ?_)
          refine f_val (y := .ref (ad 3 j)) (by rw [hiy]; rfl) ?_
          refine f_astore hx hb dX5_shift_12 hl (by decide) (fun ls hl => ?_)
          refine f_aload hx hb dX5_shift_14 hl rfl ?_
          refine lv_ifnull hx hb dX5_shift_16 ?_
          refine f_aload hx hb dX5_shift_19 hl rfl ?_
          refine lv_ifnull hx hb dX5_shift_21 ?_
          refine f_iload_n hx hb dX5_shift_24 hl 1 rfl rfl ?_
          refine f_iload_n hx hb dX5_shift_25 hl 2 rfl rfl ?_
          refine lv_icmp_eq (tgt := 39) hx hb dX5_shift_26 (by decide) (fun c26 => absurd c26 (fun q => hij ((nI_eq (by omega) (by omega)).mp q))) (fun c26 => ?_)
          refine f_iload_n hx hb dX5_shift_29 hl 3 rfl rfl ?_
          refine lv_iconst (v := 1) hx hb dX5_shift_30 (by decide) ?_
          refine lv_bipush (v := 30) hx hb dX5_shift_31 (by decide) ?_
          refine q_ci (q_runS ⟨hx, hb, hml, hown, hts⟩ (c_X5_isWithin l n 1 30) (va_cwS 3 hts gX5_shift_X5_isWithin rfl rfl rfl (by decide +kernel) ⟨Nat.le_of_ble_eq_true rfl, Nat.le_of_ble_eq_true rfl⟩) hK hw rfl hl.1 rfl (by simp [Value.category, va_rf]) dX5_shift_33 ⟨Nat.le_of_ble_eq_true rfl, Nat.le_of_ble_eq_true rfl⟩) hS (fun H locs hw hS => ?_)
          refine f_top (y := 0) (if_pos h1) ?_
          refine lv_if_ne (tgt := 42) hx hb dX5_shift_36 (by decide) (fun c36 => absurd (by decide) c36) (fun c36 => ?_)
          refine lv_bipush (v := (-2)) hx hb dX5_shift_39 (by decide) ?_
          exact q_isp hx hb hr hlk hK hw hS dX5_shift_41 (by rw [sp_shift, hix, hiy]; dsimp only [Option.elim]; exact (Eq.trans (if_neg hij) (if_pos h1)))
        · by_cases h2 : 30 < n
          · refine f_aload_n hx hb dX5_shift_0 hl 0 rfl rfl ?_
            refine f_iload_n hx hb dX5_shift_1 hl 1 rfl rfl ?_
            refine q_cq (q_runV (C := RX5) (T := TX5) (N := 10) ⟨hx, hb, hml, hown, hts⟩ (c_X5_berthAt l hI (nI i)) (cwV 1 hts gX5_shift_X5_berthAt rfl rfl rfl (by decide +kernel) ⟨Nat.le_of_ble_eq_true rfl, Nat.le_of_ble_eq_true rfl⟩) hK hw Ew_fq rfl rfl hl.1 rfl (by simp [Value.category, va_rf]) dX5_shift_2 ⟨Nat.le_of_ble_eq_true rfl, Nat.le_of_ble_eq_true rfl⟩) hS (fun H locs hw hS => ?_)
            refine f_val (y := .ref (ad 3 i)) (by rw [hix]; rfl) ?_
            refine f_astore hx hb dX5_shift_5 hl (by decide) (fun ls hl => ?_)
            refine f_aload_n hx hb dX5_shift_7 hl 0 rfl rfl ?_
            refine f_iload_n hx hb dX5_shift_8 hl 2 rfl rfl ?_
            refine q_cq (q_runV (C := RX5) (T := TX5) (N := 10) ⟨hx, hb, hml, hown, hts⟩ (c_X5_berthAt l hI (nI j)) (cwV 1 hts gX5_shift_X5_berthAt rfl rfl rfl (by decide +kernel) ⟨Nat.le_of_ble_eq_true rfl, Nat.le_of_ble_eq_true rfl⟩) hK hw Ew_fq rfl rfl hl.1 rfl (by simp [Value.category, va_rf]) dX5_shift_9 ⟨Nat.le_of_ble_eq_true rfl, Nat.le_of_ble_eq_true rfl⟩) hS (fun H locs hw hS => ?_)
            refine f_val (y := .ref (ad 3 j)) (by rw [hiy]; rfl) ?_
            refine f_astore hx hb dX5_shift_12 hl (by decide) (fun ls hl => ?_)
            refine f_aload hx hb dX5_shift_14 hl rfl ?_
            refine lv_ifnull hx hb dX5_shift_16 ?_
            refine f_aload hx hb dX5_shift_19 hl rfl ?_
            refine lv_ifnull hx hb dX5_shift_21 ?_
            refine f_iload_n hx hb dX5_shift_24 hl 1 rfl rfl ?_
            refine f_iload_n hx hb dX5_shift_25 hl 2 rfl rfl ?_
            refine lv_icmp_eq (tgt := 39) hx hb dX5_shift_26 (by decide) (fun c26 => absurd c26 (fun q => hij ((nI_eq (by omega) (by omega)).mp q))) (fun c26 => ?_)
            refine f_iload_n hx hb dX5_shift_29 hl 3 rfl rfl ?_
            refine lv_iconst (v := 1) hx hb dX5_shift_30 (by decide) ?_
            refine lv_bipush (v := 30) hx hb dX5_shift_31 (by decide) ?_
            refine q_ci (q_runS ⟨hx, hb, hml, hown, hts⟩ (c_X5_isWithin l n 1 30) (va_cwS 3 hts gX5_shift_X5_isWithin rfl rfl rfl (by decide +kernel) ⟨Nat.le_of_ble_eq_true rfl, Nat.le_of_ble_eq_true rfl⟩) hK hw rfl hl.1 rfl (by simp [Value.category, va_rf]) dX5_shift_33 ⟨Nat.le_of_ble_eq_true rfl, Nat.le_of_ble_eq_true rfl⟩) hS (fun H locs hw hS => ?_)
            refine f_top (y := 0) (Eq.trans (if_neg h1) (if_pos h2)) ?_
            refine lv_if_ne (tgt := 42) hx hb dX5_shift_36 (by decide) (fun c36 => absurd (by decide) c36) (fun c36 => ?_)
            refine lv_bipush (v := (-2)) hx hb dX5_shift_39 (by decide) ?_
            exact q_isp hx hb hr hlk hK hw hS dX5_shift_41 (by rw [sp_shift, hix, hiy]; dsimp only [Option.elim]; exact (Eq.trans (if_neg hij) (Eq.trans (if_neg h1) (if_pos h2))))
          · obtain ⟨N, hN, rfl⟩ := rng_of (M := 30) (m := 30) (by decide) h1 h2
            rcases hI.gate hi with hG | ⟨g, hg, hG, hGt⟩
            · refine f_aload_n hx hb dX5_shift_0 hl 0 rfl rfl ?_
              refine f_iload_n hx hb dX5_shift_1 hl 1 rfl rfl ?_
              refine q_cq (q_runV (C := RX5) (T := TX5) (N := 10) ⟨hx, hb, hml, hown, hts⟩ (c_X5_berthAt l hI (nI i)) (cwV 1 hts gX5_shift_X5_berthAt rfl rfl rfl (by decide +kernel) ⟨Nat.le_of_ble_eq_true rfl, Nat.le_of_ble_eq_true rfl⟩) hK hw Ew_fq rfl rfl hl.1 rfl (by simp [Value.category, va_rf]) dX5_shift_2 ⟨Nat.le_of_ble_eq_true rfl, Nat.le_of_ble_eq_true rfl⟩) hS (fun H locs hw hS => ?_)
              refine f_val (y := .ref (ad 3 i)) (by rw [hix]; rfl) ?_
              refine f_astore hx hb dX5_shift_5 hl (by decide) (fun ls hl => ?_)
              refine f_aload_n hx hb dX5_shift_7 hl 0 rfl rfl ?_
              refine f_iload_n hx hb dX5_shift_8 hl 2 rfl rfl ?_
              refine q_cq (q_runV (C := RX5) (T := TX5) (N := 10) ⟨hx, hb, hml, hown, hts⟩ (c_X5_berthAt l hI (nI j)) (cwV 1 hts gX5_shift_X5_berthAt rfl rfl rfl (by decide +kernel) ⟨Nat.le_of_ble_eq_true rfl, Nat.le_of_ble_eq_true rfl⟩) hK hw Ew_fq rfl rfl hl.1 rfl (by simp [Value.category, va_rf]) dX5_shift_9 ⟨Nat.le_of_ble_eq_true rfl, Nat.le_of_ble_eq_true rfl⟩) hS (fun H locs hw hS => ?_)
              refine f_val (y := .ref (ad 3 j)) (by rw [hiy]; rfl) ?_
              refine f_astore hx hb dX5_shift_12 hl (by decide) (fun ls hl => ?_)
              refine f_aload hx hb dX5_shift_14 hl rfl ?_
              refine lv_ifnull hx hb dX5_shift_16 ?_
              refine f_aload hx hb dX5_shift_19 hl rfl ?_
              refine lv_ifnull hx hb dX5_shift_21 ?_
              refine f_iload_n hx hb dX5_shift_24 hl 1 rfl rfl ?_
              refine f_iload_n hx hb dX5_shift_25 hl 2 rfl rfl ?_
              refine lv_icmp_eq (tgt := 39) hx hb dX5_shift_26 (by decide) (fun c26 => absurd c26 (fun q => hij ((nI_eq (by omega) (by omega)).mp q))) (fun c26 => ?_)
              refine f_iload_n hx hb dX5_shift_29 hl 3 rfl rfl ?_
              refine lv_iconst (v := 1) hx hb dX5_shift_30 (by decide) ?_
              refine lv_bipush (v := 30) hx hb dX5_shift_31 (by decide) ?_
              refine q_ci (q_runS ⟨hx, hb, hml, hown, hts⟩ (c_X5_isWithin l (nI N) 1 30) (va_cwS 3 hts gX5_shift_X5_isWithin rfl rfl rfl (by decide +kernel) ⟨Nat.le_of_ble_eq_true rfl, Nat.le_of_ble_eq_true rfl⟩) hK hw rfl hl.1 rfl (by simp [Value.category, va_rf]) dX5_shift_33 ⟨Nat.le_of_ble_eq_true rfl, Nat.le_of_ble_eq_true rfl⟩) hS (fun H locs hw hS => ?_)
              refine f_top (y := 1) (Eq.trans (if_neg h1) (if_neg h2)) ?_
              refine lv_if_ne (tgt := 42) hx hb dX5_shift_36 (by decide) (fun c36 => ?_) (fun c36 => absurd c36 (by decide))
              refine f_aload hx hb dX5_shift_42 hl rfl ?_
              refine e_get (C := RX0) (T := TX0) (N := 4) hx hb hts i0 hown hK hw (Ew_berth (by assumption)) rfl 2 (by decide) (hts (.fieldLink RX5 60 "FerryQuay$Berth" "gate" "LFerryQuay$Gate;") (by decide +kernel)) rfl dX5_shift_44 ?_
              refine f_val (orefN hG) ?_
              refine f_astoreN hx hb dX5_shift_47 hl (by decide) (fun ls hl => ?_)
              refine f_aloadN hx hb dX5_shift_49 hl rfl ?_
              refine lv_ifnonnullN hx hb dX5_shift_51 ?_
              refine lv_bipush (v := (-4)) hx hb dX5_shift_54 (by decide) ?_
              exact q_isp hx hb hr hlk hK hw hS dX5_shift_56 (by rw [sp_shift, hix, hiy]; dsimp only [Option.elim]; exact (Eq.trans (if_neg hij) (Eq.trans (if_neg h1) (Eq.trans (if_neg h2) (if_pos hG)))))
            · refine f_aload_n hx hb dX5_shift_0 hl 0 rfl rfl ?_
              refine f_iload_n hx hb dX5_shift_1 hl 1 rfl rfl ?_
              refine q_cq (q_runV (C := RX5) (T := TX5) (N := 10) ⟨hx, hb, hml, hown, hts⟩ (c_X5_berthAt l hI (nI i)) (cwV 1 hts gX5_shift_X5_berthAt rfl rfl rfl (by decide +kernel) ⟨Nat.le_of_ble_eq_true rfl, Nat.le_of_ble_eq_true rfl⟩) hK hw Ew_fq rfl rfl hl.1 rfl (by simp [Value.category, va_rf]) dX5_shift_2 ⟨Nat.le_of_ble_eq_true rfl, Nat.le_of_ble_eq_true rfl⟩) hS (fun H locs hw hS => ?_)
              refine f_val (y := .ref (ad 3 i)) (by rw [hix]; rfl) ?_
              refine f_astore hx hb dX5_shift_5 hl (by decide) (fun ls hl => ?_)
              refine f_aload_n hx hb dX5_shift_7 hl 0 rfl rfl ?_
              refine f_iload_n hx hb dX5_shift_8 hl 2 rfl rfl ?_
              refine q_cq (q_runV (C := RX5) (T := TX5) (N := 10) ⟨hx, hb, hml, hown, hts⟩ (c_X5_berthAt l hI (nI j)) (cwV 1 hts gX5_shift_X5_berthAt rfl rfl rfl (by decide +kernel) ⟨Nat.le_of_ble_eq_true rfl, Nat.le_of_ble_eq_true rfl⟩) hK hw Ew_fq rfl rfl hl.1 rfl (by simp [Value.category, va_rf]) dX5_shift_9 ⟨Nat.le_of_ble_eq_true rfl, Nat.le_of_ble_eq_true rfl⟩) hS (fun H locs hw hS => ?_)
              refine f_val (y := .ref (ad 3 j)) (by rw [hiy]; rfl) ?_
              refine f_astore hx hb dX5_shift_12 hl (by decide) (fun ls hl => ?_)
              refine f_aload hx hb dX5_shift_14 hl rfl ?_
              refine lv_ifnull hx hb dX5_shift_16 ?_
              refine f_aload hx hb dX5_shift_19 hl rfl ?_
              refine lv_ifnull hx hb dX5_shift_21 ?_
              refine f_iload_n hx hb dX5_shift_24 hl 1 rfl rfl ?_
              refine f_iload_n hx hb dX5_shift_25 hl 2 rfl rfl ?_
              refine lv_icmp_eq (tgt := 39) hx hb dX5_shift_26 (by decide) (fun c26 => absurd c26 (fun q => hij ((nI_eq (by omega) (by omega)).mp q))) (fun c26 => ?_)
              refine f_iload_n hx hb dX5_shift_29 hl 3 rfl rfl ?_
              refine lv_iconst (v := 1) hx hb dX5_shift_30 (by decide) ?_
              refine lv_bipush (v := 30) hx hb dX5_shift_31 (by decide) ?_
              refine q_ci (q_runS ⟨hx, hb, hml, hown, hts⟩ (c_X5_isWithin l (nI N) 1 30) (va_cwS 3 hts gX5_shift_X5_isWithin rfl rfl rfl (by decide +kernel) ⟨Nat.le_of_ble_eq_true rfl, Nat.le_of_ble_eq_true rfl⟩) hK hw rfl hl.1 rfl (by simp [Value.category, va_rf]) dX5_shift_33 ⟨Nat.le_of_ble_eq_true rfl, Nat.le_of_ble_eq_true rfl⟩) hS (fun H locs hw hS => ?_)
              refine f_top (y := 1) (Eq.trans (if_neg h1) (if_neg h2)) ?_
              refine lv_if_ne (tgt := 42) hx hb dX5_shift_36 (by decide) (fun c36 => ?_) (fun c36 => absurd c36 (by decide))
              refine f_aload hx hb dX5_shift_42 hl rfl ?_
              refine e_get (C := RX0) (T := TX0) (N := 4) hx hb hts i0 hown hK hw (Ew_berth (by assumption)) rfl 2 (by decide) (hts (.fieldLink RX5 60 "FerryQuay$Berth" "gate" "LFerryQuay$Gate;") (by decide +kernel)) rfl dX5_shift_44 ?_
              refine f_val (orefR hG (by omega)) ?_
              refine f_astore hx hb dX5_shift_47 hl (by decide) (fun ls hl => ?_)
              refine f_aload hx hb dX5_shift_49 hl rfl ?_
              refine lv_ifnonnull (tgt := 57) hx hb dX5_shift_51 (by decide) ?_
              refine f_aload hx hb dX5_shift_57 hl rfl ?_
              refine lv_dup hx hb dX5_shift_59 rfl ?_
              refine e_get (C := RX2) (T := TX2) (N := 4) hx hb hts i2 hown hK hw (Ew_gate (by assumption)) rfl 2 (by decide) (hts (.fieldLink RX5 101 "FerryQuay$Gate" "taken" "I") (by decide +kernel)) rfl dX5_shift_60 ?_
              refine lv_iconst (v := 1) hx hb dX5_shift_63 (by decide) ?_
              refine lv_iadd hx hb dX5_shift_64 ?_
              refine e_put (C := RX2) (T := TX2) (N := 4) (ty := .int) hx hb hts i2 tyX2 tyX2_ok nmX2 hown hK hw hS (Ew_gate (by assumption)) rfl 2 (by decide) (hts (.fieldLink RX5 101 "FerryQuay$Gate" "taken" "I") (by decide +kernel)) rfl (by decide +kernel) rfl rfl (Nat.le_of_ble_eq_true rfl) dX5_shift_65 (fun H locs hw hS => ?_)
              have hw := hw.cast (Ep_gate2 (by assumption))
              refine f_aload hx hb dX5_shift_68 hl rfl ?_
              refine e_get (C := RX2) (T := TX2) (N := 4) hx hb hts i2 hown hK hw (Ew_gate (by assumption)) rfl 1 (by decide) (hts (.fieldLink RX5 78 "FerryQuay$Gate" "isShut" "Z") (by decide +kernel)) rfl dX5_shift_70 ?_
              refine lv_if_eq (tgt := 79) hx hb dX5_shift_73 (by decide) (fun c73 => ?_) (fun c73 => ?_)
              · refine f_aload_n hx hb dX5_shift_79 hl 0 rfl rfl ?_
                refine f_aload hx hb dX5_shift_80 hl rfl ?_
                refine f_aload hx hb dX5_shift_82 hl rfl ?_
                refine e_get (C := RX0) (T := TX0) (N := 4) hx hb hts i0 hown hK hw (Ew_berth (by assumption)) rfl 0 (by decide) (hts (.fieldLink RX5 82 "FerryQuay$Berth" "lane" "LFerryQuay$Row;") (by decide +kernel)) rfl dX5_shift_84 ?_
                refine f_aload hx hb dX5_shift_87 hl rfl ?_
                refine f_iload_n hx hb dX5_shift_89 hl 3 rfl rfl ?_
                refine q_ci (q_runV (C := RX5) (T := TX5) (N := 10) ⟨hx, hb, hml, hown, hts⟩ (c_X5_shiftThrough l (z := inc z 2 g) (hI.p2 hg) hi hj hij hg hN) (cwV 4 hts gX5_shift_X5_shiftThrough rfl rfl rfl (by decide +kernel) ⟨Nat.le_of_ble_eq_true rfl, Nat.le_of_ble_eq_true rfl⟩) hK hw Ew_fq rfl rfl hl.1 rfl (by simp [Value.category, va_rf]) dX5_shift_90 ⟨Nat.le_of_ble_eq_true rfl, Nat.le_of_ble_eq_true rfl⟩) hS (fun H locs hw hS => ?_)
                exact q_isp hx hb hr hlk hK hw hS dX5_shift_93 (by rw [sp_shift, hix, hiy]; dsimp only [Option.elim]; rw [hGt, show tn (nI N) = N from nI_clamp (by omega)]; exact (Eq.trans (if_neg hij) (Eq.trans (if_neg h1) (Eq.trans (if_neg h2) (Eq.trans (if_neg (notm1 hG (by omega))) (if_pos c73))))))
              · refine lv_bipush (v := (-5)) hx hb dX5_shift_76 (by decide) ?_
                exact q_isp hx hb hr hlk hK hw hS dX5_shift_78 (by rw [sp_shift, hix, hiy]; dsimp only [Option.elim]; rw [hGt, show tn (nI N) = N from nI_clamp (by omega)]; exact (Eq.trans (if_neg hij) (Eq.trans (if_neg h1) (Eq.trans (if_neg h2) (Eq.trans (if_neg (notm1 hG (by omega))) (if_neg c73))))))
set_option maxHeartbeats 4000000 in
set_option maxRecDepth 100000 in
theorem c_X5_swap (l : Launch) {G : va_G} {Y : YT} {lo : Nat} {ad : Nat → Nat → Nat} {ng nr nb : Nat} {z u : St} (hI : Inv z ng nr nb) (x y : Int32) : Met l yX5_swap wsX5_swap ({ frames := 1, cells := 0, slots := 0, locals := 21 }) (va_Pc [.ref (ad 0 0), .int x, .int y] (cS G (tysY Y) lo (Ew Y ng nr nb z u ad) ad)) (QI G (tysY Y) lo (sp_swap nb z x y).1 (Ew Y ng nr nb (sp_swap nb z x y).2 u ad) ad) 0 0 (fun q => lo ≤ q) := by
  refine met_of (cc := cX5_swap) (maxL := 8) (ret := (some .int)) (by decide) rfl (Nat.le_of_ble_eq_true rfl) rfl ?_
  intro p e s m below meth c ls hx hb hr hlk hml hts hown hnm hw hK hl hS
  have i0 : ∀ w ∈ wsX00, w ∈ wsX5_swap := by decide +kernel
  have i1 : ∀ w ∈ wsX10, w ∈ wsX5_swap := by decide +kernel
  have i2 : ∀ w ∈ wsX20, w ∈ wsX5_swap := by decide +kernel
  have i5 : ∀ w ∈ wsX50, w ∈ wsX5_swap := by decide +kernel
  have hng := hI.mg
  have hnr := hI.mr
  have hnb := hI.mb
  rcases ix_cases x hI.nb2 with ⟨hix, hbad⟩ | ⟨i, hi, rfl, hix⟩
  · rcases ix_cases y hI.nb2 with ⟨hiy, hbad2⟩ | ⟨j, hj, rfl, hiy⟩
    · refine f_aload_n hx hb dX5_swap_0 hl 0 rfl rfl ?_
      refine f_iload_n hx hb dX5_swap_1 hl 1 rfl rfl ?_
      refine q_cq (q_runV (C := RX5) (T := TX5) (N := 10) ⟨hx, hb, hml, hown, hts⟩ (c_X5_berthAt l hI x) (cwV 1 hts gX5_swap_X5_berthAt rfl rfl rfl (by decide +kernel) ⟨Nat.le_of_ble_eq_true rfl, Nat.le_of_ble_eq_true rfl⟩) hK hw Ew_fq rfl rfl hl.1 rfl (by simp [Value.category, va_rf]) dX5_swap_2 ⟨Nat.le_of_ble_eq_true rfl, Nat.le_of_ble_eq_true rfl⟩) hS (fun H locs hw hS => ?_)
      refine f_val (y := .null) (by rw [hix]; rfl) ?_
      refine f_astore_nN hx hb dX5_swap_5 hl 3 rfl (by decide) (fun ls hl => ?_)
      refine f_aload_n hx hb dX5_swap_6 hl 0 rfl rfl ?_
      refine f_iload_n hx hb dX5_swap_7 hl 2 rfl rfl ?_
      refine q_cq (q_runV (C := RX5) (T := TX5) (N := 10) ⟨hx, hb, hml, hown, hts⟩ (c_X5_berthAt l hI y) (cwV 1 hts gX5_swap_X5_berthAt rfl rfl rfl (by decide +kernel) ⟨Nat.le_of_ble_eq_true rfl, Nat.le_of_ble_eq_true rfl⟩) hK hw Ew_fq rfl rfl hl.1 rfl (by simp [Value.category, va_rf]) dX5_swap_8 ⟨Nat.le_of_ble_eq_true rfl, Nat.le_of_ble_eq_true rfl⟩) hS (fun H locs hw hS => ?_)
      refine f_val (y := .null) (by rw [hiy]; rfl) ?_
      refine f_astoreN hx hb dX5_swap_11 hl (by decide) (fun ls hl => ?_)
      refine f_aload_nN hx hb dX5_swap_13 hl 3 rfl rfl ?_
      refine lv_ifnullN (tgt := 22) hx hb dX5_swap_14 (by decide) ?_
      refine lv_bipush (v := (-2)) hx hb dX5_swap_22 (by decide) ?_
      exact q_isp hx hb hr hlk hK hw hS dX5_swap_24 (by rw [sp_swap, hix]; rfl)
    · refine f_aload_n hx hb dX5_swap_0 hl 0 rfl rfl ?_
      refine f_iload_n hx hb dX5_swap_1 hl 1 rfl rfl ?_
      refine q_cq (q_runV (C := RX5) (T := TX5) (N := 10) ⟨hx, hb, hml, hown, hts⟩ (c_X5_berthAt l hI x) (cwV 1 hts gX5_swap_X5_berthAt rfl rfl rfl (by decide +kernel) ⟨Nat.le_of_ble_eq_true rfl, Nat.le_of_ble_eq_true rfl⟩) hK hw Ew_fq rfl rfl hl.1 rfl (by simp [Value.category, va_rf]) dX5_swap_2 ⟨Nat.le_of_ble_eq_true rfl, Nat.le_of_ble_eq_true rfl⟩) hS (fun H locs hw hS => ?_)
      refine f_val (y := .null) (by rw [hix]; rfl) ?_
      refine f_astore_nN hx hb dX5_swap_5 hl 3 rfl (by decide) (fun ls hl => ?_)
      refine f_aload_n hx hb dX5_swap_6 hl 0 rfl rfl ?_
      refine f_iload_n hx hb dX5_swap_7 hl 2 rfl rfl ?_
      refine q_cq (q_runV (C := RX5) (T := TX5) (N := 10) ⟨hx, hb, hml, hown, hts⟩ (c_X5_berthAt l hI (nI j)) (cwV 1 hts gX5_swap_X5_berthAt rfl rfl rfl (by decide +kernel) ⟨Nat.le_of_ble_eq_true rfl, Nat.le_of_ble_eq_true rfl⟩) hK hw Ew_fq rfl rfl hl.1 rfl (by simp [Value.category, va_rf]) dX5_swap_8 ⟨Nat.le_of_ble_eq_true rfl, Nat.le_of_ble_eq_true rfl⟩) hS (fun H locs hw hS => ?_)
      refine f_val (y := .ref (ad 3 j)) (by rw [hiy]; rfl) ?_
      refine f_astore hx hb dX5_swap_11 hl (by decide) (fun ls hl => ?_)
      refine f_aload_nN hx hb dX5_swap_13 hl 3 rfl rfl ?_
      refine lv_ifnullN (tgt := 22) hx hb dX5_swap_14 (by decide) ?_
      refine lv_bipush (v := (-2)) hx hb dX5_swap_22 (by decide) ?_
      exact q_isp hx hb hr hlk hK hw hS dX5_swap_24 (by rw [sp_swap, hix]; rfl)
  · rcases ix_cases y hI.nb2 with ⟨hiy, hbad2⟩ | ⟨j, hj, rfl, hiy⟩
    · refine f_aload_n hx hb dX5_swap_0 hl 0 rfl rfl ?_
      refine f_iload_n hx hb dX5_swap_1 hl 1 rfl rfl ?_
      refine q_cq (q_runV (C := RX5) (T := TX5) (N := 10) ⟨hx, hb, hml, hown, hts⟩ (c_X5_berthAt l hI (nI i)) (cwV 1 hts gX5_swap_X5_berthAt rfl rfl rfl (by decide +kernel) ⟨Nat.le_of_ble_eq_true rfl, Nat.le_of_ble_eq_true rfl⟩) hK hw Ew_fq rfl rfl hl.1 rfl (by simp [Value.category, va_rf]) dX5_swap_2 ⟨Nat.le_of_ble_eq_true rfl, Nat.le_of_ble_eq_true rfl⟩) hS (fun H locs hw hS => ?_)
      refine f_val (y := .ref (ad 3 i)) (by rw [hix]; rfl) ?_
      refine f_astore_n hx hb dX5_swap_5 hl 3 rfl (by decide) (fun ls hl => ?_)
      refine f_aload_n hx hb dX5_swap_6 hl 0 rfl rfl ?_
      refine f_iload_n hx hb dX5_swap_7 hl 2 rfl rfl ?_
      refine q_cq (q_runV (C := RX5) (T := TX5) (N := 10) ⟨hx, hb, hml, hown, hts⟩ (c_X5_berthAt l hI y) (cwV 1 hts gX5_swap_X5_berthAt rfl rfl rfl (by decide +kernel) ⟨Nat.le_of_ble_eq_true rfl, Nat.le_of_ble_eq_true rfl⟩) hK hw Ew_fq rfl rfl hl.1 rfl (by simp [Value.category, va_rf]) dX5_swap_8 ⟨Nat.le_of_ble_eq_true rfl, Nat.le_of_ble_eq_true rfl⟩) hS (fun H locs hw hS => ?_)
      refine f_val (y := .null) (by rw [hiy]; rfl) ?_
      refine f_astoreN hx hb dX5_swap_11 hl (by decide) (fun ls hl => ?_)
      refine f_aload_n hx hb dX5_swap_13 hl 3 rfl rfl ?_
      refine lv_ifnull hx hb dX5_swap_14 ?_
      refine f_aloadN hx hb dX5_swap_17 hl rfl ?_
      refine lv_ifnonnullN hx hb dX5_swap_19 ?_
      refine lv_bipush (v := (-2)) hx hb dX5_swap_22 (by decide) ?_
      exact q_isp hx hb hr hlk hK hw hS dX5_swap_24 (by rw [sp_swap, hix, hiy]; rfl)
    · rcases hI.gate hi with hG | ⟨g, hg, hG, hGt⟩
      · refine f_aload_n hx hb dX5_swap_0 hl 0 rfl rfl ?_
        refine f_iload_n hx hb dX5_swap_1 hl 1 rfl rfl ?_
        refine q_cq (q_runV (C := RX5) (T := TX5) (N := 10) ⟨hx, hb, hml, hown, hts⟩ (c_X5_berthAt l hI (nI i)) (cwV 1 hts gX5_swap_X5_berthAt rfl rfl rfl (by decide +kernel) ⟨Nat.le_of_ble_eq_true rfl, Nat.le_of_ble_eq_true rfl⟩) hK hw Ew_fq rfl rfl hl.1 rfl (by simp [Value.category, va_rf]) dX5_swap_2 ⟨Nat.le_of_ble_eq_true rfl, Nat.le_of_ble_eq_true rfl⟩) hS (fun H locs hw hS => ?_)
        refine f_val (y := .ref (ad 3 i)) (by rw [hix]; rfl) ?_
        refine f_astore_n hx hb dX5_swap_5 hl 3 rfl (by decide) (fun ls hl => ?_)
        refine f_aload_n hx hb dX5_swap_6 hl 0 rfl rfl ?_
        refine f_iload_n hx hb dX5_swap_7 hl 2 rfl rfl ?_
        refine q_cq (q_runV (C := RX5) (T := TX5) (N := 10) ⟨hx, hb, hml, hown, hts⟩ (c_X5_berthAt l hI (nI j)) (cwV 1 hts gX5_swap_X5_berthAt rfl rfl rfl (by decide +kernel) ⟨Nat.le_of_ble_eq_true rfl, Nat.le_of_ble_eq_true rfl⟩) hK hw Ew_fq rfl rfl hl.1 rfl (by simp [Value.category, va_rf]) dX5_swap_8 ⟨Nat.le_of_ble_eq_true rfl, Nat.le_of_ble_eq_true rfl⟩) hS (fun H locs hw hS => ?_)
        refine f_val (y := .ref (ad 3 j)) (by rw [hiy]; rfl) ?_
        refine f_astore hx hb dX5_swap_11 hl (by decide) (fun ls hl => ?_)
        refine f_aload_n hx hb dX5_swap_13 hl 3 rfl rfl ?_
        refine lv_ifnull hx hb dX5_swap_14 ?_
        refine f_aload hx hb dX5_swap_17 hl rfl ?_
        refine lv_ifnonnull (tgt := 25) hx hb dX5_swap_19 (by decide) ?_
        refine f_aload_n hx hb dX5_swap_25 hl 3 rfl rfl ?_
        refine e_get (C := RX0) (T := TX0) (N := 4) hx hb hts i0 hown hK hw (Ew_berth (by assumption)) rfl 2 (by decide) (hts (.fieldLink RX5 60 "FerryQuay$Berth" "gate" "LFerryQuay$Gate;") (by decide +kernel)) rfl dX5_swap_26 ?_
        refine f_val (orefN hG) ?_
        refine f_astoreN hx hb dX5_swap_29 hl (by decide) (fun ls hl => ?_)
        refine f_aloadN hx hb dX5_swap_31 hl rfl ?_
        refine lv_ifnonnullN hx hb dX5_swap_33 ?_
        refine lv_bipush (v := (-4)) hx hb dX5_swap_36 (by decide) ?_
        exact q_isp hx hb hr hlk hK hw hS dX5_swap_38 (by rw [sp_swap, hix, hiy]; dsimp only [Option.elim]; exact (if_pos hG))
      · rcases hI.gate hj with hE | ⟨h, hh, hE, hEt⟩
        · refine f_aload_n hx hb dX5_swap_0 hl 0 rfl rfl ?_
          refine f_iload_n hx hb dX5_swap_1 hl 1 rfl rfl ?_
          refine q_cq (q_runV (C := RX5) (T := TX5) (N := 10) ⟨hx, hb, hml, hown, hts⟩ (c_X5_berthAt l hI (nI i)) (cwV 1 hts gX5_swap_X5_berthAt rfl rfl rfl (by decide +kernel) ⟨Nat.le_of_ble_eq_true rfl, Nat.le_of_ble_eq_true rfl⟩) hK hw Ew_fq rfl rfl hl.1 rfl (by simp [Value.category, va_rf]) dX5_swap_2 ⟨Nat.le_of_ble_eq_true rfl, Nat.le_of_ble_eq_true rfl⟩) hS (fun H locs hw hS => ?_)
          refine f_val (y := .ref (ad 3 i)) (by rw [hix]; rfl) ?_
          refine f_astore_n hx hb dX5_swap_5 hl 3 rfl (by decide) (fun ls hl => ?_)
          refine f_aload_n hx hb dX5_swap_6 hl 0 rfl rfl ?_
          refine f_iload_n hx hb dX5_swap_7 hl 2 rfl rfl ?_
          refine q_cq (q_runV (C := RX5) (T := TX5) (N := 10) ⟨hx, hb, hml, hown, hts⟩ (c_X5_berthAt l hI (nI j)) (cwV 1 hts gX5_swap_X5_berthAt rfl rfl rfl (by decide +kernel) ⟨Nat.le_of_ble_eq_true rfl, Nat.le_of_ble_eq_true rfl⟩) hK hw Ew_fq rfl rfl hl.1 rfl (by simp [Value.category, va_rf]) dX5_swap_8 ⟨Nat.le_of_ble_eq_true rfl, Nat.le_of_ble_eq_true rfl⟩) hS (fun H locs hw hS => ?_)
          refine f_val (y := .ref (ad 3 j)) (by rw [hiy]; rfl) ?_
          refine f_astore hx hb dX5_swap_11 hl (by decide) (fun ls hl => ?_)
          refine f_aload_n hx hb dX5_swap_13 hl 3 rfl rfl ?_
          refine lv_ifnull hx hb dX5_swap_14 ?_
          refine f_aload hx hb dX5_swap_17 hl rfl ?_
          refine lv_ifnonnull (tgt := 25) hx hb dX5_swap_19 (by decide) ?_
          refine f_aload_n hx hb dX5_swap_25 hl 3 rfl rfl ?_
          refine e_get (C := RX0) (T := TX0) (N := 4) hx hb hts i0 hown hK hw (Ew_berth (by assumption)) rfl 2 (by decide) (hts (.fieldLink RX5 60 "FerryQuay$Berth" "gate" "LFerryQuay$Gate;") (by decide +kernel)) rfl dX5_swap_26 ?_
          refine f_val (orefR hG (by omega)) ?_
          refine f_astore hx hb dX5_swap_29 hl (by decide) (fun ls hl => ?_)
          refine f_aload hx hb dX5_swap_31 hl rfl ?_
          refine lv_ifnonnull (tgt := 39) hx hb dX5_swap_33 (by decide) ?_
          refine f_aload hx hb dX5_swap_39 hl rfl ?_
          refine lv_dup hx hb dX5_swap_41 rfl ?_
          refine e_get (C := RX2) (T := TX2) (N := 4) hx hb hts i2 hown hK hw (Ew_gate (by assumption)) rfl 2 (by decide) (hts (.fieldLink RX5 101 "FerryQuay$Gate" "taken" "I") (by decide +kernel)) rfl dX5_swap_42 ?_
          refine lv_iconst (v := 1) hx hb dX5_swap_45 (by decide) ?_
          refine lv_iadd hx hb dX5_swap_46 ?_
          refine e_put (C := RX2) (T := TX2) (N := 4) (ty := .int) hx hb hts i2 tyX2 tyX2_ok nmX2 hown hK hw hS (Ew_gate (by assumption)) rfl 2 (by decide) (hts (.fieldLink RX5 101 "FerryQuay$Gate" "taken" "I") (by decide +kernel)) rfl (by decide +kernel) rfl rfl (Nat.le_of_ble_eq_true rfl) dX5_swap_47 (fun H locs hw hS => ?_)
          have hw := hw.cast (Ep_gate2 (by assumption))
          refine f_aload hx hb dX5_swap_50 hl rfl ?_
          refine e_get (C := RX0) (T := TX0) (N := 4) hx hb hts i0 hown hK hw (Ew_berth (by assumption)) rfl 2 (by decide) (hts (.fieldLink RX5 60 "FerryQuay$Berth" "gate" "LFerryQuay$Gate;") (by decide +kernel)) rfl dX5_swap_52 ?_
          refine f_val (orefN hE) ?_
          refine f_astoreN hx hb dX5_swap_55 hl (by decide) (fun ls hl => ?_)
          refine f_aloadN hx hb dX5_swap_57 hl rfl ?_
          refine lv_ifnonnullN hx hb dX5_swap_59 ?_
          refine lv_bipush (v := (-4)) hx hb dX5_swap_62 (by decide) ?_
          exact q_isp hx hb hr hlk hK hw hS dX5_swap_64 (by rw [sp_swap, hix, hiy]; dsimp only [Option.elim]; rw [hGt]; exact (Eq.trans (if_neg (notm1 hG (by omega))) (if_pos hE)))
        · obtain ⟨f1, hf1, hF1, hFt1⟩ := hI.ferry hi
          obtain ⟨f2, hf2, hF2, hFt2⟩ := hI.ferry hj
          refine f_aload_n hx hb dX5_swap_0 hl 0 rfl rfl ?_
          refine f_iload_n hx hb dX5_swap_1 hl 1 rfl rfl ?_
          refine q_cq (q_runV (C := RX5) (T := TX5) (N := 10) ⟨hx, hb, hml, hown, hts⟩ (c_X5_berthAt l hI (nI i)) (cwV 1 hts gX5_swap_X5_berthAt rfl rfl rfl (by decide +kernel) ⟨Nat.le_of_ble_eq_true rfl, Nat.le_of_ble_eq_true rfl⟩) hK hw Ew_fq rfl rfl hl.1 rfl (by simp [Value.category, va_rf]) dX5_swap_2 ⟨Nat.le_of_ble_eq_true rfl, Nat.le_of_ble_eq_true rfl⟩) hS (fun H locs hw hS => ?_)
          refine f_val (y := .ref (ad 3 i)) (by rw [hix]; rfl) ?_
          refine f_astore_n hx hb dX5_swap_5 hl 3 rfl (by decide) (fun ls hl => ?_)
          refine f_aload_n hx hb dX5_swap_6 hl 0 rfl rfl ?_
          refine f_iload_n hx hb dX5_swap_7 hl 2 rfl rfl ?_
          refine q_cq (q_runV (C := RX5) (T := TX5) (N := 10) ⟨hx, hb, hml, hown, hts⟩ (c_X5_berthAt l hI (nI j)) (cwV 1 hts gX5_swap_X5_berthAt rfl rfl rfl (by decide +kernel) ⟨Nat.le_of_ble_eq_true rfl, Nat.le_of_ble_eq_true rfl⟩) hK hw Ew_fq rfl rfl hl.1 rfl (by simp [Value.category, va_rf]) dX5_swap_8 ⟨Nat.le_of_ble_eq_true rfl, Nat.le_of_ble_eq_true rfl⟩) hS (fun H locs hw hS => ?_)
          refine f_val (y := .ref (ad 3 j)) (by rw [hiy]; rfl) ?_
          refine f_astore hx hb dX5_swap_11 hl (by decide) (fun ls hl => ?_)
          refine f_aload_n hx hb dX5_swap_13 hl 3 rfl rfl ?_
          refine lv_ifnull hx hb dX5_swap_14 ?_
          refine f_aload hx hb dX5_swap_17 hl rfl ?_
          refine lv_ifnonnull (tgt := 25) hx hb dX5_swap_19 (by decide) ?_
          refine f_aload_n hx hb dX5_swap_25 hl 3 rfl rfl ?_
          refine e_get (C := RX0) (T := TX0) (N := 4) hx hb hts i0 hown hK hw (Ew_berth (by assumption)) rfl 2 (by decide) (hts (.fieldLink RX5 60 "FerryQuay$Berth" "gate" "LFerryQuay$Gate;") (by decide +kernel)) rfl dX5_swap_26 ?_
          refine f_val (orefR hG (by omega)) ?_
          refine f_astore hx hb dX5_swap_29 hl (by decide) (fun ls hl => ?_)
          refine f_aload hx hb dX5_swap_31 hl rfl ?_
          refine lv_ifnonnull (tgt := 39) hx hb dX5_swap_33 (by decide) ?_
          refine f_aload hx hb dX5_swap_39 hl rfl ?_
          refine lv_dup hx hb dX5_swap_41 rfl ?_
          refine e_get (C := RX2) (T := TX2) (N := 4) hx hb hts i2 hown hK hw (Ew_gate (by assumption)) rfl 2 (by decide) (hts (.fieldLink RX5 101 "FerryQuay$Gate" "taken" "I") (by decide +kernel)) rfl dX5_swap_42 ?_
          refine lv_iconst (v := 1) hx hb dX5_swap_45 (by decide) ?_
          refine lv_iadd hx hb dX5_swap_46 ?_
          refine e_put (C := RX2) (T := TX2) (N := 4) (ty := .int) hx hb hts i2 tyX2 tyX2_ok nmX2 hown hK hw hS (Ew_gate (by assumption)) rfl 2 (by decide) (hts (.fieldLink RX5 101 "FerryQuay$Gate" "taken" "I") (by decide +kernel)) rfl (by decide +kernel) rfl rfl (Nat.le_of_ble_eq_true rfl) dX5_swap_47 (fun H locs hw hS => ?_)
          have hw := hw.cast (Ep_gate2 (by assumption))
          refine f_aload hx hb dX5_swap_50 hl rfl ?_
          refine e_get (C := RX0) (T := TX0) (N := 4) hx hb hts i0 hown hK hw (Ew_berth (by assumption)) rfl 2 (by decide) (hts (.fieldLink RX5 60 "FerryQuay$Berth" "gate" "LFerryQuay$Gate;") (by decide +kernel)) rfl dX5_swap_52 ?_
          refine f_val (orefR hE (by omega)) ?_
          refine f_astore hx hb dX5_swap_55 hl (by decide) (fun ls hl => ?_)
          refine f_aload hx hb dX5_swap_57 hl rfl ?_
          refine lv_ifnonnull (tgt := 65) hx hb dX5_swap_59 (by decide) ?_
          refine f_aload hx hb dX5_swap_65 hl rfl ?_
          refine lv_dup hx hb dX5_swap_67 rfl ?_
          refine e_get (C := RX2) (T := TX2) (N := 4) hx hb hts i2 hown hK hw (Ew_gate (by assumption)) rfl 2 (by decide) (hts (.fieldLink RX5 101 "FerryQuay$Gate" "taken" "I") (by decide +kernel)) rfl dX5_swap_68 ?_
          refine lv_iconst (v := 1) hx hb dX5_swap_71 (by decide) ?_
          refine lv_iadd hx hb dX5_swap_72 ?_
          refine e_put (C := RX2) (T := TX2) (N := 4) (ty := .int) hx hb hts i2 tyX2 tyX2_ok nmX2 hown hK hw hS (Ew_gate (by assumption)) rfl 2 (by decide) (hts (.fieldLink RX5 101 "FerryQuay$Gate" "taken" "I") (by decide +kernel)) rfl (by decide +kernel) rfl rfl (Nat.le_of_ble_eq_true rfl) dX5_swap_73 (fun H locs hw hS => ?_)
          have hw := hw.cast (Ep_gate2 (by assumption))
          refine f_aload hx hb dX5_swap_76 hl rfl ?_
          refine e_get (C := RX2) (T := TX2) (N := 4) hx hb hts i2 hown hK hw (Ew_gate (by assumption)) rfl 1 (by decide) (hts (.fieldLink RX5 78 "FerryQuay$Gate" "isShut" "Z") (by decide +kernel)) rfl dX5_swap_78 ?_
          refine lv_if_ne (tgt := 92) hx hb dX5_swap_81 (by decide) (fun c81 => ?_) (fun c81 => ?_)
          · refine lv_bipush (v := (-5)) hx hb dX5_swap_92 (by decide) ?_
            exact q_isp hx hb hr hlk hK hw hS dX5_swap_94 (by rw [sp_swap, hix, hiy]; dsimp only [Option.elim]; rw [hGt, hEt]; exact (Eq.trans (if_neg (notm1 hG (by omega))) (Eq.trans (if_neg (notm1 hE (by omega))) (if_neg c81))))
          · refine f_aload hx hb dX5_swap_84 hl rfl ?_
            refine e_get (C := RX2) (T := TX2) (N := 4) hx hb hts i2 hown hK hw (Ew_gate (by assumption)) rfl 1 (by decide) (hts (.fieldLink RX5 78 "FerryQuay$Gate" "isShut" "Z") (by decide +kernel)) rfl dX5_swap_86 ?_
            refine lv_if_eq (tgt := 95) hx hb dX5_swap_89 (by decide) (fun c89 => ?_) (fun c89 => ?_)
            · refine f_aload_n hx hb dX5_swap_95 hl 3 rfl rfl ?_
              refine e_get (C := RX0) (T := TX0) (N := 4) hx hb hts i0 hown hK hw (Ew_berth (by assumption)) rfl 1 (by decide) (hts (.fieldLink RX5 125 "FerryQuay$Berth" "ferry" "LFerryQuay$Ferry;") (by decide +kernel)) rfl dX5_swap_96 ?_
              refine f_val (congrArg (fun q => Value.ref (ad 6 q)) hFt1) ?_
              refine f_astore hx hb dX5_swap_99 hl (by decide) (fun ls hl => ?_)
              refine f_aload_n hx hb dX5_swap_101 hl 3 rfl rfl ?_
              refine f_aload hx hb dX5_swap_102 hl rfl ?_
              refine e_get (C := RX0) (T := TX0) (N := 4) hx hb hts i0 hown hK hw (Ew_berth (by assumption)) rfl 1 (by decide) (hts (.fieldLink RX5 125 "FerryQuay$Berth" "ferry" "LFerryQuay$Ferry;") (by decide +kernel)) rfl dX5_swap_104 ?_
              refine f_val (congrArg (fun q => Value.ref (ad 6 q)) hFt2) ?_
              refine e_put (C := RX0) (T := TX0) (N := 4) (ty := .object "FerryQuay$Ferry") hx hb hts i0 tyX0 tyX0_ok nmX0 hown hK hw hS (Ew_berth (by assumption)) rfl 1 (by decide) (hts (.fieldLink RX5 125 "FerryQuay$Berth" "ferry" "LFerryQuay$Ferry;") (by decide +kernel)) rfl (by decide +kernel) rfl rfl (Nat.le_of_ble_eq_true rfl) dX5_swap_107 (fun H locs hw hS => ?_)
              have hw := hw.cast (Ep_bfR (by assumption) (by omega))
              refine f_aload hx hb dX5_swap_110 hl rfl ?_
              refine f_aload hx hb dX5_swap_112 hl rfl ?_
              refine e_put (C := RX0) (T := TX0) (N := 4) (ty := .object "FerryQuay$Ferry") hx hb hts i0 tyX0 tyX0_ok nmX0 hown hK hw hS (Ew_berth (by assumption)) rfl 1 (by decide) (hts (.fieldLink RX5 125 "FerryQuay$Berth" "ferry" "LFerryQuay$Ferry;") (by decide +kernel)) rfl (by decide +kernel) rfl rfl (Nat.le_of_ble_eq_true rfl) dX5_swap_114 (fun H locs hw hS => ?_)
              have hw := hw.cast (Ep_bfR (by assumption) (by omega))
              refine f_aload_n hx hb dX5_swap_117 hl 3 rfl rfl ?_
              refine e_get (C := RX0) (T := TX0) (N := 4) hx hb hts i0 hown hK hw (Ew_berth (by assumption)) rfl 1 (by decide) (hts (.fieldLink RX5 125 "FerryQuay$Berth" "ferry" "LFerryQuay$Ferry;") (by decide +kernel)) rfl dX5_swap_118 ?_
              refine f_val (congrArg (fun q => Value.ref (ad 6 q)) (swp_fo (z := inc (inc z 2 g) 2 h) hF1 hF2 (by omega) (by omega))) ?_
              refine e_get (C := RX1) (T := TX1) (N := 3) hx hb hts i1 hown hK hw (Ew_ferry (by assumption)) rfl 2 (by decide) (hts (.fieldLink RX5 160 "FerryQuay$Ferry" "load" "I") (by decide +kernel)) rfl dX5_swap_121 ?_
              exact q_isp hx hb hr hlk hK hw hS dX5_swap_124 (by rw [sp_swap, hix, hiy]; dsimp only [Option.elim]; rw [hGt, hEt]; exact (Eq.trans (if_neg (notm1 hG (by omega))) (Eq.trans (if_neg (notm1 hE (by omega))) (Eq.trans (if_pos c81) (Eq.trans (if_pos c89) (by show (sc z 13 (fo z j), us (us (inc (inc z 2 g) 2 h) 9 i (sc z 9 j)) 9 j (sc z 9 i)) = _; rw [hFt2, hF1, hF2]; rfl))))))
            · refine lv_bipush (v := (-5)) hx hb dX5_swap_92 (by decide) ?_
              exact q_isp hx hb hr hlk hK hw hS dX5_swap_94 (by rw [sp_swap, hix, hiy]; dsimp only [Option.elim]; rw [hGt, hEt]; exact (Eq.trans (if_neg (notm1 hG (by omega))) (Eq.trans (if_neg (notm1 hE (by omega))) (Eq.trans (if_pos c81) (if_neg c89)))))
set_option maxHeartbeats 4000000 in
set_option maxRecDepth 100000 in
theorem c_X5_round (l : Launch) {G : va_G} {Y : YT} {lo : Nat} {ad : Nat → Nat → Nat} {ng nr nb : Nat} {z u : St} (hI : Inv z ng nr nb) (x n : Int32) : Met l yX5_round wsX5_round ({ frames := 1, cells := 0, slots := 0, locals := 22 }) (va_Pc [.ref (ad 0 0), .int x, .int n] (cS G (tysY Y) lo (Ew Y ng nr nb z u ad) ad)) (QI G (tysY Y) lo (sp_round nb z x n).1 (Ew Y ng nr nb (sp_round nb z x n).2 u ad) ad) 0 0 (fun q => lo ≤ q) := by
  refine met_of (cc := cX5_round) (maxL := 7) (ret := (some .int)) (by decide) rfl (Nat.le_of_ble_eq_true rfl) rfl ?_
  intro p e s m below meth c ls hx hb hr hlk hml hts hown hnm hw hK hl hS
  have i0 : ∀ w ∈ wsX00, w ∈ wsX5_round := by decide +kernel
  have i1 : ∀ w ∈ wsX10, w ∈ wsX5_round := by decide +kernel
  have i2 : ∀ w ∈ wsX20, w ∈ wsX5_round := by decide +kernel
  have i5 : ∀ w ∈ wsX50, w ∈ wsX5_round := by decide +kernel
  have hng := hI.mg
  have hnr := hI.mr
  have hnb := hI.mb
  rcases ix_cases x hI.nb2 with ⟨hix, hbad⟩ | ⟨j, hj, rfl, hix⟩
  · refine f_aload_n hx hb dX5_round_0 hl 0 rfl rfl ?_
    refine f_iload_n hx hb dX5_round_1 hl 1 rfl rfl ?_
    refine q_cq (q_runV (C := RX5) (T := TX5) (N := 10) ⟨hx, hb, hml, hown, hts⟩ (c_X5_berthAt l hI x) (cwV 1 hts gX5_round_X5_berthAt rfl rfl rfl (by decide +kernel) ⟨Nat.le_of_ble_eq_true rfl, Nat.le_of_ble_eq_true rfl⟩) hK hw Ew_fq rfl rfl hl.1 rfl (by simp [Value.category, va_rf]) dX5_round_2 ⟨Nat.le_of_ble_eq_true rfl, Nat.le_of_ble_eq_true rfl⟩) hS (fun H locs hw hS => ?_)
    refine f_val (y := .null) (by rw [hix]; rfl) ?_
    refine lv_ifnullN (tgt := 18) hx hb dX5_round_5 (by decide) ?_
    refine lv_bipush (v := (-2)) hx hb dX5_round_18 (by decide) ?_
    exact q_isp hx hb hr hlk hK hw hS dX5_round_20 (by rw [sp_round, hix]; exact rfl)
  · by_cases h1 : n < 1
    · refine f_aload_n hx hb dX5_round_0 hl 0 rfl rfl ?_
      refine f_iload_n hx hb dX5_round_1 hl 1 rfl rfl ?_
      refine q_cq (q_runV (C := RX5) (T := TX5) (N := 10) ⟨hx, hb, hml, hown, hts⟩ (c_X5_berthAt l hI (nI j)) (cwV 1 hts gX5_round_X5_berthAt rfl rfl rfl (by decide +kernel) ⟨Nat.le_of_ble_eq_true rfl, Nat.le_of_ble_eq_true rfl⟩) hK hw Ew_fq rfl rfl hl.1 rfl (by simp [Value.category, va_rf]) dX5_round_2 ⟨Nat.le_of_ble_eq_true rfl, Nat.le_of_ble_eq_true rfl⟩) hS (fun H locs hw hS => ?_)
      refine f_val (y := .ref (ad 3 j)) (by rw [hix]; rfl) ?_
      refine lv_ifnull hx hb dX5_round_5 ?_
      refine f_iload_n hx hb dX5_round_8 hl 2 rfl rfl ?_
      refine lv_iconst (v := 1) hx hb dX5_round_9 (by decide) ?_
      refine lv_bipush (v := 8) hx hb dX5_round_10 (by decide) ?_
      refine q_ci (q_runS ⟨hx, hb, hml, hown, hts⟩ (c_X5_isWithin l n 1 8) (va_cwS 3 hts gX5_round_X5_isWithin rfl rfl rfl (by decide +kernel) ⟨Nat.le_of_ble_eq_true rfl, Nat.le_of_ble_eq_true rfl⟩) hK hw rfl hl.1 rfl (by simp [Value.category, va_rf]) dX5_round_12 ⟨Nat.le_of_ble_eq_true rfl, Nat.le_of_ble_eq_true rfl⟩) hS (fun H locs hw hS => ?_)
      refine f_top (y := 0) (if_pos h1) ?_
      refine lv_if_ne (tgt := 21) hx hb dX5_round_15 (by decide) (fun c15 => absurd (by decide) c15) (fun c15 => ?_)
      refine lv_bipush (v := (-2)) hx hb dX5_round_18 (by decide) ?_
      exact q_isp hx hb hr hlk hK hw hS dX5_round_20 (by rw [sp_round, hix]; dsimp only [Option.elim]; exact (if_pos h1))
    · by_cases h2 : 8 < n
      · refine f_aload_n hx hb dX5_round_0 hl 0 rfl rfl ?_
        refine f_iload_n hx hb dX5_round_1 hl 1 rfl rfl ?_
        refine q_cq (q_runV (C := RX5) (T := TX5) (N := 10) ⟨hx, hb, hml, hown, hts⟩ (c_X5_berthAt l hI (nI j)) (cwV 1 hts gX5_round_X5_berthAt rfl rfl rfl (by decide +kernel) ⟨Nat.le_of_ble_eq_true rfl, Nat.le_of_ble_eq_true rfl⟩) hK hw Ew_fq rfl rfl hl.1 rfl (by simp [Value.category, va_rf]) dX5_round_2 ⟨Nat.le_of_ble_eq_true rfl, Nat.le_of_ble_eq_true rfl⟩) hS (fun H locs hw hS => ?_)
        refine f_val (y := .ref (ad 3 j)) (by rw [hix]; rfl) ?_
        refine lv_ifnull hx hb dX5_round_5 ?_
        refine f_iload_n hx hb dX5_round_8 hl 2 rfl rfl ?_
        refine lv_iconst (v := 1) hx hb dX5_round_9 (by decide) ?_
        refine lv_bipush (v := 8) hx hb dX5_round_10 (by decide) ?_
        refine q_ci (q_runS ⟨hx, hb, hml, hown, hts⟩ (c_X5_isWithin l n 1 8) (va_cwS 3 hts gX5_round_X5_isWithin rfl rfl rfl (by decide +kernel) ⟨Nat.le_of_ble_eq_true rfl, Nat.le_of_ble_eq_true rfl⟩) hK hw rfl hl.1 rfl (by simp [Value.category, va_rf]) dX5_round_12 ⟨Nat.le_of_ble_eq_true rfl, Nat.le_of_ble_eq_true rfl⟩) hS (fun H locs hw hS => ?_)
        refine f_top (y := 0) (Eq.trans (if_neg h1) (if_pos h2)) ?_
        refine lv_if_ne (tgt := 21) hx hb dX5_round_15 (by decide) (fun c15 => absurd (by decide) c15) (fun c15 => ?_)
        refine lv_bipush (v := (-2)) hx hb dX5_round_18 (by decide) ?_
        exact q_isp hx hb hr hlk hK hw hS dX5_round_20 (by rw [sp_round, hix]; dsimp only [Option.elim]; exact (Eq.trans (if_neg h1) (if_pos h2)))
      · obtain ⟨N, hN, rfl⟩ := rng_of (M := 8) (m := 8) (by decide) h1 h2
        refine f_aload_n hx hb dX5_round_0 hl 0 rfl rfl ?_
        refine f_iload_n hx hb dX5_round_1 hl 1 rfl rfl ?_
        refine q_cq (q_runV (C := RX5) (T := TX5) (N := 10) ⟨hx, hb, hml, hown, hts⟩ (c_X5_berthAt l hI (nI j)) (cwV 1 hts gX5_round_X5_berthAt rfl rfl rfl (by decide +kernel) ⟨Nat.le_of_ble_eq_true rfl, Nat.le_of_ble_eq_true rfl⟩) hK hw Ew_fq rfl rfl hl.1 rfl (by simp [Value.category, va_rf]) dX5_round_2 ⟨Nat.le_of_ble_eq_true rfl, Nat.le_of_ble_eq_true rfl⟩) hS (fun H locs hw hS => ?_)
        refine f_val (y := .ref (ad 3 j)) (by rw [hix]; rfl) ?_
        refine lv_ifnull hx hb dX5_round_5 ?_
        refine f_iload_n hx hb dX5_round_8 hl 2 rfl rfl ?_
        refine lv_iconst (v := 1) hx hb dX5_round_9 (by decide) ?_
        refine lv_bipush (v := 8) hx hb dX5_round_10 (by decide) ?_
        refine q_ci (q_runS ⟨hx, hb, hml, hown, hts⟩ (c_X5_isWithin l (nI N) 1 8) (va_cwS 3 hts gX5_round_X5_isWithin rfl rfl rfl (by decide +kernel) ⟨Nat.le_of_ble_eq_true rfl, Nat.le_of_ble_eq_true rfl⟩) hK hw rfl hl.1 rfl (by simp [Value.category, va_rf]) dX5_round_12 ⟨Nat.le_of_ble_eq_true rfl, Nat.le_of_ble_eq_true rfl⟩) hS (fun H locs hw hS => ?_)
        refine f_top (y := 1) (Eq.trans (if_neg h1) (if_neg h2)) ?_
        refine lv_if_ne (tgt := 21) hx hb dX5_round_15 (by decide) (fun c15 => ?_) (fun c15 => absurd c15 (by decide))
        refine lv_iconst (v := 0) hx hb dX5_round_21 (by decide) ?_
        refine f_istore_n hx hb dX5_round_22 hl 3 rfl (by decide) (fun ls hl => ?_)
        refine lv_iconst (v := 0) hx hb dX5_round_23 (by decide) ?_
        refine f_top (y := nI 0) rfl ?_
        refine f_istore hx hb dX5_round_24 hl (by decide) (fun ls hl => ?_)
        have loop : ∀ (t : Nat) (w : Int32) (k : Nat) (zc : St) (H : Heap) (locs : List Loc) (ls : Array Slot), Inv zc ng nr nb → k + t = N → rl nb t (j + k) w zc = sp_round nb z (nI j) (nI N) → wo G lo (Ew Y ng nr nb zc u ad) ad H → va_S (fun q => lo ≤ q) s.heap H locs → lh ls 7 (fun i9 => ([(0, .ref (ad 0 0)), (1, .int (nI j)), (2, .int (nI N)), (3, .int w), (4, .int (nI k))].find? (fun q => q.1 == i9)).map (fun q => q.2)) → W p l e (headSpec wsX5_round ({ frames := 1, cells := 0, slots := 0, locals := 22 })).room s m ([.ref (ad 0 0), .int (nI j), .int (nI N)] : List Value).toArray below meth c H locs 0 0 (MQ below (QI G (tysY Y) lo (sp_round nb z (nI j) (nI N)).1 (Ew Y ng nr nb (sp_round nb z (nI j) (nI N)).2 u ad) ad) ([.ref (ad 0 0), .int (nI j), .int (nI N)] : List Value).toArray s 0 0 (fun q => lo ≤ q)) (F0 m 26 ls []) := by
          intro t
          induction t with
          | zero =>
            intro w k zc H locs ls hI hkt hsp hw hS hl
            refine f_iload hx hb dX5_round_26 hl rfl ?_
            refine f_iload_n hx hb dX5_round_28 hl 2 rfl rfl ?_
            refine lv_icmp_ge (tgt := 106) hx hb dX5_round_29 (by decide) (fun c29 => ?_) (fun c29 => absurd (nI_le (by omega) (by omega)) c29)
            refine f_iload_n hx hb dX5_round_106 hl 3 rfl rfl ?_
            exact q_isp hx hb hr hlk hK hw hS dX5_round_107 hsp.symm
          | succ t ih =>
            intro w k zc H locs ls hI hkt hsp hw hS hl
            refine f_iload hx hb dX5_round_26 hl rfl ?_
            refine f_iload_n hx hb dX5_round_28 hl 2 rfl rfl ?_
            refine lv_icmp_ge (tgt := 106) hx hb dX5_round_29 (by decide) (fun c29 => absurd c29 (nI_ge (by omega) (by omega))) (fun c29 => ?_)
            refine f_aload_n hx hb dX5_round_32 hl 0 rfl rfl ?_
            refine f_iload_n hx hb dX5_round_33 hl 1 rfl rfl ?_
            refine f_iload hx hb dX5_round_34 hl rfl ?_
            refine lv_iadd hx hb dX5_round_36 ?_
            refine f_top (y := nI (j + k)) (nI_add j k) ?_
            by_cases hk2 : nb ≤ j + k
            · have hiy := ix_no (n := nb) (show j + k < 2 ^ 31 by omega) hk2
              refine q_cq (q_runV (C := RX5) (T := TX5) (N := 10) ⟨hx, hb, hml, hown, hts⟩ (c_X5_berthAt l hI (nI (j + k))) (cwV 1 hts gX5_round_X5_berthAt rfl rfl rfl (by decide +kernel) ⟨Nat.le_of_ble_eq_true rfl, Nat.le_of_ble_eq_true rfl⟩) hK hw Ew_fq rfl rfl hl.1 rfl (by simp [Value.category, va_rf]) dX5_round_37 ⟨Nat.le_of_ble_eq_true rfl, Nat.le_of_ble_eq_true rfl⟩) hS (fun H locs hw hS => ?_)
              refine f_val (y := .null) (by rw [hiy]; rfl) ?_
              refine f_astoreN hx hb dX5_round_40 hl (by decide) (fun ls hl => ?_)
              refine f_aloadN hx hb dX5_round_42 hl rfl ?_
              refine lv_ifnonnullN hx hb dX5_round_44 ?_
              refine f_iload_n hx hb dX5_round_47 hl 3 rfl rfl ?_
              exact q_isp hx hb hr hlk hK hw hS dX5_round_48 (hsp.symm.trans (by rw [rl]; exact (if_pos hk2)))
            · have hk3 : j + k < nb := by omega
              have hiy := ix_in hI.nb2 hk3
              rcases hI.gate hk3 with hG | ⟨g, hg, hG, hGt⟩
              · refine q_cq (q_runV (C := RX5) (T := TX5) (N := 10) ⟨hx, hb, hml, hown, hts⟩ (c_X5_berthAt l hI (nI (j + k))) (cwV 1 hts gX5_round_X5_berthAt rfl rfl rfl (by decide +kernel) ⟨Nat.le_of_ble_eq_true rfl, Nat.le_of_ble_eq_true rfl⟩) hK hw Ew_fq rfl rfl hl.1 rfl (by simp [Value.category, va_rf]) dX5_round_37 ⟨Nat.le_of_ble_eq_true rfl, Nat.le_of_ble_eq_true rfl⟩) hS (fun H locs hw hS => ?_)
                refine f_val (y := .ref (ad 3 (j + k))) (by rw [hiy]; rfl) ?_
                refine f_astore hx hb dX5_round_40 hl (by decide) (fun ls hl => ?_)
                refine f_aload hx hb dX5_round_42 hl rfl ?_
                refine lv_ifnonnull (tgt := 49) hx hb dX5_round_44 (by decide) ?_
                refine f_aload hx hb dX5_round_49 hl rfl ?_
                refine e_get (C := RX0) (T := TX0) (N := 4) hx hb hts i0 hown hK hw (Ew_berth (by assumption)) rfl 2 (by decide) (hts (.fieldLink RX5 60 "FerryQuay$Berth" "gate" "LFerryQuay$Gate;") (by decide +kernel)) rfl dX5_round_51 ?_
                refine f_val (orefN hG) ?_
                refine f_astoreN hx hb dX5_round_54 hl (by decide) (fun ls hl => ?_)
                refine f_aloadN hx hb dX5_round_56 hl rfl ?_
                refine lv_ifnonnullN hx hb dX5_round_58 ?_
                refine f_iload_n hx hb dX5_round_61 hl 3 rfl rfl ?_
                exact q_isp hx hb hr hlk hK hw hS dX5_round_62 (hsp.symm.trans (by rw [rl]; exact (Eq.trans (if_neg hk2) (if_pos hG))))
              · obtain ⟨f, hf, hF, hFt⟩ := hI.ferry hk3
                refine q_cq (q_runV (C := RX5) (T := TX5) (N := 10) ⟨hx, hb, hml, hown, hts⟩ (c_X5_berthAt l hI (nI (j + k))) (cwV 1 hts gX5_round_X5_berthAt rfl rfl rfl (by decide +kernel) ⟨Nat.le_of_ble_eq_true rfl, Nat.le_of_ble_eq_true rfl⟩) hK hw Ew_fq rfl rfl hl.1 rfl (by simp [Value.category, va_rf]) dX5_round_37 ⟨Nat.le_of_ble_eq_true rfl, Nat.le_of_ble_eq_true rfl⟩) hS (fun H locs hw hS => ?_)
                refine f_val (y := .ref (ad 3 (j + k))) (by rw [hiy]; rfl) ?_
                refine f_astore hx hb dX5_round_40 hl (by decide) (fun ls hl => ?_)
                refine f_aload hx hb dX5_round_42 hl rfl ?_
                refine lv_ifnonnull (tgt := 49) hx hb dX5_round_44 (by decide) ?_
                refine f_aload hx hb dX5_round_49 hl rfl ?_
                refine e_get (C := RX0) (T := TX0) (N := 4) hx hb hts i0 hown hK hw (Ew_berth (by assumption)) rfl 2 (by decide) (hts (.fieldLink RX5 60 "FerryQuay$Berth" "gate" "LFerryQuay$Gate;") (by decide +kernel)) rfl dX5_round_51 ?_
                refine f_val (orefR hG (by omega)) ?_
                refine f_astore hx hb dX5_round_54 hl (by decide) (fun ls hl => ?_)
                refine f_aload hx hb dX5_round_56 hl rfl ?_
                refine lv_ifnonnull (tgt := 63) hx hb dX5_round_58 (by decide) ?_
                refine f_aload hx hb dX5_round_63 hl rfl ?_
                refine lv_dup hx hb dX5_round_65 rfl ?_
                refine e_get (C := RX2) (T := TX2) (N := 4) hx hb hts i2 hown hK hw (Ew_gate (by assumption)) rfl 2 (by decide) (hts (.fieldLink RX5 101 "FerryQuay$Gate" "taken" "I") (by decide +kernel)) rfl dX5_round_66 ?_
                refine lv_iconst (v := 1) hx hb dX5_round_69 (by decide) ?_
                refine lv_iadd hx hb dX5_round_70 ?_
                refine e_put (C := RX2) (T := TX2) (N := 4) (ty := .int) hx hb hts i2 tyX2 tyX2_ok nmX2 hown hK hw hS (Ew_gate (by assumption)) rfl 2 (by decide) (hts (.fieldLink RX5 101 "FerryQuay$Gate" "taken" "I") (by decide +kernel)) rfl (by decide +kernel) rfl rfl (Nat.le_of_ble_eq_true rfl) dX5_round_71 (fun H locs hw hS => ?_)
                have hw := hw.cast (Ep_gate2 (by assumption))
                refine f_aload hx hb dX5_round_74 hl rfl ?_
                refine e_get (C := RX2) (T := TX2) (N := 4) hx hb hts i2 hown hK hw (Ew_gate (by assumption)) rfl 1 (by decide) (hts (.fieldLink RX5 78 "FerryQuay$Gate" "isShut" "Z") (by decide +kernel)) rfl dX5_round_76 ?_
                refine lv_if_eq (tgt := 89) hx hb dX5_round_79 (by decide) (fun c79 => ?_) (fun c79 => ?_)
                · refine f_iload_n hx hb dX5_round_89 hl 3 rfl rfl ?_
                  refine f_aload hx hb dX5_round_90 hl rfl ?_
                  refine e_get (C := RX0) (T := TX0) (N := 4) hx hb hts i0 hown hK hw (Ew_berth (by assumption)) rfl 1 (by decide) (hts (.fieldLink RX5 125 "FerryQuay$Berth" "ferry" "LFerryQuay$Ferry;") (by decide +kernel)) rfl dX5_round_92 ?_
                  refine f_val (congrArg (fun q => Value.ref (ad 6 q)) hFt) ?_
                  refine e_get (C := RX1) (T := TX1) (N := 3) hx hb hts i1 hown hK hw (Ew_ferry (by assumption)) rfl 2 (by decide) (hts (.fieldLink RX5 160 "FerryQuay$Ferry" "load" "I") (by decide +kernel)) rfl dX5_round_95 ?_
                  refine lv_iadd hx hb dX5_round_98 ?_
                  refine f_istore_n hx hb dX5_round_99 hl 3 rfl (by decide) (fun ls hl => ?_)
                  refine f_iinc (d := 1) hx hb dX5_round_100 hl rfl (by decide) (by decide) (fun ls hl => ?_)
                  rw [nI_1] at hl
                  refine lv_goto (tgt := 26) hx hb dX5_round_103 (by decide) ?_
                  exact ih (w + sc zc 13 f) (k + 1) _ _ _ _ (hI.p2 hg) (by omega) (Eq.trans (Eq.symm (by rw [rl, hGt, hFt]; exact (Eq.trans (if_neg hk2) (Eq.trans (if_neg (notm1 hG (by omega))) (if_pos c79))))) hsp) hw hS (hl.list [(0, .ref (ad 0 0)), (1, .int (nI j)), (2, .int (nI N)), (3, .int (w + sc zc 13 f)), (4, .int (nI (k + 1)))] (List.forall_mem_cons.mpr ⟨rfl, List.forall_mem_cons.mpr ⟨rfl, List.forall_mem_cons.mpr ⟨rfl, List.forall_mem_cons.mpr ⟨rfl, List.forall_mem_cons.mpr ⟨rfl, fun _ h => absurd h List.not_mem_nil⟩⟩⟩⟩⟩))
                · refine f_aload_n hx hb dX5_round_82 hl 0 rfl rfl ?_
                  refine lv_bipush (v := (-5)) hx hb dX5_round_83 (by decide) ?_
                  refine q_ci (q_runV (C := RX5) (T := TX5) (N := 10) ⟨hx, hb, hml, hown, hts⟩ (c_X5_alarm l (hI.p2 hg) (-5)) (cwV 1 hts gX5_round_X5_alarm rfl rfl rfl (by decide +kernel) ⟨Nat.le_of_ble_eq_true rfl, Nat.le_of_ble_eq_true rfl⟩) hK hw Ew_fq rfl rfl hl.1 rfl (by simp [Value.category, va_rf]) dX5_round_85 ⟨Nat.le_of_ble_eq_true rfl, Nat.le_of_ble_eq_true rfl⟩) hS (fun H locs hw hS => ?_)
                  exact q_isp hx hb hr hlk hK hw hS dX5_round_88 (hsp.symm.trans (by rw [rl, hGt]; exact (Eq.trans (if_neg hk2) (Eq.trans (if_neg (notm1 hG (by omega))) (if_neg c79)))))
        exact loop N 0 0 z _ _ _ hI (by omega) (by rw [sp_round, hix]; dsimp only [Option.elim]; rw [show tn (nI N) = N from nI_clamp (by omega)]; exact (Eq.symm (Eq.trans (if_neg h1) (if_neg h2)))) hw hS (hl.list [(0, .ref (ad 0 0)), (1, .int (nI j)), (2, .int (nI N)), (3, .int 0), (4, .int (nI 0))] (List.forall_mem_cons.mpr ⟨rfl, List.forall_mem_cons.mpr ⟨rfl, List.forall_mem_cons.mpr ⟨rfl, List.forall_mem_cons.mpr ⟨rfl, List.forall_mem_cons.mpr ⟨rfl, fun _ h => absurd h List.not_mem_nil⟩⟩⟩⟩⟩))
end
section
theorem idx_mul {m : Int32} {k : Nat} (hm : m = nI k) (j : Nat) : m * nI j = nI (k * j) := by
  subst hm
  exact pk_mul k j
theorem idx_add {m x : Int32} {k j n : Nat} (hm : m = nI k) (hx : x = nI n) : m * nI j + x = nI (k * j + n) := by
  subst hm hx
  rw [pk_mul, nI_add]
theorem is_bad {x : Int32} {n : Nat} (h : x < 0 ∨ nI n ≤ x) : (if x < 0 then (0 : Int32) else if nI n ≤ x then 0 else 1) = 0 := by
  by_cases h0 : x < 0
  · rw [if_pos h0]
  · rw [if_neg h0, if_pos (h.resolve_left h0)]
theorem is_ok {j n : Nat} (hj : j < n) (hn : n < 2 ^ 31) : (if nI j < 0 then (0 : Int32) else if nI n ≤ nI j then 0 else 1) = 1 := by
  rw [if_neg (nI_pos (Nat.lt_trans hj hn)), if_neg (nI_ge hj hn)]
theorem cpy0 {f : Nat → Int32} : va_cpy f f 1 0 0 = f := by
  funext y
  simp [va_cpy]
theorem cpy_at {f : Nat → Int32} {k y : Nat} (h : k ≤ y) : va_cpy f f 1 0 k y = f y := by
  unfold va_cpy
  rw [if_neg (by omega)]
theorem cpy_step {f : Nat → Int32} {k : Nat} : va_up (va_cpy f f 1 0 k) k (f (k + 1)) = va_cpy f f 1 0 (k + 1) := by
  funext y
  by_cases h : y = k
  · subst h
    rw [va_up_self]
    unfold va_cpy
    rw [if_pos (by omega)]
    congr 1
    omega
  · rw [va_up_ne _ _ h]
    unfold va_cpy
    by_cases h2 : y < k
    · rw [if_pos (by omega), if_pos (by omega)]
    · rw [if_neg (by omega), if_neg (by omega)]
theorem u2_same {α : Type} {f : Nat → Nat → α} {k i : Nat} : u2 f k i (f k i) = f := by
  funext k' i'
  by_cases hk : k' = k
  · subst hk
    by_cases hi : i' = i
    · subst hi
      rw [u2_self]
    · rw [u2_i hi]
  · rw [u2_k hk]
theorem lt_of {y a : Int32} {n : Nat} (ha : a = nI n) (hn : n < 2 ^ 31) (h0 : ¬ y < 0) (h1 : ¬ a ≤ y) : ∃ q, q < n ∧ y = nI q := by
  subst ha
  rcases pk_ix y hn with h | h | h
  · exact absurd h h0
  · exact absurd h h1
  · exact h
theorem fl30 {u : St} {j n : Nat} (h : n < 30) : u 11 ((30 * j + n) / 30) ((30 * j + n) % 30) = u 11 j n := by
  rw [show (30 * j + n) / 30 = j by omega, show (30 * j + n) % 30 = n by omega]
theorem fl40 {u : St} {j n : Nat} (h : n < 40) : u 15 ((40 * j + n) / 40) ((40 * j + n) % 40) = u 15 j n := by
  rw [show (40 * j + n) / 40 = j by omega, show (40 * j + n) % 40 = n by omega]
theorem eq_2 {y : Int32} (h0 : ¬ y < 0) (h2 : y ≤ 2) (n0 : ¬ y = 0) (n1 : ¬ y = 1) : y = 2 := by
  obtain ⟨k, hk, rfl⟩ := nI_of2 (M := 2) (n := 2) (by decide) h0 h2
  rcases (show k = 0 ∨ k = 1 ∨ k = 2 by omega) with rfl | rfl | rfl
  · exact absurd rfl n0
  · exact absurd rfl n1
  · rfl
theorem swp_at {z : St} {i j : Nat} : sc (us (us z 9 i (sc z 9 j)) 9 j (sc z 9 i)) 9 i = sc z 9 j := by
  by_cases h : i = j
  · subst h
    rw [sc_s]
  · rw [sc_i h, sc_s]
theorem fl30z {u : St} {j : Nat} : u 11 (30 * j / 30) (30 * j % 30) = u 11 j 0 := by
  rw [show 30 * j / 30 = j by omega, show 30 * j % 30 = 0 by omega]
end
section
set_option maxHeartbeats 4000000 in
set_option maxRecDepth 100000 in
theorem c_X6_alarm (l : Launch) {G : va_G} {Y : YT} {lo : Nat} {ad : Nat → Nat → Nat} {ng nr nb : Nat} {z u : St} (hI : Inv u ng nr nb) (x : Int32) : Met l yX6_alarm wsX6_alarm ({ frames := 0, cells := 0, slots := 0, locals := 0 }) (va_Pc [.ref (ad 0 4), .int x] (cS G (tysY Y) lo (Ew Y ng nr nb z u ad) ad)) (QI G (tysY Y) lo x (Ew Y ng nr nb z (inc u 0 6) ad) ad) 0 0 (fun q => lo ≤ q) := by
  refine met_of (cc := cX6_alarm) (maxL := 2) (ret := (some .int)) (by decide) rfl (Nat.le_of_ble_eq_true rfl) rfl ?_
  intro p e s m below meth c ls hx hb hr hlk hml hts hown hnm hw hK hl hS
  have i6 : ∀ w ∈ wsX60, w ∈ wsX6_alarm := by decide +kernel
  have hng := hI.mg
  have hnr := hI.mr
  have hnb := hI.mb
  refine f_aload_n hx hb dX6_alarm_0 hl 0 rfl rfl ?_
  refine lv_dup hx hb dX6_alarm_1 rfl ?_
  refine e_get (C := RX6) (T := TX6) (N := 22) hx hb hts i6 hown hK hw Ew_mo rfl 6 (by decide) (hts (.fieldLink RX6 66 "FerryQuayModel" "alarms" "I") (by decide +kernel)) rfl dX6_alarm_2 ?_
  refine lv_iconst (v := 1) hx hb dX6_alarm_5 (by decide) ?_
  refine lv_iadd hx hb dX6_alarm_6 ?_
  refine e_put (C := RX6) (T := TX6) (N := 22) (ty := .int) hx hb hts i6 tyX6 tyX6_ok nmX6 hown hK hw hS Ew_mo rfl 6 (by decide) (hts (.fieldLink RX6 66 "FerryQuayModel" "alarms" "I") (by decide +kernel)) rfl (by decide +kernel) rfl rfl (Nat.le_of_ble_eq_true rfl) dX6_alarm_7 (fun H locs hw hS => ?_)
  have hw := hw.cast Ep_mo6
  refine f_iload_n hx hb dX6_alarm_10 hl 1 rfl rfl ?_
  exact q_iret hx hb hr hlk hK hw hS dX6_alarm_11 rfl rfl
set_option maxHeartbeats 4000000 in
set_option maxRecDepth 100000 in
theorem c_X6_isGate (l : Launch) {G : va_G} {Y : YT} {lo : Nat} {ad : Nat → Nat → Nat} {ng nr nb : Nat} {z u : St} (hI : Inv u ng nr nb) (x : Int32) : Met l yX6_isGate wsX6_isGate ({ frames := 0, cells := 0, slots := 0, locals := 0 }) (va_Pc [.ref (ad 0 4), .int x] (cS G (tysY Y) lo (Ew Y ng nr nb z u ad) ad)) (QI G (tysY Y) lo (if x < 0 then 0 else if nI ng ≤ x then 0 else 1) (Ew Y ng nr nb z u ad) ad) 0 0 (fun q => lo ≤ q) := by
  refine met_of (cc := cX6_isGate) (maxL := 2) (ret := (some .boolean)) (by decide) rfl (Nat.le_of_ble_eq_true rfl) rfl ?_
  intro p e s m below meth c ls hx hb hr hlk hml hts hown hnm hw hK hl hS
  have i6 : ∀ w ∈ wsX60, w ∈ wsX6_isGate := by decide +kernel
  have hng := hI.mg
  have hnr := hI.mr
  have hnb := hI.mb
  refine f_iload_n hx hb dX6_isGate_0 hl 1 rfl rfl ?_
  refine lv_if_lt (tgt := 16) hx hb dX6_isGate_1 (by decide) (fun c1 => ?_) (fun c1 => ?_)
  · refine lv_iconst (v := 0) hx hb dX6_isGate_16 (by decide) ?_
    exact q_zret hx hb hr hlk hK hw hS dX6_isGate_17 rfl (by simp only [c1, if_true, if_false, reduceIte]) rfl
  · refine f_iload_n hx hb dX6_isGate_4 hl 1 rfl rfl ?_
    refine f_aload_n hx hb dX6_isGate_5 hl 0 rfl rfl ?_
    refine e_get (C := RX6) (T := TX6) (N := 22) hx hb hts i6 hown hK hw Ew_mo rfl 0 (by decide) (hts (.fieldLink RX6 56 "FerryQuayModel" "gates" "I") (by decide +kernel)) rfl dX6_isGate_6 ?_
    refine f_top hI.s0 ?_
    refine lv_icmp_ge (tgt := 16) hx hb dX6_isGate_9 (by decide) (fun c9 => ?_) (fun c9 => ?_)
    · refine lv_iconst (v := 0) hx hb dX6_isGate_16 (by decide) ?_
      exact q_zret hx hb hr hlk hK hw hS dX6_isGate_17 rfl (by simp only [c1, c9, if_true, if_false, reduceIte]) rfl
    · refine lv_iconst (v := 1) hx hb dX6_isGate_12 (by decide) ?_
      refine lv_goto (tgt := 17) hx hb dX6_isGate_13 (by decide) ?_
      exact q_zret hx hb hr hlk hK hw hS dX6_isGate_17 rfl (by simp only [c1, c9, if_true, if_false, reduceIte]) rfl
set_option maxHeartbeats 4000000 in
set_option maxRecDepth 100000 in
theorem c_X6_isRamp (l : Launch) {G : va_G} {Y : YT} {lo : Nat} {ad : Nat → Nat → Nat} {ng nr nb : Nat} {z u : St} (hI : Inv u ng nr nb) (x : Int32) : Met l yX6_isRamp wsX6_isRamp ({ frames := 0, cells := 0, slots := 0, locals := 0 }) (va_Pc [.ref (ad 0 4), .int x] (cS G (tysY Y) lo (Ew Y ng nr nb z u ad) ad)) (QI G (tysY Y) lo (if x < 0 then 0 else if nI nr ≤ x then 0 else 1) (Ew Y ng nr nb z u ad) ad) 0 0 (fun q => lo ≤ q) := by
  refine met_of (cc := cX6_isRamp) (maxL := 2) (ret := (some .boolean)) (by decide) rfl (Nat.le_of_ble_eq_true rfl) rfl ?_
  intro p e s m below meth c ls hx hb hr hlk hml hts hown hnm hw hK hl hS
  have i6 : ∀ w ∈ wsX60, w ∈ wsX6_isRamp := by decide +kernel
  have hng := hI.mg
  have hnr := hI.mr
  have hnb := hI.mb
  refine f_iload_n hx hb dX6_isRamp_0 hl 1 rfl rfl ?_
  refine lv_if_lt (tgt := 16) hx hb dX6_isRamp_1 (by decide) (fun c1 => ?_) (fun c1 => ?_)
  · refine lv_iconst (v := 0) hx hb dX6_isRamp_16 (by decide) ?_
    exact q_zret hx hb hr hlk hK hw hS dX6_isRamp_17 rfl (by simp only [c1, if_true, if_false, reduceIte]) rfl
  · refine f_iload_n hx hb dX6_isRamp_4 hl 1 rfl rfl ?_
    refine f_aload_n hx hb dX6_isRamp_5 hl 0 rfl rfl ?_
    refine e_get (C := RX6) (T := TX6) (N := 22) hx hb hts i6 hown hK hw Ew_mo rfl 1 (by decide) (hts (.fieldLink RX6 60 "FerryQuayModel" "ramps" "I") (by decide +kernel)) rfl dX6_isRamp_6 ?_
    refine f_top hI.s1 ?_
    refine lv_icmp_ge (tgt := 16) hx hb dX6_isRamp_9 (by decide) (fun c9 => ?_) (fun c9 => ?_)
    · refine lv_iconst (v := 0) hx hb dX6_isRamp_16 (by decide) ?_
      exact q_zret hx hb hr hlk hK hw hS dX6_isRamp_17 rfl (by simp only [c1, c9, if_true, if_false, reduceIte]) rfl
    · refine lv_iconst (v := 1) hx hb dX6_isRamp_12 (by decide) ?_
      refine lv_goto (tgt := 17) hx hb dX6_isRamp_13 (by decide) ?_
      exact q_zret hx hb hr hlk hK hw hS dX6_isRamp_17 rfl (by simp only [c1, c9, if_true, if_false, reduceIte]) rfl
set_option maxHeartbeats 4000000 in
set_option maxRecDepth 100000 in
theorem c_X6_isBerth (l : Launch) {G : va_G} {Y : YT} {lo : Nat} {ad : Nat → Nat → Nat} {ng nr nb : Nat} {z u : St} (hI : Inv u ng nr nb) (x : Int32) : Met l yX6_isBerth wsX6_isBerth ({ frames := 0, cells := 0, slots := 0, locals := 0 }) (va_Pc [.ref (ad 0 4), .int x] (cS G (tysY Y) lo (Ew Y ng nr nb z u ad) ad)) (QI G (tysY Y) lo (if x < 0 then 0 else if nI nb ≤ x then 0 else 1) (Ew Y ng nr nb z u ad) ad) 0 0 (fun q => lo ≤ q) := by
  refine met_of (cc := cX6_isBerth) (maxL := 2) (ret := (some .boolean)) (by decide) rfl (Nat.le_of_ble_eq_true rfl) rfl ?_
  intro p e s m below meth c ls hx hb hr hlk hml hts hown hnm hw hK hl hS
  have i6 : ∀ w ∈ wsX60, w ∈ wsX6_isBerth := by decide +kernel
  have hng := hI.mg
  have hnr := hI.mr
  have hnb := hI.mb
  refine f_iload_n hx hb dX6_isBerth_0 hl 1 rfl rfl ?_
  refine lv_if_lt (tgt := 16) hx hb dX6_isBerth_1 (by decide) (fun c1 => ?_) (fun c1 => ?_)
  · refine lv_iconst (v := 0) hx hb dX6_isBerth_16 (by decide) ?_
    exact q_zret hx hb hr hlk hK hw hS dX6_isBerth_17 rfl (by simp only [c1, if_true, if_false, reduceIte]) rfl
  · refine f_iload_n hx hb dX6_isBerth_4 hl 1 rfl rfl ?_
    refine f_aload_n hx hb dX6_isBerth_5 hl 0 rfl rfl ?_
    refine e_get (C := RX6) (T := TX6) (N := 22) hx hb hts i6 hown hK hw Ew_mo rfl 2 (by decide) (hts (.fieldLink RX6 63 "FerryQuayModel" "berths" "I") (by decide +kernel)) rfl dX6_isBerth_6 ?_
    refine f_top hI.s2 ?_
    refine lv_icmp_ge (tgt := 16) hx hb dX6_isBerth_9 (by decide) (fun c9 => ?_) (fun c9 => ?_)
    · refine lv_iconst (v := 0) hx hb dX6_isBerth_16 (by decide) ?_
      exact q_zret hx hb hr hlk hK hw hS dX6_isBerth_17 rfl (by simp only [c1, c9, if_true, if_false, reduceIte]) rfl
    · refine lv_iconst (v := 1) hx hb dX6_isBerth_12 (by decide) ?_
      refine lv_goto (tgt := 17) hx hb dX6_isBerth_13 (by decide) ?_
      exact q_zret hx hb hr hlk hK hw hS dX6_isBerth_17 rfl (by simp only [c1, c9, if_true, if_false, reduceIte]) rfl
set_option maxHeartbeats 4000000 in
set_option maxRecDepth 100000 in
theorem c_X6_tend (l : Launch) {G : va_G} {Y : YT} {lo : Nat} {ad : Nat → Nat → Nat} {ng nr nb : Nat} {z u : St} (hI : Inv u ng nr nb) (x : Int32) : Met l yX6_tend wsX6_tend ({ frames := 1, cells := 0, slots := 0, locals := 21 }) (va_Pc [.ref (ad 0 4), .int x] (cS G (tysY Y) lo (Ew Y ng nr nb z u ad) ad)) (QI G (tysY Y) lo (sp_tend nr u x).1 (Ew Y ng nr nb z (sp_tend nr u x).2 ad) ad) 0 0 (fun q => lo ≤ q) := by
  refine met_of (cc := cX6_tend) (maxL := 3) (ret := (some .int)) (by decide) rfl (Nat.le_of_ble_eq_true rfl) rfl ?_
  intro p e s m below meth c ls hx hb hr hlk hml hts hown hnm hw hK hl hS
  have i6 : ∀ w ∈ wsX60, w ∈ wsX6_tend := by decide +kernel
  have hng := hI.mg
  have hnr := hI.mr
  have hnb := hI.mb
  rcases ix_cases x hI.nr2 with ⟨hix, hbad⟩ | ⟨j, hj, rfl, hix⟩
  · refine f_aload_n hx hb dX6_tend_0 hl 0 rfl rfl ?_
    refine f_iload_n hx hb dX6_tend_1 hl 1 rfl rfl ?_
    refine q_ci (q_runV (C := RX6) (T := TX6) (N := 22) ⟨hx, hb, hml, hown, hts⟩ (c_X6_isRamp l hI x) (cwV 1 hts gX6_tend_X6_isRamp rfl rfl rfl (by decide +kernel) ⟨Nat.le_of_ble_eq_true rfl, Nat.le_of_ble_eq_true rfl⟩) hK hw Ew_mo rfl rfl hl.1 rfl (by simp [Value.category, va_rf]) dX6_tend_2 ⟨Nat.le_of_ble_eq_true rfl, Nat.le_of_ble_eq_true rfl⟩) hS (fun H locs hw hS => ?_)
    refine f_top (y := 0) (is_bad hbad) ?_
    refine lv_if_ne (tgt := 11) hx hb dX6_tend_5 (by decide) (fun c5 => absurd (by decide) c5) (fun c5 => ?_)
    refine lv_bipush (v := (-2)) hx hb dX6_tend_8 (by decide) ?_
    exact q_ism hx hb hr hlk hK hw hS dX6_tend_10 (by rw [sp_tend, hix]; exact rfl)
  · refine f_aload_n hx hb dX6_tend_0 hl 0 rfl rfl ?_
    refine f_iload_n hx hb dX6_tend_1 hl 1 rfl rfl ?_
    refine q_ci (q_runV (C := RX6) (T := TX6) (N := 22) ⟨hx, hb, hml, hown, hts⟩ (c_X6_isRamp l hI (nI j)) (cwV 1 hts gX6_tend_X6_isRamp rfl rfl rfl (by decide +kernel) ⟨Nat.le_of_ble_eq_true rfl, Nat.le_of_ble_eq_true rfl⟩) hK hw Ew_mo rfl rfl hl.1 rfl (by simp [Value.category, va_rf]) dX6_tend_2 ⟨Nat.le_of_ble_eq_true rfl, Nat.le_of_ble_eq_true rfl⟩) hS (fun H locs hw hS => ?_)
    refine f_top (y := 1) (is_ok hj hI.nr2) ?_
    refine lv_if_ne (tgt := 11) hx hb dX6_tend_5 (by decide) (fun c5 => ?_) (fun c5 => absurd c5 (by decide))
    refine f_aload_n hx hb dX6_tend_11 hl 0 rfl rfl ?_
    refine e_get (C := RX6) (T := TX6) (N := 22) hx hb hts i6 hown hK hw Ew_mo rfl 12 (by decide) (hts (.fieldLink RX6 26 "FerryQuayModel" "rampTaken" "[I") (by decide +kernel)) rfl dX6_tend_12 ?_
    refine f_iload_n hx hb dX6_tend_15 hl 1 rfl rfl ?_
    refine lv_dup2_11 hx hb dX6_tend_16 rfl rfl ?_
    refine e_ialdN hx hb hK hw 0 Ew_m6 rfl rfl (by omega) (by decide) dX6_tend_17 ?_
    refine lv_iconst (v := 1) hx hb dX6_tend_18 (by decide) ?_
    refine lv_iadd hx hb dX6_tend_19 ?_
    refine e_iastN hx hb hK hw hS 0 Ew_m6 rfl rfl (by omega) (by decide) dX6_tend_20 (fun H locs hw hS => ?_)
    have hw := hw.cast Ep_m6
    refine f_aload_n hx hb dX6_tend_21 hl 0 rfl rfl ?_
    refine e_get (C := RX6) (T := TX6) (N := 22) hx hb hts i6 hown hK hw Ew_mo rfl 11 (by decide) (hts (.fieldLink RX6 23 "FerryQuayModel" "wear" "[I") (by decide +kernel)) rfl dX6_tend_22 ?_
    refine f_iload_n hx hb dX6_tend_25 hl 1 rfl rfl ?_
    refine e_ialdN hx hb hK hw 0 Ew_m5 rfl rfl (by omega) (by decide) dX6_tend_26 ?_
    refine lv_if_ne (tgt := 37) hx hb dX6_tend_27 (by decide) (fun c27 => ?_) (fun c27 => ?_)
    · refine f_aload_n hx hb dX6_tend_37 hl 0 rfl rfl ?_
      refine e_get (C := RX6) (T := TX6) (N := 22) hx hb hts i6 hown hK hw Ew_mo rfl 11 (by decide) (hts (.fieldLink RX6 23 "FerryQuayModel" "wear" "[I") (by decide +kernel)) rfl dX6_tend_38 ?_
      refine f_iload_n hx hb dX6_tend_41 hl 1 rfl rfl ?_
      refine e_ialdN hx hb hK hw 0 Ew_m5 rfl rfl (by omega) (by decide) dX6_tend_42 ?_
      refine f_istore_n hx hb dX6_tend_43 hl 2 rfl (by decide) (fun ls hl => ?_)
      refine f_aload_n hx hb dX6_tend_44 hl 0 rfl rfl ?_
      refine e_get (C := RX6) (T := TX6) (N := 22) hx hb hts i6 hown hK hw Ew_mo rfl 11 (by decide) (hts (.fieldLink RX6 23 "FerryQuayModel" "wear" "[I") (by decide +kernel)) rfl dX6_tend_45 ?_
      refine f_iload_n hx hb dX6_tend_48 hl 1 rfl rfl ?_
      refine lv_iconst (v := 0) hx hb dX6_tend_49 (by decide) ?_
      refine e_iastN hx hb hK hw hS 0 Ew_m5 rfl rfl (by omega) (by decide) dX6_tend_50 (fun H locs hw hS => ?_)
      have hw := hw.cast Ep_m5
      refine f_iload_n hx hb dX6_tend_51 hl 2 rfl rfl ?_
      exact q_ism hx hb hr hlk hK hw hS dX6_tend_52 (by rw [sp_tend, hix]; dsimp only [Option.elim]; exact (if_neg c27))
    · refine f_aload_n hx hb dX6_tend_30 hl 0 rfl rfl ?_
      refine lv_bipush (v := (-5)) hx hb dX6_tend_31 (by decide) ?_
      refine q_ci (q_runV (C := RX6) (T := TX6) (N := 22) ⟨hx, hb, hml, hown, hts⟩ (c_X6_alarm l (hI.p6 hj) (-5)) (cwV 1 hts gX6_tend_X6_alarm rfl rfl rfl (by decide +kernel) ⟨Nat.le_of_ble_eq_true rfl, Nat.le_of_ble_eq_true rfl⟩) hK hw Ew_mo rfl rfl hl.1 rfl (by simp [Value.category, va_rf]) dX6_tend_33 ⟨Nat.le_of_ble_eq_true rfl, Nat.le_of_ble_eq_true rfl⟩) hS (fun H locs hw hS => ?_)
      exact q_ism hx hb hr hlk hK hw hS dX6_tend_36 (by rw [sp_tend, hix]; dsimp only [Option.elim]; exact (if_pos c27))
set_option maxHeartbeats 4000000 in
set_option maxRecDepth 100000 in
theorem c_X6_hinge (l : Launch) {G : va_G} {Y : YT} {lo : Nat} {ad : Nat → Nat → Nat} {ng nr nb : Nat} {z u : St} (hI : Inv u ng nr nb) (x y : Int32) : Met l yX6_hinge wsX6_hinge ({ frames := 1, cells := 0, slots := 0, locals := 21 }) (va_Pc [.ref (ad 0 4), .int x, .int y] (cS G (tysY Y) lo (Ew Y ng nr nb z u ad) ad)) (QI G (tysY Y) lo (sp_hinge ng nb u x y).1 (Ew Y ng nr nb z (sp_hinge ng nb u x y).2 ad) ad) 0 0 (fun q => lo ≤ q) := by
  refine met_of (cc := cX6_hinge) (maxL := 4) (ret := (some .int)) (by decide) rfl (Nat.le_of_ble_eq_true rfl) rfl ?_
  intro p e s m below meth c ls hx hb hr hlk hml hts hown hnm hw hK hl hS
  have i6 : ∀ w ∈ wsX60, w ∈ wsX6_hinge := by decide +kernel
  have hng := hI.mg
  have hnr := hI.mr
  have hnb := hI.mb
  rcases ix_cases x hI.nb2 with ⟨hix, hbad⟩ | ⟨j, hj, rfl, hix⟩
  · refine f_aload_n hx hb dX6_hinge_0 hl 0 rfl rfl ?_
    refine f_iload_n hx hb dX6_hinge_1 hl 1 rfl rfl ?_
    refine q_ci (q_runV (C := RX6) (T := TX6) (N := 22) ⟨hx, hb, hml, hown, hts⟩ (c_X6_isBerth l hI x) (cwV 1 hts gX6_hinge_X6_isBerth rfl rfl rfl (by decide +kernel) ⟨Nat.le_of_ble_eq_true rfl, Nat.le_of_ble_eq_true rfl⟩) hK hw Ew_mo rfl rfl hl.1 rfl (by simp [Value.category, va_rf]) dX6_hinge_2 ⟨Nat.le_of_ble_eq_true rfl, Nat.le_of_ble_eq_true rfl⟩) hS (fun H locs hw hS => ?_)
    refine f_top (y := 0) (is_bad hbad) ?_
    refine lv_if_eq (tgt := 21) hx hb dX6_hinge_5 (by decide) (fun c5 => ?_) (fun c5 => absurd (by decide) c5)
    refine lv_bipush (v := (-2)) hx hb dX6_hinge_21 (by decide) ?_
    exact q_ism hx hb hr hlk hK hw hS dX6_hinge_23 (by rw [sp_hinge, hix]; exact rfl)
  · rcases ix_cases y hI.ng2 with ⟨hiy, hbad2⟩ | ⟨k, hk, rfl, hiy⟩
    · refine f_aload_n hx hb dX6_hinge_0 hl 0 rfl rfl ?_
      refine f_iload_n hx hb dX6_hinge_1 hl 1 rfl rfl ?_
      refine q_ci (q_runV (C := RX6) (T := TX6) (N := 22) ⟨hx, hb, hml, hown, hts⟩ (c_X6_isBerth l hI (nI j)) (cwV 1 hts gX6_hinge_X6_isBerth rfl rfl rfl (by decide +kernel) ⟨Nat.le_of_ble_eq_true rfl, Nat.le_of_ble_eq_true rfl⟩) hK hw Ew_mo rfl rfl hl.1 rfl (by simp [Value.category, va_rf]) dX6_hinge_2 ⟨Nat.le_of_ble_eq_true rfl, Nat.le_of_ble_eq_true rfl⟩) hS (fun H locs hw hS => ?_)
      refine f_top (y := 1) (is_ok hj hI.nb2) ?_
      refine lv_if_eq (tgt := 21) hx hb dX6_hinge_5 (by decide) (fun c5 => absurd c5 (by decide)) (fun c5 => ?_)
      refine f_iload_n hx hb dX6_hinge_8 hl 2 rfl rfl ?_
      refine lv_iconst (v := (-1)) hx hb dX6_hinge_9 (by decide) ?_
      refine lv_icmp_eq (tgt := 24) hx hb dX6_hinge_10 (by decide) (fun c10 => ?_) (fun c10 => ?_)
      · refine f_aload_n hx hb dX6_hinge_24 hl 0 rfl rfl ?_
        refine e_get (C := RX6) (T := TX6) (N := 22) hx hb hts i6 hown hK hw Ew_mo rfl 13 (by decide) (hts (.fieldLink RX6 29 "FerryQuayModel" "gateOf" "[I") (by decide +kernel)) rfl dX6_hinge_25 ?_
        refine f_iload_n hx hb dX6_hinge_28 hl 1 rfl rfl ?_
        refine e_ialdN hx hb hK hw 0 Ew_m7 rfl rfl (by omega) (by decide) dX6_hinge_29 ?_
        refine f_istore_n hx hb dX6_hinge_30 hl 3 rfl (by decide) (fun ls hl => ?_)
        refine f_aload_n hx hb dX6_hinge_31 hl 0 rfl rfl ?_
        refine e_get (C := RX6) (T := TX6) (N := 22) hx hb hts i6 hown hK hw Ew_mo rfl 13 (by decide) (hts (.fieldLink RX6 29 "FerryQuayModel" "gateOf" "[I") (by decide +kernel)) rfl dX6_hinge_32 ?_
        refine f_iload_n hx hb dX6_hinge_35 hl 1 rfl rfl ?_
        refine f_iload_n hx hb dX6_hinge_36 hl 2 rfl rfl ?_
        refine e_iastN hx hb hK hw hS 0 Ew_m7 rfl rfl (by omega) (by decide) dX6_hinge_37 (fun H locs hw hS => ?_)
        have hw := hw.cast Ep_m7
        refine f_iload_n hx hb dX6_hinge_38 hl 3 rfl rfl ?_
        exact q_ism hx hb hr hlk hK hw hS dX6_hinge_39 (by rw [sp_hinge, hix]; dsimp only [Option.elim]; exact if_pos c10)
      · refine f_aload_n hx hb dX6_hinge_13 hl 0 rfl rfl ?_
        refine f_iload_n hx hb dX6_hinge_14 hl 2 rfl rfl ?_
        refine q_ci (q_runV (C := RX6) (T := TX6) (N := 22) ⟨hx, hb, hml, hown, hts⟩ (c_X6_isGate l hI y) (cwV 1 hts gX6_hinge_X6_isGate rfl rfl rfl (by decide +kernel) ⟨Nat.le_of_ble_eq_true rfl, Nat.le_of_ble_eq_true rfl⟩) hK hw Ew_mo rfl rfl hl.1 rfl (by simp [Value.category, va_rf]) dX6_hinge_15 ⟨Nat.le_of_ble_eq_true rfl, Nat.le_of_ble_eq_true rfl⟩) hS (fun H locs hw hS => ?_)
        refine f_top (y := 0) (is_bad hbad2) ?_
        refine lv_if_ne (tgt := 24) hx hb dX6_hinge_18 (by decide) (fun c18 => absurd (by decide) c18) (fun c18 => ?_)
        refine lv_bipush (v := (-2)) hx hb dX6_hinge_21 (by decide) ?_
        exact q_ism hx hb hr hlk hK hw hS dX6_hinge_23 (by rw [sp_hinge, hix]; dsimp only [Option.elim]; exact (if_neg c10).trans (by rw [hiy]))
    · refine f_aload_n hx hb dX6_hinge_0 hl 0 rfl rfl ?_
      refine f_iload_n hx hb dX6_hinge_1 hl 1 rfl rfl ?_
      refine q_ci (q_runV (C := RX6) (T := TX6) (N := 22) ⟨hx, hb, hml, hown, hts⟩ (c_X6_isBerth l hI (nI j)) (cwV 1 hts gX6_hinge_X6_isBerth rfl rfl rfl (by decide +kernel) ⟨Nat.le_of_ble_eq_true rfl, Nat.le_of_ble_eq_true rfl⟩) hK hw Ew_mo rfl rfl hl.1 rfl (by simp [Value.category, va_rf]) dX6_hinge_2 ⟨Nat.le_of_ble_eq_true rfl, Nat.le_of_ble_eq_true rfl⟩) hS (fun H locs hw hS => ?_)
      refine f_top (y := 1) (is_ok hj hI.nb2) ?_
      refine lv_if_eq (tgt := 21) hx hb dX6_hinge_5 (by decide) (fun c5 => absurd c5 (by decide)) (fun c5 => ?_)
      refine f_iload_n hx hb dX6_hinge_8 hl 2 rfl rfl ?_
      refine lv_iconst (v := (-1)) hx hb dX6_hinge_9 (by decide) ?_
      refine lv_icmp_eq (tgt := 24) hx hb dX6_hinge_10 (by decide) (fun c10 => ?_) (fun c10 => ?_)
      · refine f_aload_n hx hb dX6_hinge_24 hl 0 rfl rfl ?_
        refine e_get (C := RX6) (T := TX6) (N := 22) hx hb hts i6 hown hK hw Ew_mo rfl 13 (by decide) (hts (.fieldLink RX6 29 "FerryQuayModel" "gateOf" "[I") (by decide +kernel)) rfl dX6_hinge_25 ?_
        refine f_iload_n hx hb dX6_hinge_28 hl 1 rfl rfl ?_
        refine e_ialdN hx hb hK hw 0 Ew_m7 rfl rfl (by omega) (by decide) dX6_hinge_29 ?_
        refine f_istore_n hx hb dX6_hinge_30 hl 3 rfl (by decide) (fun ls hl => ?_)
        refine f_aload_n hx hb dX6_hinge_31 hl 0 rfl rfl ?_
        refine e_get (C := RX6) (T := TX6) (N := 22) hx hb hts i6 hown hK hw Ew_mo rfl 13 (by decide) (hts (.fieldLink RX6 29 "FerryQuayModel" "gateOf" "[I") (by decide +kernel)) rfl dX6_hinge_32 ?_
        refine f_iload_n hx hb dX6_hinge_35 hl 1 rfl rfl ?_
        refine f_iload_n hx hb dX6_hinge_36 hl 2 rfl rfl ?_
        refine e_iastN hx hb hK hw hS 0 Ew_m7 rfl rfl (by omega) (by decide) dX6_hinge_37 (fun H locs hw hS => ?_)
        have hw := hw.cast Ep_m7
        refine f_iload_n hx hb dX6_hinge_38 hl 3 rfl rfl ?_
        exact q_ism hx hb hr hlk hK hw hS dX6_hinge_39 (by rw [sp_hinge, hix]; dsimp only [Option.elim]; exact if_pos c10)
      · refine f_aload_n hx hb dX6_hinge_13 hl 0 rfl rfl ?_
        refine f_iload_n hx hb dX6_hinge_14 hl 2 rfl rfl ?_
        refine q_ci (q_runV (C := RX6) (T := TX6) (N := 22) ⟨hx, hb, hml, hown, hts⟩ (c_X6_isGate l hI (nI k)) (cwV 1 hts gX6_hinge_X6_isGate rfl rfl rfl (by decide +kernel) ⟨Nat.le_of_ble_eq_true rfl, Nat.le_of_ble_eq_true rfl⟩) hK hw Ew_mo rfl rfl hl.1 rfl (by simp [Value.category, va_rf]) dX6_hinge_15 ⟨Nat.le_of_ble_eq_true rfl, Nat.le_of_ble_eq_true rfl⟩) hS (fun H locs hw hS => ?_)
        refine f_top (y := 1) (is_ok hk hI.ng2) ?_
        refine lv_if_ne (tgt := 24) hx hb dX6_hinge_18 (by decide) (fun c18 => ?_) (fun c18 => absurd c18 (by decide))
        refine f_aload_n hx hb dX6_hinge_24 hl 0 rfl rfl ?_
        refine e_get (C := RX6) (T := TX6) (N := 22) hx hb hts i6 hown hK hw Ew_mo rfl 13 (by decide) (hts (.fieldLink RX6 29 "FerryQuayModel" "gateOf" "[I") (by decide +kernel)) rfl dX6_hinge_25 ?_
        refine f_iload_n hx hb dX6_hinge_28 hl 1 rfl rfl ?_
        refine e_ialdN hx hb hK hw 0 Ew_m7 rfl rfl (by omega) (by decide) dX6_hinge_29 ?_
        refine f_istore_n hx hb dX6_hinge_30 hl 3 rfl (by decide) (fun ls hl => ?_)
        refine f_aload_n hx hb dX6_hinge_31 hl 0 rfl rfl ?_
        refine e_get (C := RX6) (T := TX6) (N := 22) hx hb hts i6 hown hK hw Ew_mo rfl 13 (by decide) (hts (.fieldLink RX6 29 "FerryQuayModel" "gateOf" "[I") (by decide +kernel)) rfl dX6_hinge_32 ?_
        refine f_iload_n hx hb dX6_hinge_35 hl 1 rfl rfl ?_
        refine f_iload_n hx hb dX6_hinge_36 hl 2 rfl rfl ?_
        refine e_iastN hx hb hK hw hS 0 Ew_m7 rfl rfl (by omega) (by decide) dX6_hinge_37 (fun H locs hw hS => ?_)
        have hw := hw.cast Ep_m7
        refine f_iload_n hx hb dX6_hinge_38 hl 3 rfl rfl ?_
        exact q_ism hx hb hr hlk hK hw hS dX6_hinge_39 (by rw [sp_hinge, hix]; dsimp only [Option.elim]; exact (if_neg c10).trans (by rw [hiy]))
set_option maxHeartbeats 4000000 in
set_option maxRecDepth 100000 in
theorem c_X6_lay (l : Launch) {G : va_G} {Y : YT} {lo : Nat} {ad : Nat → Nat → Nat} {ng nr nb : Nat} {z u : St} (hI : Inv u ng nr nb) (x y : Int32) : Met l yX6_lay wsX6_lay ({ frames := 1, cells := 0, slots := 0, locals := 21 }) (va_Pc [.ref (ad 0 4), .int x, .int y] (cS G (tysY Y) lo (Ew Y ng nr nb z u ad) ad)) (QI G (tysY Y) lo (sp_lay nr nb u x y).1 (Ew Y ng nr nb z (sp_lay nr nb u x y).2 ad) ad) 0 0 (fun q => lo ≤ q) := by
  refine met_of (cc := cX6_lay) (maxL := 4) (ret := (some .int)) (by decide) rfl (Nat.le_of_ble_eq_true rfl) rfl ?_
  intro p e s m below meth c ls hx hb hr hlk hml hts hown hnm hw hK hl hS
  have i6 : ∀ w ∈ wsX60, w ∈ wsX6_lay := by decide +kernel
  have hng := hI.mg
  have hnr := hI.mr
  have hnb := hI.mb
  rcases ix_cases x hI.nb2 with ⟨hix, hbad⟩ | ⟨j, hj, rfl, hix⟩
  · refine f_aload_n hx hb dX6_lay_0 hl 0 rfl rfl ?_
    refine f_iload_n hx hb dX6_lay_1 hl 1 rfl rfl ?_
    refine q_ci (q_runV (C := RX6) (T := TX6) (N := 22) ⟨hx, hb, hml, hown, hts⟩ (c_X6_isBerth l hI x) (cwV 1 hts gX6_lay_X6_isBerth rfl rfl rfl (by decide +kernel) ⟨Nat.le_of_ble_eq_true rfl, Nat.le_of_ble_eq_true rfl⟩) hK hw Ew_mo rfl rfl hl.1 rfl (by simp [Value.category, va_rf]) dX6_lay_2 ⟨Nat.le_of_ble_eq_true rfl, Nat.le_of_ble_eq_true rfl⟩) hS (fun H locs hw hS => ?_)
    refine f_top (y := 0) (is_bad hbad) ?_
    refine lv_if_eq (tgt := 21) hx hb dX6_lay_5 (by decide) (fun c5 => ?_) (fun c5 => absurd (by decide) c5)
    refine lv_bipush (v := (-2)) hx hb dX6_lay_21 (by decide) ?_
    exact q_ism hx hb hr hlk hK hw hS dX6_lay_23 (by rw [sp_lay, hix]; exact rfl)
  · rcases ix_cases y hI.nr2 with ⟨hiy, hbad2⟩ | ⟨k, hk, rfl, hiy⟩
    · refine f_aload_n hx hb dX6_lay_0 hl 0 rfl rfl ?_
      refine f_iload_n hx hb dX6_lay_1 hl 1 rfl rfl ?_
      refine q_ci (q_runV (C := RX6) (T := TX6) (N := 22) ⟨hx, hb, hml, hown, hts⟩ (c_X6_isBerth l hI (nI j)) (cwV 1 hts gX6_lay_X6_isBerth rfl rfl rfl (by decide +kernel) ⟨Nat.le_of_ble_eq_true rfl, Nat.le_of_ble_eq_true rfl⟩) hK hw Ew_mo rfl rfl hl.1 rfl (by simp [Value.category, va_rf]) dX6_lay_2 ⟨Nat.le_of_ble_eq_true rfl, Nat.le_of_ble_eq_true rfl⟩) hS (fun H locs hw hS => ?_)
      refine f_top (y := 1) (is_ok hj hI.nb2) ?_
      refine lv_if_eq (tgt := 21) hx hb dX6_lay_5 (by decide) (fun c5 => absurd c5 (by decide)) (fun c5 => ?_)
      refine f_iload_n hx hb dX6_lay_8 hl 2 rfl rfl ?_
      refine lv_iconst (v := (-1)) hx hb dX6_lay_9 (by decide) ?_
      refine lv_icmp_eq (tgt := 24) hx hb dX6_lay_10 (by decide) (fun c10 => ?_) (fun c10 => ?_)
      · refine f_aload_n hx hb dX6_lay_24 hl 0 rfl rfl ?_
        refine e_get (C := RX6) (T := TX6) (N := 22) hx hb hts i6 hown hK hw Ew_mo rfl 14 (by decide) (hts (.fieldLink RX6 32 "FerryQuayModel" "rampOf" "[I") (by decide +kernel)) rfl dX6_lay_25 ?_
        refine f_iload_n hx hb dX6_lay_28 hl 1 rfl rfl ?_
        refine e_ialdN hx hb hK hw 0 Ew_m8 rfl rfl (by omega) (by decide) dX6_lay_29 ?_
        refine f_istore_n hx hb dX6_lay_30 hl 3 rfl (by decide) (fun ls hl => ?_)
        refine f_aload_n hx hb dX6_lay_31 hl 0 rfl rfl ?_
        refine e_get (C := RX6) (T := TX6) (N := 22) hx hb hts i6 hown hK hw Ew_mo rfl 14 (by decide) (hts (.fieldLink RX6 32 "FerryQuayModel" "rampOf" "[I") (by decide +kernel)) rfl dX6_lay_32 ?_
        refine f_iload_n hx hb dX6_lay_35 hl 1 rfl rfl ?_
        refine f_iload_n hx hb dX6_lay_36 hl 2 rfl rfl ?_
        refine e_iastN hx hb hK hw hS 0 Ew_m8 rfl rfl (by omega) (by decide) dX6_lay_37 (fun H locs hw hS => ?_)
        have hw := hw.cast Ep_m8
        refine f_iload_n hx hb dX6_lay_38 hl 3 rfl rfl ?_
        exact q_ism hx hb hr hlk hK hw hS dX6_lay_39 (by rw [sp_lay, hix]; dsimp only [Option.elim]; exact if_pos c10)
      · refine f_aload_n hx hb dX6_lay_13 hl 0 rfl rfl ?_
        refine f_iload_n hx hb dX6_lay_14 hl 2 rfl rfl ?_
        refine q_ci (q_runV (C := RX6) (T := TX6) (N := 22) ⟨hx, hb, hml, hown, hts⟩ (c_X6_isRamp l hI y) (cwV 1 hts gX6_lay_X6_isRamp rfl rfl rfl (by decide +kernel) ⟨Nat.le_of_ble_eq_true rfl, Nat.le_of_ble_eq_true rfl⟩) hK hw Ew_mo rfl rfl hl.1 rfl (by simp [Value.category, va_rf]) dX6_lay_15 ⟨Nat.le_of_ble_eq_true rfl, Nat.le_of_ble_eq_true rfl⟩) hS (fun H locs hw hS => ?_)
        refine f_top (y := 0) (is_bad hbad2) ?_
        refine lv_if_ne (tgt := 24) hx hb dX6_lay_18 (by decide) (fun c18 => absurd (by decide) c18) (fun c18 => ?_)
        refine lv_bipush (v := (-2)) hx hb dX6_lay_21 (by decide) ?_
        exact q_ism hx hb hr hlk hK hw hS dX6_lay_23 (by rw [sp_lay, hix]; dsimp only [Option.elim]; exact (if_neg c10).trans (by rw [hiy]))
    · refine f_aload_n hx hb dX6_lay_0 hl 0 rfl rfl ?_
      refine f_iload_n hx hb dX6_lay_1 hl 1 rfl rfl ?_
      refine q_ci (q_runV (C := RX6) (T := TX6) (N := 22) ⟨hx, hb, hml, hown, hts⟩ (c_X6_isBerth l hI (nI j)) (cwV 1 hts gX6_lay_X6_isBerth rfl rfl rfl (by decide +kernel) ⟨Nat.le_of_ble_eq_true rfl, Nat.le_of_ble_eq_true rfl⟩) hK hw Ew_mo rfl rfl hl.1 rfl (by simp [Value.category, va_rf]) dX6_lay_2 ⟨Nat.le_of_ble_eq_true rfl, Nat.le_of_ble_eq_true rfl⟩) hS (fun H locs hw hS => ?_)
      refine f_top (y := 1) (is_ok hj hI.nb2) ?_
      refine lv_if_eq (tgt := 21) hx hb dX6_lay_5 (by decide) (fun c5 => absurd c5 (by decide)) (fun c5 => ?_)
      refine f_iload_n hx hb dX6_lay_8 hl 2 rfl rfl ?_
      refine lv_iconst (v := (-1)) hx hb dX6_lay_9 (by decide) ?_
      refine lv_icmp_eq (tgt := 24) hx hb dX6_lay_10 (by decide) (fun c10 => ?_) (fun c10 => ?_)
      · refine f_aload_n hx hb dX6_lay_24 hl 0 rfl rfl ?_
        refine e_get (C := RX6) (T := TX6) (N := 22) hx hb hts i6 hown hK hw Ew_mo rfl 14 (by decide) (hts (.fieldLink RX6 32 "FerryQuayModel" "rampOf" "[I") (by decide +kernel)) rfl dX6_lay_25 ?_
        refine f_iload_n hx hb dX6_lay_28 hl 1 rfl rfl ?_
        refine e_ialdN hx hb hK hw 0 Ew_m8 rfl rfl (by omega) (by decide) dX6_lay_29 ?_
        refine f_istore_n hx hb dX6_lay_30 hl 3 rfl (by decide) (fun ls hl => ?_)
        refine f_aload_n hx hb dX6_lay_31 hl 0 rfl rfl ?_
        refine e_get (C := RX6) (T := TX6) (N := 22) hx hb hts i6 hown hK hw Ew_mo rfl 14 (by decide) (hts (.fieldLink RX6 32 "FerryQuayModel" "rampOf" "[I") (by decide +kernel)) rfl dX6_lay_32 ?_
        refine f_iload_n hx hb dX6_lay_35 hl 1 rfl rfl ?_
        refine f_iload_n hx hb dX6_lay_36 hl 2 rfl rfl ?_
        refine e_iastN hx hb hK hw hS 0 Ew_m8 rfl rfl (by omega) (by decide) dX6_lay_37 (fun H locs hw hS => ?_)
        have hw := hw.cast Ep_m8
        refine f_iload_n hx hb dX6_lay_38 hl 3 rfl rfl ?_
        exact q_ism hx hb hr hlk hK hw hS dX6_lay_39 (by rw [sp_lay, hix]; dsimp only [Option.elim]; exact if_pos c10)
      · refine f_aload_n hx hb dX6_lay_13 hl 0 rfl rfl ?_
        refine f_iload_n hx hb dX6_lay_14 hl 2 rfl rfl ?_
        refine q_ci (q_runV (C := RX6) (T := TX6) (N := 22) ⟨hx, hb, hml, hown, hts⟩ (c_X6_isRamp l hI (nI k)) (cwV 1 hts gX6_lay_X6_isRamp rfl rfl rfl (by decide +kernel) ⟨Nat.le_of_ble_eq_true rfl, Nat.le_of_ble_eq_true rfl⟩) hK hw Ew_mo rfl rfl hl.1 rfl (by simp [Value.category, va_rf]) dX6_lay_15 ⟨Nat.le_of_ble_eq_true rfl, Nat.le_of_ble_eq_true rfl⟩) hS (fun H locs hw hS => ?_)
        refine f_top (y := 1) (is_ok hk hI.nr2) ?_
        refine lv_if_ne (tgt := 24) hx hb dX6_lay_18 (by decide) (fun c18 => ?_) (fun c18 => absurd c18 (by decide))
        refine f_aload_n hx hb dX6_lay_24 hl 0 rfl rfl ?_
        refine e_get (C := RX6) (T := TX6) (N := 22) hx hb hts i6 hown hK hw Ew_mo rfl 14 (by decide) (hts (.fieldLink RX6 32 "FerryQuayModel" "rampOf" "[I") (by decide +kernel)) rfl dX6_lay_25 ?_
        refine f_iload_n hx hb dX6_lay_28 hl 1 rfl rfl ?_
        refine e_ialdN hx hb hK hw 0 Ew_m8 rfl rfl (by omega) (by decide) dX6_lay_29 ?_
        refine f_istore_n hx hb dX6_lay_30 hl 3 rfl (by decide) (fun ls hl => ?_)
        refine f_aload_n hx hb dX6_lay_31 hl 0 rfl rfl ?_
        refine e_get (C := RX6) (T := TX6) (N := 22) hx hb hts i6 hown hK hw Ew_mo rfl 14 (by decide) (hts (.fieldLink RX6 32 "FerryQuayModel" "rampOf" "[I") (by decide +kernel)) rfl dX6_lay_32 ?_
        refine f_iload_n hx hb dX6_lay_35 hl 1 rfl rfl ?_
        refine f_iload_n hx hb dX6_lay_36 hl 2 rfl rfl ?_
        refine e_iastN hx hb hK hw hS 0 Ew_m8 rfl rfl (by omega) (by decide) dX6_lay_37 (fun H locs hw hS => ?_)
        have hw := hw.cast Ep_m8
        refine f_iload_n hx hb dX6_lay_38 hl 3 rfl rfl ?_
        exact q_ism hx hb hr hlk hK hw hS dX6_lay_39 (by rw [sp_lay, hix]; dsimp only [Option.elim]; exact (if_neg c10).trans (by rw [hiy]))
set_option maxHeartbeats 4000000 in
set_option maxRecDepth 100000 in
theorem c_X6_shut (l : Launch) {G : va_G} {Y : YT} {lo : Nat} {ad : Nat → Nat → Nat} {ng nr nb : Nat} {z u : St} (hI : Inv u ng nr nb) (x v : Int32) (hv : v = 0 ∨ v = 1) : Met l yX6_shut wsX6_shut ({ frames := 1, cells := 0, slots := 0, locals := 21 }) (va_Pc [.ref (ad 0 4), .int x, .int v] (cS G (tysY Y) lo (Ew Y ng nr nb z u ad) ad)) (QI G (tysY Y) lo (sp_shut ng u x v).1 (Ew Y ng nr nb z (sp_shut ng u x v).2 ad) ad) 0 0 (fun q => lo ≤ q) := by
  refine met_of (cc := cX6_shut) (maxL := 4) (ret := (some .int)) (by decide) rfl (Nat.le_of_ble_eq_true rfl) rfl ?_
  intro p e s m below meth c ls hx hb hr hlk hml hts hown hnm hw hK hl hS
  have i6 : ∀ w ∈ wsX60, w ∈ wsX6_shut := by decide +kernel
  have hng := hI.mg
  have hnr := hI.mr
  have hnb := hI.mb
  rcases ix_cases x hI.ng2 with ⟨hix, hbad⟩ | ⟨j, hj, rfl, hix⟩
  · refine f_aload_n hx hb dX6_shut_0 hl 0 rfl rfl ?_
    refine f_iload_n hx hb dX6_shut_1 hl 1 rfl rfl ?_
    refine q_ci (q_runV (C := RX6) (T := TX6) (N := 22) ⟨hx, hb, hml, hown, hts⟩ (c_X6_isGate l hI x) (cwV 1 hts gX6_shut_X6_isGate rfl rfl rfl (by decide +kernel) ⟨Nat.le_of_ble_eq_true rfl, Nat.le_of_ble_eq_true rfl⟩) hK hw Ew_mo rfl rfl hl.1 rfl (by simp [Value.category, va_rf]) dX6_shut_2 ⟨Nat.le_of_ble_eq_true rfl, Nat.le_of_ble_eq_true rfl⟩) hS (fun H locs hw hS => ?_)
    refine f_top (y := 0) (is_bad hbad) ?_
    refine lv_if_ne (tgt := 11) hx hb dX6_shut_5 (by decide) (fun c5 => absurd (by decide) c5) (fun c5 => ?_)
    refine lv_bipush (v := (-2)) hx hb dX6_shut_8 (by decide) ?_
    exact q_ism hx hb hr hlk hK hw hS dX6_shut_10 (by rw [sp_shut, hix]; exact rfl)
  · refine f_aload_n hx hb dX6_shut_0 hl 0 rfl rfl ?_
    refine f_iload_n hx hb dX6_shut_1 hl 1 rfl rfl ?_
    refine q_ci (q_runV (C := RX6) (T := TX6) (N := 22) ⟨hx, hb, hml, hown, hts⟩ (c_X6_isGate l hI (nI j)) (cwV 1 hts gX6_shut_X6_isGate rfl rfl rfl (by decide +kernel) ⟨Nat.le_of_ble_eq_true rfl, Nat.le_of_ble_eq_true rfl⟩) hK hw Ew_mo rfl rfl hl.1 rfl (by simp [Value.category, va_rf]) dX6_shut_2 ⟨Nat.le_of_ble_eq_true rfl, Nat.le_of_ble_eq_true rfl⟩) hS (fun H locs hw hS => ?_)
    refine f_top (y := 1) (is_ok hj hI.ng2) ?_
    refine lv_if_ne (tgt := 11) hx hb dX6_shut_5 (by decide) (fun c5 => ?_) (fun c5 => absurd c5 (by decide))
    refine f_aload_n hx hb dX6_shut_11 hl 0 rfl rfl ?_
    refine e_get (C := RX6) (T := TX6) (N := 22) hx hb hts i6 hown hK hw Ew_mo rfl 7 (by decide) (hts (.fieldLink RX6 7 "FerryQuayModel" "isShut" "[Z") (by decide +kernel)) rfl dX6_shut_12 ?_
    refine f_iload_n hx hb dX6_shut_15 hl 1 rfl rfl ?_
    refine e_zaldN hx hb hK hw 1 Ew_m1 rfl rfl (by omega) (by decide) dX6_shut_16 ?_
    refine lv_if_eq (tgt := 24) hx hb dX6_shut_17 (by decide) (fun c17 => ?_) (fun c17 => ?_)
    · refine lv_iconst (v := 0) hx hb dX6_shut_24 (by decide) ?_
      refine f_top (y := sc u 1 j) (by rcases hI.b1 j with hq | hq <;> first | exact hq.symm | exact absurd hq c17 | exact absurd (hq.symm.trans c17) (by decide)) ?_
      refine f_istore_n hx hb dX6_shut_25 hl 3 rfl (by decide) (fun ls hl => ?_)
      refine f_aload_n hx hb dX6_shut_26 hl 0 rfl rfl ?_
      refine e_get (C := RX6) (T := TX6) (N := 22) hx hb hts i6 hown hK hw Ew_mo rfl 7 (by decide) (hts (.fieldLink RX6 7 "FerryQuayModel" "isShut" "[Z") (by decide +kernel)) rfl dX6_shut_27 ?_
      refine f_iload_n hx hb dX6_shut_30 hl 1 rfl rfl ?_
      refine f_iload_n hx hb dX6_shut_31 hl 2 rfl rfl ?_
      refine e_zastN hx hb hK hw hS 1 Ew_m1 rfl rfl (by omega) (by decide) (by rcases hv with rfl | rfl <;> rfl) dX6_shut_32 (fun H locs hw hS => ?_)
      have hw := hw.cast Ep_m1
      refine f_iload_n hx hb dX6_shut_33 hl 3 rfl rfl ?_
      exact q_ism hx hb hr hlk hK hw hS dX6_shut_34 (by rw [sp_shut, hix]; exact rfl)
    · refine lv_iconst (v := 1) hx hb dX6_shut_20 (by decide) ?_
      refine lv_goto (tgt := 25) hx hb dX6_shut_21 (by decide) ?_
      refine f_top (y := sc u 1 j) (by rcases hI.b1 j with hq | hq <;> first | exact hq.symm | exact absurd hq c17 | exact absurd (hq.symm.trans c17) (by decide)) ?_
      refine f_istore_n hx hb dX6_shut_25 hl 3 rfl (by decide) (fun ls hl => ?_)
      refine f_aload_n hx hb dX6_shut_26 hl 0 rfl rfl ?_
      refine e_get (C := RX6) (T := TX6) (N := 22) hx hb hts i6 hown hK hw Ew_mo rfl 7 (by decide) (hts (.fieldLink RX6 7 "FerryQuayModel" "isShut" "[Z") (by decide +kernel)) rfl dX6_shut_27 ?_
      refine f_iload_n hx hb dX6_shut_30 hl 1 rfl rfl ?_
      refine f_iload_n hx hb dX6_shut_31 hl 2 rfl rfl ?_
      refine e_zastN hx hb hK hw hS 1 Ew_m1 rfl rfl (by omega) (by decide) (by rcases hv with rfl | rfl <;> rfl) dX6_shut_32 (fun H locs hw hS => ?_)
      have hw := hw.cast Ep_m1
      refine f_iload_n hx hb dX6_shut_33 hl 3 rfl rfl ?_
      exact q_ism hx hb hr hlk hK hw hS dX6_shut_34 (by rw [sp_shut, hix]; exact rfl)
set_option maxHeartbeats 4000000 in
set_option maxRecDepth 100000 in
theorem c_X6_comes (l : Launch) {G : va_G} {Y : YT} {lo : Nat} {ad : Nat → Nat → Nat} {ng nr nb : Nat} {z u : St} (hI : Inv u ng nr nb) {j : Nat} (hj : j < nb) (x : Int32) (hn : ln u j < 30) : Met l yX6_comes wsX6_comes ({ frames := 0, cells := 0, slots := 0, locals := 0 }) (va_Pc [.ref (ad 0 4), .int (nI j), .int x] (cS G (tysY Y) lo (Ew Y ng nr nb z u ad) ad)) (QV G (tysY Y) lo (Ew Y ng nr nb z (comes u j x) ad) ad) 0 0 (fun q => lo ≤ q) := by
  refine met_of (cc := cX6_comes) (maxL := 3) (ret := none) (by decide) rfl (Nat.le_of_ble_eq_true rfl) rfl ?_
  intro p e s m below meth c ls hx hb hr hlk hml hts hown hnm hw hK hl hS
  have i6 : ∀ w ∈ wsX60, w ∈ wsX6_comes := by decide +kernel
  have hng := hI.mg
  have hnr := hI.mr
  have hnb := hI.mb
  obtain ⟨hL, hLn⟩ := hI.lane hj
  refine f_aload_n hx hb dX6_comes_0 hl 0 rfl rfl ?_
  refine e_get (C := RX6) (T := TX6) (N := 22) hx hb hts i6 hown hK hw Ew_mo rfl 17 (by decide) (hts (.fieldLink RX6 41 "FerryQuayModel" "lane" "[I") (by decide +kernel)) rfl dX6_comes_1 ?_
  refine lv_bipush (v := 30) hx hb dX6_comes_4 (by decide) ?_
  refine f_iload_n hx hb dX6_comes_6 hl 1 rfl rfl ?_
  refine lv_imul hx hb dX6_comes_7 ?_
  refine f_aload_n hx hb dX6_comes_8 hl 0 rfl rfl ?_
  refine e_get (C := RX6) (T := TX6) (N := 22) hx hb hts i6 hown hK hw Ew_mo rfl 16 (by decide) (hts (.fieldLink RX6 38 "FerryQuayModel" "waits" "[I") (by decide +kernel)) rfl dX6_comes_9 ?_
  refine f_iload_n hx hb dX6_comes_12 hl 1 rfl rfl ?_
  refine e_ialdN hx hb hK hw 0 Ew_m10 rfl rfl (by omega) (by decide) dX6_comes_13 ?_
  refine lv_iadd hx hb dX6_comes_14 ?_
  refine f_top (idx_add (k := 30) rfl hLn) ?_
  refine f_iload_n hx hb dX6_comes_15 hl 2 rfl rfl ?_
  refine e_iastN hx hb hK hw hS 0 Ew_m11 rfl rfl (by omega) (by decide) dX6_comes_16 (fun H locs hw hS => ?_)
  have hw := hw.cast (Ep_m11 hn)
  refine f_aload_n hx hb dX6_comes_17 hl 0 rfl rfl ?_
  refine e_get (C := RX6) (T := TX6) (N := 22) hx hb hts i6 hown hK hw Ew_mo rfl 16 (by decide) (hts (.fieldLink RX6 38 "FerryQuayModel" "waits" "[I") (by decide +kernel)) rfl dX6_comes_18 ?_
  refine f_iload_n hx hb dX6_comes_21 hl 1 rfl rfl ?_
  refine lv_dup2_11 hx hb dX6_comes_22 rfl rfl ?_
  refine e_ialdN hx hb hK hw 0 Ew_m10 rfl rfl (by omega) (by decide) dX6_comes_23 ?_
  refine lv_iconst (v := 1) hx hb dX6_comes_24 (by decide) ?_
  refine lv_iadd hx hb dX6_comes_25 ?_
  refine f_top ((congrArg (fun q => q + 1) hLn).trans (nI_1 (ln u j))) ?_
  refine e_iastN hx hb hK hw hS 0 Ew_m10 rfl rfl (by omega) (by decide) dX6_comes_26 (fun H locs hw hS => ?_)
  have hw := hw.cast Ep_m10
  exact q_vret hx hb hr hlk hK hw hS dX6_comes_27 rfl
end
section
set_option maxHeartbeats 4000000 in
set_option maxRecDepth 100000 in
theorem c_X6_arrive (l : Launch) {G : va_G} {Y : YT} {lo : Nat} {ad : Nat → Nat → Nat} {ng nr nb : Nat} {z u : St} (hI : Inv u ng nr nb) (x y : Int32) : Met l yX6_arrive wsX6_arrive ({ frames := 1, cells := 0, slots := 0, locals := 22 }) (va_Pc [.ref (ad 0 4), .int x, .int y] (cS G (tysY Y) lo (Ew Y ng nr nb z u ad) ad)) (QI G (tysY Y) lo (sp_arrive nb u x y).1 (Ew Y ng nr nb z (sp_arrive nb u x y).2 ad) ad) 0 0 (fun q => lo ≤ q) := by
  refine met_of (cc := cX6_arrive) (maxL := 3) (ret := (some .int)) (by decide) rfl (Nat.le_of_ble_eq_true rfl) rfl ?_
  intro p e s m below meth c ls hx hb hr hlk hml hts hown hnm hw hK hl hS
  have i6 : ∀ w ∈ wsX60, w ∈ wsX6_arrive := by decide +kernel
  have hng := hI.mg
  have hnr := hI.mr
  have hnb := hI.mb
  rcases ix_cases x hI.nb2 with ⟨hix, hbad⟩ | ⟨j, hj, rfl, hix⟩
  · refine f_aload_n hx hb dX6_arrive_0 hl 0 rfl rfl ?_
    refine f_iload_n hx hb dX6_arrive_1 hl 1 rfl rfl ?_
    refine q_ci (q_runV (C := RX6) (T := TX6) (N := 22) ⟨hx, hb, hml, hown, hts⟩ (c_X6_isBerth l hI x) (cwV 1 hts gX6_arrive_X6_isBerth rfl rfl rfl (by decide +kernel) ⟨Nat.le_of_ble_eq_true rfl, Nat.le_of_ble_eq_true rfl⟩) hK hw Ew_mo rfl rfl hl.1 rfl (by simp [Value.category, va_rf]) dX6_arrive_2 ⟨Nat.le_of_ble_eq_true rfl, Nat.le_of_ble_eq_true rfl⟩) hS (fun H locs hw hS => ?_)
    refine f_top (y := 0) (is_bad hbad) ?_
    refine lv_if_eq (tgt := 19) hx hb dX6_arrive_5 (by decide) (fun c5 => ?_) (fun c5 => absurd (by decide) c5)
    refine lv_bipush (v := (-2)) hx hb dX6_arrive_19 (by decide) ?_
    exact q_ism hx hb hr hlk hK hw hS dX6_arrive_21 (by rw [sp_arrive, hix]; exact rfl)
  · obtain ⟨hL, hLn⟩ := hI.lane hj
    refine f_aload_n hx hb dX6_arrive_0 hl 0 rfl rfl ?_
    refine f_iload_n hx hb dX6_arrive_1 hl 1 rfl rfl ?_
    refine q_ci (q_runV (C := RX6) (T := TX6) (N := 22) ⟨hx, hb, hml, hown, hts⟩ (c_X6_isBerth l hI (nI j)) (cwV 1 hts gX6_arrive_X6_isBerth rfl rfl rfl (by decide +kernel) ⟨Nat.le_of_ble_eq_true rfl, Nat.le_of_ble_eq_true rfl⟩) hK hw Ew_mo rfl rfl hl.1 rfl (by simp [Value.category, va_rf]) dX6_arrive_2 ⟨Nat.le_of_ble_eq_true rfl, Nat.le_of_ble_eq_true rfl⟩) hS (fun H locs hw hS => ?_)
    refine f_top (y := 1) (is_ok hj hI.nb2) ?_
    refine lv_if_eq (tgt := 19) hx hb dX6_arrive_5 (by decide) (fun c5 => absurd c5 (by decide)) (fun c5 => ?_)
    refine f_iload_n hx hb dX6_arrive_8 hl 2 rfl rfl ?_
    refine lv_if_lt (tgt := 19) hx hb dX6_arrive_9 (by decide) (fun c9 => ?_) (fun c9 => ?_)
    · refine lv_bipush (v := (-2)) hx hb dX6_arrive_19 (by decide) ?_
      exact q_ism hx hb hr hlk hK hw hS dX6_arrive_21 (by rw [sp_arrive, hix]; dsimp only [Option.elim]; exact (if_pos c9))
    · refine f_iload_n hx hb dX6_arrive_12 hl 2 rfl rfl ?_
      refine lv_sipush (v := 2000) hx hb dX6_arrive_13 (by decide) ?_
      refine lv_icmp_le (tgt := 22) hx hb dX6_arrive_16 (by decide) (fun c16 => ?_) (fun c16 => ?_)
      · refine f_aload_n hx hb dX6_arrive_22 hl 0 rfl rfl ?_
        refine e_get (C := RX6) (T := TX6) (N := 22) hx hb hts i6 hown hK hw Ew_mo rfl 16 (by decide) (hts (.fieldLink RX6 38 "FerryQuayModel" "waits" "[I") (by decide +kernel)) rfl dX6_arrive_23 ?_
        refine f_iload_n hx hb dX6_arrive_26 hl 1 rfl rfl ?_
        refine e_ialdN hx hb hK hw 0 Ew_m10 rfl rfl (by omega) (by decide) dX6_arrive_27 ?_
        refine f_top (y := nI (ln u j)) hLn ?_
        by_cases hq : ln u j = 30
        · refine lv_bipush (v := 30) hx hb dX6_arrive_28 (by decide) ?_
          refine lv_icmp_ne (tgt := 36) hx hb dX6_arrive_30 (by decide) (fun c30 => absurd (by rw [hq]; rfl) c30) (fun c30 => ?_)
          refine lv_bipush (v := (-3)) hx hb dX6_arrive_33 (by decide) ?_
          exact q_ism hx hb hr hlk hK hw hS dX6_arrive_35 (by rw [sp_arrive, hix]; dsimp only [Option.elim]; exact (Eq.trans (if_neg c9) (Eq.trans (if_neg (Int32.not_lt.mpr c16)) (if_pos hq))))
        · refine lv_bipush (v := 30) hx hb dX6_arrive_28 (by decide) ?_
          refine lv_icmp_ne (tgt := 36) hx hb dX6_arrive_30 (by decide) (fun c30 => ?_) (fun c30 => absurd c30 (fun q => hq ((nI_eq (b := 30) (by omega) (by decide)).mp q)))
          refine f_aload_n hx hb dX6_arrive_36 hl 0 rfl rfl ?_
          refine f_iload_n hx hb dX6_arrive_37 hl 1 rfl rfl ?_
          refine f_iload_n hx hb dX6_arrive_38 hl 2 rfl rfl ?_
          refine q_cv (q_runV (C := RX6) (T := TX6) (N := 22) ⟨hx, hb, hml, hown, hts⟩ (c_X6_comes l hI hj y (by omega)) (cwV 2 hts gX6_arrive_X6_comes rfl rfl rfl (by decide +kernel) ⟨Nat.le_of_ble_eq_true rfl, Nat.le_of_ble_eq_true rfl⟩) hK hw Ew_mo rfl rfl hl.1 rfl (by simp [Value.category, va_rf]) dX6_arrive_39 ⟨Nat.le_of_ble_eq_true rfl, Nat.le_of_ble_eq_true rfl⟩) hS (fun H locs hw hS => ?_)
          refine f_aload_n hx hb dX6_arrive_42 hl 0 rfl rfl ?_
          refine lv_dup hx hb dX6_arrive_43 rfl ?_
          refine e_get (C := RX6) (T := TX6) (N := 22) hx hb hts i6 hown hK hw Ew_mo rfl 3 (by decide) (hts (.fieldLink RX6 83 "FerryQuayModel" "arrived" "I") (by decide +kernel)) rfl dX6_arrive_44 ?_
          refine lv_iconst (v := 1) hx hb dX6_arrive_47 (by decide) ?_
          refine lv_iadd hx hb dX6_arrive_48 ?_
          refine e_put (C := RX6) (T := TX6) (N := 22) (ty := .int) hx hb hts i6 tyX6 tyX6_ok nmX6 hown hK hw hS Ew_mo rfl 3 (by decide) (hts (.fieldLink RX6 83 "FerryQuayModel" "arrived" "I") (by decide +kernel)) rfl (by decide +kernel) rfl rfl (Nat.le_of_ble_eq_true rfl) dX6_arrive_49 (fun H locs hw hS => ?_)
          have hw := hw.cast Ep_mo3
          refine f_aload_n hx hb dX6_arrive_52 hl 0 rfl rfl ?_
          refine e_get (C := RX6) (T := TX6) (N := 22) hx hb hts i6 hown hK hw Ew_mo rfl 16 (by decide) (hts (.fieldLink RX6 38 "FerryQuayModel" "waits" "[I") (by decide +kernel)) rfl dX6_arrive_53 ?_
          refine f_iload_n hx hb dX6_arrive_56 hl 1 rfl rfl ?_
          refine e_ialdN hx hb hK hw 0 Ew_m10 rfl rfl (by omega) (by decide) dX6_arrive_57 ?_
          refine f_top (y := nI (ln u j + 1)) ((sc_k (by decide)).trans sc_s) ?_
          exact q_ism hx hb hr hlk hK hw hS dX6_arrive_58 (by rw [sp_arrive, hix]; dsimp only [Option.elim]; exact (Eq.trans (if_neg c9) (Eq.trans (if_neg (Int32.not_lt.mpr c16)) (if_neg hq))))
      · refine lv_bipush (v := (-2)) hx hb dX6_arrive_19 (by decide) ?_
        exact q_ism hx hb hr hlk hK hw hS dX6_arrive_21 (by rw [sp_arrive, hix]; dsimp only [Option.elim]; exact (Eq.trans (if_neg c9) (if_pos (Int32.not_le.mp c16))))
set_option maxHeartbeats 4000000 in
set_option maxRecDepth 100000 in
theorem c_X6_state (l : Launch) {G : va_G} {Y : YT} {lo : Nat} {ad : Nat → Nat → Nat} {ng nr nb : Nat} {z u : St} (hI : Inv u ng nr nb) (x y : Int32) : Met l yX6_state wsX6_state ({ frames := 1, cells := 0, slots := 0, locals := 21 }) (va_Pc [.ref (ad 0 4), .int x, .int y] (cS G (tysY Y) lo (Ew Y ng nr nb z u ad) ad)) (QI G (tysY Y) lo (sp_state nb u x y) (Ew Y ng nr nb z u ad) ad) 0 0 (fun q => lo ≤ q) := by
  refine met_of (cc := cX6_state) (maxL := 4) (ret := (some .int)) (by decide) rfl (Nat.le_of_ble_eq_true rfl) rfl ?_
  intro p e s m below meth c ls hx hb hr hlk hml hts hown hnm hw hK hl hS
  have i6 : ∀ w ∈ wsX60, w ∈ wsX6_state := by decide +kernel
  have hng := hI.mg
  have hnr := hI.mr
  have hnb := hI.mb
  rcases ix_cases x hI.nb2 with ⟨hix, hbad⟩ | ⟨j, hj, rfl, hix⟩
  · refine f_aload_n hx hb dX6_state_0 hl 0 rfl rfl ?_
    refine f_iload_n hx hb dX6_state_1 hl 1 rfl rfl ?_
    refine q_ci (q_runV (C := RX6) (T := TX6) (N := 22) ⟨hx, hb, hml, hown, hts⟩ (c_X6_isBerth l hI x) (cwV 1 hts gX6_state_X6_isBerth rfl rfl rfl (by decide +kernel) ⟨Nat.le_of_ble_eq_true rfl, Nat.le_of_ble_eq_true rfl⟩) hK hw Ew_mo rfl rfl hl.1 rfl (by simp [Value.category, va_rf]) dX6_state_2 ⟨Nat.le_of_ble_eq_true rfl, Nat.le_of_ble_eq_true rfl⟩) hS (fun H locs hw hS => ?_)
    refine f_top (y := 0) (is_bad hbad) ?_
    refine lv_if_ne (tgt := 11) hx hb dX6_state_5 (by decide) (fun c5 => absurd (by decide) c5) (fun c5 => ?_)
    refine lv_bipush (v := (-2)) hx hb dX6_state_8 (by decide) ?_
    exact q_iret hx hb hr hlk hK hw hS dX6_state_10 (Eq.symm (by rw [sp_state, hix]; exact rfl)) rfl
  · obtain ⟨f, hf, hF, hFt⟩ := hI.ferry hj
    refine f_aload_n hx hb dX6_state_0 hl 0 rfl rfl ?_
    refine f_iload_n hx hb dX6_state_1 hl 1 rfl rfl ?_
    refine q_ci (q_runV (C := RX6) (T := TX6) (N := 22) ⟨hx, hb, hml, hown, hts⟩ (c_X6_isBerth l hI (nI j)) (cwV 1 hts gX6_state_X6_isBerth rfl rfl rfl (by decide +kernel) ⟨Nat.le_of_ble_eq_true rfl, Nat.le_of_ble_eq_true rfl⟩) hK hw Ew_mo rfl rfl hl.1 rfl (by simp [Value.category, va_rf]) dX6_state_2 ⟨Nat.le_of_ble_eq_true rfl, Nat.le_of_ble_eq_true rfl⟩) hS (fun H locs hw hS => ?_)
    refine f_top (y := 1) (is_ok hj hI.nb2) ?_
    refine lv_if_ne (tgt := 11) hx hb dX6_state_5 (by decide) (fun c5 => ?_) (fun c5 => absurd c5 (by decide))
    refine f_aload_n hx hb dX6_state_11 hl 0 rfl rfl ?_
    refine e_get (C := RX6) (T := TX6) (N := 22) hx hb hts i6 hown hK hw Ew_mo rfl 15 (by decide) (hts (.fieldLink RX6 35 "FerryQuayModel" "ferryOf" "[I") (by decide +kernel)) rfl dX6_state_12 ?_
    refine f_iload_n hx hb dX6_state_15 hl 1 rfl rfl ?_
    refine e_ialdN hx hb hK hw 0 Ew_m9 rfl rfl (by omega) (by decide) dX6_state_16 ?_
    refine f_istore_n hx hb dX6_state_17 hl 3 rfl (by decide) (fun ls hl => ?_)
    refine f_iload_n hx hb dX6_state_18 hl 2 rfl rfl ?_
    by_cases hs0 : y = 0
    · subst hs0
      refine lv_tableIn (tgt := 56) hx hb dX6_state_19 (by decide) (by decide) rfl (by decide) ?_
      refine f_aload_n hx hb dX6_state_56 hl 0 rfl rfl ?_
      refine e_get (C := RX6) (T := TX6) (N := 22) hx hb hts i6 hown hK hw Ew_mo rfl 13 (by decide) (hts (.fieldLink RX6 29 "FerryQuayModel" "gateOf" "[I") (by decide +kernel)) rfl dX6_state_57 ?_
      refine f_iload_n hx hb dX6_state_60 hl 1 rfl rfl ?_
      refine e_ialdN hx hb hK hw 0 Ew_m7 rfl rfl (by omega) (by decide) dX6_state_61 ?_
      exact q_iret hx hb hr hlk hK hw hS dX6_state_62 (Eq.symm (by rw [sp_state, hix]; dsimp only [Option.elim]; exact (if_pos rfl))) rfl
    · by_cases hs1 : y = 1
      · subst hs1
        refine lv_tableIn (tgt := 63) hx hb dX6_state_19 (by decide) (by decide) rfl (by decide) ?_
        refine f_aload_n hx hb dX6_state_63 hl 0 rfl rfl ?_
        refine e_get (C := RX6) (T := TX6) (N := 22) hx hb hts i6 hown hK hw Ew_mo rfl 14 (by decide) (hts (.fieldLink RX6 32 "FerryQuayModel" "rampOf" "[I") (by decide +kernel)) rfl dX6_state_64 ?_
        refine f_iload_n hx hb dX6_state_67 hl 1 rfl rfl ?_
        refine e_ialdN hx hb hK hw 0 Ew_m8 rfl rfl (by omega) (by decide) dX6_state_68 ?_
        exact q_iret hx hb hr hlk hK hw hS dX6_state_69 (Eq.symm (by rw [sp_state, hix]; dsimp only [Option.elim]; exact (Eq.trans (if_neg (by decide)) (if_pos rfl)))) rfl
      · by_cases hs2 : y = 2
        · subst hs2
          refine lv_tableIn (tgt := 70) hx hb dX6_state_19 (by decide) (by decide) rfl (by decide) ?_
          refine f_aload_n hx hb dX6_state_70 hl 0 rfl rfl ?_
          refine e_get (C := RX6) (T := TX6) (N := 22) hx hb hts i6 hown hK hw Ew_mo rfl 16 (by decide) (hts (.fieldLink RX6 38 "FerryQuayModel" "waits" "[I") (by decide +kernel)) rfl dX6_state_71 ?_
          refine f_iload_n hx hb dX6_state_74 hl 1 rfl rfl ?_
          refine e_ialdN hx hb hK hw 0 Ew_m10 rfl rfl (by omega) (by decide) dX6_state_75 ?_
          exact q_iret hx hb hr hlk hK hw hS dX6_state_76 (Eq.symm (by rw [sp_state, hix]; dsimp only [Option.elim]; exact (Eq.trans (if_neg (by decide)) (Eq.trans (if_neg (by decide)) (if_pos rfl))))) rfl
        · by_cases hs3 : y = 3
          · subst hs3
            refine lv_tableIn (tgt := 77) hx hb dX6_state_19 (by decide) (by decide) rfl (by decide) ?_
            refine f_aload_n hx hb dX6_state_77 hl 0 rfl rfl ?_
            refine e_get (C := RX6) (T := TX6) (N := 22) hx hb hts i6 hown hK hw Ew_mo rfl 20 (by decide) (hts (.fieldLink RX6 50 "FerryQuayModel" "many" "[I") (by decide +kernel)) rfl dX6_state_78 ?_
            refine f_iload_n hx hb dX6_state_81 hl 3 rfl rfl ?_
            refine e_ialdN hx hb hK hw 0 Ew_m14 rfl hF (by omega) (by decide) dX6_state_82 ?_
            exact q_iret hx hb hr hlk hK hw hS dX6_state_83 (Eq.symm (by rw [sp_state, hix]; dsimp only [Option.elim]; exact (Eq.trans (if_neg (by decide)) (Eq.trans (if_neg (by decide)) (Eq.trans (if_neg (by decide)) (Eq.trans (if_pos rfl) (congrArg (fun q => sc u 14 q) hFt))))))) rfl
          · by_cases hs4 : y = 4
            · subst hs4
              refine lv_tableIn (tgt := 84) hx hb dX6_state_19 (by decide) (by decide) rfl (by decide) ?_
              refine f_aload_n hx hb dX6_state_84 hl 0 rfl rfl ?_
              refine e_get (C := RX6) (T := TX6) (N := 22) hx hb hts i6 hown hK hw Ew_mo rfl 19 (by decide) (hts (.fieldLink RX6 47 "FerryQuayModel" "load" "[I") (by decide +kernel)) rfl dX6_state_85 ?_
              refine f_iload_n hx hb dX6_state_88 hl 3 rfl rfl ?_
              refine e_ialdN hx hb hK hw 0 Ew_m13 rfl hF (by omega) (by decide) dX6_state_89 ?_
              exact q_iret hx hb hr hlk hK hw hS dX6_state_90 (Eq.symm (by rw [sp_state, hix]; dsimp only [Option.elim]; exact (Eq.trans (if_neg (by decide)) (Eq.trans (if_neg (by decide)) (Eq.trans (if_neg (by decide)) (Eq.trans (if_neg (by decide)) (Eq.trans (if_pos rfl) (congrArg (fun q => sc u 13 q) hFt)))))))) rfl
            · by_cases hs5 : y = 5
              · subst hs5
                refine lv_tableIn (tgt := 91) hx hb dX6_state_19 (by decide) (by decide) rfl (by decide) ?_
                refine f_aload_n hx hb dX6_state_91 hl 0 rfl rfl ?_
                refine e_get (C := RX6) (T := TX6) (N := 22) hx hb hts i6 hown hK hw Ew_mo rfl 18 (by decide) (hts (.fieldLink RX6 44 "FerryQuayModel" "room" "[I") (by decide +kernel)) rfl dX6_state_92 ?_
                refine f_iload_n hx hb dX6_state_95 hl 3 rfl rfl ?_
                refine e_ialdN hx hb hK hw 0 Ew_m12 rfl hF (by omega) (by decide) dX6_state_96 ?_
                exact q_iret hx hb hr hlk hK hw hS dX6_state_97 (Eq.symm (by rw [sp_state, hix]; dsimp only [Option.elim]; exact (Eq.trans (if_neg (by decide)) (Eq.trans (if_neg (by decide)) (Eq.trans (if_neg (by decide)) (Eq.trans (if_neg (by decide)) (Eq.trans (if_neg (by decide)) (Eq.trans (if_pos rfl) (congrArg (fun q => sc u 12 q) hFt))))))))) rfl
              · refine lv_tableOut (tgt := 98) hx hb dX6_state_19 (sw_out (n := 5) (by decide) (fun k hk => by rcases (show k = 0 ∨ k = 1 ∨ k = 2 ∨ k = 3 ∨ k = 4 ∨ k = 5 by omega) with rfl | rfl | rfl | rfl | rfl | rfl <;> assumption)) (by decide) ?_
                refine lv_bipush (v := (-2)) hx hb dX6_state_98 (by decide) ?_
                exact q_iret hx hb hr hlk hK hw hS dX6_state_100 (Eq.symm (by rw [sp_state, hix]; dsimp only [Option.elim]; exact (Eq.trans (if_neg hs0) (Eq.trans (if_neg hs1) (Eq.trans (if_neg hs2) (Eq.trans (if_neg hs3) (Eq.trans (if_neg hs4) (if_neg hs5)))))))) rfl
set_option maxHeartbeats 4000000 in
set_option maxRecDepth 100000 in
theorem c_X6_count (l : Launch) {G : va_G} {Y : YT} {lo : Nat} {ad : Nat → Nat → Nat} {ng nr nb : Nat} {z u : St} (hI : Inv u ng nr nb) (y : Int32) : Met l yX6_count wsX6_count ({ frames := 0, cells := 0, slots := 0, locals := 0 }) (va_Pc [.ref (ad 0 4), .int y] (cS G (tysY Y) lo (Ew Y ng nr nb z u ad) ad)) (QI G (tysY Y) lo (sp_count u y) (Ew Y ng nr nb z u ad) ad) 0 0 (fun q => lo ≤ q) := by
  refine met_of (cc := cX6_count) (maxL := 2) (ret := (some .int)) (by decide) rfl (Nat.le_of_ble_eq_true rfl) rfl ?_
  intro p e s m below meth c ls hx hb hr hlk hml hts hown hnm hw hK hl hS
  have i6 : ∀ w ∈ wsX60, w ∈ wsX6_count := by decide +kernel
  have hng := hI.mg
  have hnr := hI.mr
  have hnb := hI.mb
  refine f_iload_n hx hb dX6_count_0 hl 1 rfl rfl ?_
  by_cases hs0 : y = 0
  · subst hs0
    refine lv_tableIn (tgt := 44) hx hb dX6_count_1 (by decide) (by decide) rfl (by decide) ?_
    refine f_aload_n hx hb dX6_count_44 hl 0 rfl rfl ?_
    refine e_get (C := RX6) (T := TX6) (N := 22) hx hb hts i6 hown hK hw Ew_mo rfl 0 (by decide) (hts (.fieldLink RX6 56 "FerryQuayModel" "gates" "I") (by decide +kernel)) rfl dX6_count_45 ?_
    exact q_iret hx hb hr hlk hK hw hS dX6_count_48 (Eq.symm (by rw [sp_count]; exact (if_pos rfl))) rfl
  · by_cases hs1 : y = 1
    · subst hs1
      refine lv_tableIn (tgt := 49) hx hb dX6_count_1 (by decide) (by decide) rfl (by decide) ?_
      refine f_aload_n hx hb dX6_count_49 hl 0 rfl rfl ?_
      refine e_get (C := RX6) (T := TX6) (N := 22) hx hb hts i6 hown hK hw Ew_mo rfl 1 (by decide) (hts (.fieldLink RX6 60 "FerryQuayModel" "ramps" "I") (by decide +kernel)) rfl dX6_count_50 ?_
      exact q_iret hx hb hr hlk hK hw hS dX6_count_53 (Eq.symm (by rw [sp_count]; exact (Eq.trans (if_neg (by decide)) (if_pos rfl)))) rfl
    · by_cases hs2 : y = 2
      · subst hs2
        refine lv_tableIn (tgt := 54) hx hb dX6_count_1 (by decide) (by decide) rfl (by decide) ?_
        refine f_aload_n hx hb dX6_count_54 hl 0 rfl rfl ?_
        refine e_get (C := RX6) (T := TX6) (N := 22) hx hb hts i6 hown hK hw Ew_mo rfl 2 (by decide) (hts (.fieldLink RX6 63 "FerryQuayModel" "berths" "I") (by decide +kernel)) rfl dX6_count_55 ?_
        exact q_iret hx hb hr hlk hK hw hS dX6_count_58 (Eq.symm (by rw [sp_count]; exact (Eq.trans (if_neg (by decide)) (Eq.trans (if_neg (by decide)) (if_pos rfl))))) rfl
      · by_cases hs3 : y = 3
        · subst hs3
          refine lv_tableIn (tgt := 59) hx hb dX6_count_1 (by decide) (by decide) rfl (by decide) ?_
          refine f_aload_n hx hb dX6_count_59 hl 0 rfl rfl ?_
          refine e_get (C := RX6) (T := TX6) (N := 22) hx hb hts i6 hown hK hw Ew_mo rfl 3 (by decide) (hts (.fieldLink RX6 83 "FerryQuayModel" "arrived" "I") (by decide +kernel)) rfl dX6_count_60 ?_
          exact q_iret hx hb hr hlk hK hw hS dX6_count_63 (Eq.symm (by rw [sp_count]; exact (Eq.trans (if_neg (by decide)) (Eq.trans (if_neg (by decide)) (Eq.trans (if_neg (by decide)) (if_pos rfl)))))) rfl
        · by_cases hs4 : y = 4
          · subst hs4
            refine lv_tableIn (tgt := 64) hx hb dX6_count_1 (by decide) (by decide) rfl (by decide) ?_
            refine f_aload_n hx hb dX6_count_64 hl 0 rfl rfl ?_
            refine e_get (C := RX6) (T := TX6) (N := 22) hx hb hts i6 hown hK hw Ew_mo rfl 4 (by decide) (hts (.fieldLink RX6 96 "FerryQuayModel" "gone" "I") (by decide +kernel)) rfl dX6_count_65 ?_
            exact q_iret hx hb hr hlk hK hw hS dX6_count_68 (Eq.symm (by rw [sp_count]; exact (Eq.trans (if_neg (by decide)) (Eq.trans (if_neg (by decide)) (Eq.trans (if_neg (by decide)) (Eq.trans (if_neg (by decide)) (if_pos rfl))))))) rfl
          · by_cases hs5 : y = 5
            · subst hs5
              refine lv_tableIn (tgt := 69) hx hb dX6_count_1 (by decide) (by decide) rfl (by decide) ?_
              refine f_aload_n hx hb dX6_count_69 hl 0 rfl rfl ?_
              refine e_get (C := RX6) (T := TX6) (N := 22) hx hb hts i6 hown hK hw Ew_mo rfl 5 (by decide) (hts (.fieldLink RX6 90 "FerryQuayModel" "towed" "I") (by decide +kernel)) rfl dX6_count_70 ?_
              exact q_iret hx hb hr hlk hK hw hS dX6_count_73 (Eq.symm (by rw [sp_count]; exact (Eq.trans (if_neg (by decide)) (Eq.trans (if_neg (by decide)) (Eq.trans (if_neg (by decide)) (Eq.trans (if_neg (by decide)) (Eq.trans (if_neg (by decide)) (if_pos rfl)))))))) rfl
            · by_cases hs6 : y = 6
              · subst hs6
                refine lv_tableIn (tgt := 74) hx hb dX6_count_1 (by decide) (by decide) rfl (by decide) ?_
                refine f_aload_n hx hb dX6_count_74 hl 0 rfl rfl ?_
                refine e_get (C := RX6) (T := TX6) (N := 22) hx hb hts i6 hown hK hw Ew_mo rfl 6 (by decide) (hts (.fieldLink RX6 66 "FerryQuayModel" "alarms" "I") (by decide +kernel)) rfl dX6_count_75 ?_
                exact q_iret hx hb hr hlk hK hw hS dX6_count_78 (Eq.symm (by rw [sp_count]; exact (Eq.trans (if_neg (by decide)) (Eq.trans (if_neg (by decide)) (Eq.trans (if_neg (by decide)) (Eq.trans (if_neg (by decide)) (Eq.trans (if_neg (by decide)) (Eq.trans (if_neg (by decide)) (if_pos rfl))))))))) rfl
              · refine lv_tableOut (tgt := 79) hx hb dX6_count_1 (sw_out (n := 6) (by decide) (fun k hk => by rcases (show k = 0 ∨ k = 1 ∨ k = 2 ∨ k = 3 ∨ k = 4 ∨ k = 5 ∨ k = 6 by omega) with rfl | rfl | rfl | rfl | rfl | rfl | rfl <;> assumption)) (by decide) ?_
                refine lv_bipush (v := (-2)) hx hb dX6_count_79 (by decide) ?_
                exact q_iret hx hb hr hlk hK hw hS dX6_count_81 (Eq.symm (by rw [sp_count]; exact (Eq.trans (if_neg hs0) (Eq.trans (if_neg hs1) (Eq.trans (if_neg hs2) (Eq.trans (if_neg hs3) (Eq.trans (if_neg hs4) (Eq.trans (if_neg hs5) (if_neg hs6))))))))) rfl
set_option maxHeartbeats 4000000 in
set_option maxRecDepth 100000 in
theorem c_X6_waiting (l : Launch) {G : va_G} {Y : YT} {lo : Nat} {ad : Nat → Nat → Nat} {ng nr nb : Nat} {z u : St} (hI : Inv u ng nr nb) (x y : Int32) : Met l yX6_waiting wsX6_waiting ({ frames := 1, cells := 0, slots := 0, locals := 21 }) (va_Pc [.ref (ad 0 4), .int x, .int y] (cS G (tysY Y) lo (Ew Y ng nr nb z u ad) ad)) (QI G (tysY Y) lo (sp_waiting nb u x y) (Ew Y ng nr nb z u ad) ad) 0 0 (fun q => lo ≤ q) := by
  refine met_of (cc := cX6_waiting) (maxL := 3) (ret := (some .int)) (by decide) rfl (Nat.le_of_ble_eq_true rfl) rfl ?_
  intro p e s m below meth c ls hx hb hr hlk hml hts hown hnm hw hK hl hS
  have i6 : ∀ w ∈ wsX60, w ∈ wsX6_waiting := by decide +kernel
  have hng := hI.mg
  have hnr := hI.mr
  have hnb := hI.mb
  rcases ix_cases x hI.nb2 with ⟨hix, hbad⟩ | ⟨j, hj, rfl, hix⟩
  · refine f_aload_n hx hb dX6_waiting_0 hl 0 rfl rfl ?_
    refine f_iload_n hx hb dX6_waiting_1 hl 1 rfl rfl ?_
    refine q_ci (q_runV (C := RX6) (T := TX6) (N := 22) ⟨hx, hb, hml, hown, hts⟩ (c_X6_isBerth l hI x) (cwV 1 hts gX6_waiting_X6_isBerth rfl rfl rfl (by decide +kernel) ⟨Nat.le_of_ble_eq_true rfl, Nat.le_of_ble_eq_true rfl⟩) hK hw Ew_mo rfl rfl hl.1 rfl (by simp [Value.category, va_rf]) dX6_waiting_2 ⟨Nat.le_of_ble_eq_true rfl, Nat.le_of_ble_eq_true rfl⟩) hS (fun H locs hw hS => ?_)
    refine f_top (y := 0) (is_bad hbad) ?_
    refine lv_if_ne (tgt := 11) hx hb dX6_waiting_5 (by decide) (fun c5 => absurd (by decide) c5) (fun c5 => ?_)
    refine lv_bipush (v := (-2)) hx hb dX6_waiting_8 (by decide) ?_
    exact q_iret hx hb hr hlk hK hw hS dX6_waiting_10 (Eq.symm (by rw [sp_waiting, hix]; exact rfl)) rfl
  · obtain ⟨hL, hLn⟩ := hI.lane hj
    refine f_aload_n hx hb dX6_waiting_0 hl 0 rfl rfl ?_
    refine f_iload_n hx hb dX6_waiting_1 hl 1 rfl rfl ?_
    refine q_ci (q_runV (C := RX6) (T := TX6) (N := 22) ⟨hx, hb, hml, hown, hts⟩ (c_X6_isBerth l hI (nI j)) (cwV 1 hts gX6_waiting_X6_isBerth rfl rfl rfl (by decide +kernel) ⟨Nat.le_of_ble_eq_true rfl, Nat.le_of_ble_eq_true rfl⟩) hK hw Ew_mo rfl rfl hl.1 rfl (by simp [Value.category, va_rf]) dX6_waiting_2 ⟨Nat.le_of_ble_eq_true rfl, Nat.le_of_ble_eq_true rfl⟩) hS (fun H locs hw hS => ?_)
    refine f_top (y := 1) (is_ok hj hI.nb2) ?_
    refine lv_if_ne (tgt := 11) hx hb dX6_waiting_5 (by decide) (fun c5 => ?_) (fun c5 => absurd c5 (by decide))
    refine f_iload_n hx hb dX6_waiting_11 hl 2 rfl rfl ?_
    refine lv_if_lt (tgt := 39) hx hb dX6_waiting_12 (by decide) (fun c12 => ?_) (fun c12 => ?_)
    · refine lv_iconst (v := (-1)) hx hb dX6_waiting_39 (by decide) ?_
      exact q_iret hx hb hr hlk hK hw hS dX6_waiting_40 (Eq.symm (by rw [sp_waiting, hix]; dsimp only [Option.elim]; exact (if_pos c12))) rfl
    · refine f_iload_n hx hb dX6_waiting_15 hl 2 rfl rfl ?_
      refine f_aload_n hx hb dX6_waiting_16 hl 0 rfl rfl ?_
      refine e_get (C := RX6) (T := TX6) (N := 22) hx hb hts i6 hown hK hw Ew_mo rfl 16 (by decide) (hts (.fieldLink RX6 38 "FerryQuayModel" "waits" "[I") (by decide +kernel)) rfl dX6_waiting_17 ?_
      refine f_iload_n hx hb dX6_waiting_20 hl 1 rfl rfl ?_
      refine e_ialdN hx hb hK hw 0 Ew_m10 rfl rfl (by omega) (by decide) dX6_waiting_21 ?_
      refine lv_icmp_ge (tgt := 39) hx hb dX6_waiting_22 (by decide) (fun c22 => ?_) (fun c22 => ?_)
      · refine lv_iconst (v := (-1)) hx hb dX6_waiting_39 (by decide) ?_
        exact q_iret hx hb hr hlk hK hw hS dX6_waiting_40 (Eq.symm (by rw [sp_waiting, hix]; dsimp only [Option.elim]; exact (Eq.trans (if_neg c12) (if_pos c22)))) rfl
      · obtain ⟨q, hq, rfl⟩ := lt_of hLn (by omega) c12 c22
        refine f_aload_n hx hb dX6_waiting_25 hl 0 rfl rfl ?_
        refine e_get (C := RX6) (T := TX6) (N := 22) hx hb hts i6 hown hK hw Ew_mo rfl 17 (by decide) (hts (.fieldLink RX6 41 "FerryQuayModel" "lane" "[I") (by decide +kernel)) rfl dX6_waiting_26 ?_
        refine lv_bipush (v := 30) hx hb dX6_waiting_29 (by decide) ?_
        refine f_iload_n hx hb dX6_waiting_31 hl 1 rfl rfl ?_
        refine lv_imul hx hb dX6_waiting_32 ?_
        refine f_iload_n hx hb dX6_waiting_33 hl 2 rfl rfl ?_
        refine lv_iadd hx hb dX6_waiting_34 ?_
        refine f_top (idx_add (k := 30) rfl rfl) ?_
        refine e_ialdN hx hb hK hw 0 Ew_m11 rfl rfl (by omega) (by decide) dX6_waiting_35 ?_
        refine f_top (y := u 11 j q) (fl30 (by omega)) ?_
        refine lv_goto (tgt := 40) hx hb dX6_waiting_36 (by decide) ?_
        exact q_iret hx hb hr hlk hK hw hS dX6_waiting_40 (Eq.symm (by rw [sp_waiting, hix]; dsimp only [Option.elim]; exact (Eq.trans (if_neg c12) (Eq.trans (if_neg c22) (congrArg (fun t => u 11 j t) (nI_clamp (by omega))))))) rfl
set_option maxHeartbeats 4000000 in
set_option maxRecDepth 100000 in
theorem c_X6_aboard (l : Launch) {G : va_G} {Y : YT} {lo : Nat} {ad : Nat → Nat → Nat} {ng nr nb : Nat} {z u : St} (hI : Inv u ng nr nb) (x y : Int32) : Met l yX6_aboard wsX6_aboard ({ frames := 1, cells := 0, slots := 0, locals := 21 }) (va_Pc [.ref (ad 0 4), .int x, .int y] (cS G (tysY Y) lo (Ew Y ng nr nb z u ad) ad)) (QI G (tysY Y) lo (sp_aboard nb u x y) (Ew Y ng nr nb z u ad) ad) 0 0 (fun q => lo ≤ q) := by
  refine met_of (cc := cX6_aboard) (maxL := 4) (ret := (some .int)) (by decide) rfl (Nat.le_of_ble_eq_true rfl) rfl ?_
  intro p e s m below meth c ls hx hb hr hlk hml hts hown hnm hw hK hl hS
  have i6 : ∀ w ∈ wsX60, w ∈ wsX6_aboard := by decide +kernel
  have hng := hI.mg
  have hnr := hI.mr
  have hnb := hI.mb
  rcases ix_cases x hI.nb2 with ⟨hix, hbad⟩ | ⟨j, hj, rfl, hix⟩
  · refine f_aload_n hx hb dX6_aboard_0 hl 0 rfl rfl ?_
    refine f_iload_n hx hb dX6_aboard_1 hl 1 rfl rfl ?_
    refine q_ci (q_runV (C := RX6) (T := TX6) (N := 22) ⟨hx, hb, hml, hown, hts⟩ (c_X6_isBerth l hI x) (cwV 1 hts gX6_aboard_X6_isBerth rfl rfl rfl (by decide +kernel) ⟨Nat.le_of_ble_eq_true rfl, Nat.le_of_ble_eq_true rfl⟩) hK hw Ew_mo rfl rfl hl.1 rfl (by simp [Value.category, va_rf]) dX6_aboard_2 ⟨Nat.le_of_ble_eq_true rfl, Nat.le_of_ble_eq_true rfl⟩) hS (fun H locs hw hS => ?_)
    refine f_top (y := 0) (is_bad hbad) ?_
    refine lv_if_ne (tgt := 11) hx hb dX6_aboard_5 (by decide) (fun c5 => absurd (by decide) c5) (fun c5 => ?_)
    refine lv_bipush (v := (-2)) hx hb dX6_aboard_8 (by decide) ?_
    exact q_iret hx hb hr hlk hK hw hS dX6_aboard_10 (Eq.symm (by rw [sp_aboard, hix]; exact rfl)) rfl
  · obtain ⟨f, hf, hF, hFt⟩ := hI.ferry hj
    obtain ⟨hL, hLn⟩ := hI.deck hf
    refine f_aload_n hx hb dX6_aboard_0 hl 0 rfl rfl ?_
    refine f_iload_n hx hb dX6_aboard_1 hl 1 rfl rfl ?_
    refine q_ci (q_runV (C := RX6) (T := TX6) (N := 22) ⟨hx, hb, hml, hown, hts⟩ (c_X6_isBerth l hI (nI j)) (cwV 1 hts gX6_aboard_X6_isBerth rfl rfl rfl (by decide +kernel) ⟨Nat.le_of_ble_eq_true rfl, Nat.le_of_ble_eq_true rfl⟩) hK hw Ew_mo rfl rfl hl.1 rfl (by simp [Value.category, va_rf]) dX6_aboard_2 ⟨Nat.le_of_ble_eq_true rfl, Nat.le_of_ble_eq_true rfl⟩) hS (fun H locs hw hS => ?_)
    refine f_top (y := 1) (is_ok hj hI.nb2) ?_
    refine lv_if_ne (tgt := 11) hx hb dX6_aboard_5 (by decide) (fun c5 => ?_) (fun c5 => absurd c5 (by decide))
    refine f_aload_n hx hb dX6_aboard_11 hl 0 rfl rfl ?_
    refine e_get (C := RX6) (T := TX6) (N := 22) hx hb hts i6 hown hK hw Ew_mo rfl 15 (by decide) (hts (.fieldLink RX6 35 "FerryQuayModel" "ferryOf" "[I") (by decide +kernel)) rfl dX6_aboard_12 ?_
    refine f_iload_n hx hb dX6_aboard_15 hl 1 rfl rfl ?_
    refine e_ialdN hx hb hK hw 0 Ew_m9 rfl rfl (by omega) (by decide) dX6_aboard_16 ?_
    refine f_istore_n hx hb dX6_aboard_17 hl 3 rfl (by decide) (fun ls hl => ?_)
    refine f_iload_n hx hb dX6_aboard_18 hl 2 rfl rfl ?_
    refine lv_if_lt (tgt := 46) hx hb dX6_aboard_19 (by decide) (fun c19 => ?_) (fun c19 => ?_)
    · refine lv_iconst (v := (-1)) hx hb dX6_aboard_46 (by decide) ?_
      exact q_iret hx hb hr hlk hK hw hS dX6_aboard_47 (Eq.symm (by rw [sp_aboard, hix]; dsimp only [Option.elim]; rw [hFt]; exact (if_pos c19))) rfl
    · refine f_iload_n hx hb dX6_aboard_22 hl 2 rfl rfl ?_
      refine f_aload_n hx hb dX6_aboard_23 hl 0 rfl rfl ?_
      refine e_get (C := RX6) (T := TX6) (N := 22) hx hb hts i6 hown hK hw Ew_mo rfl 20 (by decide) (hts (.fieldLink RX6 50 "FerryQuayModel" "many" "[I") (by decide +kernel)) rfl dX6_aboard_24 ?_
      refine f_iload_n hx hb dX6_aboard_27 hl 3 rfl rfl ?_
      refine e_ialdN hx hb hK hw 0 Ew_m14 rfl hF (by omega) (by decide) dX6_aboard_28 ?_
      refine lv_icmp_ge (tgt := 46) hx hb dX6_aboard_29 (by decide) (fun c29 => ?_) (fun c29 => ?_)
      · refine lv_iconst (v := (-1)) hx hb dX6_aboard_46 (by decide) ?_
        exact q_iret hx hb hr hlk hK hw hS dX6_aboard_47 (Eq.symm (by rw [sp_aboard, hix]; dsimp only [Option.elim]; rw [hFt]; exact (Eq.trans (if_neg c19) (if_pos c29)))) rfl
      · obtain ⟨q, hq, rfl⟩ := lt_of hLn (by omega) c19 c29
        refine f_aload_n hx hb dX6_aboard_32 hl 0 rfl rfl ?_
        refine e_get (C := RX6) (T := TX6) (N := 22) hx hb hts i6 hown hK hw Ew_mo rfl 21 (by decide) (hts (.fieldLink RX6 53 "FerryQuayModel" "deck" "[I") (by decide +kernel)) rfl dX6_aboard_33 ?_
        refine lv_bipush (v := 40) hx hb dX6_aboard_36 (by decide) ?_
        refine f_iload_n hx hb dX6_aboard_38 hl 3 rfl rfl ?_
        refine lv_imul hx hb dX6_aboard_39 ?_
        refine f_iload_n hx hb dX6_aboard_40 hl 2 rfl rfl ?_
        refine lv_iadd hx hb dX6_aboard_41 ?_
        refine f_top (y := nI (40 * f + q)) (by rw [hF]; exact idx_add (k := 40) rfl rfl) ?_
        refine e_ialdN hx hb hK hw 0 Ew_m15 rfl rfl (by omega) (by decide) dX6_aboard_42 ?_
        refine f_top (y := u 15 f q) (fl40 (by omega)) ?_
        refine lv_goto (tgt := 47) hx hb dX6_aboard_43 (by decide) ?_
        exact q_iret hx hb hr hlk hK hw hS dX6_aboard_47 (Eq.symm (by rw [sp_aboard, hix]; dsimp only [Option.elim]; rw [hFt]; exact (Eq.trans (if_neg c19) (Eq.trans (if_neg c29) (congrArg (fun t => u 15 f t) (nI_clamp (by omega))))))) rfl
set_option maxHeartbeats 4000000 in
set_option maxRecDepth 100000 in
theorem c_X6_ofGate (l : Launch) {G : va_G} {Y : YT} {lo : Nat} {ad : Nat → Nat → Nat} {ng nr nb : Nat} {z u : St} (hI : Inv u ng nr nb) (x y : Int32) : Met l yX6_ofGate wsX6_ofGate ({ frames := 1, cells := 0, slots := 0, locals := 21 }) (va_Pc [.ref (ad 0 4), .int x, .int y] (cS G (tysY Y) lo (Ew Y ng nr nb z u ad) ad)) (QI G (tysY Y) lo (sp_ofGate ng u x y) (Ew Y ng nr nb z u ad) ad) 0 0 (fun q => lo ≤ q) := by
  refine met_of (cc := cX6_ofGate) (maxL := 3) (ret := (some .int)) (by decide) rfl (Nat.le_of_ble_eq_true rfl) rfl ?_
  intro p e s m below meth c ls hx hb hr hlk hml hts hown hnm hw hK hl hS
  have i6 : ∀ w ∈ wsX60, w ∈ wsX6_ofGate := by decide +kernel
  have hng := hI.mg
  have hnr := hI.mr
  have hnb := hI.mb
  rcases ix_cases x hI.ng2 with ⟨hix, hbad⟩ | ⟨j, hj, rfl, hix⟩
  · refine f_aload_n hx hb dX6_ofGate_0 hl 0 rfl rfl ?_
    refine f_iload_n hx hb dX6_ofGate_1 hl 1 rfl rfl ?_
    refine q_ci (q_runV (C := RX6) (T := TX6) (N := 22) ⟨hx, hb, hml, hown, hts⟩ (c_X6_isGate l hI x) (cwV 1 hts gX6_ofGate_X6_isGate rfl rfl rfl (by decide +kernel) ⟨Nat.le_of_ble_eq_true rfl, Nat.le_of_ble_eq_true rfl⟩) hK hw Ew_mo rfl rfl hl.1 rfl (by simp [Value.category, va_rf]) dX6_ofGate_2 ⟨Nat.le_of_ble_eq_true rfl, Nat.le_of_ble_eq_true rfl⟩) hS (fun H locs hw hS => ?_)
    refine f_top (y := 0) (is_bad hbad) ?_
    refine lv_if_eq (tgt := 17) hx hb dX6_ofGate_5 (by decide) (fun c5 => ?_) (fun c5 => absurd (by decide) c5)
    refine lv_bipush (v := (-2)) hx hb dX6_ofGate_17 (by decide) ?_
    exact q_iret hx hb hr hlk hK hw hS dX6_ofGate_19 (Eq.symm (by rw [sp_ofGate, hix]; exact rfl)) rfl
  · refine f_aload_n hx hb dX6_ofGate_0 hl 0 rfl rfl ?_
    refine f_iload_n hx hb dX6_ofGate_1 hl 1 rfl rfl ?_
    refine q_ci (q_runV (C := RX6) (T := TX6) (N := 22) ⟨hx, hb, hml, hown, hts⟩ (c_X6_isGate l hI (nI j)) (cwV 1 hts gX6_ofGate_X6_isGate rfl rfl rfl (by decide +kernel) ⟨Nat.le_of_ble_eq_true rfl, Nat.le_of_ble_eq_true rfl⟩) hK hw Ew_mo rfl rfl hl.1 rfl (by simp [Value.category, va_rf]) dX6_ofGate_2 ⟨Nat.le_of_ble_eq_true rfl, Nat.le_of_ble_eq_true rfl⟩) hS (fun H locs hw hS => ?_)
    refine f_top (y := 1) (is_ok hj hI.ng2) ?_
    refine lv_if_eq (tgt := 17) hx hb dX6_ofGate_5 (by decide) (fun c5 => absurd c5 (by decide)) (fun c5 => ?_)
    refine f_iload_n hx hb dX6_ofGate_8 hl 2 rfl rfl ?_
    refine lv_if_lt (tgt := 17) hx hb dX6_ofGate_9 (by decide) (fun c9 => ?_) (fun c9 => ?_)
    · refine lv_bipush (v := (-2)) hx hb dX6_ofGate_17 (by decide) ?_
      exact q_iret hx hb hr hlk hK hw hS dX6_ofGate_19 (Eq.symm (by rw [sp_ofGate, hix]; dsimp only [Option.elim]; exact (Eq.trans (if_neg (fun q => absurd (q ▸ c9) (by decide))) (Eq.trans (if_neg (fun q => absurd (q ▸ c9) (by decide))) (if_neg (fun q => absurd (q ▸ c9) (by decide))))))) rfl
    · refine f_iload_n hx hb dX6_ofGate_12 hl 2 rfl rfl ?_
      refine lv_iconst (v := 2) hx hb dX6_ofGate_13 (by decide) ?_
      refine lv_icmp_le (tgt := 20) hx hb dX6_ofGate_14 (by decide) (fun c14 => ?_) (fun c14 => ?_)
      · refine f_iload_n hx hb dX6_ofGate_20 hl 2 rfl rfl ?_
        refine lv_if_ne (tgt := 33) hx hb dX6_ofGate_21 (by decide) (fun c21 => ?_) (fun c21 => ?_)
        · refine f_iload_n hx hb dX6_ofGate_33 hl 2 rfl rfl ?_
          refine lv_iconst (v := 1) hx hb dX6_ofGate_34 (by decide) ?_
          refine lv_icmp_ne (tgt := 47) hx hb dX6_ofGate_35 (by decide) (fun c35 => ?_) (fun c35 => ?_)
          · refine f_aload_n hx hb dX6_ofGate_47 hl 0 rfl rfl ?_
            refine e_get (C := RX6) (T := TX6) (N := 22) hx hb hts i6 hown hK hw Ew_mo rfl 7 (by decide) (hts (.fieldLink RX6 7 "FerryQuayModel" "isShut" "[Z") (by decide +kernel)) rfl dX6_ofGate_48 ?_
            refine f_iload_n hx hb dX6_ofGate_51 hl 1 rfl rfl ?_
            refine e_zaldN hx hb hK hw 1 Ew_m1 rfl rfl (by omega) (by decide) dX6_ofGate_52 ?_
            refine lv_if_eq (tgt := 60) hx hb dX6_ofGate_53 (by decide) (fun c53 => ?_) (fun c53 => ?_)
            · refine lv_iconst (v := 0) hx hb dX6_ofGate_60 (by decide) ?_
              exact q_iret hx hb hr hlk hK hw hS dX6_ofGate_61 (Eq.symm (by rw [sp_ofGate, hix]; dsimp only [Option.elim]; exact (Eq.trans (if_neg c21) (Eq.trans (if_neg c35) (Eq.trans (if_pos (eq_2 c9 c14 c21 c35)) (by rcases hI.b1 j with hq | hq <;> first | exact hq | exact absurd hq c53 | exact absurd (hq.symm.trans c53) (by decide))))))) rfl
            · refine lv_iconst (v := 1) hx hb dX6_ofGate_56 (by decide) ?_
              refine lv_goto (tgt := 61) hx hb dX6_ofGate_57 (by decide) ?_
              exact q_iret hx hb hr hlk hK hw hS dX6_ofGate_61 (Eq.symm (by rw [sp_ofGate, hix]; dsimp only [Option.elim]; exact (Eq.trans (if_neg c21) (Eq.trans (if_neg c35) (Eq.trans (if_pos (eq_2 c9 c14 c21 c35)) (by rcases hI.b1 j with hq | hq <;> first | exact hq | exact absurd hq c53 | exact absurd (hq.symm.trans c53) (by decide))))))) rfl
          · refine f_aload_n hx hb dX6_ofGate_38 hl 0 rfl rfl ?_
            refine e_get (C := RX6) (T := TX6) (N := 22) hx hb hts i6 hown hK hw Ew_mo rfl 9 (by decide) (hts (.fieldLink RX6 17 "FerryQuayModel" "passed" "[I") (by decide +kernel)) rfl dX6_ofGate_39 ?_
            refine f_iload_n hx hb dX6_ofGate_42 hl 1 rfl rfl ?_
            refine e_ialdN hx hb hK hw 0 Ew_m3 rfl rfl (by omega) (by decide) dX6_ofGate_43 ?_
            refine lv_goto (tgt := 61) hx hb dX6_ofGate_44 (by decide) ?_
            exact q_iret hx hb hr hlk hK hw hS dX6_ofGate_61 (Eq.symm (by rw [sp_ofGate, hix]; dsimp only [Option.elim]; exact (Eq.trans (if_neg c21) (if_pos c35)))) rfl
        · refine f_aload_n hx hb dX6_ofGate_24 hl 0 rfl rfl ?_
          refine e_get (C := RX6) (T := TX6) (N := 22) hx hb hts i6 hown hK hw Ew_mo rfl 8 (by decide) (hts (.fieldLink RX6 13 "FerryQuayModel" "gateTaken" "[I") (by decide +kernel)) rfl dX6_ofGate_25 ?_
          refine f_iload_n hx hb dX6_ofGate_28 hl 1 rfl rfl ?_
          refine e_ialdN hx hb hK hw 0 Ew_m2 rfl rfl (by omega) (by decide) dX6_ofGate_29 ?_
          refine lv_goto (tgt := 61) hx hb dX6_ofGate_30 (by decide) ?_
          exact q_iret hx hb hr hlk hK hw hS dX6_ofGate_61 (Eq.symm (by rw [sp_ofGate, hix]; dsimp only [Option.elim]; exact (if_pos c21))) rfl
      · refine lv_bipush (v := (-2)) hx hb dX6_ofGate_17 (by decide) ?_
        exact q_iret hx hb hr hlk hK hw hS dX6_ofGate_19 (Eq.symm (by rw [sp_ofGate, hix]; dsimp only [Option.elim]; exact (Eq.trans (if_neg (fun q => c14 (by rw [q]; decide))) (Eq.trans (if_neg (fun q => c14 (by rw [q]; decide))) (if_neg (fun q => c14 (by rw [q]; decide))))))) rfl
set_option maxHeartbeats 4000000 in
set_option maxRecDepth 100000 in
theorem c_X6_ofRamp (l : Launch) {G : va_G} {Y : YT} {lo : Nat} {ad : Nat → Nat → Nat} {ng nr nb : Nat} {z u : St} (hI : Inv u ng nr nb) (x y : Int32) : Met l yX6_ofRamp wsX6_ofRamp ({ frames := 1, cells := 0, slots := 0, locals := 21 }) (va_Pc [.ref (ad 0 4), .int x, .int y] (cS G (tysY Y) lo (Ew Y ng nr nb z u ad) ad)) (QI G (tysY Y) lo (sp_ofRamp nr u x y) (Ew Y ng nr nb z u ad) ad) 0 0 (fun q => lo ≤ q) := by
  refine met_of (cc := cX6_ofRamp) (maxL := 3) (ret := (some .int)) (by decide) rfl (Nat.le_of_ble_eq_true rfl) rfl ?_
  intro p e s m below meth c ls hx hb hr hlk hml hts hown hnm hw hK hl hS
  have i6 : ∀ w ∈ wsX60, w ∈ wsX6_ofRamp := by decide +kernel
  have hng := hI.mg
  have hnr := hI.mr
  have hnb := hI.mb
  rcases ix_cases x hI.nr2 with ⟨hix, hbad⟩ | ⟨j, hj, rfl, hix⟩
  · refine f_aload_n hx hb dX6_ofRamp_0 hl 0 rfl rfl ?_
    refine f_iload_n hx hb dX6_ofRamp_1 hl 1 rfl rfl ?_
    refine q_ci (q_runV (C := RX6) (T := TX6) (N := 22) ⟨hx, hb, hml, hown, hts⟩ (c_X6_isRamp l hI x) (cwV 1 hts gX6_ofRamp_X6_isRamp rfl rfl rfl (by decide +kernel) ⟨Nat.le_of_ble_eq_true rfl, Nat.le_of_ble_eq_true rfl⟩) hK hw Ew_mo rfl rfl hl.1 rfl (by simp [Value.category, va_rf]) dX6_ofRamp_2 ⟨Nat.le_of_ble_eq_true rfl, Nat.le_of_ble_eq_true rfl⟩) hS (fun H locs hw hS => ?_)
    refine f_top (y := 0) (is_bad hbad) ?_
    refine lv_if_eq (tgt := 17) hx hb dX6_ofRamp_5 (by decide) (fun c5 => ?_) (fun c5 => absurd (by decide) c5)
    refine lv_bipush (v := (-2)) hx hb dX6_ofRamp_17 (by decide) ?_
    exact q_iret hx hb hr hlk hK hw hS dX6_ofRamp_19 (Eq.symm (by rw [sp_ofRamp, hix]; exact rfl)) rfl
  · refine f_aload_n hx hb dX6_ofRamp_0 hl 0 rfl rfl ?_
    refine f_iload_n hx hb dX6_ofRamp_1 hl 1 rfl rfl ?_
    refine q_ci (q_runV (C := RX6) (T := TX6) (N := 22) ⟨hx, hb, hml, hown, hts⟩ (c_X6_isRamp l hI (nI j)) (cwV 1 hts gX6_ofRamp_X6_isRamp rfl rfl rfl (by decide +kernel) ⟨Nat.le_of_ble_eq_true rfl, Nat.le_of_ble_eq_true rfl⟩) hK hw Ew_mo rfl rfl hl.1 rfl (by simp [Value.category, va_rf]) dX6_ofRamp_2 ⟨Nat.le_of_ble_eq_true rfl, Nat.le_of_ble_eq_true rfl⟩) hS (fun H locs hw hS => ?_)
    refine f_top (y := 1) (is_ok hj hI.nr2) ?_
    refine lv_if_eq (tgt := 17) hx hb dX6_ofRamp_5 (by decide) (fun c5 => absurd c5 (by decide)) (fun c5 => ?_)
    refine f_iload_n hx hb dX6_ofRamp_8 hl 2 rfl rfl ?_
    refine lv_if_lt (tgt := 17) hx hb dX6_ofRamp_9 (by decide) (fun c9 => ?_) (fun c9 => ?_)
    · refine lv_bipush (v := (-2)) hx hb dX6_ofRamp_17 (by decide) ?_
      exact q_iret hx hb hr hlk hK hw hS dX6_ofRamp_19 (Eq.symm (by rw [sp_ofRamp, hix]; dsimp only [Option.elim]; exact (Eq.trans (if_neg (fun q => absurd (q ▸ c9) (by decide))) (Eq.trans (if_neg (fun q => absurd (q ▸ c9) (by decide))) (if_neg (fun q => absurd (q ▸ c9) (by decide))))))) rfl
    · refine f_iload_n hx hb dX6_ofRamp_12 hl 2 rfl rfl ?_
      refine lv_iconst (v := 2) hx hb dX6_ofRamp_13 (by decide) ?_
      refine lv_icmp_le (tgt := 20) hx hb dX6_ofRamp_14 (by decide) (fun c14 => ?_) (fun c14 => ?_)
      · refine f_iload_n hx hb dX6_ofRamp_20 hl 2 rfl rfl ?_
        refine lv_if_ne (tgt := 33) hx hb dX6_ofRamp_21 (by decide) (fun c21 => ?_) (fun c21 => ?_)
        · refine f_iload_n hx hb dX6_ofRamp_33 hl 2 rfl rfl ?_
          refine lv_iconst (v := 1) hx hb dX6_ofRamp_34 (by decide) ?_
          refine lv_icmp_ne (tgt := 47) hx hb dX6_ofRamp_35 (by decide) (fun c35 => ?_) (fun c35 => ?_)
          · refine f_aload_n hx hb dX6_ofRamp_47 hl 0 rfl rfl ?_
            refine e_get (C := RX6) (T := TX6) (N := 22) hx hb hts i6 hown hK hw Ew_mo rfl 10 (by decide) (hts (.fieldLink RX6 20 "FerryQuayModel" "limit" "[I") (by decide +kernel)) rfl dX6_ofRamp_48 ?_
            refine f_iload_n hx hb dX6_ofRamp_51 hl 1 rfl rfl ?_
            refine e_ialdN hx hb hK hw 0 Ew_m4 rfl rfl (by omega) (by decide) dX6_ofRamp_52 ?_
            exact q_iret hx hb hr hlk hK hw hS dX6_ofRamp_53 (Eq.symm (by rw [sp_ofRamp, hix]; dsimp only [Option.elim]; exact (Eq.trans (if_neg c21) (Eq.trans (if_neg c35) (if_pos (eq_2 c9 c14 c21 c35)))))) rfl
          · refine f_aload_n hx hb dX6_ofRamp_38 hl 0 rfl rfl ?_
            refine e_get (C := RX6) (T := TX6) (N := 22) hx hb hts i6 hown hK hw Ew_mo rfl 11 (by decide) (hts (.fieldLink RX6 23 "FerryQuayModel" "wear" "[I") (by decide +kernel)) rfl dX6_ofRamp_39 ?_
            refine f_iload_n hx hb dX6_ofRamp_42 hl 1 rfl rfl ?_
            refine e_ialdN hx hb hK hw 0 Ew_m5 rfl rfl (by omega) (by decide) dX6_ofRamp_43 ?_
            refine lv_goto (tgt := 53) hx hb dX6_ofRamp_44 (by decide) ?_
            exact q_iret hx hb hr hlk hK hw hS dX6_ofRamp_53 (Eq.symm (by rw [sp_ofRamp, hix]; dsimp only [Option.elim]; exact (Eq.trans (if_neg c21) (if_pos c35)))) rfl
        · refine f_aload_n hx hb dX6_ofRamp_24 hl 0 rfl rfl ?_
          refine e_get (C := RX6) (T := TX6) (N := 22) hx hb hts i6 hown hK hw Ew_mo rfl 12 (by decide) (hts (.fieldLink RX6 26 "FerryQuayModel" "rampTaken" "[I") (by decide +kernel)) rfl dX6_ofRamp_25 ?_
          refine f_iload_n hx hb dX6_ofRamp_28 hl 1 rfl rfl ?_
          refine e_ialdN hx hb hK hw 0 Ew_m6 rfl rfl (by omega) (by decide) dX6_ofRamp_29 ?_
          refine lv_goto (tgt := 53) hx hb dX6_ofRamp_30 (by decide) ?_
          exact q_iret hx hb hr hlk hK hw hS dX6_ofRamp_53 (Eq.symm (by rw [sp_ofRamp, hix]; dsimp only [Option.elim]; exact (if_pos c21))) rfl
      · refine lv_bipush (v := (-2)) hx hb dX6_ofRamp_17 (by decide) ?_
        exact q_iret hx hb hr hlk hK hw hS dX6_ofRamp_19 (Eq.symm (by rw [sp_ofRamp, hix]; dsimp only [Option.elim]; exact (Eq.trans (if_neg (fun q => c14 (by rw [q]; decide))) (Eq.trans (if_neg (fun q => c14 (by rw [q]; decide))) (if_neg (fun q => c14 (by rw [q]; decide))))))) rfl
set_option maxHeartbeats 4000000 in
set_option maxRecDepth 100000 in
theorem c_X6_swap (l : Launch) {G : va_G} {Y : YT} {lo : Nat} {ad : Nat → Nat → Nat} {ng nr nb : Nat} {z u : St} (hI : Inv u ng nr nb) (x y : Int32) : Met l yX6_swap wsX6_swap ({ frames := 1, cells := 0, slots := 0, locals := 21 }) (va_Pc [.ref (ad 0 4), .int x, .int y] (cS G (tysY Y) lo (Ew Y ng nr nb z u ad) ad)) (QI G (tysY Y) lo (sp_swap nb u x y).1 (Ew Y ng nr nb z (sp_swap nb u x y).2 ad) ad) 0 0 (fun q => lo ≤ q) := by
  refine met_of (cc := cX6_swap) (maxL := 6) (ret := (some .int)) (by decide) rfl (Nat.le_of_ble_eq_true rfl) rfl ?_
  intro p e s m below meth c ls hx hb hr hlk hml hts hown hnm hw hK hl hS
  have i6 : ∀ w ∈ wsX60, w ∈ wsX6_swap := by decide +kernel
  have hng := hI.mg
  have hnr := hI.mr
  have hnb := hI.mb
  rcases ix_cases x hI.nb2 with ⟨hix, hbad⟩ | ⟨i, hi, rfl, hix⟩
  · refine f_aload_n hx hb dX6_swap_0 hl 0 rfl rfl ?_
    refine f_iload_n hx hb dX6_swap_1 hl 1 rfl rfl ?_
    refine q_ci (q_runV (C := RX6) (T := TX6) (N := 22) ⟨hx, hb, hml, hown, hts⟩ (c_X6_isBerth l hI x) (cwV 1 hts gX6_swap_X6_isBerth rfl rfl rfl (by decide +kernel) ⟨Nat.le_of_ble_eq_true rfl, Nat.le_of_ble_eq_true rfl⟩) hK hw Ew_mo rfl rfl hl.1 rfl (by simp [Value.category, va_rf]) dX6_swap_2 ⟨Nat.le_of_ble_eq_true rfl, Nat.le_of_ble_eq_true rfl⟩) hS (fun H locs hw hS => ?_)
    refine f_top (y := 0) (is_bad hbad) ?_
    refine lv_if_eq (tgt := 16) hx hb dX6_swap_5 (by decide) (fun c5 => ?_) (fun c5 => absurd (by decide) c5)
    refine lv_bipush (v := (-2)) hx hb dX6_swap_16 (by decide) ?_
    exact q_ism hx hb hr hlk hK hw hS dX6_swap_18 (by rw [sp_swap, hix]; rfl)
  · rcases ix_cases y hI.nb2 with ⟨hiy, hbad2⟩ | ⟨j, hj, rfl, hiy⟩
    · refine f_aload_n hx hb dX6_swap_0 hl 0 rfl rfl ?_
      refine f_iload_n hx hb dX6_swap_1 hl 1 rfl rfl ?_
      refine q_ci (q_runV (C := RX6) (T := TX6) (N := 22) ⟨hx, hb, hml, hown, hts⟩ (c_X6_isBerth l hI (nI i)) (cwV 1 hts gX6_swap_X6_isBerth rfl rfl rfl (by decide +kernel) ⟨Nat.le_of_ble_eq_true rfl, Nat.le_of_ble_eq_true rfl⟩) hK hw Ew_mo rfl rfl hl.1 rfl (by simp [Value.category, va_rf]) dX6_swap_2 ⟨Nat.le_of_ble_eq_true rfl, Nat.le_of_ble_eq_true rfl⟩) hS (fun H locs hw hS => ?_)
      refine f_top (y := 1) (is_ok hi hI.nb2) ?_
      refine lv_if_eq (tgt := 16) hx hb dX6_swap_5 (by decide) (fun c5 => absurd c5 (by decide)) (fun c5 => ?_)
      refine f_aload_n hx hb dX6_swap_8 hl 0 rfl rfl ?_
      refine f_iload_n hx hb dX6_swap_9 hl 2 rfl rfl ?_
      refine q_ci (q_runV (C := RX6) (T := TX6) (N := 22) ⟨hx, hb, hml, hown, hts⟩ (c_X6_isBerth l hI y) (cwV 1 hts gX6_swap_X6_isBerth rfl rfl rfl (by decide +kernel) ⟨Nat.le_of_ble_eq_true rfl, Nat.le_of_ble_eq_true rfl⟩) hK hw Ew_mo rfl rfl hl.1 rfl (by simp [Value.category, va_rf]) dX6_swap_10 ⟨Nat.le_of_ble_eq_true rfl, Nat.le_of_ble_eq_true rfl⟩) hS (fun H locs hw hS => ?_)
      refine f_top (y := 0) (is_bad hbad2) ?_
      refine lv_if_ne (tgt := 19) hx hb dX6_swap_13 (by decide) (fun c13 => absurd (by decide) c13) (fun c13 => ?_)
      refine lv_bipush (v := (-2)) hx hb dX6_swap_16 (by decide) ?_
      exact q_ism hx hb hr hlk hK hw hS dX6_swap_18 (by rw [sp_swap, hix, hiy]; rfl)
    · rcases hI.gate hi with hG | ⟨g, hg, hG, hGt⟩
      · refine f_aload_n hx hb dX6_swap_0 hl 0 rfl rfl ?_
        refine f_iload_n hx hb dX6_swap_1 hl 1 rfl rfl ?_
        refine q_ci (q_runV (C := RX6) (T := TX6) (N := 22) ⟨hx, hb, hml, hown, hts⟩ (c_X6_isBerth l hI (nI i)) (cwV 1 hts gX6_swap_X6_isBerth rfl rfl rfl (by decide +kernel) ⟨Nat.le_of_ble_eq_true rfl, Nat.le_of_ble_eq_true rfl⟩) hK hw Ew_mo rfl rfl hl.1 rfl (by simp [Value.category, va_rf]) dX6_swap_2 ⟨Nat.le_of_ble_eq_true rfl, Nat.le_of_ble_eq_true rfl⟩) hS (fun H locs hw hS => ?_)
        refine f_top (y := 1) (is_ok hi hI.nb2) ?_
        refine lv_if_eq (tgt := 16) hx hb dX6_swap_5 (by decide) (fun c5 => absurd c5 (by decide)) (fun c5 => ?_)
        refine f_aload_n hx hb dX6_swap_8 hl 0 rfl rfl ?_
        refine f_iload_n hx hb dX6_swap_9 hl 2 rfl rfl ?_
        refine q_ci (q_runV (C := RX6) (T := TX6) (N := 22) ⟨hx, hb, hml, hown, hts⟩ (c_X6_isBerth l hI (nI j)) (cwV 1 hts gX6_swap_X6_isBerth rfl rfl rfl (by decide +kernel) ⟨Nat.le_of_ble_eq_true rfl, Nat.le_of_ble_eq_true rfl⟩) hK hw Ew_mo rfl rfl hl.1 rfl (by simp [Value.category, va_rf]) dX6_swap_10 ⟨Nat.le_of_ble_eq_true rfl, Nat.le_of_ble_eq_true rfl⟩) hS (fun H locs hw hS => ?_)
        refine f_top (y := 1) (is_ok hj hI.nb2) ?_
        refine lv_if_ne (tgt := 19) hx hb dX6_swap_13 (by decide) (fun c13 => ?_) (fun c13 => absurd c13 (by decide))
        refine f_aload_n hx hb dX6_swap_19 hl 0 rfl rfl ?_
        refine e_get (C := RX6) (T := TX6) (N := 22) hx hb hts i6 hown hK hw Ew_mo rfl 13 (by decide) (hts (.fieldLink RX6 29 "FerryQuayModel" "gateOf" "[I") (by decide +kernel)) rfl dX6_swap_20 ?_
        refine f_iload_n hx hb dX6_swap_23 hl 1 rfl rfl ?_
        refine e_ialdN hx hb hK hw 0 Ew_m7 rfl rfl (by omega) (by decide) dX6_swap_24 ?_
        refine f_istore_n hx hb dX6_swap_25 hl 3 rfl (by decide) (fun ls hl => ?_)
        refine f_iload_n hx hb dX6_swap_26 hl 3 rfl rfl ?_
        refine lv_iconst (v := (-1)) hx hb dX6_swap_27 (by decide) ?_
        refine lv_icmp_ne (tgt := 34) hx hb dX6_swap_28 (by decide) (fun c28 => absurd hG c28) (fun c28 => ?_)
        refine lv_bipush (v := (-4)) hx hb dX6_swap_31 (by decide) ?_
        exact q_ism hx hb hr hlk hK hw hS dX6_swap_33 (by rw [sp_swap, hix, hiy]; dsimp only [Option.elim]; exact (if_pos hG))
      · rcases hI.gate hj with hE | ⟨h, hh, hE, hEt⟩
        · refine f_aload_n hx hb dX6_swap_0 hl 0 rfl rfl ?_
          refine f_iload_n hx hb dX6_swap_1 hl 1 rfl rfl ?_
          refine q_ci (q_runV (C := RX6) (T := TX6) (N := 22) ⟨hx, hb, hml, hown, hts⟩ (c_X6_isBerth l hI (nI i)) (cwV 1 hts gX6_swap_X6_isBerth rfl rfl rfl (by decide +kernel) ⟨Nat.le_of_ble_eq_true rfl, Nat.le_of_ble_eq_true rfl⟩) hK hw Ew_mo rfl rfl hl.1 rfl (by simp [Value.category, va_rf]) dX6_swap_2 ⟨Nat.le_of_ble_eq_true rfl, Nat.le_of_ble_eq_true rfl⟩) hS (fun H locs hw hS => ?_)
          refine f_top (y := 1) (is_ok hi hI.nb2) ?_
          refine lv_if_eq (tgt := 16) hx hb dX6_swap_5 (by decide) (fun c5 => absurd c5 (by decide)) (fun c5 => ?_)
          refine f_aload_n hx hb dX6_swap_8 hl 0 rfl rfl ?_
          refine f_iload_n hx hb dX6_swap_9 hl 2 rfl rfl ?_
          refine q_ci (q_runV (C := RX6) (T := TX6) (N := 22) ⟨hx, hb, hml, hown, hts⟩ (c_X6_isBerth l hI (nI j)) (cwV 1 hts gX6_swap_X6_isBerth rfl rfl rfl (by decide +kernel) ⟨Nat.le_of_ble_eq_true rfl, Nat.le_of_ble_eq_true rfl⟩) hK hw Ew_mo rfl rfl hl.1 rfl (by simp [Value.category, va_rf]) dX6_swap_10 ⟨Nat.le_of_ble_eq_true rfl, Nat.le_of_ble_eq_true rfl⟩) hS (fun H locs hw hS => ?_)
          refine f_top (y := 1) (is_ok hj hI.nb2) ?_
          refine lv_if_ne (tgt := 19) hx hb dX6_swap_13 (by decide) (fun c13 => ?_) (fun c13 => absurd c13 (by decide))
          refine f_aload_n hx hb dX6_swap_19 hl 0 rfl rfl ?_
          refine e_get (C := RX6) (T := TX6) (N := 22) hx hb hts i6 hown hK hw Ew_mo rfl 13 (by decide) (hts (.fieldLink RX6 29 "FerryQuayModel" "gateOf" "[I") (by decide +kernel)) rfl dX6_swap_20 ?_
          refine f_iload_n hx hb dX6_swap_23 hl 1 rfl rfl ?_
          refine e_ialdN hx hb hK hw 0 Ew_m7 rfl rfl (by omega) (by decide) dX6_swap_24 ?_
          refine f_istore_n hx hb dX6_swap_25 hl 3 rfl (by decide) (fun ls hl => ?_)
          refine f_iload_n hx hb dX6_swap_26 hl 3 rfl rfl ?_
          refine lv_iconst (v := (-1)) hx hb dX6_swap_27 (by decide) ?_
          refine lv_icmp_ne (tgt := 34) hx hb dX6_swap_28 (by decide) (fun c28 => ?_) (fun c28 => absurd c28 (notm1 hG (by omega)))
          refine f_aload_n hx hb dX6_swap_34 hl 0 rfl rfl ?_
          refine e_get (C := RX6) (T := TX6) (N := 22) hx hb hts i6 hown hK hw Ew_mo rfl 8 (by decide) (hts (.fieldLink RX6 13 "FerryQuayModel" "gateTaken" "[I") (by decide +kernel)) rfl dX6_swap_35 ?_
          refine f_iload_n hx hb dX6_swap_38 hl 3 rfl rfl ?_
          refine lv_dup2_11 hx hb dX6_swap_39 rfl rfl ?_
          refine e_ialdN hx hb hK hw 0 Ew_m2 rfl hG (by omega) (by decide) dX6_swap_40 ?_
          refine lv_iconst (v := 1) hx hb dX6_swap_41 (by decide) ?_
          refine lv_iadd hx hb dX6_swap_42 ?_
          refine e_iastN hx hb hK hw hS 0 Ew_m2 rfl hG (by omega) (by decide) dX6_swap_43 (fun H locs hw hS => ?_)
          have hw := hw.cast Ep_m2
          refine f_aload_n hx hb dX6_swap_44 hl 0 rfl rfl ?_
          refine e_get (C := RX6) (T := TX6) (N := 22) hx hb hts i6 hown hK hw Ew_mo rfl 13 (by decide) (hts (.fieldLink RX6 29 "FerryQuayModel" "gateOf" "[I") (by decide +kernel)) rfl dX6_swap_45 ?_
          refine f_iload_n hx hb dX6_swap_48 hl 2 rfl rfl ?_
          refine e_ialdN hx hb hK hw 0 Ew_m7 rfl rfl (by omega) (by decide) dX6_swap_49 ?_
          refine f_istore hx hb dX6_swap_50 hl (by decide) (fun ls hl => ?_)
          refine f_iload hx hb dX6_swap_52 hl rfl ?_
          refine lv_iconst (v := (-1)) hx hb dX6_swap_54 (by decide) ?_
          refine lv_icmp_ne (tgt := 61) hx hb dX6_swap_55 (by decide) (fun c55 => absurd hE c55) (fun c55 => ?_)
          refine lv_bipush (v := (-4)) hx hb dX6_swap_58 (by decide) ?_
          exact q_ism hx hb hr hlk hK hw hS dX6_swap_60 (by rw [sp_swap, hix, hiy]; dsimp only [Option.elim]; rw [hGt]; exact (Eq.trans (if_neg (notm1 hG (by omega))) (if_pos hE)))
        · obtain ⟨f1, hf1, hF1, hFt1⟩ := hI.ferry hi
          obtain ⟨f2, hf2, hF2, hFt2⟩ := hI.ferry hj
          refine f_aload_n hx hb dX6_swap_0 hl 0 rfl rfl ?_
          refine f_iload_n hx hb dX6_swap_1 hl 1 rfl rfl ?_
          refine q_ci (q_runV (C := RX6) (T := TX6) (N := 22) ⟨hx, hb, hml, hown, hts⟩ (c_X6_isBerth l hI (nI i)) (cwV 1 hts gX6_swap_X6_isBerth rfl rfl rfl (by decide +kernel) ⟨Nat.le_of_ble_eq_true rfl, Nat.le_of_ble_eq_true rfl⟩) hK hw Ew_mo rfl rfl hl.1 rfl (by simp [Value.category, va_rf]) dX6_swap_2 ⟨Nat.le_of_ble_eq_true rfl, Nat.le_of_ble_eq_true rfl⟩) hS (fun H locs hw hS => ?_)
          refine f_top (y := 1) (is_ok hi hI.nb2) ?_
          refine lv_if_eq (tgt := 16) hx hb dX6_swap_5 (by decide) (fun c5 => absurd c5 (by decide)) (fun c5 => ?_)
          refine f_aload_n hx hb dX6_swap_8 hl 0 rfl rfl ?_
          refine f_iload_n hx hb dX6_swap_9 hl 2 rfl rfl ?_
          refine q_ci (q_runV (C := RX6) (T := TX6) (N := 22) ⟨hx, hb, hml, hown, hts⟩ (c_X6_isBerth l hI (nI j)) (cwV 1 hts gX6_swap_X6_isBerth rfl rfl rfl (by decide +kernel) ⟨Nat.le_of_ble_eq_true rfl, Nat.le_of_ble_eq_true rfl⟩) hK hw Ew_mo rfl rfl hl.1 rfl (by simp [Value.category, va_rf]) dX6_swap_10 ⟨Nat.le_of_ble_eq_true rfl, Nat.le_of_ble_eq_true rfl⟩) hS (fun H locs hw hS => ?_)
          refine f_top (y := 1) (is_ok hj hI.nb2) ?_
          refine lv_if_ne (tgt := 19) hx hb dX6_swap_13 (by decide) (fun c13 => ?_) (fun c13 => absurd c13 (by decide))
          refine f_aload_n hx hb dX6_swap_19 hl 0 rfl rfl ?_
          refine e_get (C := RX6) (T := TX6) (N := 22) hx hb hts i6 hown hK hw Ew_mo rfl 13 (by decide) (hts (.fieldLink RX6 29 "FerryQuayModel" "gateOf" "[I") (by decide +kernel)) rfl dX6_swap_20 ?_
          refine f_iload_n hx hb dX6_swap_23 hl 1 rfl rfl ?_
          refine e_ialdN hx hb hK hw 0 Ew_m7 rfl rfl (by omega) (by decide) dX6_swap_24 ?_
          refine f_istore_n hx hb dX6_swap_25 hl 3 rfl (by decide) (fun ls hl => ?_)
          refine f_iload_n hx hb dX6_swap_26 hl 3 rfl rfl ?_
          refine lv_iconst (v := (-1)) hx hb dX6_swap_27 (by decide) ?_
          refine lv_icmp_ne (tgt := 34) hx hb dX6_swap_28 (by decide) (fun c28 => ?_) (fun c28 => absurd c28 (notm1 hG (by omega)))
          refine f_aload_n hx hb dX6_swap_34 hl 0 rfl rfl ?_
          refine e_get (C := RX6) (T := TX6) (N := 22) hx hb hts i6 hown hK hw Ew_mo rfl 8 (by decide) (hts (.fieldLink RX6 13 "FerryQuayModel" "gateTaken" "[I") (by decide +kernel)) rfl dX6_swap_35 ?_
          refine f_iload_n hx hb dX6_swap_38 hl 3 rfl rfl ?_
          refine lv_dup2_11 hx hb dX6_swap_39 rfl rfl ?_
          refine e_ialdN hx hb hK hw 0 Ew_m2 rfl hG (by omega) (by decide) dX6_swap_40 ?_
          refine lv_iconst (v := 1) hx hb dX6_swap_41 (by decide) ?_
          refine lv_iadd hx hb dX6_swap_42 ?_
          refine e_iastN hx hb hK hw hS 0 Ew_m2 rfl hG (by omega) (by decide) dX6_swap_43 (fun H locs hw hS => ?_)
          have hw := hw.cast Ep_m2
          refine f_aload_n hx hb dX6_swap_44 hl 0 rfl rfl ?_
          refine e_get (C := RX6) (T := TX6) (N := 22) hx hb hts i6 hown hK hw Ew_mo rfl 13 (by decide) (hts (.fieldLink RX6 29 "FerryQuayModel" "gateOf" "[I") (by decide +kernel)) rfl dX6_swap_45 ?_
          refine f_iload_n hx hb dX6_swap_48 hl 2 rfl rfl ?_
          refine e_ialdN hx hb hK hw 0 Ew_m7 rfl rfl (by omega) (by decide) dX6_swap_49 ?_
          refine f_istore hx hb dX6_swap_50 hl (by decide) (fun ls hl => ?_)
          refine f_iload hx hb dX6_swap_52 hl rfl ?_
          refine lv_iconst (v := (-1)) hx hb dX6_swap_54 (by decide) ?_
          refine lv_icmp_ne (tgt := 61) hx hb dX6_swap_55 (by decide) (fun c55 => ?_) (fun c55 => absurd c55 (notm1 hE (by omega)))
          refine f_aload_n hx hb dX6_swap_61 hl 0 rfl rfl ?_
          refine e_get (C := RX6) (T := TX6) (N := 22) hx hb hts i6 hown hK hw Ew_mo rfl 8 (by decide) (hts (.fieldLink RX6 13 "FerryQuayModel" "gateTaken" "[I") (by decide +kernel)) rfl dX6_swap_62 ?_
          refine f_iload hx hb dX6_swap_65 hl rfl ?_
          refine lv_dup2_11 hx hb dX6_swap_67 rfl rfl ?_
          refine e_ialdN hx hb hK hw 0 Ew_m2 rfl hE (by omega) (by decide) dX6_swap_68 ?_
          refine lv_iconst (v := 1) hx hb dX6_swap_69 (by decide) ?_
          refine lv_iadd hx hb dX6_swap_70 ?_
          refine e_iastN hx hb hK hw hS 0 Ew_m2 rfl hE (by omega) (by decide) dX6_swap_71 (fun H locs hw hS => ?_)
          have hw := hw.cast Ep_m2
          refine f_aload_n hx hb dX6_swap_72 hl 0 rfl rfl ?_
          refine e_get (C := RX6) (T := TX6) (N := 22) hx hb hts i6 hown hK hw Ew_mo rfl 7 (by decide) (hts (.fieldLink RX6 7 "FerryQuayModel" "isShut" "[Z") (by decide +kernel)) rfl dX6_swap_73 ?_
          refine f_iload_n hx hb dX6_swap_76 hl 3 rfl rfl ?_
          refine e_zaldN hx hb hK hw 1 Ew_m1 rfl hG (by omega) (by decide) dX6_swap_77 ?_
          refine lv_if_ne (tgt := 91) hx hb dX6_swap_78 (by decide) (fun c78 => ?_) (fun c78 => ?_)
          · refine lv_bipush (v := (-5)) hx hb dX6_swap_91 (by decide) ?_
            exact q_ism hx hb hr hlk hK hw hS dX6_swap_93 (by rw [sp_swap, hix, hiy]; dsimp only [Option.elim]; rw [hGt, hEt]; exact (Eq.trans (if_neg (notm1 hG (by omega))) (Eq.trans (if_neg (notm1 hE (by omega))) (if_neg c78))))
          · refine f_aload_n hx hb dX6_swap_81 hl 0 rfl rfl ?_
            refine e_get (C := RX6) (T := TX6) (N := 22) hx hb hts i6 hown hK hw Ew_mo rfl 7 (by decide) (hts (.fieldLink RX6 7 "FerryQuayModel" "isShut" "[Z") (by decide +kernel)) rfl dX6_swap_82 ?_
            refine f_iload hx hb dX6_swap_85 hl rfl ?_
            refine e_zaldN hx hb hK hw 1 Ew_m1 rfl hE (by omega) (by decide) dX6_swap_87 ?_
            refine lv_if_eq (tgt := 94) hx hb dX6_swap_88 (by decide) (fun c88 => ?_) (fun c88 => ?_)
            · refine f_aload_n hx hb dX6_swap_94 hl 0 rfl rfl ?_
              refine e_get (C := RX6) (T := TX6) (N := 22) hx hb hts i6 hown hK hw Ew_mo rfl 15 (by decide) (hts (.fieldLink RX6 35 "FerryQuayModel" "ferryOf" "[I") (by decide +kernel)) rfl dX6_swap_95 ?_
              refine f_iload_n hx hb dX6_swap_98 hl 1 rfl rfl ?_
              refine e_ialdN hx hb hK hw 0 Ew_m9 rfl rfl (by omega) (by decide) dX6_swap_99 ?_
              refine f_istore hx hb dX6_swap_100 hl (by decide) (fun ls hl => ?_)
              refine f_aload_n hx hb dX6_swap_102 hl 0 rfl rfl ?_
              refine e_get (C := RX6) (T := TX6) (N := 22) hx hb hts i6 hown hK hw Ew_mo rfl 15 (by decide) (hts (.fieldLink RX6 35 "FerryQuayModel" "ferryOf" "[I") (by decide +kernel)) rfl dX6_swap_103 ?_
              refine f_iload_n hx hb dX6_swap_106 hl 1 rfl rfl ?_
              refine f_aload_n hx hb dX6_swap_107 hl 0 rfl rfl ?_
              refine e_get (C := RX6) (T := TX6) (N := 22) hx hb hts i6 hown hK hw Ew_mo rfl 15 (by decide) (hts (.fieldLink RX6 35 "FerryQuayModel" "ferryOf" "[I") (by decide +kernel)) rfl dX6_swap_108 ?_
              refine f_iload_n hx hb dX6_swap_111 hl 2 rfl rfl ?_
              refine e_ialdN hx hb hK hw 0 Ew_m9 rfl rfl (by omega) (by decide) dX6_swap_112 ?_
              refine e_iastN hx hb hK hw hS 0 Ew_m9 rfl rfl (by omega) (by decide) dX6_swap_113 (fun H locs hw hS => ?_)
              have hw := hw.cast Ep_m9
              refine f_aload_n hx hb dX6_swap_114 hl 0 rfl rfl ?_
              refine e_get (C := RX6) (T := TX6) (N := 22) hx hb hts i6 hown hK hw Ew_mo rfl 15 (by decide) (hts (.fieldLink RX6 35 "FerryQuayModel" "ferryOf" "[I") (by decide +kernel)) rfl dX6_swap_115 ?_
              refine f_iload_n hx hb dX6_swap_118 hl 2 rfl rfl ?_
              refine f_iload hx hb dX6_swap_119 hl rfl ?_
              refine e_iastN hx hb hK hw hS 0 Ew_m9 rfl rfl (by omega) (by decide) dX6_swap_121 (fun H locs hw hS => ?_)
              have hw := hw.cast Ep_m9
              refine f_aload_n hx hb dX6_swap_122 hl 0 rfl rfl ?_
              refine e_get (C := RX6) (T := TX6) (N := 22) hx hb hts i6 hown hK hw Ew_mo rfl 19 (by decide) (hts (.fieldLink RX6 47 "FerryQuayModel" "load" "[I") (by decide +kernel)) rfl dX6_swap_123 ?_
              refine f_aload_n hx hb dX6_swap_126 hl 0 rfl rfl ?_
              refine e_get (C := RX6) (T := TX6) (N := 22) hx hb hts i6 hown hK hw Ew_mo rfl 15 (by decide) (hts (.fieldLink RX6 35 "FerryQuayModel" "ferryOf" "[I") (by decide +kernel)) rfl dX6_swap_127 ?_
              refine f_iload_n hx hb dX6_swap_130 hl 1 rfl rfl ?_
              refine e_ialdN hx hb hK hw 0 Ew_m9 rfl rfl (by omega) (by decide) dX6_swap_131 ?_
              refine e_ialdN hx hb hK hw 0 Ew_m13 rfl (swp_at.trans hF2) (by omega) (by decide) dX6_swap_132 ?_
              exact q_ism hx hb hr hlk hK hw hS dX6_swap_133 (by rw [sp_swap, hix, hiy]; dsimp only [Option.elim]; rw [hGt, hEt]; exact (Eq.trans (if_neg (notm1 hG (by omega))) (Eq.trans (if_neg (notm1 hE (by omega))) (Eq.trans (if_pos c78) (Eq.trans (if_pos c88) (by rw [hFt2]; rfl))))))
            · refine lv_bipush (v := (-5)) hx hb dX6_swap_91 (by decide) ?_
              exact q_ism hx hb hr hlk hK hw hS dX6_swap_93 (by rw [sp_swap, hix, hiy]; dsimp only [Option.elim]; rw [hGt, hEt]; exact (Eq.trans (if_neg (notm1 hG (by omega))) (Eq.trans (if_neg (notm1 hE (by omega))) (Eq.trans (if_pos c78) (if_neg c88)))))
end
section
set_option maxHeartbeats 4000000 in
set_option maxRecDepth 100000 in
theorem c_X6_goes (l : Launch) {G : va_G} {Y : YT} {lo : Nat} {ad : Nat → Nat → Nat} {ng nr nb : Nat} {z u : St} (hI : Inv u ng nr nb) {j : Nat} (hj : j < nb) (h0 : 0 < ln u j) : Met l yX6_goes wsX6_goes ({ frames := 0, cells := 0, slots := 0, locals := 0 }) (va_Pc [.ref (ad 0 4), .int (nI j)] (cS G (tysY Y) lo (Ew Y ng nr nb z u ad) ad)) (QI G (tysY Y) lo (u 11 j 0) (Ew Y ng nr nb z (goes u j) ad) ad) 0 0 (fun q => lo ≤ q) := by
  refine met_of (cc := cX6_goes) (maxL := 4) (ret := (some .int)) (by decide) rfl (Nat.le_of_ble_eq_true rfl) rfl ?_
  intro p e s m below meth c ls hx hb hr hlk hml hts hown hnm hw hK hl hS
  have i6 : ∀ w ∈ wsX60, w ∈ wsX6_goes := by decide +kernel
  have hng := hI.mg
  have hnr := hI.mr
  have hnb := hI.mb
  obtain ⟨hL, hLn⟩ := hI.lane hj
  refine f_aload_n hx hb dX6_goes_0 hl 0 rfl rfl ?_
  refine e_get (C := RX6) (T := TX6) (N := 22) hx hb hts i6 hown hK hw Ew_mo rfl 17 (by decide) (hts (.fieldLink RX6 41 "FerryQuayModel" "lane" "[I") (by decide +kernel)) rfl dX6_goes_1 ?_
  refine lv_bipush (v := 30) hx hb dX6_goes_4 (by decide) ?_
  refine f_iload_n hx hb dX6_goes_6 hl 1 rfl rfl ?_
  refine lv_imul hx hb dX6_goes_7 ?_
  refine f_top (idx_mul (k := 30) rfl j) ?_
  refine e_ialdN hx hb hK hw 0 Ew_m11 rfl rfl (by omega) (by decide) dX6_goes_8 ?_
  refine f_top (y := u 11 j 0) fl30z ?_
  refine f_istore_n hx hb dX6_goes_9 hl 2 rfl (by decide) (fun ls hl => ?_)
  refine f_aload_n hx hb dX6_goes_10 hl 0 rfl rfl ?_
  refine e_get (C := RX6) (T := TX6) (N := 22) hx hb hts i6 hown hK hw Ew_mo rfl 16 (by decide) (hts (.fieldLink RX6 38 "FerryQuayModel" "waits" "[I") (by decide +kernel)) rfl dX6_goes_11 ?_
  refine f_iload_n hx hb dX6_goes_14 hl 1 rfl rfl ?_
  refine lv_dup2_11 hx hb dX6_goes_15 rfl rfl ?_
  refine e_ialdN hx hb hK hw 0 Ew_m10 rfl rfl (by omega) (by decide) dX6_goes_16 ?_
  refine lv_iconst (v := 1) hx hb dX6_goes_17 (by decide) ?_
  refine lv_isub hx hb dX6_goes_18 ?_
  refine f_top ((congrArg (fun q => q - 1) hLn).trans (nI_s1 h0)) ?_
  refine e_iastN hx hb hK hw hS 0 Ew_m10 rfl rfl (by omega) (by decide) dX6_goes_19 (fun H locs hw hS => ?_)
  have hw := hw.cast Ep_m10
  refine lv_iconst (v := 0) hx hb dX6_goes_20 (by decide) ?_
  refine f_top (y := nI 0) rfl ?_
  refine f_istore_n hx hb dX6_goes_21 hl 3 rfl (by decide) (fun ls hl => ?_)
  have loop : ∀ (t : Nat) (k : Nat) (zc : St) (H : Heap) (locs : List Loc) (ls : Array Slot), k + t = ln u j - 1 → zc = u2 (us u 10 j (nI (ln u j - 1))) 11 j (va_cpy (u 11 j) (u 11 j) 1 0 k) → wo G lo (Ew Y ng nr nb z zc ad) ad H → va_S (fun q => lo ≤ q) s.heap H locs → lh ls 4 (fun i9 => ([(0, .ref (ad 0 4)), (1, .int (nI j)), (2, .int (u 11 j 0)), (3, .int (nI k))].find? (fun q => q.1 == i9)).map (fun q => q.2)) → W p l e (headSpec wsX6_goes ({ frames := 0, cells := 0, slots := 0, locals := 0 })).room s m ([.ref (ad 0 4), .int (nI j)] : List Value).toArray below meth c H locs 0 0 (MQ below (QI G (tysY Y) lo (u 11 j 0) (Ew Y ng nr nb z (goes u j) ad) ad) ([.ref (ad 0 4), .int (nI j)] : List Value).toArray s 0 0 (fun q => lo ≤ q)) (F0 m 22 ls []) := by
    intro t
    induction t with
    | zero =>
      intro k zc H locs ls hkt hz hw hS hl
      subst hz
      refine f_iload_n hx hb dX6_goes_22 hl 3 rfl rfl ?_
      refine f_aload_n hx hb dX6_goes_23 hl 0 rfl rfl ?_
      refine e_get (C := RX6) (T := TX6) (N := 22) hx hb hts i6 hown hK hw Ew_mo rfl 16 (by decide) (hts (.fieldLink RX6 38 "FerryQuayModel" "waits" "[I") (by decide +kernel)) rfl dX6_goes_24 ?_
      refine f_iload_n hx hb dX6_goes_27 hl 1 rfl rfl ?_
      refine e_ialdN hx hb hK hw 0 Ew_m10 rfl rfl (by omega) (by decide) dX6_goes_28 ?_
      refine f_top (y := nI (ln u j - 1)) (sc_s (s := u) (k := 10) (i := j) (v := nI (ln u j - 1))) ?_
      refine lv_icmp_ge (tgt := 62) hx hb dX6_goes_29 (by decide) (fun c29 => ?_) (fun c29 => absurd (nI_le (by omega) (by omega)) c29)
      refine f_iload_n hx hb dX6_goes_62 hl 2 rfl rfl ?_
      exact q_iret hx hb hr hlk hK hw hS dX6_goes_63 rfl (by rw [show k = ln u j - 1 by omega])
    | succ t ih =>
      intro k zc H locs ls hkt hz hw hS hl
      subst hz
      refine f_iload_n hx hb dX6_goes_22 hl 3 rfl rfl ?_
      refine f_aload_n hx hb dX6_goes_23 hl 0 rfl rfl ?_
      refine e_get (C := RX6) (T := TX6) (N := 22) hx hb hts i6 hown hK hw Ew_mo rfl 16 (by decide) (hts (.fieldLink RX6 38 "FerryQuayModel" "waits" "[I") (by decide +kernel)) rfl dX6_goes_24 ?_
      refine f_iload_n hx hb dX6_goes_27 hl 1 rfl rfl ?_
      refine e_ialdN hx hb hK hw 0 Ew_m10 rfl rfl (by omega) (by decide) dX6_goes_28 ?_
      refine f_top (y := nI (ln u j - 1)) (sc_s (s := u) (k := 10) (i := j) (v := nI (ln u j - 1))) ?_
      refine lv_icmp_ge (tgt := 62) hx hb dX6_goes_29 (by decide) (fun c29 => absurd c29 (nI_ge (by omega) (by omega))) (fun c29 => ?_)
      refine f_aload_n hx hb dX6_goes_32 hl 0 rfl rfl ?_
      refine e_get (C := RX6) (T := TX6) (N := 22) hx hb hts i6 hown hK hw Ew_mo rfl 17 (by decide) (hts (.fieldLink RX6 41 "FerryQuayModel" "lane" "[I") (by decide +kernel)) rfl dX6_goes_33 ?_
      refine lv_bipush (v := 30) hx hb dX6_goes_36 (by decide) ?_
      refine f_iload_n hx hb dX6_goes_38 hl 1 rfl rfl ?_
      refine lv_imul hx hb dX6_goes_39 ?_
      refine f_iload_n hx hb dX6_goes_40 hl 3 rfl rfl ?_
      refine lv_iadd hx hb dX6_goes_41 ?_
      refine f_top (idx_add (k := 30) rfl rfl) ?_
      refine f_aload_n hx hb dX6_goes_42 hl 0 rfl rfl ?_
      refine e_get (C := RX6) (T := TX6) (N := 22) hx hb hts i6 hown hK hw Ew_mo rfl 17 (by decide) (hts (.fieldLink RX6 41 "FerryQuayModel" "lane" "[I") (by decide +kernel)) rfl dX6_goes_43 ?_
      refine lv_bipush (v := 30) hx hb dX6_goes_46 (by decide) ?_
      refine f_iload_n hx hb dX6_goes_48 hl 1 rfl rfl ?_
      refine lv_imul hx hb dX6_goes_49 ?_
      refine f_iload_n hx hb dX6_goes_50 hl 3 rfl rfl ?_
      refine lv_iadd hx hb dX6_goes_51 ?_
      refine lv_iconst (v := 1) hx hb dX6_goes_52 (by decide) ?_
      refine lv_iadd hx hb dX6_goes_53 ?_
      refine f_top (y := nI (30 * j + (k + 1))) (by rw [idx_add (m := 30) (k := 30) rfl rfl, nI_1]; rfl) ?_
      refine e_ialdN hx hb hK hw 0 Ew_m11 rfl rfl (by omega) (by decide) dX6_goes_54 ?_
      refine f_top (y := u 11 j (k + 1)) ((fl30 (by omega)).trans ((congrFun (u2_self (f := us u 10 j (nI (ln u j - 1))) (k := 11) (i := j)) (k + 1)).trans (cpy_at (by omega)))) ?_
      refine e_iastN hx hb hK hw hS 0 Ew_m11 rfl rfl (by omega) (by decide) dX6_goes_55 (fun H locs hw hS => ?_)
      have hw := hw.cast (Ep_m11 (b := j) (j := k) (by omega))
      refine f_iinc (d := 1) hx hb dX6_goes_56 hl rfl (by decide) (by decide) (fun ls hl => ?_)
      rw [nI_1] at hl
      refine lv_goto (tgt := 22) hx hb dX6_goes_59 (by decide) ?_
      exact ih (k + 1) _ _ _ _ (by omega) (by rw [u2_self, u2_uu, cpy_step]) hw hS (hl.list [(0, .ref (ad 0 4)), (1, .int (nI j)), (2, .int (u 11 j 0)), (3, .int (nI (k + 1)))] (List.forall_mem_cons.mpr ⟨rfl, List.forall_mem_cons.mpr ⟨rfl, List.forall_mem_cons.mpr ⟨rfl, List.forall_mem_cons.mpr ⟨rfl, fun _ h => absurd h List.not_mem_nil⟩⟩⟩⟩))
  exact loop (ln u j - 1) 0 _ _ _ _ (by omega) (by rw [cpy0]; exact (u2_same (f := us u 10 j (nI (ln u j - 1))) (k := 11) (i := j)).symm) hw hS (hl.list [(0, .ref (ad 0 4)), (1, .int (nI j)), (2, .int (u 11 j 0)), (3, .int (nI 0))] (List.forall_mem_cons.mpr ⟨rfl, List.forall_mem_cons.mpr ⟨rfl, List.forall_mem_cons.mpr ⟨rfl, List.forall_mem_cons.mpr ⟨rfl, fun _ h => absurd h List.not_mem_nil⟩⟩⟩⟩))
set_option maxHeartbeats 4000000 in
set_option maxRecDepth 100000 in
theorem c_X6_board (l : Launch) {G : va_G} {Y : YT} {lo : Nat} {ad : Nat → Nat → Nat} {ng nr nb : Nat} {z u : St} (hI : Inv u ng nr nb) (x n : Int32) : Met l yX6_board wsX6_board ({ frames := 1, cells := 0, slots := 0, locals := 23 }) (va_Pc [.ref (ad 0 4), .int x, .int n] (cS G (tysY Y) lo (Ew Y ng nr nb z u ad) ad)) (QI G (tysY Y) lo (sp_board nb u x n).1 (Ew Y ng nr nb z (sp_board nb u x n).2 ad) ad) 0 0 (fun q => lo ≤ q) := by
  refine met_of (cc := cX6_board) (maxL := 10) (ret := (some .int)) (by decide) rfl (Nat.le_of_ble_eq_true rfl) rfl ?_
  intro p e s m below meth c ls hx hb hr hlk hml hts hown hnm hw hK hl hS
  have i6 : ∀ w ∈ wsX60, w ∈ wsX6_board := by decide +kernel
  have hng := hI.mg
  have hnr := hI.mr
  have hnb := hI.mb
  rcases ix_cases x hI.nb2 with ⟨hix, hbad⟩ | ⟨j, hj, rfl, hix⟩
  · refine f_aload_n hx hb dX6_board_0 hl 0 rfl rfl ?_
    refine f_iload_n hx hb dX6_board_1 hl 1 rfl rfl ?_
    refine q_ci (q_runV (C := RX6) (T := TX6) (N := 22) ⟨hx, hb, hml, hown, hts⟩ (c_X6_isBerth l hI x) (cwV 1 hts gX6_board_X6_isBerth rfl rfl rfl (by decide +kernel) ⟨Nat.le_of_ble_eq_true rfl, Nat.le_of_ble_eq_true rfl⟩) hK hw Ew_mo rfl rfl hl.1 rfl (by simp [Value.category, va_rf]) dX6_board_2 ⟨Nat.le_of_ble_eq_true rfl, Nat.le_of_ble_eq_true rfl⟩) hS (fun H locs hw hS => ?_)
    refine f_top (y := 0) (is_bad hbad) ?_
    refine lv_if_eq (tgt := 19) hx hb dX6_board_5 (by decide) (fun c5 => ?_) (fun c5 => absurd (by decide) c5)
    refine lv_bipush (v := (-2)) hx hb dX6_board_19 (by decide) ?_
    exact q_ism hx hb hr hlk hK hw hS dX6_board_21 (by rw [sp_board, hix]; exact rfl)
  · by_cases h1 : n < 1
    · refine f_aload_n hx hb dX6_board_0 hl 0 rfl rfl ?_
      refine f_iload_n hx hb dX6_board_1 hl 1 rfl rfl ?_
      refine q_ci (q_runV (C := RX6) (T := TX6) (N := 22) ⟨hx, hb, hml, hown, hts⟩ (c_X6_isBerth l hI (nI j)) (cwV 1 hts gX6_board_X6_isBerth rfl rfl rfl (by decide +kernel) ⟨Nat.le_of_ble_eq_true rfl, Nat.le_of_ble_eq_true rfl⟩) hK hw Ew_mo rfl rfl hl.1 rfl (by simp [Value.category, va_rf]) dX6_board_2 ⟨Nat.le_of_ble_eq_true rfl, Nat.le_of_ble_eq_true rfl⟩) hS (fun H locs hw hS => ?_)
      refine f_top (y := 1) (is_ok hj hI.nb2) ?_
      refine lv_if_eq (tgt := 19) hx hb dX6_board_5 (by decide) (fun c5 => absurd c5 (by decide)) (fun c5 => ?_)
      refine f_iload_n hx hb dX6_board_8 hl 2 rfl rfl ?_
      refine lv_iconst (v := 1) hx hb dX6_board_9 (by decide) ?_
      refine lv_icmp_lt (tgt := 19) hx hb dX6_board_10 (by decide) (fun c10 => ?_) (fun c10 => absurd h1 c10)
      refine lv_bipush (v := (-2)) hx hb dX6_board_19 (by decide) ?_
      exact q_ism hx hb hr hlk hK hw hS dX6_board_21 (by rw [sp_board, hix]; dsimp only [Option.elim]; exact (if_pos h1))
    · by_cases h2 : 30 < n
      · refine f_aload_n hx hb dX6_board_0 hl 0 rfl rfl ?_
        refine f_iload_n hx hb dX6_board_1 hl 1 rfl rfl ?_
        refine q_ci (q_runV (C := RX6) (T := TX6) (N := 22) ⟨hx, hb, hml, hown, hts⟩ (c_X6_isBerth l hI (nI j)) (cwV 1 hts gX6_board_X6_isBerth rfl rfl rfl (by decide +kernel) ⟨Nat.le_of_ble_eq_true rfl, Nat.le_of_ble_eq_true rfl⟩) hK hw Ew_mo rfl rfl hl.1 rfl (by simp [Value.category, va_rf]) dX6_board_2 ⟨Nat.le_of_ble_eq_true rfl, Nat.le_of_ble_eq_true rfl⟩) hS (fun H locs hw hS => ?_)
        refine f_top (y := 1) (is_ok hj hI.nb2) ?_
        refine lv_if_eq (tgt := 19) hx hb dX6_board_5 (by decide) (fun c5 => absurd c5 (by decide)) (fun c5 => ?_)
        refine f_iload_n hx hb dX6_board_8 hl 2 rfl rfl ?_
        refine lv_iconst (v := 1) hx hb dX6_board_9 (by decide) ?_
        refine lv_icmp_lt (tgt := 19) hx hb dX6_board_10 (by decide) (fun c10 => absurd c10 h1) (fun c10 => ?_)
        refine f_iload_n hx hb dX6_board_13 hl 2 rfl rfl ?_
        refine lv_bipush (v := 30) hx hb dX6_board_14 (by decide) ?_
        refine lv_icmp_le (tgt := 22) hx hb dX6_board_16 (by decide) (fun c16 => absurd c16 (Int32.not_le.mpr h2)) (fun c16 => ?_)
        refine lv_bipush (v := (-2)) hx hb dX6_board_19 (by decide) ?_
        exact q_ism hx hb hr hlk hK hw hS dX6_board_21 (by rw [sp_board, hix]; dsimp only [Option.elim]; exact (Eq.trans (if_neg h1) (if_pos h2)))
      · obtain ⟨hL, hLn⟩ := hI.lane hj
        obtain ⟨f, hf, hF, hFt⟩ := hI.ferry hj
        rcases hI.gate hj with hG | ⟨g, hg, hG, hGt⟩
        · refine f_aload_n hx hb dX6_board_0 hl 0 rfl rfl ?_
          refine f_iload_n hx hb dX6_board_1 hl 1 rfl rfl ?_
          refine q_ci (q_runV (C := RX6) (T := TX6) (N := 22) ⟨hx, hb, hml, hown, hts⟩ (c_X6_isBerth l hI (nI j)) (cwV 1 hts gX6_board_X6_isBerth rfl rfl rfl (by decide +kernel) ⟨Nat.le_of_ble_eq_true rfl, Nat.le_of_ble_eq_true rfl⟩) hK hw Ew_mo rfl rfl hl.1 rfl (by simp [Value.category, va_rf]) dX6_board_2 ⟨Nat.le_of_ble_eq_true rfl, Nat.le_of_ble_eq_true rfl⟩) hS (fun H locs hw hS => ?_)
          refine f_top (y := 1) (is_ok hj hI.nb2) ?_
          refine lv_if_eq (tgt := 19) hx hb dX6_board_5 (by decide) (fun c5 => absurd c5 (by decide)) (fun c5 => ?_)
          refine f_iload_n hx hb dX6_board_8 hl 2 rfl rfl ?_
          refine lv_iconst (v := 1) hx hb dX6_board_9 (by decide) ?_
          refine lv_icmp_lt (tgt := 19) hx hb dX6_board_10 (by decide) (fun c10 => absurd c10 h1) (fun c10 => ?_)
          refine f_iload_n hx hb dX6_board_13 hl 2 rfl rfl ?_
          refine lv_bipush (v := 30) hx hb dX6_board_14 (by decide) ?_
          refine lv_icmp_le (tgt := 22) hx hb dX6_board_16 (by decide) (fun c16 => ?_) (fun c16 => absurd (Int32.not_lt.mp h2) c16)
          refine f_aload_n hx hb dX6_board_22 hl 0 rfl rfl ?_
          refine e_get (C := RX6) (T := TX6) (N := 22) hx hb hts i6 hown hK hw Ew_mo rfl 13 (by decide) (hts (.fieldLink RX6 29 "FerryQuayModel" "gateOf" "[I") (by decide +kernel)) rfl dX6_board_23 ?_
          refine f_iload_n hx hb dX6_board_26 hl 1 rfl rfl ?_
          refine e_ialdN hx hb hK hw 0 Ew_m7 rfl rfl (by omega) (by decide) dX6_board_27 ?_
          refine f_istore_n hx hb dX6_board_28 hl 3 rfl (by decide) (fun ls hl => ?_)
          refine f_iload_n hx hb dX6_board_29 hl 3 rfl rfl ?_
          refine lv_iconst (v := (-1)) hx hb dX6_board_30 (by decide) ?_
          refine lv_icmp_ne (tgt := 37) hx hb dX6_board_31 (by decide) (fun c31 => absurd hG c31) (fun c31 => ?_)
          refine lv_bipush (v := (-4)) hx hb dX6_board_34 (by decide) ?_
          exact q_ism hx hb hr hlk hK hw hS dX6_board_36 (by rw [sp_board, hix]; dsimp only [Option.elim]; exact (Eq.trans (if_neg h1) (Eq.trans (if_neg h2) (if_pos hG))))
        · refine f_aload_n hx hb dX6_board_0 hl 0 rfl rfl ?_
          refine f_iload_n hx hb dX6_board_1 hl 1 rfl rfl ?_
          refine q_ci (q_runV (C := RX6) (T := TX6) (N := 22) ⟨hx, hb, hml, hown, hts⟩ (c_X6_isBerth l hI (nI j)) (cwV 1 hts gX6_board_X6_isBerth rfl rfl rfl (by decide +kernel) ⟨Nat.le_of_ble_eq_true rfl, Nat.le_of_ble_eq_true rfl⟩) hK hw Ew_mo rfl rfl hl.1 rfl (by simp [Value.category, va_rf]) dX6_board_2 ⟨Nat.le_of_ble_eq_true rfl, Nat.le_of_ble_eq_true rfl⟩) hS (fun H locs hw hS => ?_)
          refine f_top (y := 1) (is_ok hj hI.nb2) ?_
          refine lv_if_eq (tgt := 19) hx hb dX6_board_5 (by decide) (fun c5 => absurd c5 (by decide)) (fun c5 => ?_)
          refine f_iload_n hx hb dX6_board_8 hl 2 rfl rfl ?_
          refine lv_iconst (v := 1) hx hb dX6_board_9 (by decide) ?_
          refine lv_icmp_lt (tgt := 19) hx hb dX6_board_10 (by decide) (fun c10 => absurd c10 h1) (fun c10 => ?_)
          refine f_iload_n hx hb dX6_board_13 hl 2 rfl rfl ?_
          refine lv_bipush (v := 30) hx hb dX6_board_14 (by decide) ?_
          refine lv_icmp_le (tgt := 22) hx hb dX6_board_16 (by decide) (fun c16 => ?_) (fun c16 => absurd (Int32.not_lt.mp h2) c16)
          refine f_aload_n hx hb dX6_board_22 hl 0 rfl rfl ?_
          refine e_get (C := RX6) (T := TX6) (N := 22) hx hb hts i6 hown hK hw Ew_mo rfl 13 (by decide) (hts (.fieldLink RX6 29 "FerryQuayModel" "gateOf" "[I") (by decide +kernel)) rfl dX6_board_23 ?_
          refine f_iload_n hx hb dX6_board_26 hl 1 rfl rfl ?_
          refine e_ialdN hx hb hK hw 0 Ew_m7 rfl rfl (by omega) (by decide) dX6_board_27 ?_
          refine f_top (y := nI g) hG ?_
          refine f_istore_n hx hb dX6_board_28 hl 3 rfl (by decide) (fun ls hl => ?_)
          refine f_iload_n hx hb dX6_board_29 hl 3 rfl rfl ?_
          refine lv_iconst (v := (-1)) hx hb dX6_board_30 (by decide) ?_
          refine lv_icmp_ne (tgt := 37) hx hb dX6_board_31 (by decide) (fun c31 => ?_) (fun c31 => absurd c31 (nI_m1 (by omega)))
          refine f_aload_n hx hb dX6_board_37 hl 0 rfl rfl ?_
          refine e_get (C := RX6) (T := TX6) (N := 22) hx hb hts i6 hown hK hw Ew_mo rfl 8 (by decide) (hts (.fieldLink RX6 13 "FerryQuayModel" "gateTaken" "[I") (by decide +kernel)) rfl dX6_board_38 ?_
          refine f_iload_n hx hb dX6_board_41 hl 3 rfl rfl ?_
          refine lv_dup2_11 hx hb dX6_board_42 rfl rfl ?_
          refine e_ialdN hx hb hK hw 0 Ew_m2 rfl rfl (by omega) (by decide) dX6_board_43 ?_
          refine lv_iconst (v := 1) hx hb dX6_board_44 (by decide) ?_
          refine lv_iadd hx hb dX6_board_45 ?_
          refine e_iastN hx hb hK hw hS 0 Ew_m2 rfl rfl (by omega) (by decide) dX6_board_46 (fun H locs hw hS => ?_)
          have hw := hw.cast Ep_m2
          refine f_aload_n hx hb dX6_board_47 hl 0 rfl rfl ?_
          refine e_get (C := RX6) (T := TX6) (N := 22) hx hb hts i6 hown hK hw Ew_mo rfl 7 (by decide) (hts (.fieldLink RX6 7 "FerryQuayModel" "isShut" "[Z") (by decide +kernel)) rfl dX6_board_48 ?_
          refine f_iload_n hx hb dX6_board_51 hl 3 rfl rfl ?_
          refine e_zaldN hx hb hK hw 1 Ew_m1 rfl rfl (by omega) (by decide) dX6_board_52 ?_
          refine lv_if_eq (tgt := 59) hx hb dX6_board_53 (by decide) (fun c53 => ?_) (fun c53 => ?_)
          · refine f_aload_n hx hb dX6_board_59 hl 0 rfl rfl ?_
            refine e_get (C := RX6) (T := TX6) (N := 22) hx hb hts i6 hown hK hw Ew_mo rfl 15 (by decide) (hts (.fieldLink RX6 35 "FerryQuayModel" "ferryOf" "[I") (by decide +kernel)) rfl dX6_board_60 ?_
            refine f_iload_n hx hb dX6_board_63 hl 1 rfl rfl ?_
            refine e_ialdN hx hb hK hw 0 Ew_m9 rfl rfl (by omega) (by decide) dX6_board_64 ?_
            refine f_top (y := nI f) hF ?_
            refine f_istore hx hb dX6_board_65 hl (by decide) (fun ls hl => ?_)
            rcases hI.ramp hj with hR | ⟨r, hr2, hR, hRt⟩
            · refine lv_iconst (v := 0) hx hb dX6_board_67 (by decide) ?_
              refine f_istore hx hb dX6_board_68 hl (by decide) (fun ls hl => ?_)
              refine f_aload_n hx hb dX6_board_70 hl 0 rfl rfl ?_
              refine e_get (C := RX6) (T := TX6) (N := 22) hx hb hts i6 hown hK hw Ew_mo rfl 16 (by decide) (hts (.fieldLink RX6 38 "FerryQuayModel" "waits" "[I") (by decide +kernel)) rfl dX6_board_71 ?_
              refine f_iload_n hx hb dX6_board_74 hl 1 rfl rfl ?_
              refine e_ialdN hx hb hK hw 0 Ew_m10 rfl rfl (by omega) (by decide) dX6_board_75 ?_
              refine f_top (y := nI (ln u j)) hLn ?_
              refine f_istore hx hb dX6_board_76 hl (by decide) (fun ls hl => ?_)
              refine lv_iconst (v := 0) hx hb dX6_board_78 (by decide) ?_
              refine f_top (y := nI 0) rfl ?_
              refine f_istore hx hb dX6_board_79 hl (by decide) (fun ls hl => ?_)
              have loop : ∀ (t : Nat) (w : Int32) (k : Nat) (zc : St) (H : Heap) (locs : List Loc) (ls : Array Slot), Inv zc ng nr nb → t ≤ ln zc j → k + t = ln u j → sc zc 8 j = -1 → sc zc 9 j = nI f → bl j g n t w zc = sp_board nb u (nI j) n → wo G lo (Ew Y ng nr nb z zc ad) ad H → va_S (fun q => lo ≤ q) s.heap H locs → lh ls 10 (fun i9 => ([(0, .ref (ad 0 4)), (1, .int (nI j)), (2, .int n), (3, .int (nI g)), (4, .int (nI f)), (5, .int (w)), (6, .int (nI (ln u j))), (7, .int (nI k))].find? (fun q => q.1 == i9)).map (fun q => q.2)) → W p l e (headSpec wsX6_board ({ frames := 1, cells := 0, slots := 0, locals := 23 })).room s m ([.ref (ad 0 4), .int (nI j), .int n] : List Value).toArray below meth c H locs 0 0 (MQ below (QI G (tysY Y) lo (sp_board nb u (nI j) n).1 (Ew Y ng nr nb z (sp_board nb u (nI j) n).2 ad) ad) ([.ref (ad 0 4), .int (nI j), .int n] : List Value).toArray s 0 0 (fun q => lo ≤ q)) (F0 m 81 ls []) := by
                intro t
                induction t with
                | zero =>
                  intro w k zc H locs ls hI hle hkt hR hF hsp hw hS hl
                  obtain ⟨hL, hLn⟩ := hI.lane hj
                  obtain ⟨hD, hDn⟩ := hI.deck hf
                  have hFt : fo zc j = f := by show tn (sc zc 9 j) = f; rw [hF]; exact nI_clamp (by omega)
                  refine f_iload hx hb dX6_board_81 hl rfl ?_
                  refine f_iload hx hb dX6_board_83 hl rfl ?_
                  refine lv_icmp_ge (tgt := 309) hx hb dX6_board_85 (by decide) (fun c85 => ?_) (fun c85 => absurd (nI_le (by omega) (by omega)) c85)
                  refine f_iload hx hb dX6_board_309 hl rfl ?_
                  exact q_ism hx hb hr hlk hK hw hS dX6_board_311 hsp.symm
                | succ t ih =>
                  intro w k zc H locs ls hI hle hkt hR hF hsp hw hS hl
                  obtain ⟨hL, hLn⟩ := hI.lane hj
                  obtain ⟨hD, hDn⟩ := hI.deck hf
                  have hFt : fo zc j = f := by show tn (sc zc 9 j) = f; rw [hF]; exact nI_clamp (by omega)
                  refine f_iload hx hb dX6_board_81 hl rfl ?_
                  refine f_iload hx hb dX6_board_83 hl rfl ?_
                  refine lv_icmp_ge (tgt := 309) hx hb dX6_board_85 (by decide) (fun c85 => absurd c85 (nI_ge (by omega) (by omega))) (fun c85 => ?_)
                  refine f_aload_n hx hb dX6_board_88 hl 0 rfl rfl ?_
                  refine e_get (C := RX6) (T := TX6) (N := 22) hx hb hts i6 hown hK hw Ew_mo rfl 14 (by decide) (hts (.fieldLink RX6 32 "FerryQuayModel" "rampOf" "[I") (by decide +kernel)) rfl dX6_board_89 ?_
                  refine f_iload_n hx hb dX6_board_92 hl 1 rfl rfl ?_
                  refine e_ialdN hx hb hK hw 0 Ew_m8 rfl rfl (by omega) (by decide) dX6_board_93 ?_
                  refine f_istore hx hb dX6_board_94 hl (by decide) (fun ls hl => ?_)
                  refine f_iload hx hb dX6_board_96 hl rfl ?_
                  refine lv_iconst (v := (-1)) hx hb dX6_board_98 (by decide) ?_
                  refine lv_icmp_ne (tgt := 105) hx hb dX6_board_99 (by decide) (fun c99 => absurd hR c99) (fun c99 => ?_)
                  refine lv_bipush (v := (-4)) hx hb dX6_board_102 (by decide) ?_
                  exact q_ism hx hb hr hlk hK hw hS dX6_board_104 (hsp.symm.trans (by rw [bl]; exact (if_pos hR)))
              exact loop (ln u j) 0 0 (inc u 2 g) _ _ _ (hI.p2 hg) (Nat.le_refl _) (by omega) hR hF (Eq.symm (by rw [sp_board, hix]; dsimp only [Option.elim]; rw [hGt]; exact (Eq.trans (if_neg h1) (Eq.trans (if_neg h2) (Eq.trans (if_neg (notm1 hG (by omega))) (if_pos c53)))))) hw hS (hl.list [(0, .ref (ad 0 4)), (1, .int (nI j)), (2, .int n), (3, .int (nI g)), (4, .int (nI f)), (5, .int (0)), (6, .int (nI (ln u j))), (7, .int (nI 0))] (List.forall_mem_cons.mpr ⟨rfl, List.forall_mem_cons.mpr ⟨rfl, List.forall_mem_cons.mpr ⟨rfl, List.forall_mem_cons.mpr ⟨rfl, List.forall_mem_cons.mpr ⟨rfl, List.forall_mem_cons.mpr ⟨rfl, List.forall_mem_cons.mpr ⟨rfl, List.forall_mem_cons.mpr ⟨rfl, fun _ h => absurd h List.not_mem_nil⟩⟩⟩⟩⟩⟩⟩⟩))
            · refine lv_iconst (v := 0) hx hb dX6_board_67 (by decide) ?_
              refine f_istore hx hb dX6_board_68 hl (by decide) (fun ls hl => ?_)
              refine f_aload_n hx hb dX6_board_70 hl 0 rfl rfl ?_
              refine e_get (C := RX6) (T := TX6) (N := 22) hx hb hts i6 hown hK hw Ew_mo rfl 16 (by decide) (hts (.fieldLink RX6 38 "FerryQuayModel" "waits" "[I") (by decide +kernel)) rfl dX6_board_71 ?_
              refine f_iload_n hx hb dX6_board_74 hl 1 rfl rfl ?_
              refine e_ialdN hx hb hK hw 0 Ew_m10 rfl rfl (by omega) (by decide) dX6_board_75 ?_
              refine f_top (y := nI (ln u j)) hLn ?_
              refine f_istore hx hb dX6_board_76 hl (by decide) (fun ls hl => ?_)
              refine lv_iconst (v := 0) hx hb dX6_board_78 (by decide) ?_
              refine f_top (y := nI 0) rfl ?_
              refine f_istore hx hb dX6_board_79 hl (by decide) (fun ls hl => ?_)
              have loop : ∀ (t : Nat) (w : Int32) (k : Nat) (zc : St) (H : Heap) (locs : List Loc) (ls : Array Slot), Inv zc ng nr nb → t ≤ ln zc j → k + t = ln u j → sc zc 8 j = nI r → sc zc 9 j = nI f → bl j g n t w zc = sp_board nb u (nI j) n → wo G lo (Ew Y ng nr nb z zc ad) ad H → va_S (fun q => lo ≤ q) s.heap H locs → lh ls 10 (fun i9 => ([(0, .ref (ad 0 4)), (1, .int (nI j)), (2, .int n), (3, .int (nI g)), (4, .int (nI f)), (5, .int (w)), (6, .int (nI (ln u j))), (7, .int (nI k))].find? (fun q => q.1 == i9)).map (fun q => q.2)) → W p l e (headSpec wsX6_board ({ frames := 1, cells := 0, slots := 0, locals := 23 })).room s m ([.ref (ad 0 4), .int (nI j), .int n] : List Value).toArray below meth c H locs 0 0 (MQ below (QI G (tysY Y) lo (sp_board nb u (nI j) n).1 (Ew Y ng nr nb z (sp_board nb u (nI j) n).2 ad) ad) ([.ref (ad 0 4), .int (nI j), .int n] : List Value).toArray s 0 0 (fun q => lo ≤ q)) (F0 m 81 ls []) := by
                intro t
                induction t with
                | zero =>
                  intro w k zc H locs ls hI hle hkt hR hF hsp hw hS hl
                  obtain ⟨hL, hLn⟩ := hI.lane hj
                  obtain ⟨hD, hDn⟩ := hI.deck hf
                  have hFt : fo zc j = f := by show tn (sc zc 9 j) = f; rw [hF]; exact nI_clamp (by omega)
                  have hRt : tn (sc zc 8 j) = r := by rw [hR]; exact nI_clamp (by omega)
                  have lg : ln (goes (inc zc 6 r) j) j = ln zc j - 1 := ln_goes (z := inc zc 6 r) (by show ln zc j < 2 ^ 31; omega)
                  have lc : ∀ x, ln (comes (goes (inc zc 6 r) j) j x) j = ln zc j - 1 + 1 := fun x => (ln_comes (by rw [lg]; omega)).trans (by rw [lg])
                  refine f_iload hx hb dX6_board_81 hl rfl ?_
                  refine f_iload hx hb dX6_board_83 hl rfl ?_
                  refine lv_icmp_ge (tgt := 309) hx hb dX6_board_85 (by decide) (fun c85 => ?_) (fun c85 => absurd (nI_le (by omega) (by omega)) c85)
                  refine f_iload hx hb dX6_board_309 hl rfl ?_
                  exact q_ism hx hb hr hlk hK hw hS dX6_board_311 hsp.symm
                | succ t ih =>
                  intro w k zc H locs ls hI hle hkt hR hF hsp hw hS hl
                  obtain ⟨hL, hLn⟩ := hI.lane hj
                  obtain ⟨hD, hDn⟩ := hI.deck hf
                  have hFt : fo zc j = f := by show tn (sc zc 9 j) = f; rw [hF]; exact nI_clamp (by omega)
                  have hRt : tn (sc zc 8 j) = r := by rw [hR]; exact nI_clamp (by omega)
                  have lg : ln (goes (inc zc 6 r) j) j = ln zc j - 1 := ln_goes (z := inc zc 6 r) (by show ln zc j < 2 ^ 31; omega)
                  have lc : ∀ x, ln (comes (goes (inc zc 6 r) j) j x) j = ln zc j - 1 + 1 := fun x => (ln_comes (by rw [lg]; omega)).trans (by rw [lg])
                  refine f_iload hx hb dX6_board_81 hl rfl ?_
                  refine f_iload hx hb dX6_board_83 hl rfl ?_
                  refine lv_icmp_ge (tgt := 309) hx hb dX6_board_85 (by decide) (fun c85 => absurd c85 (nI_ge (by omega) (by omega))) (fun c85 => ?_)
                  refine f_aload_n hx hb dX6_board_88 hl 0 rfl rfl ?_
                  refine e_get (C := RX6) (T := TX6) (N := 22) hx hb hts i6 hown hK hw Ew_mo rfl 14 (by decide) (hts (.fieldLink RX6 32 "FerryQuayModel" "rampOf" "[I") (by decide +kernel)) rfl dX6_board_89 ?_
                  refine f_iload_n hx hb dX6_board_92 hl 1 rfl rfl ?_
                  refine e_ialdN hx hb hK hw 0 Ew_m8 rfl rfl (by omega) (by decide) dX6_board_93 ?_
                  refine f_top (y := nI r) hR ?_
                  refine f_istore hx hb dX6_board_94 hl (by decide) (fun ls hl => ?_)
                  refine f_iload hx hb dX6_board_96 hl rfl ?_
                  refine lv_iconst (v := (-1)) hx hb dX6_board_98 (by decide) ?_
                  refine lv_icmp_ne (tgt := 105) hx hb dX6_board_99 (by decide) (fun c99 => ?_) (fun c99 => absurd c99 (nI_m1 (by omega)))
                  refine f_aload_n hx hb dX6_board_105 hl 0 rfl rfl ?_
                  refine e_get (C := RX6) (T := TX6) (N := 22) hx hb hts i6 hown hK hw Ew_mo rfl 12 (by decide) (hts (.fieldLink RX6 26 "FerryQuayModel" "rampTaken" "[I") (by decide +kernel)) rfl dX6_board_106 ?_
                  refine f_iload hx hb dX6_board_109 hl rfl ?_
                  refine lv_dup2_11 hx hb dX6_board_111 rfl rfl ?_
                  refine e_ialdN hx hb hK hw 0 Ew_m6 rfl rfl (by omega) (by decide) dX6_board_112 ?_
                  refine lv_iconst (v := 1) hx hb dX6_board_113 (by decide) ?_
                  refine lv_iadd hx hb dX6_board_114 ?_
                  refine e_iastN hx hb hK hw hS 0 Ew_m6 rfl rfl (by omega) (by decide) dX6_board_115 (fun H locs hw hS => ?_)
                  have hw := hw.cast Ep_m6
                  refine f_aload_n hx hb dX6_board_116 hl 0 rfl rfl ?_
                  refine e_get (C := RX6) (T := TX6) (N := 22) hx hb hts i6 hown hK hw Ew_mo rfl 17 (by decide) (hts (.fieldLink RX6 41 "FerryQuayModel" "lane" "[I") (by decide +kernel)) rfl dX6_board_117 ?_
                  refine lv_bipush (v := 30) hx hb dX6_board_120 (by decide) ?_
                  refine f_iload_n hx hb dX6_board_122 hl 1 rfl rfl ?_
                  refine lv_imul hx hb dX6_board_123 ?_
                  refine f_top (idx_mul (k := 30) rfl j) ?_
                  refine e_ialdN hx hb hK hw 0 Ew_m11 rfl rfl (by omega) (by decide) dX6_board_124 ?_
                  refine f_top (y := zc 11 j 0) fl30z ?_
                  refine f_istore hx hb dX6_board_125 hl (by decide) (fun ls hl => ?_)
                  refine f_iload hx hb dX6_board_127 hl rfl ?_
                  refine lv_if_ne (tgt := 156) hx hb dX6_board_129 (by decide) (fun c129 => ?_) (fun c129 => ?_)
                  · refine f_iload hx hb dX6_board_156 hl rfl ?_
                    refine f_aload_n hx hb dX6_board_158 hl 0 rfl rfl ?_
                    refine e_get (C := RX6) (T := TX6) (N := 22) hx hb hts i6 hown hK hw Ew_mo rfl 10 (by decide) (hts (.fieldLink RX6 20 "FerryQuayModel" "limit" "[I") (by decide +kernel)) rfl dX6_board_159 ?_
                    refine f_iload hx hb dX6_board_162 hl rfl ?_
                    refine e_ialdN hx hb hK hw 0 Ew_m4 rfl rfl (by omega) (by decide) dX6_board_164 ?_
                    refine lv_icmp_le (tgt := 185) hx hb dX6_board_165 (by decide) (fun c165 => ?_) (fun c165 => ?_)
                    · refine f_aload_n hx hb dX6_board_185 hl 0 rfl rfl ?_
                      refine e_get (C := RX6) (T := TX6) (N := 22) hx hb hts i6 hown hK hw Ew_mo rfl 19 (by decide) (hts (.fieldLink RX6 47 "FerryQuayModel" "load" "[I") (by decide +kernel)) rfl dX6_board_186 ?_
                      refine f_iload hx hb dX6_board_189 hl rfl ?_
                      refine e_ialdN hx hb hK hw 0 Ew_m13 rfl rfl (by omega) (by decide) dX6_board_191 ?_
                      refine f_iload hx hb dX6_board_192 hl rfl ?_
                      refine lv_iadd hx hb dX6_board_194 ?_
                      refine f_aload_n hx hb dX6_board_195 hl 0 rfl rfl ?_
                      refine e_get (C := RX6) (T := TX6) (N := 22) hx hb hts i6 hown hK hw Ew_mo rfl 18 (by decide) (hts (.fieldLink RX6 44 "FerryQuayModel" "room" "[I") (by decide +kernel)) rfl dX6_board_196 ?_
                      refine f_iload hx hb dX6_board_199 hl rfl ?_
                      refine e_ialdN hx hb hK hw 0 Ew_m12 rfl rfl (by omega) (by decide) dX6_board_201 ?_
                      refine lv_icmp_gt (tgt := 217) hx hb dX6_board_202 (by decide) (fun c202 => ?_) (fun c202 => ?_)
                      · refine f_iload hx hb dX6_board_217 hl rfl ?_
                        exact q_ism hx hb hr hlk hK hw hS dX6_board_219 (hsp.symm.trans (by rw [bl, hRt, hFt]; exact (if hq : dk zc f = 40 then (Eq.trans (if_neg (notm1 hR (by omega))) (Eq.trans (if_neg c129) (Eq.trans (if_neg (Int32.not_lt.mpr c165)) (if_pos hq)))) else (Eq.trans (if_neg (notm1 hR (by omega))) (Eq.trans (if_neg c129) (Eq.trans (if_neg (Int32.not_lt.mpr c165)) (Eq.trans (if_neg hq) (if_pos c202))))))))
                      · refine f_aload_n hx hb dX6_board_205 hl 0 rfl rfl ?_
                        refine e_get (C := RX6) (T := TX6) (N := 22) hx hb hts i6 hown hK hw Ew_mo rfl 20 (by decide) (hts (.fieldLink RX6 50 "FerryQuayModel" "many" "[I") (by decide +kernel)) rfl dX6_board_206 ?_
                        refine f_iload hx hb dX6_board_209 hl rfl ?_
                        refine e_ialdN hx hb hK hw 0 Ew_m14 rfl rfl (by omega) (by decide) dX6_board_211 ?_
                        refine f_top (y := nI (dk zc f)) hDn ?_
                        by_cases hq : dk zc f = 40
                        · refine lv_bipush (v := 40) hx hb dX6_board_212 (by decide) ?_
                          refine lv_icmp_ne (tgt := 220) hx hb dX6_board_214 (by decide) (fun c214 => absurd (by rw [hq]; rfl) c214) (fun c214 => ?_)
                          refine f_iload hx hb dX6_board_217 hl rfl ?_
                          exact q_ism hx hb hr hlk hK hw hS dX6_board_219 (hsp.symm.trans (by rw [bl, hRt, hFt]; exact (Eq.trans (if_neg (notm1 hR (by omega))) (Eq.trans (if_neg c129) (Eq.trans (if_neg (Int32.not_lt.mpr c165)) (if_pos hq))))))
                        · refine lv_bipush (v := 40) hx hb dX6_board_212 (by decide) ?_
                          refine lv_icmp_ne (tgt := 220) hx hb dX6_board_214 (by decide) (fun c214 => ?_) (fun c214 => absurd c214 (fun q => hq ((nI_eq (b := 40) (by omega) (by decide)).mp q)))
                          refine f_aload_n hx hb dX6_board_220 hl 0 rfl rfl ?_
                          refine f_iload_n hx hb dX6_board_221 hl 1 rfl rfl ?_
                          refine q_ci (q_runV (C := RX6) (T := TX6) (N := 22) ⟨hx, hb, hml, hown, hts⟩ (c_X6_goes l (u := inc zc 6 r) (hI.p6 hr2) hj (by show 0 < ln zc j; omega)) (cwV 1 hts gX6_board_X6_goes rfl rfl rfl (by decide +kernel) ⟨Nat.le_of_ble_eq_true rfl, Nat.le_of_ble_eq_true rfl⟩) hK hw Ew_mo rfl rfl hl.1 rfl (by simp [Value.category, va_rf]) dX6_board_222 ⟨Nat.le_of_ble_eq_true rfl, Nat.le_of_ble_eq_true rfl⟩) hS (fun H locs hw hS => ?_)
                          refine f_top (y := zc 11 j 0) rfl ?_
                          refine f_istore hx hb dX6_board_225 hl (by decide) (fun ls hl => ?_)
                          refine f_aload_n hx hb dX6_board_227 hl 0 rfl rfl ?_
                          refine e_get (C := RX6) (T := TX6) (N := 22) hx hb hts i6 hown hK hw Ew_mo rfl 21 (by decide) (hts (.fieldLink RX6 53 "FerryQuayModel" "deck" "[I") (by decide +kernel)) rfl dX6_board_228 ?_
                          refine lv_bipush (v := 40) hx hb dX6_board_231 (by decide) ?_
                          refine f_iload hx hb dX6_board_233 hl rfl ?_
                          refine lv_imul hx hb dX6_board_235 ?_
                          refine f_aload_n hx hb dX6_board_236 hl 0 rfl rfl ?_
                          refine e_get (C := RX6) (T := TX6) (N := 22) hx hb hts i6 hown hK hw Ew_mo rfl 20 (by decide) (hts (.fieldLink RX6 50 "FerryQuayModel" "many" "[I") (by decide +kernel)) rfl dX6_board_237 ?_
                          refine f_iload hx hb dX6_board_240 hl rfl ?_
                          refine e_ialdN hx hb hK hw 0 Ew_m14 rfl rfl (by omega) (by decide) dX6_board_242 ?_
                          refine f_top (y := nI (dk zc f)) hDn ?_
                          refine lv_iadd hx hb dX6_board_243 ?_
                          refine f_top (idx_add (k := 40) rfl rfl) ?_
                          refine f_iload hx hb dX6_board_244 hl rfl ?_
                          refine e_iastN hx hb hK hw hS 0 Ew_m15 rfl rfl (by omega) (by decide) dX6_board_246 (fun H locs hw hS => ?_)
                          have hw := hw.cast (Ep_m15 (b := f) (j := dk zc f) (by omega))
                          refine f_aload_n hx hb dX6_board_247 hl 0 rfl rfl ?_
                          refine e_get (C := RX6) (T := TX6) (N := 22) hx hb hts i6 hown hK hw Ew_mo rfl 20 (by decide) (hts (.fieldLink RX6 50 "FerryQuayModel" "many" "[I") (by decide +kernel)) rfl dX6_board_248 ?_
                          refine f_iload hx hb dX6_board_251 hl rfl ?_
                          refine lv_dup2_11 hx hb dX6_board_253 rfl rfl ?_
                          refine e_ialdN hx hb hK hw 0 Ew_m14 rfl rfl (by omega) (by decide) dX6_board_254 ?_
                          refine lv_iconst (v := 1) hx hb dX6_board_255 (by decide) ?_
                          refine lv_iadd hx hb dX6_board_256 ?_
                          refine f_top ((congrArg (fun q => q + 1) hDn).trans (nI_1 (dk zc f))) ?_
                          refine e_iastN hx hb hK hw hS 0 Ew_m14 rfl rfl (by omega) (by decide) dX6_board_257 (fun H locs hw hS => ?_)
                          have hw := hw.cast Ep_m14
                          refine f_aload_n hx hb dX6_board_258 hl 0 rfl rfl ?_
                          refine e_get (C := RX6) (T := TX6) (N := 22) hx hb hts i6 hown hK hw Ew_mo rfl 19 (by decide) (hts (.fieldLink RX6 47 "FerryQuayModel" "load" "[I") (by decide +kernel)) rfl dX6_board_259 ?_
                          refine f_iload hx hb dX6_board_262 hl rfl ?_
                          refine lv_dup2_11 hx hb dX6_board_264 rfl rfl ?_
                          refine e_ialdN hx hb hK hw 0 Ew_m13 rfl rfl (by omega) (by decide) dX6_board_265 ?_
                          refine f_iload hx hb dX6_board_266 hl rfl ?_
                          refine lv_iadd hx hb dX6_board_268 ?_
                          refine e_iastN hx hb hK hw hS 0 Ew_m13 rfl rfl (by omega) (by decide) dX6_board_269 (fun H locs hw hS => ?_)
                          have hw := hw.cast Ep_m13
                          refine f_aload_n hx hb dX6_board_270 hl 0 rfl rfl ?_
                          refine e_get (C := RX6) (T := TX6) (N := 22) hx hb hts i6 hown hK hw Ew_mo rfl 9 (by decide) (hts (.fieldLink RX6 17 "FerryQuayModel" "passed" "[I") (by decide +kernel)) rfl dX6_board_271 ?_
                          refine f_iload_n hx hb dX6_board_274 hl 3 rfl rfl ?_
                          refine lv_dup2_11 hx hb dX6_board_275 rfl rfl ?_
                          refine e_ialdN hx hb hK hw 0 Ew_m3 rfl rfl (by omega) (by decide) dX6_board_276 ?_
                          refine lv_iconst (v := 1) hx hb dX6_board_277 (by decide) ?_
                          refine lv_iadd hx hb dX6_board_278 ?_
                          refine e_iastN hx hb hK hw hS 0 Ew_m3 rfl rfl (by omega) (by decide) dX6_board_279 (fun H locs hw hS => ?_)
                          have hw := hw.cast Ep_m3
                          refine f_aload_n hx hb dX6_board_280 hl 0 rfl rfl ?_
                          refine e_get (C := RX6) (T := TX6) (N := 22) hx hb hts i6 hown hK hw Ew_mo rfl 11 (by decide) (hts (.fieldLink RX6 23 "FerryQuayModel" "wear" "[I") (by decide +kernel)) rfl dX6_board_281 ?_
                          refine f_iload hx hb dX6_board_284 hl rfl ?_
                          refine lv_dup2_11 hx hb dX6_board_286 rfl rfl ?_
                          refine e_ialdN hx hb hK hw 0 Ew_m5 rfl rfl (by omega) (by decide) dX6_board_287 ?_
                          refine f_iload hx hb dX6_board_288 hl rfl ?_
                          refine lv_iadd hx hb dX6_board_290 ?_
                          refine e_iastN hx hb hK hw hS 0 Ew_m5 rfl rfl (by omega) (by decide) dX6_board_291 (fun H locs hw hS => ?_)
                          have hw := hw.cast Ep_m5
                          refine f_iinc (d := 1) hx hb dX6_board_292 hl rfl (by decide) (by decide) (fun ls hl => ?_)
                          refine f_iload hx hb dX6_board_295 hl rfl ?_
                          refine f_iload_n hx hb dX6_board_297 hl 2 rfl rfl ?_
                          refine lv_icmp_ne (tgt := 303) hx hb dX6_board_298 (by decide) (fun c298 => ?_) (fun c298 => ?_)
                          · refine f_iinc (d := 1) hx hb dX6_board_303 hl rfl (by decide) (by decide) (fun ls hl => ?_)
                            rw [nI_1] at hl
                            refine lv_goto (tgt := 81) hx hb dX6_board_306 (by decide) ?_
                            exact ih (w + 1) (k + 1) _ _ _ _ (((((hI.p6 hr2).gs hj).bd hf (by show dk zc f < 40; omega)).p3 hg).p5 hr2) (by show t ≤ ln (goes (inc zc 6 r) j) j; rw [lg]; omega) (by omega) hR hF (Eq.trans (Eq.symm (by rw [bl, hRt, hFt]; exact (Eq.trans (if_neg (notm1 hR (by omega))) (Eq.trans (if_neg c129) (Eq.trans (if_neg (Int32.not_lt.mpr c165)) (Eq.trans (if_neg hq) (Eq.trans (if_neg c202) (if_neg c298)))))))) hsp) hw hS (hl.list [(0, .ref (ad 0 4)), (1, .int (nI j)), (2, .int n), (3, .int (nI g)), (4, .int (nI f)), (5, .int (w + 1)), (6, .int (nI (ln u j))), (7, .int (nI (k + 1)))] (List.forall_mem_cons.mpr ⟨rfl, List.forall_mem_cons.mpr ⟨rfl, List.forall_mem_cons.mpr ⟨rfl, List.forall_mem_cons.mpr ⟨rfl, List.forall_mem_cons.mpr ⟨rfl, List.forall_mem_cons.mpr ⟨rfl, List.forall_mem_cons.mpr ⟨rfl, List.forall_mem_cons.mpr ⟨rfl, fun _ h => absurd h List.not_mem_nil⟩⟩⟩⟩⟩⟩⟩⟩))
                          · refine f_iload_n hx hb dX6_board_301 hl 2 rfl rfl ?_
                            exact q_ism hx hb hr hlk hK hw hS dX6_board_302 (hsp.symm.trans (by rw [bl, hRt, hFt]; exact (Eq.trans (if_neg (notm1 hR (by omega))) (Eq.trans (if_neg c129) (Eq.trans (if_neg (Int32.not_lt.mpr c165)) (Eq.trans (if_neg hq) (Eq.trans (if_neg c202) (Eq.trans (if_pos c298) (by rw [c298]; rfl)))))))))
                    · refine f_aload_n hx hb dX6_board_168 hl 0 rfl rfl ?_
                      refine f_iload_n hx hb dX6_board_169 hl 1 rfl rfl ?_
                      refine q_ci (q_runV (C := RX6) (T := TX6) (N := 22) ⟨hx, hb, hml, hown, hts⟩ (c_X6_goes l (u := inc zc 6 r) (hI.p6 hr2) hj (by show 0 < ln zc j; omega)) (cwV 1 hts gX6_board_X6_goes rfl rfl rfl (by decide +kernel) ⟨Nat.le_of_ble_eq_true rfl, Nat.le_of_ble_eq_true rfl⟩) hK hw Ew_mo rfl rfl hl.1 rfl (by simp [Value.category, va_rf]) dX6_board_170 ⟨Nat.le_of_ble_eq_true rfl, Nat.le_of_ble_eq_true rfl⟩) hS (fun H locs hw hS => ?_)
                      refine f_top (y := zc 11 j 0) rfl ?_
                      refine f_istore hx hb dX6_board_173 hl (by decide) (fun ls hl => ?_)
                      refine f_aload_n hx hb dX6_board_175 hl 0 rfl rfl ?_
                      refine f_iload_n hx hb dX6_board_176 hl 1 rfl rfl ?_
                      refine f_iload hx hb dX6_board_177 hl rfl ?_
                      refine q_cv (q_runV (C := RX6) (T := TX6) (N := 22) ⟨hx, hb, hml, hown, hts⟩ (c_X6_comes l (u := goes (inc zc 6 r) j) ((hI.p6 hr2).gs hj) hj (zc 11 j 0) (by rw [lg]; omega)) (cwV 2 hts gX6_board_X6_comes rfl rfl rfl (by decide +kernel) ⟨Nat.le_of_ble_eq_true rfl, Nat.le_of_ble_eq_true rfl⟩) hK hw Ew_mo rfl rfl hl.1 rfl (by simp [Value.category, va_rf]) dX6_board_179 ⟨Nat.le_of_ble_eq_true rfl, Nat.le_of_ble_eq_true rfl⟩) hS (fun H locs hw hS => ?_)
                      refine lv_goto (tgt := 303) hx hb dX6_board_182 (by decide) ?_
                      refine f_iinc (d := 1) hx hb dX6_board_303 hl rfl (by decide) (by decide) (fun ls hl => ?_)
                      rw [nI_1] at hl
                      refine lv_goto (tgt := 81) hx hb dX6_board_306 (by decide) ?_
                      exact ih w (k + 1) _ _ _ _ (((hI.p6 hr2).gs hj).cm hj (by rw [lg]; omega)) (by rw [lc]; omega) (by omega) hR hF (Eq.trans (Eq.symm (by rw [bl, hRt]; exact (Eq.trans (if_neg (notm1 hR (by omega))) (Eq.trans (if_neg c129) (if_pos (Int32.not_le.mp c165)))))) hsp) hw hS (hl.list [(0, .ref (ad 0 4)), (1, .int (nI j)), (2, .int n), (3, .int (nI g)), (4, .int (nI f)), (5, .int (w)), (6, .int (nI (ln u j))), (7, .int (nI (k + 1)))] (List.forall_mem_cons.mpr ⟨rfl, List.forall_mem_cons.mpr ⟨rfl, List.forall_mem_cons.mpr ⟨rfl, List.forall_mem_cons.mpr ⟨rfl, List.forall_mem_cons.mpr ⟨rfl, List.forall_mem_cons.mpr ⟨rfl, List.forall_mem_cons.mpr ⟨rfl, List.forall_mem_cons.mpr ⟨rfl, fun _ h => absurd h List.not_mem_nil⟩⟩⟩⟩⟩⟩⟩⟩))
                  · refine f_aload_n hx hb dX6_board_132 hl 0 rfl rfl ?_
                    refine f_iload_n hx hb dX6_board_133 hl 1 rfl rfl ?_
                    refine q_ci (q_runV (C := RX6) (T := TX6) (N := 22) ⟨hx, hb, hml, hown, hts⟩ (c_X6_goes l (u := inc zc 6 r) (hI.p6 hr2) hj (by show 0 < ln zc j; omega)) (cwV 1 hts gX6_board_X6_goes rfl rfl rfl (by decide +kernel) ⟨Nat.le_of_ble_eq_true rfl, Nat.le_of_ble_eq_true rfl⟩) hK hw Ew_mo rfl rfl hl.1 rfl (by simp [Value.category, va_rf]) dX6_board_134 ⟨Nat.le_of_ble_eq_true rfl, Nat.le_of_ble_eq_true rfl⟩) hS (fun H locs hw hS => ?_)
                    refine f_top (y := zc 11 j 0) rfl ?_
                    refine f_istore hx hb dX6_board_137 hl (by decide) (fun ls hl => ?_)
                    refine f_aload_n hx hb dX6_board_139 hl 0 rfl rfl ?_
                    refine lv_dup hx hb dX6_board_140 rfl ?_
                    refine e_get (C := RX6) (T := TX6) (N := 22) hx hb hts i6 hown hK hw Ew_mo rfl 5 (by decide) (hts (.fieldLink RX6 90 "FerryQuayModel" "towed" "I") (by decide +kernel)) rfl dX6_board_141 ?_
                    refine lv_iconst (v := 1) hx hb dX6_board_144 (by decide) ?_
                    refine lv_iadd hx hb dX6_board_145 ?_
                    refine e_put (C := RX6) (T := TX6) (N := 22) (ty := .int) hx hb hts i6 tyX6 tyX6_ok nmX6 hown hK hw hS Ew_mo rfl 5 (by decide) (hts (.fieldLink RX6 90 "FerryQuayModel" "towed" "I") (by decide +kernel)) rfl (by decide +kernel) rfl rfl (Nat.le_of_ble_eq_true rfl) dX6_board_146 (fun H locs hw hS => ?_)
                    have hw := hw.cast Ep_mo5
                    refine f_aload_n hx hb dX6_board_149 hl 0 rfl rfl ?_
                    refine lv_bipush (v := (-6)) hx hb dX6_board_150 (by decide) ?_
                    refine q_ci (q_runV (C := RX6) (T := TX6) (N := 22) ⟨hx, hb, hml, hown, hts⟩ (c_X6_alarm l (((hI.p6 hr2).gs hj).t5) (-6)) (cwV 1 hts gX6_board_X6_alarm rfl rfl rfl (by decide +kernel) ⟨Nat.le_of_ble_eq_true rfl, Nat.le_of_ble_eq_true rfl⟩) hK hw Ew_mo rfl rfl hl.1 rfl (by simp [Value.category, va_rf]) dX6_board_152 ⟨Nat.le_of_ble_eq_true rfl, Nat.le_of_ble_eq_true rfl⟩) hS (fun H locs hw hS => ?_)
                    exact q_ism hx hb hr hlk hK hw hS dX6_board_155 (hsp.symm.trans (by rw [bl, hRt]; exact (Eq.trans (if_neg (notm1 hR (by omega))) (if_pos c129))))
              exact loop (ln u j) 0 0 (inc u 2 g) _ _ _ (hI.p2 hg) (Nat.le_refl _) (by omega) hR hF (Eq.symm (by rw [sp_board, hix]; dsimp only [Option.elim]; rw [hGt]; exact (Eq.trans (if_neg h1) (Eq.trans (if_neg h2) (Eq.trans (if_neg (notm1 hG (by omega))) (if_pos c53)))))) hw hS (hl.list [(0, .ref (ad 0 4)), (1, .int (nI j)), (2, .int n), (3, .int (nI g)), (4, .int (nI f)), (5, .int (0)), (6, .int (nI (ln u j))), (7, .int (nI 0))] (List.forall_mem_cons.mpr ⟨rfl, List.forall_mem_cons.mpr ⟨rfl, List.forall_mem_cons.mpr ⟨rfl, List.forall_mem_cons.mpr ⟨rfl, List.forall_mem_cons.mpr ⟨rfl, List.forall_mem_cons.mpr ⟨rfl, List.forall_mem_cons.mpr ⟨rfl, List.forall_mem_cons.mpr ⟨rfl, fun _ h => absurd h List.not_mem_nil⟩⟩⟩⟩⟩⟩⟩⟩))
          · refine lv_bipush (v := (-5)) hx hb dX6_board_56 (by decide) ?_
            exact q_ism hx hb hr hlk hK hw hS dX6_board_58 (by rw [sp_board, hix]; dsimp only [Option.elim]; rw [hGt]; exact (Eq.trans (if_neg h1) (Eq.trans (if_neg h2) (Eq.trans (if_neg (notm1 hG (by omega))) (if_neg c53)))))
end
