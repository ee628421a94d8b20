section
-- ===== PART A: goes FIRST, ahead of the names: the tables' words, and 'selects' of the private methods out of them =====
/-- a private method of a class that the tables say can be made, by its rows of tables_1 -/
def lw_okq (q : MethodName × Nat) : Prop := (q.1.cls ≠ "java/lang/invoke/MethodHandle" ∧ q.1.cls ≠ "java/lang/invoke/VarHandle") ∧ Cond.instantiable q.1.cls q.2 ∈ tables_1 ∧ Cond.privateMethod q.1 ∈ tables_1 ∧ Cond.instanceMethod q.1 ∈ tables_1
theorem lw_p0 : lw_okq (⟨"ScoutGates", "recorded", "(I)I"⟩, 6) := ⟨⟨by decide +kernel, by decide +kernel⟩, List.mem_of_getElem? (i := 9) (by decide +kernel), List.mem_of_getElem? (i := 190) (by decide +kernel), List.mem_of_getElem? (i := 191) (by decide +kernel)⟩
theorem lw_p1 : lw_okq (⟨"ScoutGates", "addTroop", "(I)I"⟩, 6) := ⟨⟨by decide +kernel, by decide +kernel⟩, List.mem_of_getElem? (i := 9) (by decide +kernel), List.mem_of_getElem? (i := 202) (by decide +kernel), List.mem_of_getElem? (i := 203) (by decide +kernel)⟩
theorem lw_p2 : lw_okq (⟨"ScoutGates", "letCome", "(III)I"⟩, 6) := ⟨⟨by decide +kernel, by decide +kernel⟩, List.mem_of_getElem? (i := 9) (by decide +kernel), List.mem_of_getElem? (i := 217) (by decide +kernel), List.mem_of_getElem? (i := 218) (by decide +kernel)⟩
theorem lw_p3 : lw_okq (⟨"ScoutGates", "isScout", "(II)Z"⟩, 6) := ⟨⟨by decide +kernel, by decide +kernel⟩, List.mem_of_getElem? (i := 9) (by decide +kernel), List.mem_of_getElem? (i := 225) (by decide +kernel), List.mem_of_getElem? (i := 226) (by decide +kernel)⟩
theorem lw_p4 : lw_okq (⟨"ScoutGates", "isTroop", "(I)Z"⟩, 6) := ⟨⟨by decide +kernel, by decide +kernel⟩, List.mem_of_getElem? (i := 9) (by decide +kernel), List.mem_of_getElem? (i := 229) (by decide +kernel), List.mem_of_getElem? (i := 230) (by decide +kernel)⟩
theorem lw_p5 : lw_okq (⟨"ScoutGates$Troop", "openGate", "(I)I"⟩, 12) := ⟨⟨by decide +kernel, by decide +kernel⟩, List.mem_of_getElem? (i := 24) (by decide +kernel), List.mem_of_getElem? (i := 252) (by decide +kernel), List.mem_of_getElem? (i := 253) (by decide +kernel)⟩
theorem lw_p6 : lw_okq (⟨"ScoutGates$Troop", "beginHike", "(I)V"⟩, 12) := ⟨⟨by decide +kernel, by decide +kernel⟩, List.mem_of_getElem? (i := 24) (by decide +kernel), List.mem_of_getElem? (i := 264) (by decide +kernel), List.mem_of_getElem? (i := 265) (by decide +kernel)⟩
theorem lw_p7 : lw_okq (⟨"ScoutGates", "passMinutes", "(I)I"⟩, 6) := ⟨⟨by decide +kernel, by decide +kernel⟩, List.mem_of_getElem? (i := 9) (by decide +kernel), List.mem_of_getElem? (i := 278) (by decide +kernel), List.mem_of_getElem? (i := 279) (by decide +kernel)⟩
theorem lw_p8 : lw_okq (⟨"ScoutGates$Troop", "walkOn", "(I)V"⟩, 12) := ⟨⟨by decide +kernel, by decide +kernel⟩, List.mem_of_getElem? (i := 24) (by decide +kernel), List.mem_of_getElem? (i := 286) (by decide +kernel), List.mem_of_getElem? (i := 287) (by decide +kernel)⟩
theorem lw_p9 : lw_okq (⟨"ScoutGates", "loseScout", "(II)I"⟩, 6) := ⟨⟨by decide +kernel, by decide +kernel⟩, List.mem_of_getElem? (i := 9) (by decide +kernel), List.mem_of_getElem? (i := 361) (by decide +kernel), List.mem_of_getElem? (i := 362) (by decide +kernel)⟩
theorem lw_p10 : lw_okq (⟨"ScoutGates", "changeSize", "(II)I"⟩, 6) := ⟨⟨by decide +kernel, by decide +kernel⟩, List.mem_of_getElem? (i := 9) (by decide +kernel), List.mem_of_getElem? (i := 378) (by decide +kernel), List.mem_of_getElem? (i := 379) (by decide +kernel)⟩
def lw_privs_1 : List (MethodName × Nat) := [(⟨"ScoutGates", "recorded", "(I)I"⟩, 6), (⟨"ScoutGates", "addTroop", "(I)I"⟩, 6), (⟨"ScoutGates", "letCome", "(III)I"⟩, 6), (⟨"ScoutGates", "isScout", "(II)Z"⟩, 6), (⟨"ScoutGates", "isTroop", "(I)Z"⟩, 6), (⟨"ScoutGates$Troop", "openGate", "(I)I"⟩, 12), (⟨"ScoutGates$Troop", "beginHike", "(I)V"⟩, 12), (⟨"ScoutGates", "passMinutes", "(I)I"⟩, 6), (⟨"ScoutGates$Troop", "walkOn", "(I)V"⟩, 12), (⟨"ScoutGates", "loseScout", "(II)I"⟩, 6), (⟨"ScoutGates", "changeSize", "(II)I"⟩, 6)]
theorem lw_r1 : ∀ q ∈ lw_privs_1, lw_okq q := List.forall_mem_cons.mpr ⟨lw_p0, List.forall_mem_cons.mpr ⟨lw_p1, List.forall_mem_cons.mpr ⟨lw_p2, List.forall_mem_cons.mpr ⟨lw_p3, List.forall_mem_cons.mpr ⟨lw_p4, List.forall_mem_cons.mpr ⟨lw_p5, List.forall_mem_cons.mpr ⟨lw_p6, List.forall_mem_cons.mpr ⟨lw_p7, List.forall_mem_cons.mpr ⟨lw_p8, List.forall_mem_cons.mpr ⟨lw_p9, List.forall_mem_cons.mpr ⟨lw_p10, fun _ h => absurd h List.not_mem_nil⟩⟩⟩⟩⟩⟩⟩⟩⟩⟩⟩
def lw_privs : List (MethodName × Nat) := lw_privs_1
def lw_tbl : List Cond := k2_sels lw_privs ++ tables_1
theorem lw_privs_ok : ∀ q ∈ lw_privs, lw_okq q := lw_r1
end
section
def RX0 : String := "ScoutGates$History"
def TX0 : u_T := fun k => match k with
  | 0 => ("ScoutGates$History", "places", "[LScoutGates$State;", true)
  | 1 => ("ScoutGates$History", "oldest", "I", false)
  | _ => ("ScoutGates$History", "kept", "I", false)
def tyX0 : Nat → FieldType := fun k => match k with
  | 0 => .array (.object "ScoutGates$State")
  | 1 => .int
  | _ => .int
theorem nmX0 : ∀ a, a < 3 → ∀ b, b < 3 → a ≠ b → (TX0 a).2.1 ≠ (TX0 b).2.1 := by decide +kernel
theorem tyX0_ok : ∀ k, k < 3 → parseFieldDescriptor (TX0 k).2.2.1 = some (tyX0 k) := by decide +kernel
abbrev cX0_init : ByteArray := prog_2_method_1_code
def yX0_init : MethodName := ⟨RX0, "<init>", "()V"⟩
abbrev cX0_note : ByteArray := prog_2_method_2_code
def yX0_note : MethodName := ⟨RX0, "note", "(LScoutGates$State;)V"⟩
abbrev cX0_keepNoted : ByteArray := prog_2_method_3_code
def yX0_keepNoted : MethodName := ⟨RX0, "keepNoted", "()V"⟩
def RX1 : String := "ScoutGates$Pad"
def TX1 : u_T := fun k => match k with
  | 0 => ("ScoutGates$Pad", "signs", "[C", true)
  | 1 => ("ScoutGates$Pad", "length", "I", false)
  | 2 => ("ScoutGates$Pad", "at", "I", false)
  | 3 => ("ScoutGates$Pad", "kind", "C", false)
  | 4 => ("ScoutGates$Pad", "troop", "I", false)
  | 5 => ("ScoutGates$Pad", "number", "I", false)
  | _ => ("ScoutGates$Pad", "colour", "I", false)
def tyX1 : Nat → FieldType := fun k => match k with
  | 0 => .array .char
  | 1 => .int
  | 2 => .int
  | 3 => .char
  | 4 => .int
  | 5 => .int
  | _ => .int
theorem nmX1 : ∀ a, a < 7 → ∀ b, b < 7 → a ≠ b → (TX1 a).2.1 ≠ (TX1 b).2.1 := by decide +kernel
theorem tyX1_ok : ∀ k, k < 7 → parseFieldDescriptor (TX1 k).2.2.1 = some (tyX1 k) := by decide +kernel
abbrev cX1_init : ByteArray := prog_3_method_1_code
def yX1_init : MethodName := ⟨RX1, "<init>", "()V"⟩
def RX2 : String := "ScoutGates$State"
def TX2 : u_T := fun k => match k with
  | 0 => ("ScoutGates$State", "settings", "[I", true)
  | 1 => ("ScoutGates$State", "troops", "[LScoutGates$Troop;", true)
  | 2 => ("ScoutGates$State", "troopCount", "I", false)
  | 3 => ("ScoutGates$State", "minutes", "I", false)
  | _ => ("ScoutGates$State", "earlyComings", "I", false)
def tyX2 : Nat → FieldType := fun k => match k with
  | 0 => .array .int
  | 1 => .array (.object "ScoutGates$Troop")
  | 2 => .int
  | 3 => .int
  | _ => .int
theorem nmX2 : ∀ a, a < 5 → ∀ b, b < 5 → a ≠ b → (TX2 a).2.1 ≠ (TX2 b).2.1 := by decide +kernel
theorem tyX2_ok : ∀ k, k < 5 → parseFieldDescriptor (TX2 k).2.2.1 = some (tyX2 k) := by decide +kernel
abbrev cX2_init : ByteArray := prog_4_method_1_code
def yX2_init : MethodName := ⟨RX2, "<init>", "()V"⟩
abbrev cX2_copyFrom : ByteArray := prog_4_method_2_code
def yX2_copyFrom : MethodName := ⟨RX2, "copyFrom", "(LScoutGates$State;)V"⟩
abbrev cX2_hikes : ByteArray := prog_4_method_3_code
def yX2_hikes : MethodName := ⟨RX2, "hikes", "()I"⟩
abbrev cX2_scoutsOnHikes : ByteArray := prog_4_method_4_code
def yX2_scoutsOnHikes : MethodName := ⟨RX2, "scoutsOnHikes", "()I"⟩
abbrev cX2_scoutsLost : ByteArray := prog_4_method_5_code
def yX2_scoutsLost : MethodName := ⟨RX2, "scoutsLost", "()I"⟩
def RX3 : String := "ScoutGates$Troop"
def TX3 : u_T := fun k => match k with
  | 0 => ("ScoutGates$Troop", "size", "I", false)
  | 1 => ("ScoutGates$Troop", "nextSize", "I", false)
  | 2 => ("ScoutGates$Troop", "colour", "I", false)
  | 3 => ("ScoutGates$Troop", "inside", "I", false)
  | 4 => ("ScoutGates$Troop", "outside", "I", false)
  | 5 => ("ScoutGates$Troop", "onHike", "I", false)
  | 6 => ("ScoutGates$Troop", "lost", "I", false)
  | 7 => ("ScoutGates$Troop", "struck", "I", false)
  | 8 => ("ScoutGates$Troop", "hikes", "I", false)
  | 9 => ("ScoutGates$Troop", "hikers", "I", false)
  | 10 => ("ScoutGates$Troop", "minutes", "[I", true)
  | _ => ("ScoutGates$Troop", "hikesOf", "[I", true)
def tyX3 : Nat → FieldType := fun k => match k with
  | 0 => .int
  | 1 => .int
  | 2 => .int
  | 3 => .int
  | 4 => .int
  | 5 => .int
  | 6 => .int
  | 7 => .int
  | 8 => .int
  | 9 => .int
  | 10 => .array .int
  | _ => .array .int
theorem nmX3 : ∀ a, a < 12 → ∀ b, b < 12 → a ≠ b → (TX3 a).2.1 ≠ (TX3 b).2.1 := by decide +kernel
theorem tyX3_ok : ∀ k, k < 12 → parseFieldDescriptor (TX3 k).2.2.1 = some (tyX3 k) := by decide +kernel
abbrev cX3_init : ByteArray := prog_5_method_1_code
def yX3_init : MethodName := ⟨RX3, "<init>", "()V"⟩
abbrev cX3_begin : ByteArray := prog_5_method_2_code
def yX3_begin : MethodName := ⟨RX3, "begin", "(I)V"⟩
abbrev cX3_copyFrom : ByteArray := prog_5_method_3_code
def yX3_copyFrom : MethodName := ⟨RX3, "copyFrom", "(LScoutGates$Troop;)V"⟩
abbrev cX3_hasScout : ByteArray := prog_5_method_4_code
def yX3_hasScout : MethodName := ⟨RX3, "hasScout", "(I)Z"⟩
abbrev cX3_knows : ByteArray := prog_5_method_5_code
def yX3_knows : MethodName := ⟨RX3, "knows", "(I)Z"⟩
abbrev cX3_howIs : ByteArray := prog_5_method_7_code
def yX3_howIs : MethodName := ⟨RX3, "howIs", "(I)I"⟩
abbrev cX3_everyone : ByteArray := prog_5_method_8_code
def yX3_everyone : MethodName := ⟨RX3, "everyone", "()I"⟩
abbrev cX3_atHome : ByteArray := prog_5_method_9_code
def yX3_atHome : MethodName := ⟨RX3, "atHome", "()I"⟩
abbrev cX3_waitedFor : ByteArray := prog_5_method_10_code
def yX3_waitedFor : MethodName := ⟨RX3, "waitedFor", "()I"⟩
abbrev cX3_countDown : ByteArray := prog_5_method_11_code
def yX3_countDown : MethodName := ⟨RX3, "countDown", "()I"⟩
abbrev cX3_takeIn : ByteArray := prog_5_method_12_code
def yX3_takeIn : MethodName := ⟨RX3, "takeIn", "(III)I"⟩
abbrev cX3_bringHome : ByteArray := prog_5_method_13_code
def yX3_bringHome : MethodName := ⟨RX3, "bringHome", "(I)V"⟩
abbrev cX3_missScout : ByteArray := prog_5_method_14_code
def yX3_missScout : MethodName := ⟨RX3, "missScout", "(I)V"⟩
abbrev cX3_passMinute : ByteArray := prog_5_method_15_code
def yX3_passMinute : MethodName := ⟨RX3, "passMinute", "(II)I"⟩
abbrev cX3_walkOn : ByteArray := prog_5_method_16_code
def yX3_walkOn : MethodName := ⟨RX3, "walkOn", "(I)V"⟩
abbrev cX3_openGate : ByteArray := prog_5_method_17_code
def yX3_openGate : MethodName := ⟨RX3, "openGate", "(I)I"⟩
abbrev cX3_beginHike : ByteArray := prog_5_method_18_code
def yX3_beginHike : MethodName := ⟨RX3, "beginHike", "(I)V"⟩
abbrev cX3_isIn : ByteArray := prog_5_method_19_code
def yX3_isIn : MethodName := ⟨RX3, "isIn", "(II)Z"⟩
def RX4 : String := "ScoutGates"
def TX4 : u_T := fun k => match k with
  | 0 => ("ScoutGates", "now", "LScoutGates$State;", true)
  | 1 => ("ScoutGates", "history", "LScoutGates$History;", true)
  | 2 => ("ScoutGates", "slots", "[LScoutGates$State;", true)
  | 3 => ("ScoutGates", "isSaved", "[Z", true)
  | 4 => ("ScoutGates", "pad", "LScoutGates$Pad;", true)
  | _ => ("ScoutGates", "trial", "LScoutGates$Troop;", true)
def tyX4 : Nat → FieldType := fun k => match k with
  | 0 => .object "ScoutGates$State"
  | 1 => .object "ScoutGates$History"
  | 2 => .array (.object "ScoutGates$State")
  | 3 => .array .boolean
  | 4 => .object "ScoutGates$Pad"
  | _ => .object "ScoutGates$Troop"
theorem nmX4 : ∀ a, a < 6 → ∀ b, b < 6 → a ≠ b → (TX4 a).2.1 ≠ (TX4 b).2.1 := by decide +kernel
theorem tyX4_ok : ∀ k, k < 6 → parseFieldDescriptor (TX4 k).2.2.1 = some (tyX4 k) := by decide +kernel
abbrev cX4_init : ByteArray := prog_1_method_1_code
def yX4_init : MethodName := ⟨RX4, "<init>", "()V"⟩
abbrev cX4_set : ByteArray := prog_1_method_2_code
def yX4_set : MethodName := ⟨RX4, "set", "(II)I"⟩
abbrev cX4_troop : ByteArray := prog_1_method_3_code
def yX4_troop : MethodName := ⟨RX4, "troop", "(I)I"⟩
abbrev cX4_resize : ByteArray := prog_1_method_4_code
def yX4_resize : MethodName := ⟨RX4, "resize", "(II)I"⟩
abbrev cX4_come : ByteArray := prog_1_method_5_code
def yX4_come : MethodName := ⟨RX4, "come", "(III)I"⟩
abbrev cX4_lose : ByteArray := prog_1_method_6_code
def yX4_lose : MethodName := ⟨RX4, "lose", "(II)I"⟩
abbrev cX4_find : ByteArray := prog_1_method_7_code
def yX4_find : MethodName := ⟨RX4, "find", "(II)I"⟩
abbrev cX4_pass : ByteArray := prog_1_method_8_code
def yX4_pass : MethodName := ⟨RX4, "pass", "(I)I"⟩
abbrev cX4_recorded : ByteArray := prog_1_method_9_code
def yX4_recorded : MethodName := ⟨RX4, "recorded", "(I)I"⟩
abbrev cX4_addTroop : ByteArray := prog_1_method_10_code
def yX4_addTroop : MethodName := ⟨RX4, "addTroop", "(I)I"⟩
abbrev cX4_changeSize : ByteArray := prog_1_method_11_code
def yX4_changeSize : MethodName := ⟨RX4, "changeSize", "(II)I"⟩
abbrev cX4_letCome : ByteArray := prog_1_method_12_code
def yX4_letCome : MethodName := ⟨RX4, "letCome", "(III)I"⟩
abbrev cX4_loseScout : ByteArray := prog_1_method_13_code
def yX4_loseScout : MethodName := ⟨RX4, "loseScout", "(II)I"⟩
abbrev cX4_passMinutes : ByteArray := prog_1_method_14_code
def yX4_passMinutes : MethodName := ⟨RX4, "passMinutes", "(I)I"⟩
abbrev cX4_ofTroop : ByteArray := prog_1_method_15_code
def yX4_ofTroop : MethodName := ⟨RX4, "ofTroop", "(II)I"⟩
abbrev cX4_of : ByteArray := prog_1_method_16_code
def yX4_of : MethodName := ⟨RX4, "of", "(III)I"⟩
abbrev cX4_count : ByteArray := prog_1_method_17_code
def yX4_count : MethodName := ⟨RX4, "count", "(I)I"⟩
abbrev cX4_why : ByteArray := prog_1_method_18_code
def yX4_why : MethodName := ⟨RX4, "why", "(III)I"⟩
abbrev cX4_waitsFor : ByteArray := prog_1_method_19_code
def yX4_waitsFor : MethodName := ⟨RX4, "waitsFor", "(I)I"⟩
abbrev cX4_isTroop : ByteArray := prog_1_method_30_code
def yX4_isTroop : MethodName := ⟨RX4, "isTroop", "(I)Z"⟩
abbrev cX4_isScout : ByteArray := prog_1_method_31_code
def yX4_isScout : MethodName := ⟨RX4, "isScout", "(II)Z"⟩
abbrev cX4_isSize : ByteArray := prog_1_method_32_code
def yX4_isSize : MethodName := ⟨RX4, "isSize", "(I)Z"⟩
def RX5 : String := "ScoutGatesModel"
def TX5 : u_T := fun k => match k with
  | _ => ("", "", "", false)
def tyX5 : Nat → FieldType := fun k => match k with
  | _ => .int
theorem nmX5 : ∀ a, a < 0 → ∀ b, b < 0 → a ≠ b → (TX5 a).2.1 ≠ (TX5 b).2.1 := by decide +kernel
theorem tyX5_ok : ∀ k, k < 0 → parseFieldDescriptor (TX5 k).2.2.1 = some (tyX5 k) := by decide +kernel
def RJ6 : String := "java/lang/Integer"
def TJ6 : u_T := fun k => match k with
  | _ => ("", "", "", false)
def tyJ6 : Nat → FieldType := fun k => match k with
  | _ => .int
theorem nmJ6 : ∀ a, a < 0 → ∀ b, b < 0 → a ≠ b → (TJ6 a).2.1 ≠ (TJ6 b).2.1 := by decide +kernel
theorem tyJ6_ok : ∀ k, k < 0 → parseFieldDescriptor (TJ6 k).2.2.1 = some (tyJ6 k) := by decide +kernel
abbrev cJ6_bitCount_0f7a4 : ByteArray := prog_8_method_49_code
def yJ6_bitCount_0f7a4 : MethodName := ⟨RJ6, "bitCount", "(I)I"⟩
def RJ10 : String := "java/lang/System"
def TJ10 : u_T := fun k => match k with
  | _ => ("", "", "", false)
def tyJ10 : Nat → FieldType := fun k => match k with
  | _ => .int
theorem nmJ10 : ∀ a, a < 0 → ∀ b, b < 0 → a ≠ b → (TJ10 a).2.1 ≠ (TJ10 b).2.1 := by decide +kernel
theorem tyJ10_ok : ∀ k, k < 0 → parseFieldDescriptor (TJ10 k).2.2.1 = some (tyJ10 k) := by decide +kernel
def RL : String := "ScoutGatesLaw"
abbrev cL_cell : ByteArray := method_2_code
def yL_cell : MethodName := ⟨RL, "cell", "([II)I"⟩
abbrev cL_low : ByteArray := method_3_code
def yL_low : MethodName := ⟨RL, "low", "(II)I"⟩
abbrev cL_size : ByteArray := method_4_code
def yL_size : MethodName := ⟨RL, "size", "(I)I"⟩
abbrev cL_told : ByteArray := method_5_code
def yL_told : MethodName := ⟨RL, "told", "(LScoutGates;)Z"⟩
abbrev cL_comes : ByteArray := method_6_code
def yL_comes : MethodName := ⟨RL, "comes", "(LScoutGates;III)Z"⟩
abbrev cL_passes : ByteArray := method_7_code
def yL_passes : MethodName := ⟨RL, "passes", "(LScoutGates;)Z"⟩
abbrev cL_act : ByteArray := method_8_code
def yL_act : MethodName := ⟨RL, "act", "(LScoutGates;I)Z"⟩
abbrev cL_law : ByteArray := code
def yL_law : MethodName := ⟨RL, "law", "([I)Z"⟩
/-- a method: its name, bytes, locals, what it returns -/
abbrev mM : Type := MethodName × ByteArray × Nat × Option FieldType
abbrev M_X0_init : mM := (yX0_init, cX0_init, 2, none)
abbrev M_X0_note : mM := (yX0_note, cX0_note, 2, none)
abbrev M_X0_keepNoted : mM := (yX0_keepNoted, cX0_keepNoted, 1, none)
abbrev M_X1_init : mM := (yX1_init, cX1_init, 1, none)
abbrev M_X2_init : mM := (yX2_init, cX2_init, 2, none)
abbrev M_X2_copyFrom : mM := (yX2_copyFrom, cX2_copyFrom, 3, none)
abbrev M_X2_hikes : mM := (yX2_hikes, cX2_hikes, 3, some .int)
abbrev M_X2_scoutsOnHikes : mM := (yX2_scoutsOnHikes, cX2_scoutsOnHikes, 3, some .int)
abbrev M_X2_scoutsLost : mM := (yX2_scoutsLost, cX2_scoutsLost, 3, some .int)
abbrev M_X3_init : mM := (yX3_init, cX3_init, 1, none)
abbrev M_X3_begin : mM := (yX3_begin, cX3_begin, 3, none)
abbrev M_X3_copyFrom : mM := (yX3_copyFrom, cX3_copyFrom, 2, none)
abbrev M_X3_hasScout : mM := (yX3_hasScout, cX3_hasScout, 2, some .boolean)
abbrev M_X3_knows : mM := (yX3_knows, cX3_knows, 2, some .boolean)
abbrev M_X3_howIs : mM := (yX3_howIs, cX3_howIs, 2, some .int)
abbrev M_X3_everyone : mM := (yX3_everyone, cX3_everyone, 1, some .int)
abbrev M_X3_atHome : mM := (yX3_atHome, cX3_atHome, 1, some .int)
abbrev M_X3_waitedFor : mM := (yX3_waitedFor, cX3_waitedFor, 1, some .int)
abbrev M_X3_countDown : mM := (yX3_countDown, cX3_countDown, 1, some .int)
abbrev M_X3_takeIn : mM := (yX3_takeIn, cX3_takeIn, 4, some .int)
abbrev M_X3_bringHome : mM := (yX3_bringHome, cX3_bringHome, 2, none)
abbrev M_X3_missScout : mM := (yX3_missScout, cX3_missScout, 2, none)
abbrev M_X3_passMinute : mM := (yX3_passMinute, cX3_passMinute, 4, some .int)
abbrev M_X3_walkOn : mM := (yX3_walkOn, cX3_walkOn, 2, none)
abbrev M_X3_openGate : mM := (yX3_openGate, cX3_openGate, 3, some .int)
abbrev M_X3_beginHike : mM := (yX3_beginHike, cX3_beginHike, 3, none)
abbrev M_X3_isIn : mM := (yX3_isIn, cX3_isIn, 2, some .boolean)
abbrev M_X4_init : mM := (yX4_init, cX4_init, 2, none)
abbrev M_X4_set : mM := (yX4_set, cX4_set, 5, some .int)
abbrev M_X4_troop : mM := (yX4_troop, cX4_troop, 2, some .int)
abbrev M_X4_resize : mM := (yX4_resize, cX4_resize, 3, some .int)
abbrev M_X4_come : mM := (yX4_come, cX4_come, 4, some .int)
abbrev M_X4_lose : mM := (yX4_lose, cX4_lose, 3, some .int)
abbrev M_X4_find : mM := (yX4_find, cX4_find, 5, some .int)
abbrev M_X4_pass : mM := (yX4_pass, cX4_pass, 2, some .int)
abbrev M_X4_recorded : mM := (yX4_recorded, cX4_recorded, 2, some .int)
abbrev M_X4_addTroop : mM := (yX4_addTroop, cX4_addTroop, 3, some .int)
abbrev M_X4_changeSize : mM := (yX4_changeSize, cX4_changeSize, 5, some .int)
abbrev M_X4_letCome : mM := (yX4_letCome, cX4_letCome, 5, some .int)
abbrev M_X4_loseScout : mM := (yX4_loseScout, cX4_loseScout, 5, some .int)
abbrev M_X4_passMinutes : mM := (yX4_passMinutes, cX4_passMinutes, 5, some .int)
abbrev M_X4_ofTroop : mM := (yX4_ofTroop, cX4_ofTroop, 4, some .int)
abbrev M_X4_of : mM := (yX4_of, cX4_of, 5, some .int)
abbrev M_X4_count : mM := (yX4_count, cX4_count, 2, some .int)
abbrev M_X4_why : mM := (yX4_why, cX4_why, 5, some .int)
abbrev M_X4_waitsFor : mM := (yX4_waitsFor, cX4_waitsFor, 2, some .int)
abbrev M_X4_isTroop : mM := (yX4_isTroop, cX4_isTroop, 2, some .boolean)
abbrev M_X4_isScout : mM := (yX4_isScout, cX4_isScout, 3, some .boolean)
abbrev M_X4_isSize : mM := (yX4_isSize, cX4_isSize, 1, some .boolean)
abbrev M_J6_bitCount_0f7a4 : mM := (yJ6_bitCount_0f7a4, cJ6_bitCount_0f7a4, 1, some .int)
abbrev M_L_cell : mM := (yL_cell, cL_cell, 2, some .int)
abbrev M_L_low : mM := (yL_low, cL_low, 2, some .int)
abbrev M_L_size : mM := (yL_size, cL_size, 3, some .int)
abbrev M_L_told : mM := (yL_told, cL_told, 11, some .boolean)
abbrev M_L_comes : mM := (yL_comes, cL_comes, 18, some .boolean)
abbrev M_L_passes : mM := (yL_passes, cL_passes, 13, some .boolean)
abbrev M_L_act : mM := (yL_act, cL_act, 10, some .boolean)
end
section
theorem dX0_init_0 : decode cX0_init 0 = .ok (.aload_n 0, 1) := by decide +kernel
theorem dX0_init_1 : decode cX0_init 1 = .ok (.invokespecial 3, 3) := by decide +kernel
theorem dX0_init_4 : decode cX0_init 4 = .ok (.aload_n 0, 1) := by decide +kernel
theorem dX0_init_5 : decode cX0_init 5 = .ok (.bipush 7, 2) := by decide +kernel
theorem dX0_init_7 : decode cX0_init 7 = .ok (.anewarray 11, 3) := by decide +kernel
theorem dX0_init_10 : decode cX0_init 10 = .ok (.putfield 13, 3) := by decide +kernel
theorem dX0_init_13 : decode cX0_init 13 = .ok (.iconst 0, 1) := by decide +kernel
theorem dX0_init_14 : decode cX0_init 14 = .ok (.istore_n 1, 1) := by decide +kernel
theorem dX0_init_15 : decode cX0_init 15 = .ok (.iload_n 1, 1) := by decide +kernel
theorem dX0_init_16 : decode cX0_init 16 = .ok (.bipush 7, 2) := by decide +kernel
theorem dX0_init_18 : decode cX0_init 18 = .ok (.if_icmp .ge 22, 3) := by decide +kernel
theorem dX0_init_21 : decode cX0_init 21 = .ok (.aload_n 0, 1) := by decide +kernel
theorem dX0_init_22 : decode cX0_init 22 = .ok (.getfield 13, 3) := by decide +kernel
theorem dX0_init_25 : decode cX0_init 25 = .ok (.iload_n 1, 1) := by decide +kernel
theorem dX0_init_26 : decode cX0_init 26 = .ok (.new 11, 3) := by decide +kernel
theorem dX0_init_29 : decode cX0_init 29 = .ok (.dup, 1) := by decide +kernel
theorem dX0_init_30 : decode cX0_init 30 = .ok (.invokespecial 17, 3) := by decide +kernel
theorem dX0_init_33 : decode cX0_init 33 = .ok (.aastore, 1) := by decide +kernel
theorem dX0_init_34 : decode cX0_init 34 = .ok (.iinc 1 1, 3) := by decide +kernel
theorem dX0_init_37 : decode cX0_init 37 = .ok (.goto (-22), 3) := by decide +kernel
theorem dX0_init_40 : decode cX0_init 40 = .ok (.return_, 1) := by decide +kernel
theorem dX0_note_0 : decode cX0_note 0 = .ok (.aload_n 0, 1) := by decide +kernel
theorem dX0_note_1 : decode cX0_note 1 = .ok (.getfield 13, 3) := by decide +kernel
theorem dX0_note_4 : decode cX0_note 4 = .ok (.aload_n 0, 1) := by decide +kernel
theorem dX0_note_5 : decode cX0_note 5 = .ok (.getfield 18, 3) := by decide +kernel
theorem dX0_note_8 : decode cX0_note 8 = .ok (.aload_n 0, 1) := by decide +kernel
theorem dX0_note_9 : decode cX0_note 9 = .ok (.getfield 22, 3) := by decide +kernel
theorem dX0_note_12 : decode cX0_note 12 = .ok (.iadd, 1) := by decide +kernel
theorem dX0_note_13 : decode cX0_note 13 = .ok (.bipush 7, 2) := by decide +kernel
theorem dX0_note_15 : decode cX0_note 15 = .ok (.irem, 1) := by decide +kernel
theorem dX0_note_16 : decode cX0_note 16 = .ok (.aaload, 1) := by decide +kernel
theorem dX0_note_17 : decode cX0_note 17 = .ok (.aload_n 1, 1) := by decide +kernel
theorem dX0_note_18 : decode cX0_note 18 = .ok (.invokevirtual 25, 3) := by decide +kernel
theorem dX0_note_21 : decode cX0_note 21 = .ok (.return_, 1) := by decide +kernel
theorem dX0_keepNoted_0 : decode cX0_keepNoted 0 = .ok (.aload_n 0, 1) := by decide +kernel
theorem dX0_keepNoted_1 : decode cX0_keepNoted 1 = .ok (.getfield 22, 3) := by decide +kernel
theorem dX0_keepNoted_4 : decode cX0_keepNoted 4 = .ok (.bipush 6, 2) := by decide +kernel
theorem dX0_keepNoted_6 : decode cX0_keepNoted 6 = .ok (.if_icmp .ge 16, 3) := by decide +kernel
theorem dX0_keepNoted_9 : decode cX0_keepNoted 9 = .ok (.aload_n 0, 1) := by decide +kernel
theorem dX0_keepNoted_10 : decode cX0_keepNoted 10 = .ok (.dup, 1) := by decide +kernel
theorem dX0_keepNoted_11 : decode cX0_keepNoted 11 = .ok (.getfield 22, 3) := by decide +kernel
theorem dX0_keepNoted_14 : decode cX0_keepNoted 14 = .ok (.iconst 1, 1) := by decide +kernel
theorem dX0_keepNoted_15 : decode cX0_keepNoted 15 = .ok (.iadd, 1) := by decide +kernel
theorem dX0_keepNoted_16 : decode cX0_keepNoted 16 = .ok (.putfield 22, 3) := by decide +kernel
theorem dX0_keepNoted_19 : decode cX0_keepNoted 19 = .ok (.goto 16, 3) := by decide +kernel
theorem dX0_keepNoted_22 : decode cX0_keepNoted 22 = .ok (.aload_n 0, 1) := by decide +kernel
theorem dX0_keepNoted_23 : decode cX0_keepNoted 23 = .ok (.aload_n 0, 1) := by decide +kernel
theorem dX0_keepNoted_24 : decode cX0_keepNoted 24 = .ok (.getfield 18, 3) := by decide +kernel
theorem dX0_keepNoted_27 : decode cX0_keepNoted 27 = .ok (.iconst 1, 1) := by decide +kernel
theorem dX0_keepNoted_28 : decode cX0_keepNoted 28 = .ok (.iadd, 1) := by decide +kernel
theorem dX0_keepNoted_29 : decode cX0_keepNoted 29 = .ok (.bipush 7, 2) := by decide +kernel
theorem dX0_keepNoted_31 : decode cX0_keepNoted 31 = .ok (.irem, 1) := by decide +kernel
theorem dX0_keepNoted_32 : decode cX0_keepNoted 32 = .ok (.putfield 18, 3) := by decide +kernel
theorem dX0_keepNoted_35 : decode cX0_keepNoted 35 = .ok (.return_, 1) := by decide +kernel
theorem dX1_init_0 : decode cX1_init 0 = .ok (.aload_n 0, 1) := by decide +kernel
theorem dX1_init_1 : decode cX1_init 1 = .ok (.invokespecial 3, 3) := by decide +kernel
theorem dX1_init_4 : decode cX1_init 4 = .ok (.aload_n 0, 1) := by decide +kernel
theorem dX1_init_5 : decode cX1_init 5 = .ok (.bipush 80, 2) := by decide +kernel
theorem dX1_init_7 : decode cX1_init 7 = .ok (.newarray .char, 2) := by decide +kernel
theorem dX1_init_9 : decode cX1_init 9 = .ok (.putfield 9, 3) := by decide +kernel
theorem dX1_init_12 : decode cX1_init 12 = .ok (.return_, 1) := by decide +kernel
theorem dX2_init_0 : decode cX2_init 0 = .ok (.aload_n 0, 1) := by decide +kernel
theorem dX2_init_1 : decode cX2_init 1 = .ok (.invokespecial 3, 3) := by decide +kernel
theorem dX2_init_4 : decode cX2_init 4 = .ok (.aload_n 0, 1) := by decide +kernel
theorem dX2_init_5 : decode cX2_init 5 = .ok (.iconst 2, 1) := by decide +kernel
theorem dX2_init_6 : decode cX2_init 6 = .ok (.newarray .int, 2) := by decide +kernel
theorem dX2_init_8 : decode cX2_init 8 = .ok (.putfield 9, 3) := by decide +kernel
theorem dX2_init_11 : decode cX2_init 11 = .ok (.aload_n 0, 1) := by decide +kernel
theorem dX2_init_12 : decode cX2_init 12 = .ok (.getfield 9, 3) := by decide +kernel
theorem dX2_init_15 : decode cX2_init 15 = .ok (.iconst 0, 1) := by decide +kernel
theorem dX2_init_16 : decode cX2_init 16 = .ok (.bipush 20, 2) := by decide +kernel
theorem dX2_init_18 : decode cX2_init 18 = .ok (.iastore, 1) := by decide +kernel
theorem dX2_init_19 : decode cX2_init 19 = .ok (.aload_n 0, 1) := by decide +kernel
theorem dX2_init_20 : decode cX2_init 20 = .ok (.getfield 9, 3) := by decide +kernel
theorem dX2_init_23 : decode cX2_init 23 = .ok (.iconst 1, 1) := by decide +kernel
theorem dX2_init_24 : decode cX2_init 24 = .ok (.bipush 30, 2) := by decide +kernel
theorem dX2_init_26 : decode cX2_init 26 = .ok (.iastore, 1) := by decide +kernel
theorem dX2_init_27 : decode cX2_init 27 = .ok (.aload_n 0, 1) := by decide +kernel
theorem dX2_init_28 : decode cX2_init 28 = .ok (.iconst 5, 1) := by decide +kernel
theorem dX2_init_29 : decode cX2_init 29 = .ok (.anewarray 15, 3) := by decide +kernel
theorem dX2_init_32 : decode cX2_init 32 = .ok (.putfield 17, 3) := by decide +kernel
theorem dX2_init_35 : decode cX2_init 35 = .ok (.iconst 0, 1) := by decide +kernel
theorem dX2_init_36 : decode cX2_init 36 = .ok (.istore_n 1, 1) := by decide +kernel
theorem dX2_init_37 : decode cX2_init 37 = .ok (.iload_n 1, 1) := by decide +kernel
theorem dX2_init_38 : decode cX2_init 38 = .ok (.iconst 5, 1) := by decide +kernel
theorem dX2_init_39 : decode cX2_init 39 = .ok (.if_icmp .ge 22, 3) := by decide +kernel
theorem dX2_init_42 : decode cX2_init 42 = .ok (.aload_n 0, 1) := by decide +kernel
theorem dX2_init_43 : decode cX2_init 43 = .ok (.getfield 17, 3) := by decide +kernel
theorem dX2_init_46 : decode cX2_init 46 = .ok (.iload_n 1, 1) := by decide +kernel
theorem dX2_init_47 : decode cX2_init 47 = .ok (.new 15, 3) := by decide +kernel
theorem dX2_init_50 : decode cX2_init 50 = .ok (.dup, 1) := by decide +kernel
theorem dX2_init_51 : decode cX2_init 51 = .ok (.invokespecial 21, 3) := by decide +kernel
theorem dX2_init_54 : decode cX2_init 54 = .ok (.aastore, 1) := by decide +kernel
theorem dX2_init_55 : decode cX2_init 55 = .ok (.iinc 1 1, 3) := by decide +kernel
theorem dX2_init_58 : decode cX2_init 58 = .ok (.goto (-21), 3) := by decide +kernel
theorem dX2_init_61 : decode cX2_init 61 = .ok (.return_, 1) := by decide +kernel
theorem dX2_copyFrom_0 : decode cX2_copyFrom 0 = .ok (.aload_n 1, 1) := by decide +kernel
theorem dX2_copyFrom_1 : decode cX2_copyFrom 1 = .ok (.getfield 9, 3) := by decide +kernel
theorem dX2_copyFrom_4 : decode cX2_copyFrom 4 = .ok (.iconst 0, 1) := by decide +kernel
theorem dX2_copyFrom_5 : decode cX2_copyFrom 5 = .ok (.aload_n 0, 1) := by decide +kernel
theorem dX2_copyFrom_6 : decode cX2_copyFrom 6 = .ok (.getfield 9, 3) := by decide +kernel
theorem dX2_copyFrom_9 : decode cX2_copyFrom 9 = .ok (.iconst 0, 1) := by decide +kernel
theorem dX2_copyFrom_10 : decode cX2_copyFrom 10 = .ok (.iconst 2, 1) := by decide +kernel
theorem dX2_copyFrom_11 : decode cX2_copyFrom 11 = .ok (.invokestatic 22, 3) := by decide +kernel
theorem dX2_copyFrom_14 : decode cX2_copyFrom 14 = .ok (.aload_n 0, 1) := by decide +kernel
theorem dX2_copyFrom_15 : decode cX2_copyFrom 15 = .ok (.aload_n 1, 1) := by decide +kernel
theorem dX2_copyFrom_16 : decode cX2_copyFrom 16 = .ok (.getfield 28, 3) := by decide +kernel
theorem dX2_copyFrom_19 : decode cX2_copyFrom 19 = .ok (.putfield 28, 3) := by decide +kernel
theorem dX2_copyFrom_22 : decode cX2_copyFrom 22 = .ok (.aload_n 0, 1) := by decide +kernel
theorem dX2_copyFrom_23 : decode cX2_copyFrom 23 = .ok (.aload_n 1, 1) := by decide +kernel
theorem dX2_copyFrom_24 : decode cX2_copyFrom 24 = .ok (.getfield 32, 3) := by decide +kernel
theorem dX2_copyFrom_27 : decode cX2_copyFrom 27 = .ok (.putfield 32, 3) := by decide +kernel
theorem dX2_copyFrom_30 : decode cX2_copyFrom 30 = .ok (.aload_n 0, 1) := by decide +kernel
theorem dX2_copyFrom_31 : decode cX2_copyFrom 31 = .ok (.aload_n 1, 1) := by decide +kernel
theorem dX2_copyFrom_32 : decode cX2_copyFrom 32 = .ok (.getfield 35, 3) := by decide +kernel
theorem dX2_copyFrom_35 : decode cX2_copyFrom 35 = .ok (.putfield 35, 3) := by decide +kernel
theorem dX2_copyFrom_38 : decode cX2_copyFrom 38 = .ok (.iconst 0, 1) := by decide +kernel
theorem dX2_copyFrom_39 : decode cX2_copyFrom 39 = .ok (.istore_n 2, 1) := by decide +kernel
theorem dX2_copyFrom_40 : decode cX2_copyFrom 40 = .ok (.iload_n 2, 1) := by decide +kernel
theorem dX2_copyFrom_41 : decode cX2_copyFrom 41 = .ok (.aload_n 0, 1) := by decide +kernel
theorem dX2_copyFrom_42 : decode cX2_copyFrom 42 = .ok (.getfield 28, 3) := by decide +kernel
theorem dX2_copyFrom_45 : decode cX2_copyFrom 45 = .ok (.if_icmp .ge 24, 3) := by decide +kernel
theorem dX2_copyFrom_48 : decode cX2_copyFrom 48 = .ok (.aload_n 0, 1) := by decide +kernel
theorem dX2_copyFrom_49 : decode cX2_copyFrom 49 = .ok (.getfield 17, 3) := by decide +kernel
theorem dX2_copyFrom_52 : decode cX2_copyFrom 52 = .ok (.iload_n 2, 1) := by decide +kernel
theorem dX2_copyFrom_53 : decode cX2_copyFrom 53 = .ok (.aaload, 1) := by decide +kernel
theorem dX2_copyFrom_54 : decode cX2_copyFrom 54 = .ok (.aload_n 1, 1) := by decide +kernel
theorem dX2_copyFrom_55 : decode cX2_copyFrom 55 = .ok (.getfield 17, 3) := by decide +kernel
theorem dX2_copyFrom_58 : decode cX2_copyFrom 58 = .ok (.iload_n 2, 1) := by decide +kernel
theorem dX2_copyFrom_59 : decode cX2_copyFrom 59 = .ok (.aaload, 1) := by decide +kernel
theorem dX2_copyFrom_60 : decode cX2_copyFrom 60 = .ok (.invokevirtual 38, 3) := by decide +kernel
theorem dX2_copyFrom_63 : decode cX2_copyFrom 63 = .ok (.iinc 2 1, 3) := by decide +kernel
theorem dX2_copyFrom_66 : decode cX2_copyFrom 66 = .ok (.goto (-26), 3) := by decide +kernel
theorem dX2_copyFrom_69 : decode cX2_copyFrom 69 = .ok (.return_, 1) := by decide +kernel
theorem dX2_hikes_0 : decode cX2_hikes 0 = .ok (.iconst 0, 1) := by decide +kernel
theorem dX2_hikes_1 : decode cX2_hikes 1 = .ok (.istore_n 1, 1) := by decide +kernel
theorem dX2_hikes_2 : decode cX2_hikes 2 = .ok (.iconst 0, 1) := by decide +kernel
theorem dX2_hikes_3 : decode cX2_hikes 3 = .ok (.istore_n 2, 1) := by decide +kernel
theorem dX2_hikes_4 : decode cX2_hikes 4 = .ok (.iload_n 2, 1) := by decide +kernel
theorem dX2_hikes_5 : decode cX2_hikes 5 = .ok (.aload_n 0, 1) := by decide +kernel
theorem dX2_hikes_6 : decode cX2_hikes 6 = .ok (.getfield 28, 3) := by decide +kernel
theorem dX2_hikes_9 : decode cX2_hikes 9 = .ok (.if_icmp .ge 21, 3) := by decide +kernel
theorem dX2_hikes_12 : decode cX2_hikes 12 = .ok (.iload_n 1, 1) := by decide +kernel
theorem dX2_hikes_13 : decode cX2_hikes 13 = .ok (.aload_n 0, 1) := by decide +kernel
theorem dX2_hikes_14 : decode cX2_hikes 14 = .ok (.getfield 17, 3) := by decide +kernel
theorem dX2_hikes_17 : decode cX2_hikes 17 = .ok (.iload_n 2, 1) := by decide +kernel
theorem dX2_hikes_18 : decode cX2_hikes 18 = .ok (.aaload, 1) := by decide +kernel
theorem dX2_hikes_19 : decode cX2_hikes 19 = .ok (.getfield 42, 3) := by decide +kernel
theorem dX2_hikes_22 : decode cX2_hikes 22 = .ok (.iadd, 1) := by decide +kernel
theorem dX2_hikes_23 : decode cX2_hikes 23 = .ok (.istore_n 1, 1) := by decide +kernel
theorem dX2_hikes_24 : decode cX2_hikes 24 = .ok (.iinc 2 1, 3) := by decide +kernel
theorem dX2_hikes_27 : decode cX2_hikes 27 = .ok (.goto (-23), 3) := by decide +kernel
theorem dX2_hikes_30 : decode cX2_hikes 30 = .ok (.iload_n 1, 1) := by decide +kernel
theorem dX2_hikes_31 : decode cX2_hikes 31 = .ok (.ireturn, 1) := by decide +kernel
theorem dX2_scoutsOnHikes_0 : decode cX2_scoutsOnHikes 0 = .ok (.iconst 0, 1) := by decide +kernel
theorem dX2_scoutsOnHikes_1 : decode cX2_scoutsOnHikes 1 = .ok (.istore_n 1, 1) := by decide +kernel
theorem dX2_scoutsOnHikes_2 : decode cX2_scoutsOnHikes 2 = .ok (.iconst 0, 1) := by decide +kernel
theorem dX2_scoutsOnHikes_3 : decode cX2_scoutsOnHikes 3 = .ok (.istore_n 2, 1) := by decide +kernel
theorem dX2_scoutsOnHikes_4 : decode cX2_scoutsOnHikes 4 = .ok (.iload_n 2, 1) := by decide +kernel
theorem dX2_scoutsOnHikes_5 : decode cX2_scoutsOnHikes 5 = .ok (.aload_n 0, 1) := by decide +kernel
theorem dX2_scoutsOnHikes_6 : decode cX2_scoutsOnHikes 6 = .ok (.getfield 28, 3) := by decide +kernel
theorem dX2_scoutsOnHikes_9 : decode cX2_scoutsOnHikes 9 = .ok (.if_icmp .ge 24, 3) := by decide +kernel
theorem dX2_scoutsOnHikes_12 : decode cX2_scoutsOnHikes 12 = .ok (.iload_n 1, 1) := by decide +kernel
theorem dX2_scoutsOnHikes_13 : decode cX2_scoutsOnHikes 13 = .ok (.aload_n 0, 1) := by decide +kernel
theorem dX2_scoutsOnHikes_14 : decode cX2_scoutsOnHikes 14 = .ok (.getfield 17, 3) := by decide +kernel
theorem dX2_scoutsOnHikes_17 : decode cX2_scoutsOnHikes 17 = .ok (.iload_n 2, 1) := by decide +kernel
theorem dX2_scoutsOnHikes_18 : decode cX2_scoutsOnHikes 18 = .ok (.aaload, 1) := by decide +kernel
theorem dX2_scoutsOnHikes_19 : decode cX2_scoutsOnHikes 19 = .ok (.getfield 45, 3) := by decide +kernel
theorem dX2_scoutsOnHikes_22 : decode cX2_scoutsOnHikes 22 = .ok (.invokestatic 48, 3) := by decide +kernel
theorem dX2_scoutsOnHikes_25 : decode cX2_scoutsOnHikes 25 = .ok (.iadd, 1) := by decide +kernel
theorem dX2_scoutsOnHikes_26 : decode cX2_scoutsOnHikes 26 = .ok (.istore_n 1, 1) := by decide +kernel
theorem dX2_scoutsOnHikes_27 : decode cX2_scoutsOnHikes 27 = .ok (.iinc 2 1, 3) := by decide +kernel
theorem dX2_scoutsOnHikes_30 : decode cX2_scoutsOnHikes 30 = .ok (.goto (-26), 3) := by decide +kernel
theorem dX2_scoutsOnHikes_33 : decode cX2_scoutsOnHikes 33 = .ok (.iload_n 1, 1) := by decide +kernel
theorem dX2_scoutsOnHikes_34 : decode cX2_scoutsOnHikes 34 = .ok (.ireturn, 1) := by decide +kernel
theorem dX2_scoutsLost_0 : decode cX2_scoutsLost 0 = .ok (.iconst 0, 1) := by decide +kernel
theorem dX2_scoutsLost_1 : decode cX2_scoutsLost 1 = .ok (.istore_n 1, 1) := by decide +kernel
theorem dX2_scoutsLost_2 : decode cX2_scoutsLost 2 = .ok (.iconst 0, 1) := by decide +kernel
theorem dX2_scoutsLost_3 : decode cX2_scoutsLost 3 = .ok (.istore_n 2, 1) := by decide +kernel
theorem dX2_scoutsLost_4 : decode cX2_scoutsLost 4 = .ok (.iload_n 2, 1) := by decide +kernel
theorem dX2_scoutsLost_5 : decode cX2_scoutsLost 5 = .ok (.aload_n 0, 1) := by decide +kernel
theorem dX2_scoutsLost_6 : decode cX2_scoutsLost 6 = .ok (.getfield 28, 3) := by decide +kernel
theorem dX2_scoutsLost_9 : decode cX2_scoutsLost 9 = .ok (.if_icmp .ge 24, 3) := by decide +kernel
theorem dX2_scoutsLost_12 : decode cX2_scoutsLost 12 = .ok (.iload_n 1, 1) := by decide +kernel
theorem dX2_scoutsLost_13 : decode cX2_scoutsLost 13 = .ok (.aload_n 0, 1) := by decide +kernel
theorem dX2_scoutsLost_14 : decode cX2_scoutsLost 14 = .ok (.getfield 17, 3) := by decide +kernel
theorem dX2_scoutsLost_17 : decode cX2_scoutsLost 17 = .ok (.iload_n 2, 1) := by decide +kernel
theorem dX2_scoutsLost_18 : decode cX2_scoutsLost 18 = .ok (.aaload, 1) := by decide +kernel
theorem dX2_scoutsLost_19 : decode cX2_scoutsLost 19 = .ok (.getfield 54, 3) := by decide +kernel
theorem dX2_scoutsLost_22 : decode cX2_scoutsLost 22 = .ok (.invokestatic 48, 3) := by decide +kernel
theorem dX2_scoutsLost_25 : decode cX2_scoutsLost 25 = .ok (.iadd, 1) := by decide +kernel
theorem dX2_scoutsLost_26 : decode cX2_scoutsLost 26 = .ok (.istore_n 1, 1) := by decide +kernel
theorem dX2_scoutsLost_27 : decode cX2_scoutsLost 27 = .ok (.iinc 2 1, 3) := by decide +kernel
theorem dX2_scoutsLost_30 : decode cX2_scoutsLost 30 = .ok (.goto (-26), 3) := by decide +kernel
theorem dX2_scoutsLost_33 : decode cX2_scoutsLost 33 = .ok (.iload_n 1, 1) := by decide +kernel
theorem dX2_scoutsLost_34 : decode cX2_scoutsLost 34 = .ok (.ireturn, 1) := by decide +kernel
theorem dX3_init_0 : decode cX3_init 0 = .ok (.aload_n 0, 1) := by decide +kernel
theorem dX3_init_1 : decode cX3_init 1 = .ok (.invokespecial 3, 3) := by decide +kernel
theorem dX3_init_4 : decode cX3_init 4 = .ok (.aload_n 0, 1) := by decide +kernel
theorem dX3_init_5 : decode cX3_init 5 = .ok (.bipush 16, 2) := by decide +kernel
theorem dX3_init_7 : decode cX3_init 7 = .ok (.newarray .int, 2) := by decide +kernel
theorem dX3_init_9 : decode cX3_init 9 = .ok (.putfield 9, 3) := by decide +kernel
theorem dX3_init_12 : decode cX3_init 12 = .ok (.aload_n 0, 1) := by decide +kernel
theorem dX3_init_13 : decode cX3_init 13 = .ok (.bipush 16, 2) := by decide +kernel
theorem dX3_init_15 : decode cX3_init 15 = .ok (.newarray .int, 2) := by decide +kernel
theorem dX3_init_17 : decode cX3_init 17 = .ok (.putfield 15, 3) := by decide +kernel
theorem dX3_init_20 : decode cX3_init 20 = .ok (.return_, 1) := by decide +kernel
theorem dX3_begin_0 : decode cX3_begin 0 = .ok (.aload_n 0, 1) := by decide +kernel
theorem dX3_begin_1 : decode cX3_begin 1 = .ok (.iload_n 1, 1) := by decide +kernel
theorem dX3_begin_2 : decode cX3_begin 2 = .ok (.putfield 18, 3) := by decide +kernel
theorem dX3_begin_5 : decode cX3_begin 5 = .ok (.aload_n 0, 1) := by decide +kernel
theorem dX3_begin_6 : decode cX3_begin 6 = .ok (.iload_n 1, 1) := by decide +kernel
theorem dX3_begin_7 : decode cX3_begin 7 = .ok (.putfield 22, 3) := by decide +kernel
theorem dX3_begin_10 : decode cX3_begin 10 = .ok (.aload_n 0, 1) := by decide +kernel
theorem dX3_begin_11 : decode cX3_begin 11 = .ok (.iconst 0, 1) := by decide +kernel
theorem dX3_begin_12 : decode cX3_begin 12 = .ok (.putfield 25, 3) := by decide +kernel
theorem dX3_begin_15 : decode cX3_begin 15 = .ok (.aload_n 0, 1) := by decide +kernel
theorem dX3_begin_16 : decode cX3_begin 16 = .ok (.iconst 0, 1) := by decide +kernel
theorem dX3_begin_17 : decode cX3_begin 17 = .ok (.putfield 28, 3) := by decide +kernel
theorem dX3_begin_20 : decode cX3_begin 20 = .ok (.aload_n 0, 1) := by decide +kernel
theorem dX3_begin_21 : decode cX3_begin 21 = .ok (.iconst 0, 1) := by decide +kernel
theorem dX3_begin_22 : decode cX3_begin 22 = .ok (.putfield 31, 3) := by decide +kernel
theorem dX3_begin_25 : decode cX3_begin 25 = .ok (.aload_n 0, 1) := by decide +kernel
theorem dX3_begin_26 : decode cX3_begin 26 = .ok (.iconst 0, 1) := by decide +kernel
theorem dX3_begin_27 : decode cX3_begin 27 = .ok (.putfield 34, 3) := by decide +kernel
theorem dX3_begin_30 : decode cX3_begin 30 = .ok (.aload_n 0, 1) := by decide +kernel
theorem dX3_begin_31 : decode cX3_begin 31 = .ok (.iconst 0, 1) := by decide +kernel
theorem dX3_begin_32 : decode cX3_begin 32 = .ok (.putfield 37, 3) := by decide +kernel
theorem dX3_begin_35 : decode cX3_begin 35 = .ok (.aload_n 0, 1) := by decide +kernel
theorem dX3_begin_36 : decode cX3_begin 36 = .ok (.iconst 0, 1) := by decide +kernel
theorem dX3_begin_37 : decode cX3_begin 37 = .ok (.putfield 40, 3) := by decide +kernel
theorem dX3_begin_40 : decode cX3_begin 40 = .ok (.aload_n 0, 1) := by decide +kernel
theorem dX3_begin_41 : decode cX3_begin 41 = .ok (.iconst 0, 1) := by decide +kernel
theorem dX3_begin_42 : decode cX3_begin 42 = .ok (.putfield 43, 3) := by decide +kernel
theorem dX3_begin_45 : decode cX3_begin 45 = .ok (.aload_n 0, 1) := by decide +kernel
theorem dX3_begin_46 : decode cX3_begin 46 = .ok (.iconst 0, 1) := by decide +kernel
theorem dX3_begin_47 : decode cX3_begin 47 = .ok (.putfield 46, 3) := by decide +kernel
theorem dX3_begin_50 : decode cX3_begin 50 = .ok (.iconst 0, 1) := by decide +kernel
theorem dX3_begin_51 : decode cX3_begin 51 = .ok (.istore_n 2, 1) := by decide +kernel
theorem dX3_begin_52 : decode cX3_begin 52 = .ok (.iload_n 2, 1) := by decide +kernel
theorem dX3_begin_53 : decode cX3_begin 53 = .ok (.bipush 16, 2) := by decide +kernel
theorem dX3_begin_55 : decode cX3_begin 55 = .ok (.if_icmp .ge 23, 3) := by decide +kernel
theorem dX3_begin_58 : decode cX3_begin 58 = .ok (.aload_n 0, 1) := by decide +kernel
theorem dX3_begin_59 : decode cX3_begin 59 = .ok (.getfield 9, 3) := by decide +kernel
theorem dX3_begin_62 : decode cX3_begin 62 = .ok (.iload_n 2, 1) := by decide +kernel
theorem dX3_begin_63 : decode cX3_begin 63 = .ok (.iconst 0, 1) := by decide +kernel
theorem dX3_begin_64 : decode cX3_begin 64 = .ok (.iastore, 1) := by decide +kernel
theorem dX3_begin_65 : decode cX3_begin 65 = .ok (.aload_n 0, 1) := by decide +kernel
theorem dX3_begin_66 : decode cX3_begin 66 = .ok (.getfield 15, 3) := by decide +kernel
theorem dX3_begin_69 : decode cX3_begin 69 = .ok (.iload_n 2, 1) := by decide +kernel
theorem dX3_begin_70 : decode cX3_begin 70 = .ok (.iconst 0, 1) := by decide +kernel
theorem dX3_begin_71 : decode cX3_begin 71 = .ok (.iastore, 1) := by decide +kernel
theorem dX3_begin_72 : decode cX3_begin 72 = .ok (.iinc 2 1, 3) := by decide +kernel
theorem dX3_begin_75 : decode cX3_begin 75 = .ok (.goto (-23), 3) := by decide +kernel
theorem dX3_begin_78 : decode cX3_begin 78 = .ok (.return_, 1) := by decide +kernel
theorem dX3_copyFrom_0 : decode cX3_copyFrom 0 = .ok (.aload_n 0, 1) := by decide +kernel
theorem dX3_copyFrom_1 : decode cX3_copyFrom 1 = .ok (.aload_n 1, 1) := by decide +kernel
theorem dX3_copyFrom_2 : decode cX3_copyFrom 2 = .ok (.getfield 18, 3) := by decide +kernel
theorem dX3_copyFrom_5 : decode cX3_copyFrom 5 = .ok (.putfield 18, 3) := by decide +kernel
theorem dX3_copyFrom_8 : decode cX3_copyFrom 8 = .ok (.aload_n 0, 1) := by decide +kernel
theorem dX3_copyFrom_9 : decode cX3_copyFrom 9 = .ok (.aload_n 1, 1) := by decide +kernel
theorem dX3_copyFrom_10 : decode cX3_copyFrom 10 = .ok (.getfield 22, 3) := by decide +kernel
theorem dX3_copyFrom_13 : decode cX3_copyFrom 13 = .ok (.putfield 22, 3) := by decide +kernel
theorem dX3_copyFrom_16 : decode cX3_copyFrom 16 = .ok (.aload_n 0, 1) := by decide +kernel
theorem dX3_copyFrom_17 : decode cX3_copyFrom 17 = .ok (.aload_n 1, 1) := by decide +kernel
theorem dX3_copyFrom_18 : decode cX3_copyFrom 18 = .ok (.getfield 25, 3) := by decide +kernel
theorem dX3_copyFrom_21 : decode cX3_copyFrom 21 = .ok (.putfield 25, 3) := by decide +kernel
theorem dX3_copyFrom_24 : decode cX3_copyFrom 24 = .ok (.aload_n 0, 1) := by decide +kernel
theorem dX3_copyFrom_25 : decode cX3_copyFrom 25 = .ok (.aload_n 1, 1) := by decide +kernel
theorem dX3_copyFrom_26 : decode cX3_copyFrom 26 = .ok (.getfield 28, 3) := by decide +kernel
theorem dX3_copyFrom_29 : decode cX3_copyFrom 29 = .ok (.putfield 28, 3) := by decide +kernel
theorem dX3_copyFrom_32 : decode cX3_copyFrom 32 = .ok (.aload_n 0, 1) := by decide +kernel
theorem dX3_copyFrom_33 : decode cX3_copyFrom 33 = .ok (.aload_n 1, 1) := by decide +kernel
theorem dX3_copyFrom_34 : decode cX3_copyFrom 34 = .ok (.getfield 31, 3) := by decide +kernel
theorem dX3_copyFrom_37 : decode cX3_copyFrom 37 = .ok (.putfield 31, 3) := by decide +kernel
theorem dX3_copyFrom_40 : decode cX3_copyFrom 40 = .ok (.aload_n 0, 1) := by decide +kernel
theorem dX3_copyFrom_41 : decode cX3_copyFrom 41 = .ok (.aload_n 1, 1) := by decide +kernel
theorem dX3_copyFrom_42 : decode cX3_copyFrom 42 = .ok (.getfield 34, 3) := by decide +kernel
theorem dX3_copyFrom_45 : decode cX3_copyFrom 45 = .ok (.putfield 34, 3) := by decide +kernel
theorem dX3_copyFrom_48 : decode cX3_copyFrom 48 = .ok (.aload_n 0, 1) := by decide +kernel
theorem dX3_copyFrom_49 : decode cX3_copyFrom 49 = .ok (.aload_n 1, 1) := by decide +kernel
theorem dX3_copyFrom_50 : decode cX3_copyFrom 50 = .ok (.getfield 37, 3) := by decide +kernel
theorem dX3_copyFrom_53 : decode cX3_copyFrom 53 = .ok (.putfield 37, 3) := by decide +kernel
theorem dX3_copyFrom_56 : decode cX3_copyFrom 56 = .ok (.aload_n 0, 1) := by decide +kernel
theorem dX3_copyFrom_57 : decode cX3_copyFrom 57 = .ok (.aload_n 1, 1) := by decide +kernel
theorem dX3_copyFrom_58 : decode cX3_copyFrom 58 = .ok (.getfield 40, 3) := by decide +kernel
theorem dX3_copyFrom_61 : decode cX3_copyFrom 61 = .ok (.putfield 40, 3) := by decide +kernel
theorem dX3_copyFrom_64 : decode cX3_copyFrom 64 = .ok (.aload_n 0, 1) := by decide +kernel
theorem dX3_copyFrom_65 : decode cX3_copyFrom 65 = .ok (.aload_n 1, 1) := by decide +kernel
theorem dX3_copyFrom_66 : decode cX3_copyFrom 66 = .ok (.getfield 43, 3) := by decide +kernel
theorem dX3_copyFrom_69 : decode cX3_copyFrom 69 = .ok (.putfield 43, 3) := by decide +kernel
theorem dX3_copyFrom_72 : decode cX3_copyFrom 72 = .ok (.aload_n 0, 1) := by decide +kernel
theorem dX3_copyFrom_73 : decode cX3_copyFrom 73 = .ok (.aload_n 1, 1) := by decide +kernel
theorem dX3_copyFrom_74 : decode cX3_copyFrom 74 = .ok (.getfield 46, 3) := by decide +kernel
theorem dX3_copyFrom_77 : decode cX3_copyFrom 77 = .ok (.putfield 46, 3) := by decide +kernel
theorem dX3_copyFrom_80 : decode cX3_copyFrom 80 = .ok (.aload_n 1, 1) := by decide +kernel
theorem dX3_copyFrom_81 : decode cX3_copyFrom 81 = .ok (.getfield 9, 3) := by decide +kernel
theorem dX3_copyFrom_84 : decode cX3_copyFrom 84 = .ok (.iconst 0, 1) := by decide +kernel
theorem dX3_copyFrom_85 : decode cX3_copyFrom 85 = .ok (.aload_n 0, 1) := by decide +kernel
theorem dX3_copyFrom_86 : decode cX3_copyFrom 86 = .ok (.getfield 9, 3) := by decide +kernel
theorem dX3_copyFrom_89 : decode cX3_copyFrom 89 = .ok (.iconst 0, 1) := by decide +kernel
theorem dX3_copyFrom_90 : decode cX3_copyFrom 90 = .ok (.bipush 16, 2) := by decide +kernel
theorem dX3_copyFrom_92 : decode cX3_copyFrom 92 = .ok (.invokestatic 49, 3) := by decide +kernel
theorem dX3_copyFrom_95 : decode cX3_copyFrom 95 = .ok (.aload_n 1, 1) := by decide +kernel
theorem dX3_copyFrom_96 : decode cX3_copyFrom 96 = .ok (.getfield 15, 3) := by decide +kernel
theorem dX3_copyFrom_99 : decode cX3_copyFrom 99 = .ok (.iconst 0, 1) := by decide +kernel
theorem dX3_copyFrom_100 : decode cX3_copyFrom 100 = .ok (.aload_n 0, 1) := by decide +kernel
theorem dX3_copyFrom_101 : decode cX3_copyFrom 101 = .ok (.getfield 15, 3) := by decide +kernel
theorem dX3_copyFrom_104 : decode cX3_copyFrom 104 = .ok (.iconst 0, 1) := by decide +kernel
theorem dX3_copyFrom_105 : decode cX3_copyFrom 105 = .ok (.bipush 16, 2) := by decide +kernel
theorem dX3_copyFrom_107 : decode cX3_copyFrom 107 = .ok (.invokestatic 49, 3) := by decide +kernel
theorem dX3_copyFrom_110 : decode cX3_copyFrom 110 = .ok (.return_, 1) := by decide +kernel
theorem dX3_hasScout_0 : decode cX3_hasScout 0 = .ok (.iload_n 1, 1) := by decide +kernel
theorem dX3_hasScout_1 : decode cX3_hasScout 1 = .ok (.ifCond .lt 15, 3) := by decide +kernel
theorem dX3_hasScout_4 : decode cX3_hasScout 4 = .ok (.iload_n 1, 1) := by decide +kernel
theorem dX3_hasScout_5 : decode cX3_hasScout 5 = .ok (.aload_n 0, 1) := by decide +kernel
theorem dX3_hasScout_6 : decode cX3_hasScout 6 = .ok (.getfield 18, 3) := by decide +kernel
theorem dX3_hasScout_9 : decode cX3_hasScout 9 = .ok (.if_icmp .ge 7, 3) := by decide +kernel
theorem dX3_hasScout_12 : decode cX3_hasScout 12 = .ok (.iconst 1, 1) := by decide +kernel
theorem dX3_hasScout_13 : decode cX3_hasScout 13 = .ok (.goto 4, 3) := by decide +kernel
theorem dX3_hasScout_16 : decode cX3_hasScout 16 = .ok (.iconst 0, 1) := by decide +kernel
theorem dX3_hasScout_17 : decode cX3_hasScout 17 = .ok (.ireturn, 1) := by decide +kernel
theorem dX3_knows_0 : decode cX3_knows 0 = .ok (.aload_n 0, 1) := by decide +kernel
theorem dX3_knows_1 : decode cX3_knows 1 = .ok (.iload_n 1, 1) := by decide +kernel
theorem dX3_knows_2 : decode cX3_knows 2 = .ok (.invokevirtual 55, 3) := by decide +kernel
theorem dX3_knows_5 : decode cX3_knows 5 = .ok (.ifCond .ne 24, 3) := by decide +kernel
theorem dX3_knows_8 : decode cX3_knows 8 = .ok (.iload_n 1, 1) := by decide +kernel
theorem dX3_knows_9 : decode cX3_knows 9 = .ok (.ifCond .lt 24, 3) := by decide +kernel
theorem dX3_knows_12 : decode cX3_knows 12 = .ok (.iload_n 1, 1) := by decide +kernel
theorem dX3_knows_13 : decode cX3_knows 13 = .ok (.bipush 16, 2) := by decide +kernel
theorem dX3_knows_15 : decode cX3_knows 15 = .ok (.if_icmp .ge 18, 3) := by decide +kernel
theorem dX3_knows_18 : decode cX3_knows 18 = .ok (.aload_n 0, 1) := by decide +kernel
theorem dX3_knows_19 : decode cX3_knows 19 = .ok (.getfield 34, 3) := by decide +kernel
theorem dX3_knows_22 : decode cX3_knows 22 = .ok (.iload_n 1, 1) := by decide +kernel
theorem dX3_knows_23 : decode cX3_knows 23 = .ok (.invokestatic 59, 3) := by decide +kernel
theorem dX3_knows_26 : decode cX3_knows 26 = .ok (.ifCond .eq 7, 3) := by decide +kernel
theorem dX3_knows_29 : decode cX3_knows 29 = .ok (.iconst 1, 1) := by decide +kernel
theorem dX3_knows_30 : decode cX3_knows 30 = .ok (.goto 4, 3) := by decide +kernel
theorem dX3_knows_33 : decode cX3_knows 33 = .ok (.iconst 0, 1) := by decide +kernel
theorem dX3_knows_34 : decode cX3_knows 34 = .ok (.ireturn, 1) := by decide +kernel
theorem dX3_howIs_0 : decode cX3_howIs 0 = .ok (.aload_n 0, 1) := by decide +kernel
theorem dX3_howIs_1 : decode cX3_howIs 1 = .ok (.getfield 28, 3) := by decide +kernel
theorem dX3_howIs_4 : decode cX3_howIs 4 = .ok (.iload_n 1, 1) := by decide +kernel
theorem dX3_howIs_5 : decode cX3_howIs 5 = .ok (.invokestatic 59, 3) := by decide +kernel
theorem dX3_howIs_8 : decode cX3_howIs 8 = .ok (.ifCond .eq 5, 3) := by decide +kernel
theorem dX3_howIs_11 : decode cX3_howIs 11 = .ok (.iconst 1, 1) := by decide +kernel
theorem dX3_howIs_12 : decode cX3_howIs 12 = .ok (.ireturn, 1) := by decide +kernel
theorem dX3_howIs_13 : decode cX3_howIs 13 = .ok (.aload_n 0, 1) := by decide +kernel
theorem dX3_howIs_14 : decode cX3_howIs 14 = .ok (.getfield 31, 3) := by decide +kernel
theorem dX3_howIs_17 : decode cX3_howIs 17 = .ok (.iload_n 1, 1) := by decide +kernel
theorem dX3_howIs_18 : decode cX3_howIs 18 = .ok (.invokestatic 59, 3) := by decide +kernel
theorem dX3_howIs_21 : decode cX3_howIs 21 = .ok (.ifCond .eq 5, 3) := by decide +kernel
theorem dX3_howIs_24 : decode cX3_howIs 24 = .ok (.iconst 2, 1) := by decide +kernel
theorem dX3_howIs_25 : decode cX3_howIs 25 = .ok (.ireturn, 1) := by decide +kernel
theorem dX3_howIs_26 : decode cX3_howIs 26 = .ok (.aload_n 0, 1) := by decide +kernel
theorem dX3_howIs_27 : decode cX3_howIs 27 = .ok (.getfield 34, 3) := by decide +kernel
theorem dX3_howIs_30 : decode cX3_howIs 30 = .ok (.iload_n 1, 1) := by decide +kernel
theorem dX3_howIs_31 : decode cX3_howIs 31 = .ok (.invokestatic 59, 3) := by decide +kernel
theorem dX3_howIs_34 : decode cX3_howIs 34 = .ok (.ifCond .eq 5, 3) := by decide +kernel
theorem dX3_howIs_37 : decode cX3_howIs 37 = .ok (.iconst 3, 1) := by decide +kernel
theorem dX3_howIs_38 : decode cX3_howIs 38 = .ok (.ireturn, 1) := by decide +kernel
theorem dX3_howIs_39 : decode cX3_howIs 39 = .ok (.aload_n 0, 1) := by decide +kernel
theorem dX3_howIs_40 : decode cX3_howIs 40 = .ok (.getfield 37, 3) := by decide +kernel
theorem dX3_howIs_43 : decode cX3_howIs 43 = .ok (.iload_n 1, 1) := by decide +kernel
theorem dX3_howIs_44 : decode cX3_howIs 44 = .ok (.invokestatic 59, 3) := by decide +kernel
theorem dX3_howIs_47 : decode cX3_howIs 47 = .ok (.ifCond .eq 7, 3) := by decide +kernel
theorem dX3_howIs_50 : decode cX3_howIs 50 = .ok (.iconst 4, 1) := by decide +kernel
theorem dX3_howIs_51 : decode cX3_howIs 51 = .ok (.goto 4, 3) := by decide +kernel
theorem dX3_howIs_54 : decode cX3_howIs 54 = .ok (.iconst 0, 1) := by decide +kernel
theorem dX3_howIs_55 : decode cX3_howIs 55 = .ok (.ireturn, 1) := by decide +kernel
theorem dX3_everyone_0 : decode cX3_everyone 0 = .ok (.iconst 1, 1) := by decide +kernel
theorem dX3_everyone_1 : decode cX3_everyone 1 = .ok (.aload_n 0, 1) := by decide +kernel
theorem dX3_everyone_2 : decode cX3_everyone 2 = .ok (.getfield 18, 3) := by decide +kernel
theorem dX3_everyone_5 : decode cX3_everyone 5 = .ok (.ishl, 1) := by decide +kernel
theorem dX3_everyone_6 : decode cX3_everyone 6 = .ok (.iconst 1, 1) := by decide +kernel
theorem dX3_everyone_7 : decode cX3_everyone 7 = .ok (.isub, 1) := by decide +kernel
theorem dX3_everyone_8 : decode cX3_everyone 8 = .ok (.ireturn, 1) := by decide +kernel
theorem dX3_atHome_0 : decode cX3_atHome 0 = .ok (.aload_n 0, 1) := by decide +kernel
theorem dX3_atHome_1 : decode cX3_atHome 1 = .ok (.invokevirtual 63, 3) := by decide +kernel
theorem dX3_atHome_4 : decode cX3_atHome 4 = .ok (.aload_n 0, 1) := by decide +kernel
theorem dX3_atHome_5 : decode cX3_atHome 5 = .ok (.getfield 28, 3) := by decide +kernel
theorem dX3_atHome_8 : decode cX3_atHome 8 = .ok (.aload_n 0, 1) := by decide +kernel
theorem dX3_atHome_9 : decode cX3_atHome 9 = .ok (.getfield 31, 3) := by decide +kernel
theorem dX3_atHome_12 : decode cX3_atHome 12 = .ok (.ior, 1) := by decide +kernel
theorem dX3_atHome_13 : decode cX3_atHome 13 = .ok (.aload_n 0, 1) := by decide +kernel
theorem dX3_atHome_14 : decode cX3_atHome 14 = .ok (.getfield 34, 3) := by decide +kernel
theorem dX3_atHome_17 : decode cX3_atHome 17 = .ok (.ior, 1) := by decide +kernel
theorem dX3_atHome_18 : decode cX3_atHome 18 = .ok (.aload_n 0, 1) := by decide +kernel
theorem dX3_atHome_19 : decode cX3_atHome 19 = .ok (.getfield 37, 3) := by decide +kernel
theorem dX3_atHome_22 : decode cX3_atHome 22 = .ok (.ior, 1) := by decide +kernel
theorem dX3_atHome_23 : decode cX3_atHome 23 = .ok (.iconst (-1), 1) := by decide +kernel
theorem dX3_atHome_24 : decode cX3_atHome 24 = .ok (.ixor, 1) := by decide +kernel
theorem dX3_atHome_25 : decode cX3_atHome 25 = .ok (.iand, 1) := by decide +kernel
theorem dX3_atHome_26 : decode cX3_atHome 26 = .ok (.ireturn, 1) := by decide +kernel
theorem dX3_waitedFor_0 : decode cX3_waitedFor 0 = .ok (.aload_n 0, 1) := by decide +kernel
theorem dX3_waitedFor_1 : decode cX3_waitedFor 1 = .ok (.invokevirtual 63, 3) := by decide +kernel
theorem dX3_waitedFor_4 : decode cX3_waitedFor 4 = .ok (.aload_n 0, 1) := by decide +kernel
theorem dX3_waitedFor_5 : decode cX3_waitedFor 5 = .ok (.getfield 28, 3) := by decide +kernel
theorem dX3_waitedFor_8 : decode cX3_waitedFor 8 = .ok (.aload_n 0, 1) := by decide +kernel
theorem dX3_waitedFor_9 : decode cX3_waitedFor 9 = .ok (.getfield 40, 3) := by decide +kernel
theorem dX3_waitedFor_12 : decode cX3_waitedFor 12 = .ok (.ior, 1) := by decide +kernel
theorem dX3_waitedFor_13 : decode cX3_waitedFor 13 = .ok (.iconst (-1), 1) := by decide +kernel
theorem dX3_waitedFor_14 : decode cX3_waitedFor 14 = .ok (.ixor, 1) := by decide +kernel
theorem dX3_waitedFor_15 : decode cX3_waitedFor 15 = .ok (.iand, 1) := by decide +kernel
theorem dX3_waitedFor_16 : decode cX3_waitedFor 16 = .ok (.ireturn, 1) := by decide +kernel
theorem dX3_countDown_0 : decode cX3_countDown 0 = .ok (.aload_n 0, 1) := by decide +kernel
theorem dX3_countDown_1 : decode cX3_countDown 1 = .ok (.invokevirtual 67, 3) := by decide +kernel
theorem dX3_countDown_4 : decode cX3_countDown 4 = .ok (.invokestatic 70, 3) := by decide +kernel
theorem dX3_countDown_7 : decode cX3_countDown 7 = .ok (.ireturn, 1) := by decide +kernel
theorem dX3_takeIn_0 : decode cX3_takeIn 0 = .ok (.aload_n 0, 1) := by decide +kernel
theorem dX3_takeIn_1 : decode cX3_takeIn 1 = .ok (.iload_n 1, 1) := by decide +kernel
theorem dX3_takeIn_2 : decode cX3_takeIn 2 = .ok (.invokevirtual 76, 3) := by decide +kernel
theorem dX3_takeIn_5 : decode cX3_takeIn 5 = .ok (.iload_n 2, 1) := by decide +kernel
theorem dX3_takeIn_6 : decode cX3_takeIn 6 = .ok (.aload_n 0, 1) := by decide +kernel
theorem dX3_takeIn_7 : decode cX3_takeIn 7 = .ok (.getfield 25, 3) := by decide +kernel
theorem dX3_takeIn_10 : decode cX3_takeIn 10 = .ok (.if_icmp .ne 18, 3) := by decide +kernel
theorem dX3_takeIn_13 : decode cX3_takeIn 13 = .ok (.aload_n 0, 1) := by decide +kernel
theorem dX3_takeIn_14 : decode cX3_takeIn 14 = .ok (.dup, 1) := by decide +kernel
theorem dX3_takeIn_15 : decode cX3_takeIn 15 = .ok (.getfield 28, 3) := by decide +kernel
theorem dX3_takeIn_18 : decode cX3_takeIn 18 = .ok (.iconst 1, 1) := by decide +kernel
theorem dX3_takeIn_19 : decode cX3_takeIn 19 = .ok (.iload_n 1, 1) := by decide +kernel
theorem dX3_takeIn_20 : decode cX3_takeIn 20 = .ok (.ishl, 1) := by decide +kernel
theorem dX3_takeIn_21 : decode cX3_takeIn 21 = .ok (.ior, 1) := by decide +kernel
theorem dX3_takeIn_22 : decode cX3_takeIn 22 = .ok (.putfield 28, 3) := by decide +kernel
theorem dX3_takeIn_25 : decode cX3_takeIn 25 = .ok (.goto 15, 3) := by decide +kernel
theorem dX3_takeIn_28 : decode cX3_takeIn 28 = .ok (.aload_n 0, 1) := by decide +kernel
theorem dX3_takeIn_29 : decode cX3_takeIn 29 = .ok (.dup, 1) := by decide +kernel
theorem dX3_takeIn_30 : decode cX3_takeIn 30 = .ok (.getfield 31, 3) := by decide +kernel
theorem dX3_takeIn_33 : decode cX3_takeIn 33 = .ok (.iconst 1, 1) := by decide +kernel
theorem dX3_takeIn_34 : decode cX3_takeIn 34 = .ok (.iload_n 1, 1) := by decide +kernel
theorem dX3_takeIn_35 : decode cX3_takeIn 35 = .ok (.ishl, 1) := by decide +kernel
theorem dX3_takeIn_36 : decode cX3_takeIn 36 = .ok (.ior, 1) := by decide +kernel
theorem dX3_takeIn_37 : decode cX3_takeIn 37 = .ok (.putfield 31, 3) := by decide +kernel
theorem dX3_takeIn_40 : decode cX3_takeIn 40 = .ok (.aload_n 0, 1) := by decide +kernel
theorem dX3_takeIn_41 : decode cX3_takeIn 41 = .ok (.iload_n 3, 1) := by decide +kernel
theorem dX3_takeIn_42 : decode cX3_takeIn 42 = .ok (.invokevirtual 80, 3) := by decide +kernel
theorem dX3_takeIn_45 : decode cX3_takeIn 45 = .ok (.ireturn, 1) := by decide +kernel
theorem dX3_bringHome_0 : decode cX3_bringHome 0 = .ok (.aload_n 0, 1) := by decide +kernel
theorem dX3_bringHome_1 : decode cX3_bringHome 1 = .ok (.dup, 1) := by decide +kernel
theorem dX3_bringHome_2 : decode cX3_bringHome 2 = .ok (.getfield 28, 3) := by decide +kernel
theorem dX3_bringHome_5 : decode cX3_bringHome 5 = .ok (.iconst 1, 1) := by decide +kernel
theorem dX3_bringHome_6 : decode cX3_bringHome 6 = .ok (.iload_n 1, 1) := by decide +kernel
theorem dX3_bringHome_7 : decode cX3_bringHome 7 = .ok (.ishl, 1) := by decide +kernel
theorem dX3_bringHome_8 : decode cX3_bringHome 8 = .ok (.iconst (-1), 1) := by decide +kernel
theorem dX3_bringHome_9 : decode cX3_bringHome 9 = .ok (.ixor, 1) := by decide +kernel
theorem dX3_bringHome_10 : decode cX3_bringHome 10 = .ok (.iand, 1) := by decide +kernel
theorem dX3_bringHome_11 : decode cX3_bringHome 11 = .ok (.putfield 28, 3) := by decide +kernel
theorem dX3_bringHome_14 : decode cX3_bringHome 14 = .ok (.aload_n 0, 1) := by decide +kernel
theorem dX3_bringHome_15 : decode cX3_bringHome 15 = .ok (.dup, 1) := by decide +kernel
theorem dX3_bringHome_16 : decode cX3_bringHome 16 = .ok (.getfield 31, 3) := by decide +kernel
theorem dX3_bringHome_19 : decode cX3_bringHome 19 = .ok (.iconst 1, 1) := by decide +kernel
theorem dX3_bringHome_20 : decode cX3_bringHome 20 = .ok (.iload_n 1, 1) := by decide +kernel
theorem dX3_bringHome_21 : decode cX3_bringHome 21 = .ok (.ishl, 1) := by decide +kernel
theorem dX3_bringHome_22 : decode cX3_bringHome 22 = .ok (.iconst (-1), 1) := by decide +kernel
theorem dX3_bringHome_23 : decode cX3_bringHome 23 = .ok (.ixor, 1) := by decide +kernel
theorem dX3_bringHome_24 : decode cX3_bringHome 24 = .ok (.iand, 1) := by decide +kernel
theorem dX3_bringHome_25 : decode cX3_bringHome 25 = .ok (.putfield 31, 3) := by decide +kernel
theorem dX3_bringHome_28 : decode cX3_bringHome 28 = .ok (.aload_n 0, 1) := by decide +kernel
theorem dX3_bringHome_29 : decode cX3_bringHome 29 = .ok (.dup, 1) := by decide +kernel
theorem dX3_bringHome_30 : decode cX3_bringHome 30 = .ok (.getfield 34, 3) := by decide +kernel
theorem dX3_bringHome_33 : decode cX3_bringHome 33 = .ok (.iconst 1, 1) := by decide +kernel
theorem dX3_bringHome_34 : decode cX3_bringHome 34 = .ok (.iload_n 1, 1) := by decide +kernel
theorem dX3_bringHome_35 : decode cX3_bringHome 35 = .ok (.ishl, 1) := by decide +kernel
theorem dX3_bringHome_36 : decode cX3_bringHome 36 = .ok (.iconst (-1), 1) := by decide +kernel
theorem dX3_bringHome_37 : decode cX3_bringHome 37 = .ok (.ixor, 1) := by decide +kernel
theorem dX3_bringHome_38 : decode cX3_bringHome 38 = .ok (.iand, 1) := by decide +kernel
theorem dX3_bringHome_39 : decode cX3_bringHome 39 = .ok (.putfield 34, 3) := by decide +kernel
theorem dX3_bringHome_42 : decode cX3_bringHome 42 = .ok (.aload_n 0, 1) := by decide +kernel
theorem dX3_bringHome_43 : decode cX3_bringHome 43 = .ok (.dup, 1) := by decide +kernel
theorem dX3_bringHome_44 : decode cX3_bringHome 44 = .ok (.getfield 37, 3) := by decide +kernel
theorem dX3_bringHome_47 : decode cX3_bringHome 47 = .ok (.iconst 1, 1) := by decide +kernel
theorem dX3_bringHome_48 : decode cX3_bringHome 48 = .ok (.iload_n 1, 1) := by decide +kernel
theorem dX3_bringHome_49 : decode cX3_bringHome 49 = .ok (.ishl, 1) := by decide +kernel
theorem dX3_bringHome_50 : decode cX3_bringHome 50 = .ok (.iconst (-1), 1) := by decide +kernel
theorem dX3_bringHome_51 : decode cX3_bringHome 51 = .ok (.ixor, 1) := by decide +kernel
theorem dX3_bringHome_52 : decode cX3_bringHome 52 = .ok (.iand, 1) := by decide +kernel
theorem dX3_bringHome_53 : decode cX3_bringHome 53 = .ok (.putfield 37, 3) := by decide +kernel
theorem dX3_bringHome_56 : decode cX3_bringHome 56 = .ok (.aload_n 0, 1) := by decide +kernel
theorem dX3_bringHome_57 : decode cX3_bringHome 57 = .ok (.getfield 9, 3) := by decide +kernel
theorem dX3_bringHome_60 : decode cX3_bringHome 60 = .ok (.iload_n 1, 1) := by decide +kernel
theorem dX3_bringHome_61 : decode cX3_bringHome 61 = .ok (.iconst 0, 1) := by decide +kernel
theorem dX3_bringHome_62 : decode cX3_bringHome 62 = .ok (.iastore, 1) := by decide +kernel
theorem dX3_bringHome_63 : decode cX3_bringHome 63 = .ok (.return_, 1) := by decide +kernel
theorem dX3_missScout_0 : decode cX3_missScout 0 = .ok (.aload_n 0, 1) := by decide +kernel
theorem dX3_missScout_1 : decode cX3_missScout 1 = .ok (.iload_n 1, 1) := by decide +kernel
theorem dX3_missScout_2 : decode cX3_missScout 2 = .ok (.invokevirtual 76, 3) := by decide +kernel
theorem dX3_missScout_5 : decode cX3_missScout 5 = .ok (.aload_n 0, 1) := by decide +kernel
theorem dX3_missScout_6 : decode cX3_missScout 6 = .ok (.dup, 1) := by decide +kernel
theorem dX3_missScout_7 : decode cX3_missScout 7 = .ok (.getfield 37, 3) := by decide +kernel
theorem dX3_missScout_10 : decode cX3_missScout 10 = .ok (.iconst 1, 1) := by decide +kernel
theorem dX3_missScout_11 : decode cX3_missScout 11 = .ok (.iload_n 1, 1) := by decide +kernel
theorem dX3_missScout_12 : decode cX3_missScout 12 = .ok (.ishl, 1) := by decide +kernel
theorem dX3_missScout_13 : decode cX3_missScout 13 = .ok (.ior, 1) := by decide +kernel
theorem dX3_missScout_14 : decode cX3_missScout 14 = .ok (.putfield 37, 3) := by decide +kernel
theorem dX3_missScout_17 : decode cX3_missScout 17 = .ok (.return_, 1) := by decide +kernel
theorem dX3_passMinute_0 : decode cX3_passMinute 0 = .ok (.aload_n 0, 1) := by decide +kernel
theorem dX3_passMinute_1 : decode cX3_passMinute 1 = .ok (.getfield 34, 3) := by decide +kernel
theorem dX3_passMinute_4 : decode cX3_passMinute 4 = .ok (.aload_n 0, 1) := by decide +kernel
theorem dX3_passMinute_5 : decode cX3_passMinute 5 = .ok (.getfield 37, 3) := by decide +kernel
theorem dX3_passMinute_8 : decode cX3_passMinute 8 = .ok (.ior, 1) := by decide +kernel
theorem dX3_passMinute_9 : decode cX3_passMinute 9 = .ok (.ifCond .eq 79, 3) := by decide +kernel
theorem dX3_passMinute_12 : decode cX3_passMinute 12 = .ok (.iconst 0, 1) := by decide +kernel
theorem dX3_passMinute_13 : decode cX3_passMinute 13 = .ok (.istore_n 3, 1) := by decide +kernel
theorem dX3_passMinute_14 : decode cX3_passMinute 14 = .ok (.iload_n 3, 1) := by decide +kernel
theorem dX3_passMinute_15 : decode cX3_passMinute 15 = .ok (.bipush 16, 2) := by decide +kernel
theorem dX3_passMinute_17 : decode cX3_passMinute 17 = .ok (.if_icmp .ge 71, 3) := by decide +kernel
theorem dX3_passMinute_20 : decode cX3_passMinute 20 = .ok (.aload_n 0, 1) := by decide +kernel
theorem dX3_passMinute_21 : decode cX3_passMinute 21 = .ok (.getfield 34, 3) := by decide +kernel
theorem dX3_passMinute_24 : decode cX3_passMinute 24 = .ok (.iload_n 3, 1) := by decide +kernel
theorem dX3_passMinute_25 : decode cX3_passMinute 25 = .ok (.invokestatic 59, 3) := by decide +kernel
theorem dX3_passMinute_28 : decode cX3_passMinute 28 = .ok (.ifCond .eq 11, 3) := by decide +kernel
theorem dX3_passMinute_31 : decode cX3_passMinute 31 = .ok (.aload_n 0, 1) := by decide +kernel
theorem dX3_passMinute_32 : decode cX3_passMinute 32 = .ok (.iload_n 3, 1) := by decide +kernel
theorem dX3_passMinute_33 : decode cX3_passMinute 33 = .ok (.invokevirtual 83, 3) := by decide +kernel
theorem dX3_passMinute_36 : decode cX3_passMinute 36 = .ok (.goto 46, 3) := by decide +kernel
theorem dX3_passMinute_39 : decode cX3_passMinute 39 = .ok (.aload_n 0, 1) := by decide +kernel
theorem dX3_passMinute_40 : decode cX3_passMinute 40 = .ok (.getfield 37, 3) := by decide +kernel
theorem dX3_passMinute_43 : decode cX3_passMinute 43 = .ok (.iload_n 3, 1) := by decide +kernel
theorem dX3_passMinute_44 : decode cX3_passMinute 44 = .ok (.invokestatic 59, 3) := by decide +kernel
theorem dX3_passMinute_47 : decode cX3_passMinute 47 = .ok (.ifCond .eq 35, 3) := by decide +kernel
theorem dX3_passMinute_50 : decode cX3_passMinute 50 = .ok (.aload_n 0, 1) := by decide +kernel
theorem dX3_passMinute_51 : decode cX3_passMinute 51 = .ok (.getfield 9, 3) := by decide +kernel
theorem dX3_passMinute_54 : decode cX3_passMinute 54 = .ok (.iload_n 3, 1) := by decide +kernel
theorem dX3_passMinute_55 : decode cX3_passMinute 55 = .ok (.dup2, 1) := by decide +kernel
theorem dX3_passMinute_56 : decode cX3_passMinute 56 = .ok (.iaload, 1) := by decide +kernel
theorem dX3_passMinute_57 : decode cX3_passMinute 57 = .ok (.iconst 1, 1) := by decide +kernel
theorem dX3_passMinute_58 : decode cX3_passMinute 58 = .ok (.iadd, 1) := by decide +kernel
theorem dX3_passMinute_59 : decode cX3_passMinute 59 = .ok (.iastore, 1) := by decide +kernel
theorem dX3_passMinute_60 : decode cX3_passMinute 60 = .ok (.aload_n 0, 1) := by decide +kernel
theorem dX3_passMinute_61 : decode cX3_passMinute 61 = .ok (.getfield 9, 3) := by decide +kernel
theorem dX3_passMinute_64 : decode cX3_passMinute 64 = .ok (.iload_n 3, 1) := by decide +kernel
theorem dX3_passMinute_65 : decode cX3_passMinute 65 = .ok (.iaload, 1) := by decide +kernel
theorem dX3_passMinute_66 : decode cX3_passMinute 66 = .ok (.iload_n 1, 1) := by decide +kernel
theorem dX3_passMinute_67 : decode cX3_passMinute 67 = .ok (.if_icmp .le 15, 3) := by decide +kernel
theorem dX3_passMinute_70 : decode cX3_passMinute 70 = .ok (.aload_n 0, 1) := by decide +kernel
theorem dX3_passMinute_71 : decode cX3_passMinute 71 = .ok (.dup, 1) := by decide +kernel
theorem dX3_passMinute_72 : decode cX3_passMinute 72 = .ok (.getfield 40, 3) := by decide +kernel
theorem dX3_passMinute_75 : decode cX3_passMinute 75 = .ok (.iconst 1, 1) := by decide +kernel
theorem dX3_passMinute_76 : decode cX3_passMinute 76 = .ok (.iload_n 3, 1) := by decide +kernel
theorem dX3_passMinute_77 : decode cX3_passMinute 77 = .ok (.ishl, 1) := by decide +kernel
theorem dX3_passMinute_78 : decode cX3_passMinute 78 = .ok (.ior, 1) := by decide +kernel
theorem dX3_passMinute_79 : decode cX3_passMinute 79 = .ok (.putfield 40, 3) := by decide +kernel
theorem dX3_passMinute_82 : decode cX3_passMinute 82 = .ok (.iinc 3 1, 3) := by decide +kernel
theorem dX3_passMinute_85 : decode cX3_passMinute 85 = .ok (.goto (-71), 3) := by decide +kernel
theorem dX3_passMinute_88 : decode cX3_passMinute 88 = .ok (.aload_n 0, 1) := by decide +kernel
theorem dX3_passMinute_89 : decode cX3_passMinute 89 = .ok (.iload_n 2, 1) := by decide +kernel
theorem dX3_passMinute_90 : decode cX3_passMinute 90 = .ok (.invokevirtual 80, 3) := by decide +kernel
theorem dX3_passMinute_93 : decode cX3_passMinute 93 = .ok (.ireturn, 1) := by decide +kernel
theorem dX3_walkOn_0 : decode cX3_walkOn 0 = .ok (.aload_n 0, 1) := by decide +kernel
theorem dX3_walkOn_1 : decode cX3_walkOn 1 = .ok (.getfield 9, 3) := by decide +kernel
theorem dX3_walkOn_4 : decode cX3_walkOn 4 = .ok (.iload_n 1, 1) := by decide +kernel
theorem dX3_walkOn_5 : decode cX3_walkOn 5 = .ok (.dup2, 1) := by decide +kernel
theorem dX3_walkOn_6 : decode cX3_walkOn 6 = .ok (.iaload, 1) := by decide +kernel
theorem dX3_walkOn_7 : decode cX3_walkOn 7 = .ok (.iconst 1, 1) := by decide +kernel
theorem dX3_walkOn_8 : decode cX3_walkOn 8 = .ok (.isub, 1) := by decide +kernel
theorem dX3_walkOn_9 : decode cX3_walkOn 9 = .ok (.iastore, 1) := by decide +kernel
theorem dX3_walkOn_10 : decode cX3_walkOn 10 = .ok (.aload_n 0, 1) := by decide +kernel
theorem dX3_walkOn_11 : decode cX3_walkOn 11 = .ok (.getfield 9, 3) := by decide +kernel
theorem dX3_walkOn_14 : decode cX3_walkOn 14 = .ok (.iload_n 1, 1) := by decide +kernel
theorem dX3_walkOn_15 : decode cX3_walkOn 15 = .ok (.iaload, 1) := by decide +kernel
theorem dX3_walkOn_16 : decode cX3_walkOn 16 = .ok (.ifCond .gt 23, 3) := by decide +kernel
theorem dX3_walkOn_19 : decode cX3_walkOn 19 = .ok (.aload_n 0, 1) := by decide +kernel
theorem dX3_walkOn_20 : decode cX3_walkOn 20 = .ok (.iload_n 1, 1) := by decide +kernel
theorem dX3_walkOn_21 : decode cX3_walkOn 21 = .ok (.invokevirtual 76, 3) := by decide +kernel
theorem dX3_walkOn_24 : decode cX3_walkOn 24 = .ok (.aload_n 0, 1) := by decide +kernel
theorem dX3_walkOn_25 : decode cX3_walkOn 25 = .ok (.iload_n 1, 1) := by decide +kernel
theorem dX3_walkOn_26 : decode cX3_walkOn 26 = .ok (.invokevirtual 55, 3) := by decide +kernel
theorem dX3_walkOn_29 : decode cX3_walkOn 29 = .ok (.ifCond .ne 10, 3) := by decide +kernel
theorem dX3_walkOn_32 : decode cX3_walkOn 32 = .ok (.aload_n 0, 1) := by decide +kernel
theorem dX3_walkOn_33 : decode cX3_walkOn 33 = .ok (.getfield 15, 3) := by decide +kernel
theorem dX3_walkOn_36 : decode cX3_walkOn 36 = .ok (.iload_n 1, 1) := by decide +kernel
theorem dX3_walkOn_37 : decode cX3_walkOn 37 = .ok (.iconst 0, 1) := by decide +kernel
theorem dX3_walkOn_38 : decode cX3_walkOn 38 = .ok (.iastore, 1) := by decide +kernel
theorem dX3_walkOn_39 : decode cX3_walkOn 39 = .ok (.return_, 1) := by decide +kernel
theorem dX3_openGate_0 : decode cX3_openGate 0 = .ok (.iconst 0, 1) := by decide +kernel
theorem dX3_openGate_1 : decode cX3_openGate 1 = .ok (.istore_n 2, 1) := by decide +kernel
theorem dX3_openGate_2 : decode cX3_openGate 2 = .ok (.iload_n 2, 1) := by decide +kernel
theorem dX3_openGate_3 : decode cX3_openGate 3 = .ok (.iconst 3, 1) := by decide +kernel
theorem dX3_openGate_4 : decode cX3_openGate 4 = .ok (.if_icmp .ge 28, 3) := by decide +kernel
theorem dX3_openGate_7 : decode cX3_openGate 7 = .ok (.aload_n 0, 1) := by decide +kernel
theorem dX3_openGate_8 : decode cX3_openGate 8 = .ok (.getfield 28, 3) := by decide +kernel
theorem dX3_openGate_11 : decode cX3_openGate 11 = .ok (.ifCond .eq 21, 3) := by decide +kernel
theorem dX3_openGate_14 : decode cX3_openGate 14 = .ok (.aload_n 0, 1) := by decide +kernel
theorem dX3_openGate_15 : decode cX3_openGate 15 = .ok (.invokevirtual 67, 3) := by decide +kernel
theorem dX3_openGate_18 : decode cX3_openGate 18 = .ok (.ifCond .ne 14, 3) := by decide +kernel
theorem dX3_openGate_21 : decode cX3_openGate 21 = .ok (.aload_n 0, 1) := by decide +kernel
theorem dX3_openGate_22 : decode cX3_openGate 22 = .ok (.iload_n 1, 1) := by decide +kernel
theorem dX3_openGate_23 : decode cX3_openGate 23 = .ok (.invokevirtual 86, 3) := by decide +kernel
theorem dX3_openGate_26 : decode cX3_openGate 26 = .ok (.iinc 2 1, 3) := by decide +kernel
theorem dX3_openGate_29 : decode cX3_openGate 29 = .ok (.goto (-27), 3) := by decide +kernel
theorem dX3_openGate_32 : decode cX3_openGate 32 = .ok (.iload_n 2, 1) := by decide +kernel
theorem dX3_openGate_33 : decode cX3_openGate 33 = .ok (.ireturn, 1) := by decide +kernel
theorem dX3_beginHike_0 : decode cX3_beginHike 0 = .ok (.iconst 0, 1) := by decide +kernel
theorem dX3_beginHike_1 : decode cX3_beginHike 1 = .ok (.istore_n 2, 1) := by decide +kernel
theorem dX3_beginHike_2 : decode cX3_beginHike 2 = .ok (.iload_n 2, 1) := by decide +kernel
theorem dX3_beginHike_3 : decode cX3_beginHike 3 = .ok (.bipush 16, 2) := by decide +kernel
theorem dX3_beginHike_5 : decode cX3_beginHike 5 = .ok (.if_icmp .ge 37, 3) := by decide +kernel
theorem dX3_beginHike_8 : decode cX3_beginHike 8 = .ok (.aload_n 0, 1) := by decide +kernel
theorem dX3_beginHike_9 : decode cX3_beginHike 9 = .ok (.getfield 28, 3) := by decide +kernel
theorem dX3_beginHike_12 : decode cX3_beginHike 12 = .ok (.iload_n 2, 1) := by decide +kernel
theorem dX3_beginHike_13 : decode cX3_beginHike 13 = .ok (.invokestatic 59, 3) := by decide +kernel
theorem dX3_beginHike_16 : decode cX3_beginHike 16 = .ok (.ifCond .eq 20, 3) := by decide +kernel
theorem dX3_beginHike_19 : decode cX3_beginHike 19 = .ok (.aload_n 0, 1) := by decide +kernel
theorem dX3_beginHike_20 : decode cX3_beginHike 20 = .ok (.getfield 9, 3) := by decide +kernel
theorem dX3_beginHike_23 : decode cX3_beginHike 23 = .ok (.iload_n 2, 1) := by decide +kernel
theorem dX3_beginHike_24 : decode cX3_beginHike 24 = .ok (.iload_n 1, 1) := by decide +kernel
theorem dX3_beginHike_25 : decode cX3_beginHike 25 = .ok (.iastore, 1) := by decide +kernel
theorem dX3_beginHike_26 : decode cX3_beginHike 26 = .ok (.aload_n 0, 1) := by decide +kernel
theorem dX3_beginHike_27 : decode cX3_beginHike 27 = .ok (.getfield 15, 3) := by decide +kernel
theorem dX3_beginHike_30 : decode cX3_beginHike 30 = .ok (.iload_n 2, 1) := by decide +kernel
theorem dX3_beginHike_31 : decode cX3_beginHike 31 = .ok (.dup2, 1) := by decide +kernel
theorem dX3_beginHike_32 : decode cX3_beginHike 32 = .ok (.iaload, 1) := by decide +kernel
theorem dX3_beginHike_33 : decode cX3_beginHike 33 = .ok (.iconst 1, 1) := by decide +kernel
theorem dX3_beginHike_34 : decode cX3_beginHike 34 = .ok (.iadd, 1) := by decide +kernel
theorem dX3_beginHike_35 : decode cX3_beginHike 35 = .ok (.iastore, 1) := by decide +kernel
theorem dX3_beginHike_36 : decode cX3_beginHike 36 = .ok (.iinc 2 1, 3) := by decide +kernel
theorem dX3_beginHike_39 : decode cX3_beginHike 39 = .ok (.goto (-37), 3) := by decide +kernel
theorem dX3_beginHike_42 : decode cX3_beginHike 42 = .ok (.aload_n 0, 1) := by decide +kernel
theorem dX3_beginHike_43 : decode cX3_beginHike 43 = .ok (.dup, 1) := by decide +kernel
theorem dX3_beginHike_44 : decode cX3_beginHike 44 = .ok (.getfield 43, 3) := by decide +kernel
theorem dX3_beginHike_47 : decode cX3_beginHike 47 = .ok (.iconst 1, 1) := by decide +kernel
theorem dX3_beginHike_48 : decode cX3_beginHike 48 = .ok (.iadd, 1) := by decide +kernel
theorem dX3_beginHike_49 : decode cX3_beginHike 49 = .ok (.putfield 43, 3) := by decide +kernel
theorem dX3_beginHike_52 : decode cX3_beginHike 52 = .ok (.aload_n 0, 1) := by decide +kernel
theorem dX3_beginHike_53 : decode cX3_beginHike 53 = .ok (.dup, 1) := by decide +kernel
theorem dX3_beginHike_54 : decode cX3_beginHike 54 = .ok (.getfield 46, 3) := by decide +kernel
theorem dX3_beginHike_57 : decode cX3_beginHike 57 = .ok (.aload_n 0, 1) := by decide +kernel
theorem dX3_beginHike_58 : decode cX3_beginHike 58 = .ok (.getfield 28, 3) := by decide +kernel
theorem dX3_beginHike_61 : decode cX3_beginHike 61 = .ok (.invokestatic 70, 3) := by decide +kernel
theorem dX3_beginHike_64 : decode cX3_beginHike 64 = .ok (.iadd, 1) := by decide +kernel
theorem dX3_beginHike_65 : decode cX3_beginHike 65 = .ok (.putfield 46, 3) := by decide +kernel
theorem dX3_beginHike_68 : decode cX3_beginHike 68 = .ok (.aload_n 0, 1) := by decide +kernel
theorem dX3_beginHike_69 : decode cX3_beginHike 69 = .ok (.dup, 1) := by decide +kernel
theorem dX3_beginHike_70 : decode cX3_beginHike 70 = .ok (.getfield 34, 3) := by decide +kernel
theorem dX3_beginHike_73 : decode cX3_beginHike 73 = .ok (.aload_n 0, 1) := by decide +kernel
theorem dX3_beginHike_74 : decode cX3_beginHike 74 = .ok (.getfield 28, 3) := by decide +kernel
theorem dX3_beginHike_77 : decode cX3_beginHike 77 = .ok (.ior, 1) := by decide +kernel
theorem dX3_beginHike_78 : decode cX3_beginHike 78 = .ok (.putfield 34, 3) := by decide +kernel
theorem dX3_beginHike_81 : decode cX3_beginHike 81 = .ok (.aload_n 0, 1) := by decide +kernel
theorem dX3_beginHike_82 : decode cX3_beginHike 82 = .ok (.iconst 1, 1) := by decide +kernel
theorem dX3_beginHike_83 : decode cX3_beginHike 83 = .ok (.aload_n 0, 1) := by decide +kernel
theorem dX3_beginHike_84 : decode cX3_beginHike 84 = .ok (.getfield 25, 3) := by decide +kernel
theorem dX3_beginHike_87 : decode cX3_beginHike 87 = .ok (.isub, 1) := by decide +kernel
theorem dX3_beginHike_88 : decode cX3_beginHike 88 = .ok (.putfield 25, 3) := by decide +kernel
theorem dX3_beginHike_91 : decode cX3_beginHike 91 = .ok (.aload_n 0, 1) := by decide +kernel
theorem dX3_beginHike_92 : decode cX3_beginHike 92 = .ok (.aload_n 0, 1) := by decide +kernel
theorem dX3_beginHike_93 : decode cX3_beginHike 93 = .ok (.getfield 22, 3) := by decide +kernel
theorem dX3_beginHike_96 : decode cX3_beginHike 96 = .ok (.putfield 18, 3) := by decide +kernel
theorem dX3_beginHike_99 : decode cX3_beginHike 99 = .ok (.aload_n 0, 1) := by decide +kernel
theorem dX3_beginHike_100 : decode cX3_beginHike 100 = .ok (.dup, 1) := by decide +kernel
theorem dX3_beginHike_101 : decode cX3_beginHike 101 = .ok (.getfield 37, 3) := by decide +kernel
theorem dX3_beginHike_104 : decode cX3_beginHike 104 = .ok (.aload_n 0, 1) := by decide +kernel
theorem dX3_beginHike_105 : decode cX3_beginHike 105 = .ok (.invokevirtual 63, 3) := by decide +kernel
theorem dX3_beginHike_108 : decode cX3_beginHike 108 = .ok (.iand, 1) := by decide +kernel
theorem dX3_beginHike_109 : decode cX3_beginHike 109 = .ok (.putfield 37, 3) := by decide +kernel
theorem dX3_beginHike_112 : decode cX3_beginHike 112 = .ok (.aload_n 0, 1) := by decide +kernel
theorem dX3_beginHike_113 : decode cX3_beginHike 113 = .ok (.iconst 0, 1) := by decide +kernel
theorem dX3_beginHike_114 : decode cX3_beginHike 114 = .ok (.putfield 40, 3) := by decide +kernel
theorem dX3_beginHike_117 : decode cX3_beginHike 117 = .ok (.aload_n 0, 1) := by decide +kernel
theorem dX3_beginHike_118 : decode cX3_beginHike 118 = .ok (.aload_n 0, 1) := by decide +kernel
theorem dX3_beginHike_119 : decode cX3_beginHike 119 = .ok (.getfield 31, 3) := by decide +kernel
theorem dX3_beginHike_122 : decode cX3_beginHike 122 = .ok (.aload_n 0, 1) := by decide +kernel
theorem dX3_beginHike_123 : decode cX3_beginHike 123 = .ok (.invokevirtual 63, 3) := by decide +kernel
theorem dX3_beginHike_126 : decode cX3_beginHike 126 = .ok (.iand, 1) := by decide +kernel
theorem dX3_beginHike_127 : decode cX3_beginHike 127 = .ok (.putfield 28, 3) := by decide +kernel
theorem dX3_beginHike_130 : decode cX3_beginHike 130 = .ok (.aload_n 0, 1) := by decide +kernel
theorem dX3_beginHike_131 : decode cX3_beginHike 131 = .ok (.iconst 0, 1) := by decide +kernel
theorem dX3_beginHike_132 : decode cX3_beginHike 132 = .ok (.putfield 31, 3) := by decide +kernel
theorem dX3_beginHike_135 : decode cX3_beginHike 135 = .ok (.aload_n 0, 1) := by decide +kernel
theorem dX3_beginHike_136 : decode cX3_beginHike 136 = .ok (.getfield 18, 3) := by decide +kernel
theorem dX3_beginHike_139 : decode cX3_beginHike 139 = .ok (.istore_n 2, 1) := by decide +kernel
theorem dX3_beginHike_140 : decode cX3_beginHike 140 = .ok (.iload_n 2, 1) := by decide +kernel
theorem dX3_beginHike_141 : decode cX3_beginHike 141 = .ok (.bipush 16, 2) := by decide +kernel
theorem dX3_beginHike_143 : decode cX3_beginHike 143 = .ok (.if_icmp .ge 34, 3) := by decide +kernel
theorem dX3_beginHike_146 : decode cX3_beginHike 146 = .ok (.aload_n 0, 1) := by decide +kernel
theorem dX3_beginHike_147 : decode cX3_beginHike 147 = .ok (.getfield 34, 3) := by decide +kernel
theorem dX3_beginHike_150 : decode cX3_beginHike 150 = .ok (.iload_n 2, 1) := by decide +kernel
theorem dX3_beginHike_151 : decode cX3_beginHike 151 = .ok (.invokestatic 59, 3) := by decide +kernel
theorem dX3_beginHike_154 : decode cX3_beginHike 154 = .ok (.ifCond .ne 17, 3) := by decide +kernel
theorem dX3_beginHike_157 : decode cX3_beginHike 157 = .ok (.aload_n 0, 1) := by decide +kernel
theorem dX3_beginHike_158 : decode cX3_beginHike 158 = .ok (.getfield 9, 3) := by decide +kernel
theorem dX3_beginHike_161 : decode cX3_beginHike 161 = .ok (.iload_n 2, 1) := by decide +kernel
theorem dX3_beginHike_162 : decode cX3_beginHike 162 = .ok (.iconst 0, 1) := by decide +kernel
theorem dX3_beginHike_163 : decode cX3_beginHike 163 = .ok (.iastore, 1) := by decide +kernel
theorem dX3_beginHike_164 : decode cX3_beginHike 164 = .ok (.aload_n 0, 1) := by decide +kernel
theorem dX3_beginHike_165 : decode cX3_beginHike 165 = .ok (.getfield 15, 3) := by decide +kernel
theorem dX3_beginHike_168 : decode cX3_beginHike 168 = .ok (.iload_n 2, 1) := by decide +kernel
theorem dX3_beginHike_169 : decode cX3_beginHike 169 = .ok (.iconst 0, 1) := by decide +kernel
theorem dX3_beginHike_170 : decode cX3_beginHike 170 = .ok (.iastore, 1) := by decide +kernel
theorem dX3_beginHike_171 : decode cX3_beginHike 171 = .ok (.iinc 2 1, 3) := by decide +kernel
theorem dX3_beginHike_174 : decode cX3_beginHike 174 = .ok (.goto (-34), 3) := by decide +kernel
theorem dX3_beginHike_177 : decode cX3_beginHike 177 = .ok (.return_, 1) := by decide +kernel
theorem dX3_isIn_0 : decode cX3_isIn 0 = .ok (.iload_n 0, 1) := by decide +kernel
theorem dX3_isIn_1 : decode cX3_isIn 1 = .ok (.iload_n 1, 1) := by decide +kernel
theorem dX3_isIn_2 : decode cX3_isIn 2 = .ok (.ishr, 1) := by decide +kernel
theorem dX3_isIn_3 : decode cX3_isIn 3 = .ok (.iconst 1, 1) := by decide +kernel
theorem dX3_isIn_4 : decode cX3_isIn 4 = .ok (.iand, 1) := by decide +kernel
theorem dX3_isIn_5 : decode cX3_isIn 5 = .ok (.ifCond .eq 7, 3) := by decide +kernel
theorem dX3_isIn_8 : decode cX3_isIn 8 = .ok (.iconst 1, 1) := by decide +kernel
theorem dX3_isIn_9 : decode cX3_isIn 9 = .ok (.goto 4, 3) := by decide +kernel
theorem dX3_isIn_12 : decode cX3_isIn 12 = .ok (.iconst 0, 1) := by decide +kernel
theorem dX3_isIn_13 : decode cX3_isIn 13 = .ok (.ireturn, 1) := by decide +kernel
theorem dJ6_bitCount_0f7a4_0 : decode cJ6_bitCount_0f7a4 0 = .ok (.iload_n 0, 1) := by decide +kernel
theorem dJ6_bitCount_0f7a4_1 : decode cJ6_bitCount_0f7a4 1 = .ok (.iload_n 0, 1) := by decide +kernel
theorem dJ6_bitCount_0f7a4_2 : decode cJ6_bitCount_0f7a4 2 = .ok (.iconst 1, 1) := by decide +kernel
theorem dJ6_bitCount_0f7a4_3 : decode cJ6_bitCount_0f7a4 3 = .ok (.iushr, 1) := by decide +kernel
theorem dJ6_bitCount_0f7a4_4 : decode cJ6_bitCount_0f7a4 4 = .ok (.ldc_w 265, 3) := by decide +kernel
theorem dJ6_bitCount_0f7a4_7 : decode cJ6_bitCount_0f7a4 7 = .ok (.iand, 1) := by decide +kernel
theorem dJ6_bitCount_0f7a4_8 : decode cJ6_bitCount_0f7a4 8 = .ok (.isub, 1) := by decide +kernel
theorem dJ6_bitCount_0f7a4_9 : decode cJ6_bitCount_0f7a4 9 = .ok (.istore_n 0, 1) := by decide +kernel
theorem dJ6_bitCount_0f7a4_10 : decode cJ6_bitCount_0f7a4 10 = .ok (.iload_n 0, 1) := by decide +kernel
theorem dJ6_bitCount_0f7a4_11 : decode cJ6_bitCount_0f7a4 11 = .ok (.ldc_w 266, 3) := by decide +kernel
theorem dJ6_bitCount_0f7a4_14 : decode cJ6_bitCount_0f7a4 14 = .ok (.iand, 1) := by decide +kernel
theorem dJ6_bitCount_0f7a4_15 : decode cJ6_bitCount_0f7a4 15 = .ok (.iload_n 0, 1) := by decide +kernel
theorem dJ6_bitCount_0f7a4_16 : decode cJ6_bitCount_0f7a4 16 = .ok (.iconst 2, 1) := by decide +kernel
theorem dJ6_bitCount_0f7a4_17 : decode cJ6_bitCount_0f7a4 17 = .ok (.iushr, 1) := by decide +kernel
theorem dJ6_bitCount_0f7a4_18 : decode cJ6_bitCount_0f7a4 18 = .ok (.ldc_w 266, 3) := by decide +kernel
theorem dJ6_bitCount_0f7a4_21 : decode cJ6_bitCount_0f7a4 21 = .ok (.iand, 1) := by decide +kernel
theorem dJ6_bitCount_0f7a4_22 : decode cJ6_bitCount_0f7a4 22 = .ok (.iadd, 1) := by decide +kernel
theorem dJ6_bitCount_0f7a4_23 : decode cJ6_bitCount_0f7a4 23 = .ok (.istore_n 0, 1) := by decide +kernel
theorem dJ6_bitCount_0f7a4_24 : decode cJ6_bitCount_0f7a4 24 = .ok (.iload_n 0, 1) := by decide +kernel
theorem dJ6_bitCount_0f7a4_25 : decode cJ6_bitCount_0f7a4 25 = .ok (.iload_n 0, 1) := by decide +kernel
theorem dJ6_bitCount_0f7a4_26 : decode cJ6_bitCount_0f7a4 26 = .ok (.iconst 4, 1) := by decide +kernel
theorem dJ6_bitCount_0f7a4_27 : decode cJ6_bitCount_0f7a4 27 = .ok (.iushr, 1) := by decide +kernel
theorem dJ6_bitCount_0f7a4_28 : decode cJ6_bitCount_0f7a4 28 = .ok (.iadd, 1) := by decide +kernel
theorem dJ6_bitCount_0f7a4_29 : decode cJ6_bitCount_0f7a4 29 = .ok (.ldc_w 267, 3) := by decide +kernel
theorem dJ6_bitCount_0f7a4_32 : decode cJ6_bitCount_0f7a4 32 = .ok (.iand, 1) := by decide +kernel
theorem dJ6_bitCount_0f7a4_33 : decode cJ6_bitCount_0f7a4 33 = .ok (.istore_n 0, 1) := by decide +kernel
theorem dJ6_bitCount_0f7a4_34 : decode cJ6_bitCount_0f7a4 34 = .ok (.iload_n 0, 1) := by decide +kernel
theorem dJ6_bitCount_0f7a4_35 : decode cJ6_bitCount_0f7a4 35 = .ok (.iload_n 0, 1) := by decide +kernel
theorem dJ6_bitCount_0f7a4_36 : decode cJ6_bitCount_0f7a4 36 = .ok (.bipush 8, 2) := by decide +kernel
theorem dJ6_bitCount_0f7a4_38 : decode cJ6_bitCount_0f7a4 38 = .ok (.iushr, 1) := by decide +kernel
theorem dJ6_bitCount_0f7a4_39 : decode cJ6_bitCount_0f7a4 39 = .ok (.iadd, 1) := by decide +kernel
theorem dJ6_bitCount_0f7a4_40 : decode cJ6_bitCount_0f7a4 40 = .ok (.istore_n 0, 1) := by decide +kernel
theorem dJ6_bitCount_0f7a4_41 : decode cJ6_bitCount_0f7a4 41 = .ok (.iload_n 0, 1) := by decide +kernel
theorem dJ6_bitCount_0f7a4_42 : decode cJ6_bitCount_0f7a4 42 = .ok (.iload_n 0, 1) := by decide +kernel
theorem dJ6_bitCount_0f7a4_43 : decode cJ6_bitCount_0f7a4 43 = .ok (.bipush 16, 2) := by decide +kernel
theorem dJ6_bitCount_0f7a4_45 : decode cJ6_bitCount_0f7a4 45 = .ok (.iushr, 1) := by decide +kernel
theorem dJ6_bitCount_0f7a4_46 : decode cJ6_bitCount_0f7a4 46 = .ok (.iadd, 1) := by decide +kernel
theorem dJ6_bitCount_0f7a4_47 : decode cJ6_bitCount_0f7a4 47 = .ok (.istore_n 0, 1) := by decide +kernel
theorem dJ6_bitCount_0f7a4_48 : decode cJ6_bitCount_0f7a4 48 = .ok (.iload_n 0, 1) := by decide +kernel
theorem dJ6_bitCount_0f7a4_49 : decode cJ6_bitCount_0f7a4 49 = .ok (.bipush 63, 2) := by decide +kernel
theorem dJ6_bitCount_0f7a4_51 : decode cJ6_bitCount_0f7a4 51 = .ok (.iand, 1) := by decide +kernel
theorem dJ6_bitCount_0f7a4_52 : decode cJ6_bitCount_0f7a4 52 = .ok (.ireturn, 1) := by decide +kernel
end
section
theorem dX4_init_0 : decode cX4_init 0 = .ok (.aload_n 0, 1) := by decide +kernel
theorem dX4_init_1 : decode cX4_init 1 = .ok (.invokespecial 1, 3) := by decide +kernel
theorem dX4_init_4 : decode cX4_init 4 = .ok (.aload_n 0, 1) := by decide +kernel
theorem dX4_init_5 : decode cX4_init 5 = .ok (.new 7, 3) := by decide +kernel
theorem dX4_init_8 : decode cX4_init 8 = .ok (.dup, 1) := by decide +kernel
theorem dX4_init_9 : decode cX4_init 9 = .ok (.invokespecial 9, 3) := by decide +kernel
theorem dX4_init_12 : decode cX4_init 12 = .ok (.putfield 10, 3) := by decide +kernel
theorem dX4_init_15 : decode cX4_init 15 = .ok (.aload_n 0, 1) := by decide +kernel
theorem dX4_init_16 : decode cX4_init 16 = .ok (.new 16, 3) := by decide +kernel
theorem dX4_init_19 : decode cX4_init 19 = .ok (.dup, 1) := by decide +kernel
theorem dX4_init_20 : decode cX4_init 20 = .ok (.invokespecial 18, 3) := by decide +kernel
theorem dX4_init_23 : decode cX4_init 23 = .ok (.putfield 19, 3) := by decide +kernel
theorem dX4_init_26 : decode cX4_init 26 = .ok (.aload_n 0, 1) := by decide +kernel
theorem dX4_init_27 : decode cX4_init 27 = .ok (.iconst 2, 1) := by decide +kernel
theorem dX4_init_28 : decode cX4_init 28 = .ok (.anewarray 7, 3) := by decide +kernel
theorem dX4_init_31 : decode cX4_init 31 = .ok (.putfield 23, 3) := by decide +kernel
theorem dX4_init_34 : decode cX4_init 34 = .ok (.iconst 0, 1) := by decide +kernel
theorem dX4_init_35 : decode cX4_init 35 = .ok (.istore_n 1, 1) := by decide +kernel
theorem dX4_init_36 : decode cX4_init 36 = .ok (.iload_n 1, 1) := by decide +kernel
theorem dX4_init_37 : decode cX4_init 37 = .ok (.iconst 2, 1) := by decide +kernel
theorem dX4_init_38 : decode cX4_init 38 = .ok (.if_icmp .ge 22, 3) := by decide +kernel
theorem dX4_init_41 : decode cX4_init 41 = .ok (.aload_n 0, 1) := by decide +kernel
theorem dX4_init_42 : decode cX4_init 42 = .ok (.getfield 23, 3) := by decide +kernel
theorem dX4_init_45 : decode cX4_init 45 = .ok (.iload_n 1, 1) := by decide +kernel
theorem dX4_init_46 : decode cX4_init 46 = .ok (.new 7, 3) := by decide +kernel
theorem dX4_init_49 : decode cX4_init 49 = .ok (.dup, 1) := by decide +kernel
theorem dX4_init_50 : decode cX4_init 50 = .ok (.invokespecial 9, 3) := by decide +kernel
theorem dX4_init_53 : decode cX4_init 53 = .ok (.aastore, 1) := by decide +kernel
theorem dX4_init_54 : decode cX4_init 54 = .ok (.iinc 1 1, 3) := by decide +kernel
theorem dX4_init_57 : decode cX4_init 57 = .ok (.goto (-21), 3) := by decide +kernel
theorem dX4_init_60 : decode cX4_init 60 = .ok (.aload_n 0, 1) := by decide +kernel
theorem dX4_init_61 : decode cX4_init 61 = .ok (.iconst 2, 1) := by decide +kernel
theorem dX4_init_62 : decode cX4_init 62 = .ok (.newarray .boolean, 2) := by decide +kernel
theorem dX4_init_64 : decode cX4_init 64 = .ok (.putfield 27, 3) := by decide +kernel
theorem dX4_init_67 : decode cX4_init 67 = .ok (.aload_n 0, 1) := by decide +kernel
theorem dX4_init_68 : decode cX4_init 68 = .ok (.new 31, 3) := by decide +kernel
theorem dX4_init_71 : decode cX4_init 71 = .ok (.dup, 1) := by decide +kernel
theorem dX4_init_72 : decode cX4_init 72 = .ok (.invokespecial 33, 3) := by decide +kernel
theorem dX4_init_75 : decode cX4_init 75 = .ok (.putfield 34, 3) := by decide +kernel
theorem dX4_init_78 : decode cX4_init 78 = .ok (.aload_n 0, 1) := by decide +kernel
theorem dX4_init_79 : decode cX4_init 79 = .ok (.new 38, 3) := by decide +kernel
theorem dX4_init_82 : decode cX4_init 82 = .ok (.dup, 1) := by decide +kernel
theorem dX4_init_83 : decode cX4_init 83 = .ok (.invokespecial 40, 3) := by decide +kernel
theorem dX4_init_86 : decode cX4_init 86 = .ok (.putfield 41, 3) := by decide +kernel
theorem dX4_init_89 : decode cX4_init 89 = .ok (.return_, 1) := by decide +kernel
theorem dX4_set_0 : decode cX4_set 0 = .ok (.iload_n 1, 1) := by decide +kernel
theorem dX4_set_1 : decode cX4_set 1 = .ok (.ifCond .lt 8, 3) := by decide +kernel
theorem dX4_set_4 : decode cX4_set 4 = .ok (.iload_n 1, 1) := by decide +kernel
theorem dX4_set_5 : decode cX4_set 5 = .ok (.iconst 2, 1) := by decide +kernel
theorem dX4_set_6 : decode cX4_set 6 = .ok (.if_icmp .lt 6, 3) := by decide +kernel
theorem dX4_set_9 : decode cX4_set 9 = .ok (.bipush (-2), 2) := by decide +kernel
theorem dX4_set_11 : decode cX4_set 11 = .ok (.ireturn, 1) := by decide +kernel
theorem dX4_set_12 : decode cX4_set 12 = .ok (.iload_n 1, 1) := by decide +kernel
theorem dX4_set_13 : decode cX4_set 13 = .ok (.iconst 1, 1) := by decide +kernel
theorem dX4_set_14 : decode cX4_set 14 = .ok (.if_icmp .ne 7, 3) := by decide +kernel
theorem dX4_set_17 : decode cX4_set 17 = .ok (.iconst 1, 1) := by decide +kernel
theorem dX4_set_18 : decode cX4_set 18 = .ok (.goto 4, 3) := by decide +kernel
theorem dX4_set_21 : decode cX4_set 21 = .ok (.iconst 0, 1) := by decide +kernel
theorem dX4_set_22 : decode cX4_set 22 = .ok (.istore_n 3, 1) := by decide +kernel
theorem dX4_set_23 : decode cX4_set 23 = .ok (.iload_n 2, 1) := by decide +kernel
theorem dX4_set_24 : decode cX4_set 24 = .ok (.iload_n 3, 1) := by decide +kernel
theorem dX4_set_25 : decode cX4_set 25 = .ok (.if_icmp .lt 9, 3) := by decide +kernel
theorem dX4_set_28 : decode cX4_set 28 = .ok (.iload_n 2, 1) := by decide +kernel
theorem dX4_set_29 : decode cX4_set 29 = .ok (.bipush 99, 2) := by decide +kernel
theorem dX4_set_31 : decode cX4_set 31 = .ok (.if_icmp .le 6, 3) := by decide +kernel
theorem dX4_set_34 : decode cX4_set 34 = .ok (.bipush (-2), 2) := by decide +kernel
theorem dX4_set_36 : decode cX4_set 36 = .ok (.ireturn, 1) := by decide +kernel
theorem dX4_set_37 : decode cX4_set 37 = .ok (.aload_n 0, 1) := by decide +kernel
theorem dX4_set_38 : decode cX4_set 38 = .ok (.getfield 19, 3) := by decide +kernel
theorem dX4_set_41 : decode cX4_set 41 = .ok (.aload_n 0, 1) := by decide +kernel
theorem dX4_set_42 : decode cX4_set 42 = .ok (.getfield 10, 3) := by decide +kernel
theorem dX4_set_45 : decode cX4_set 45 = .ok (.invokevirtual 45, 3) := by decide +kernel
theorem dX4_set_48 : decode cX4_set 48 = .ok (.aload_n 0, 1) := by decide +kernel
theorem dX4_set_49 : decode cX4_set 49 = .ok (.getfield 10, 3) := by decide +kernel
theorem dX4_set_52 : decode cX4_set 52 = .ok (.getfield 49, 3) := by decide +kernel
theorem dX4_set_55 : decode cX4_set 55 = .ok (.iload_n 1, 1) := by decide +kernel
theorem dX4_set_56 : decode cX4_set 56 = .ok (.iaload, 1) := by decide +kernel
theorem dX4_set_57 : decode cX4_set 57 = .ok (.istore 4, 2) := by decide +kernel
theorem dX4_set_59 : decode cX4_set 59 = .ok (.aload_n 0, 1) := by decide +kernel
theorem dX4_set_60 : decode cX4_set 60 = .ok (.getfield 10, 3) := by decide +kernel
theorem dX4_set_63 : decode cX4_set 63 = .ok (.getfield 49, 3) := by decide +kernel
theorem dX4_set_66 : decode cX4_set 66 = .ok (.iload_n 1, 1) := by decide +kernel
theorem dX4_set_67 : decode cX4_set 67 = .ok (.iload_n 2, 1) := by decide +kernel
theorem dX4_set_68 : decode cX4_set 68 = .ok (.iastore, 1) := by decide +kernel
theorem dX4_set_69 : decode cX4_set 69 = .ok (.aload_n 0, 1) := by decide +kernel
theorem dX4_set_70 : decode cX4_set 70 = .ok (.iload 4, 2) := by decide +kernel
theorem dX4_set_72 : decode cX4_set 72 = .ok (.invokevirtual 53, 3) := by decide +kernel
theorem dX4_set_75 : decode cX4_set 75 = .ok (.ireturn, 1) := by decide +kernel
theorem dX4_troop_0 : decode cX4_troop 0 = .ok (.aload_n 0, 1) := by decide +kernel
theorem dX4_troop_1 : decode cX4_troop 1 = .ok (.getfield 19, 3) := by decide +kernel
theorem dX4_troop_4 : decode cX4_troop 4 = .ok (.aload_n 0, 1) := by decide +kernel
theorem dX4_troop_5 : decode cX4_troop 5 = .ok (.getfield 10, 3) := by decide +kernel
theorem dX4_troop_8 : decode cX4_troop 8 = .ok (.invokevirtual 45, 3) := by decide +kernel
theorem dX4_troop_11 : decode cX4_troop 11 = .ok (.aload_n 0, 1) := by decide +kernel
theorem dX4_troop_12 : decode cX4_troop 12 = .ok (.aload_n 0, 1) := by decide +kernel
theorem dX4_troop_13 : decode cX4_troop 13 = .ok (.iload_n 1, 1) := by decide +kernel
theorem dX4_troop_14 : decode cX4_troop 14 = .ok (.invokevirtual 57, 3) := by decide +kernel
theorem dX4_troop_17 : decode cX4_troop 17 = .ok (.invokevirtual 53, 3) := by decide +kernel
theorem dX4_troop_20 : decode cX4_troop 20 = .ok (.ireturn, 1) := by decide +kernel
theorem dX4_resize_0 : decode cX4_resize 0 = .ok (.aload_n 0, 1) := by decide +kernel
theorem dX4_resize_1 : decode cX4_resize 1 = .ok (.getfield 19, 3) := by decide +kernel
theorem dX4_resize_4 : decode cX4_resize 4 = .ok (.aload_n 0, 1) := by decide +kernel
theorem dX4_resize_5 : decode cX4_resize 5 = .ok (.getfield 10, 3) := by decide +kernel
theorem dX4_resize_8 : decode cX4_resize 8 = .ok (.invokevirtual 45, 3) := by decide +kernel
theorem dX4_resize_11 : decode cX4_resize 11 = .ok (.aload_n 0, 1) := by decide +kernel
theorem dX4_resize_12 : decode cX4_resize 12 = .ok (.aload_n 0, 1) := by decide +kernel
theorem dX4_resize_13 : decode cX4_resize 13 = .ok (.iload_n 1, 1) := by decide +kernel
theorem dX4_resize_14 : decode cX4_resize 14 = .ok (.iload_n 2, 1) := by decide +kernel
theorem dX4_resize_15 : decode cX4_resize 15 = .ok (.invokevirtual 60, 3) := by decide +kernel
theorem dX4_resize_18 : decode cX4_resize 18 = .ok (.invokevirtual 53, 3) := by decide +kernel
theorem dX4_resize_21 : decode cX4_resize 21 = .ok (.ireturn, 1) := by decide +kernel
theorem dX4_come_0 : decode cX4_come 0 = .ok (.aload_n 0, 1) := by decide +kernel
theorem dX4_come_1 : decode cX4_come 1 = .ok (.getfield 19, 3) := by decide +kernel
theorem dX4_come_4 : decode cX4_come 4 = .ok (.aload_n 0, 1) := by decide +kernel
theorem dX4_come_5 : decode cX4_come 5 = .ok (.getfield 10, 3) := by decide +kernel
theorem dX4_come_8 : decode cX4_come 8 = .ok (.invokevirtual 45, 3) := by decide +kernel
theorem dX4_come_11 : decode cX4_come 11 = .ok (.aload_n 0, 1) := by decide +kernel
theorem dX4_come_12 : decode cX4_come 12 = .ok (.aload_n 0, 1) := by decide +kernel
theorem dX4_come_13 : decode cX4_come 13 = .ok (.iload_n 1, 1) := by decide +kernel
theorem dX4_come_14 : decode cX4_come 14 = .ok (.iload_n 2, 1) := by decide +kernel
theorem dX4_come_15 : decode cX4_come 15 = .ok (.iload_n 3, 1) := by decide +kernel
theorem dX4_come_16 : decode cX4_come 16 = .ok (.invokevirtual 64, 3) := by decide +kernel
theorem dX4_come_19 : decode cX4_come 19 = .ok (.invokevirtual 53, 3) := by decide +kernel
theorem dX4_come_22 : decode cX4_come 22 = .ok (.ireturn, 1) := by decide +kernel
theorem dX4_lose_0 : decode cX4_lose 0 = .ok (.aload_n 0, 1) := by decide +kernel
theorem dX4_lose_1 : decode cX4_lose 1 = .ok (.getfield 19, 3) := by decide +kernel
theorem dX4_lose_4 : decode cX4_lose 4 = .ok (.aload_n 0, 1) := by decide +kernel
theorem dX4_lose_5 : decode cX4_lose 5 = .ok (.getfield 10, 3) := by decide +kernel
theorem dX4_lose_8 : decode cX4_lose 8 = .ok (.invokevirtual 45, 3) := by decide +kernel
theorem dX4_lose_11 : decode cX4_lose 11 = .ok (.aload_n 0, 1) := by decide +kernel
theorem dX4_lose_12 : decode cX4_lose 12 = .ok (.aload_n 0, 1) := by decide +kernel
theorem dX4_lose_13 : decode cX4_lose 13 = .ok (.iload_n 1, 1) := by decide +kernel
theorem dX4_lose_14 : decode cX4_lose 14 = .ok (.iload_n 2, 1) := by decide +kernel
theorem dX4_lose_15 : decode cX4_lose 15 = .ok (.invokevirtual 68, 3) := by decide +kernel
theorem dX4_lose_18 : decode cX4_lose 18 = .ok (.invokevirtual 53, 3) := by decide +kernel
theorem dX4_lose_21 : decode cX4_lose 21 = .ok (.ireturn, 1) := by decide +kernel
theorem dX4_find_0 : decode cX4_find 0 = .ok (.aload_n 0, 1) := by decide +kernel
theorem dX4_find_1 : decode cX4_find 1 = .ok (.iload_n 1, 1) := by decide +kernel
theorem dX4_find_2 : decode cX4_find 2 = .ok (.iload_n 2, 1) := by decide +kernel
theorem dX4_find_3 : decode cX4_find 3 = .ok (.invokevirtual 71, 3) := by decide +kernel
theorem dX4_find_6 : decode cX4_find 6 = .ok (.ifCond .ne 5, 3) := by decide +kernel
theorem dX4_find_9 : decode cX4_find 9 = .ok (.iconst (-1), 1) := by decide +kernel
theorem dX4_find_10 : decode cX4_find 10 = .ok (.ireturn, 1) := by decide +kernel
theorem dX4_find_11 : decode cX4_find 11 = .ok (.aload_n 0, 1) := by decide +kernel
theorem dX4_find_12 : decode cX4_find 12 = .ok (.getfield 10, 3) := by decide +kernel
theorem dX4_find_15 : decode cX4_find 15 = .ok (.getfield 75, 3) := by decide +kernel
theorem dX4_find_18 : decode cX4_find 18 = .ok (.iload_n 1, 1) := by decide +kernel
theorem dX4_find_19 : decode cX4_find 19 = .ok (.aaload, 1) := by decide +kernel
theorem dX4_find_20 : decode cX4_find 20 = .ok (.astore_n 3, 1) := by decide +kernel
theorem dX4_find_21 : decode cX4_find 21 = .ok (.aload_n 3, 1) := by decide +kernel
theorem dX4_find_22 : decode cX4_find 22 = .ok (.iload_n 2, 1) := by decide +kernel
theorem dX4_find_23 : decode cX4_find 23 = .ok (.invokevirtual 79, 3) := by decide +kernel
theorem dX4_find_26 : decode cX4_find 26 = .ok (.iconst 4, 1) := by decide +kernel
theorem dX4_find_27 : decode cX4_find 27 = .ok (.if_icmp .eq 6, 3) := by decide +kernel
theorem dX4_find_30 : decode cX4_find 30 = .ok (.bipush (-5), 2) := by decide +kernel
theorem dX4_find_32 : decode cX4_find 32 = .ok (.ireturn, 1) := by decide +kernel
theorem dX4_find_33 : decode cX4_find 33 = .ok (.aload_n 0, 1) := by decide +kernel
theorem dX4_find_34 : decode cX4_find 34 = .ok (.getfield 19, 3) := by decide +kernel
theorem dX4_find_37 : decode cX4_find 37 = .ok (.aload_n 0, 1) := by decide +kernel
theorem dX4_find_38 : decode cX4_find 38 = .ok (.getfield 10, 3) := by decide +kernel
theorem dX4_find_41 : decode cX4_find 41 = .ok (.invokevirtual 45, 3) := by decide +kernel
theorem dX4_find_44 : decode cX4_find 44 = .ok (.aload_n 3, 1) := by decide +kernel
theorem dX4_find_45 : decode cX4_find 45 = .ok (.getfield 82, 3) := by decide +kernel
theorem dX4_find_48 : decode cX4_find 48 = .ok (.iload_n 2, 1) := by decide +kernel
theorem dX4_find_49 : decode cX4_find 49 = .ok (.iaload, 1) := by decide +kernel
theorem dX4_find_50 : decode cX4_find 50 = .ok (.istore 4, 2) := by decide +kernel
theorem dX4_find_52 : decode cX4_find 52 = .ok (.aload_n 3, 1) := by decide +kernel
theorem dX4_find_53 : decode cX4_find 53 = .ok (.iload_n 2, 1) := by decide +kernel
theorem dX4_find_54 : decode cX4_find 54 = .ok (.invokevirtual 85, 3) := by decide +kernel
theorem dX4_find_57 : decode cX4_find 57 = .ok (.aload_n 0, 1) := by decide +kernel
theorem dX4_find_58 : decode cX4_find 58 = .ok (.iload 4, 2) := by decide +kernel
theorem dX4_find_60 : decode cX4_find 60 = .ok (.invokevirtual 53, 3) := by decide +kernel
theorem dX4_find_63 : decode cX4_find 63 = .ok (.ireturn, 1) := by decide +kernel
theorem dX4_pass_0 : decode cX4_pass 0 = .ok (.aload_n 0, 1) := by decide +kernel
theorem dX4_pass_1 : decode cX4_pass 1 = .ok (.getfield 19, 3) := by decide +kernel
theorem dX4_pass_4 : decode cX4_pass 4 = .ok (.aload_n 0, 1) := by decide +kernel
theorem dX4_pass_5 : decode cX4_pass 5 = .ok (.getfield 10, 3) := by decide +kernel
theorem dX4_pass_8 : decode cX4_pass 8 = .ok (.invokevirtual 45, 3) := by decide +kernel
theorem dX4_pass_11 : decode cX4_pass 11 = .ok (.aload_n 0, 1) := by decide +kernel
theorem dX4_pass_12 : decode cX4_pass 12 = .ok (.aload_n 0, 1) := by decide +kernel
theorem dX4_pass_13 : decode cX4_pass 13 = .ok (.iload_n 1, 1) := by decide +kernel
theorem dX4_pass_14 : decode cX4_pass 14 = .ok (.invokevirtual 89, 3) := by decide +kernel
theorem dX4_pass_17 : decode cX4_pass 17 = .ok (.invokevirtual 53, 3) := by decide +kernel
theorem dX4_pass_20 : decode cX4_pass 20 = .ok (.ireturn, 1) := by decide +kernel
theorem dX4_recorded_0 : decode cX4_recorded 0 = .ok (.iload_n 1, 1) := by decide +kernel
theorem dX4_recorded_1 : decode cX4_recorded 1 = .ok (.ifCond .lt 10, 3) := by decide +kernel
theorem dX4_recorded_4 : decode cX4_recorded 4 = .ok (.aload_n 0, 1) := by decide +kernel
theorem dX4_recorded_5 : decode cX4_recorded 5 = .ok (.getfield 19, 3) := by decide +kernel
theorem dX4_recorded_8 : decode cX4_recorded 8 = .ok (.invokevirtual 92, 3) := by decide +kernel
theorem dX4_recorded_11 : decode cX4_recorded 11 = .ok (.iload_n 1, 1) := by decide +kernel
theorem dX4_recorded_12 : decode cX4_recorded 12 = .ok (.ireturn, 1) := by decide +kernel
theorem dX4_addTroop_0 : decode cX4_addTroop 0 = .ok (.iload_n 1, 1) := by decide +kernel
theorem dX4_addTroop_1 : decode cX4_addTroop 1 = .ok (.invokestatic 95, 3) := by decide +kernel
theorem dX4_addTroop_4 : decode cX4_addTroop 4 = .ok (.ifCond .ne 6, 3) := by decide +kernel
theorem dX4_addTroop_7 : decode cX4_addTroop 7 = .ok (.bipush (-2), 2) := by decide +kernel
theorem dX4_addTroop_9 : decode cX4_addTroop 9 = .ok (.ireturn, 1) := by decide +kernel
theorem dX4_addTroop_10 : decode cX4_addTroop 10 = .ok (.aload_n 0, 1) := by decide +kernel
theorem dX4_addTroop_11 : decode cX4_addTroop 11 = .ok (.getfield 10, 3) := by decide +kernel
theorem dX4_addTroop_14 : decode cX4_addTroop 14 = .ok (.getfield 99, 3) := by decide +kernel
theorem dX4_addTroop_17 : decode cX4_addTroop 17 = .ok (.iconst 5, 1) := by decide +kernel
theorem dX4_addTroop_18 : decode cX4_addTroop 18 = .ok (.if_icmp .lt 6, 3) := by decide +kernel
theorem dX4_addTroop_21 : decode cX4_addTroop 21 = .ok (.bipush (-4), 2) := by decide +kernel
theorem dX4_addTroop_23 : decode cX4_addTroop 23 = .ok (.ireturn, 1) := by decide +kernel
theorem dX4_addTroop_24 : decode cX4_addTroop 24 = .ok (.aload_n 0, 1) := by decide +kernel
theorem dX4_addTroop_25 : decode cX4_addTroop 25 = .ok (.getfield 10, 3) := by decide +kernel
theorem dX4_addTroop_28 : decode cX4_addTroop 28 = .ok (.getfield 99, 3) := by decide +kernel
theorem dX4_addTroop_31 : decode cX4_addTroop 31 = .ok (.istore_n 2, 1) := by decide +kernel
theorem dX4_addTroop_32 : decode cX4_addTroop 32 = .ok (.aload_n 0, 1) := by decide +kernel
theorem dX4_addTroop_33 : decode cX4_addTroop 33 = .ok (.getfield 10, 3) := by decide +kernel
theorem dX4_addTroop_36 : decode cX4_addTroop 36 = .ok (.getfield 75, 3) := by decide +kernel
theorem dX4_addTroop_39 : decode cX4_addTroop 39 = .ok (.iload_n 2, 1) := by decide +kernel
theorem dX4_addTroop_40 : decode cX4_addTroop 40 = .ok (.aaload, 1) := by decide +kernel
theorem dX4_addTroop_41 : decode cX4_addTroop 41 = .ok (.iload_n 1, 1) := by decide +kernel
theorem dX4_addTroop_42 : decode cX4_addTroop 42 = .ok (.invokevirtual 103, 3) := by decide +kernel
theorem dX4_addTroop_45 : decode cX4_addTroop 45 = .ok (.aload_n 0, 1) := by decide +kernel
theorem dX4_addTroop_46 : decode cX4_addTroop 46 = .ok (.getfield 10, 3) := by decide +kernel
theorem dX4_addTroop_49 : decode cX4_addTroop 49 = .ok (.dup, 1) := by decide +kernel
theorem dX4_addTroop_50 : decode cX4_addTroop 50 = .ok (.getfield 99, 3) := by decide +kernel
theorem dX4_addTroop_53 : decode cX4_addTroop 53 = .ok (.iconst 1, 1) := by decide +kernel
theorem dX4_addTroop_54 : decode cX4_addTroop 54 = .ok (.iadd, 1) := by decide +kernel
theorem dX4_addTroop_55 : decode cX4_addTroop 55 = .ok (.putfield 99, 3) := by decide +kernel
theorem dX4_addTroop_58 : decode cX4_addTroop 58 = .ok (.iload_n 2, 1) := by decide +kernel
theorem dX4_addTroop_59 : decode cX4_addTroop 59 = .ok (.ireturn, 1) := by decide +kernel
theorem dX4_changeSize_0 : decode cX4_changeSize 0 = .ok (.aload_n 0, 1) := by decide +kernel
theorem dX4_changeSize_1 : decode cX4_changeSize 1 = .ok (.iload_n 1, 1) := by decide +kernel
theorem dX4_changeSize_2 : decode cX4_changeSize 2 = .ok (.invokevirtual 106, 3) := by decide +kernel
theorem dX4_changeSize_5 : decode cX4_changeSize 5 = .ok (.ifCond .ne 5, 3) := by decide +kernel
theorem dX4_changeSize_8 : decode cX4_changeSize 8 = .ok (.iconst (-1), 1) := by decide +kernel
theorem dX4_changeSize_9 : decode cX4_changeSize 9 = .ok (.ireturn, 1) := by decide +kernel
theorem dX4_changeSize_10 : decode cX4_changeSize 10 = .ok (.iload_n 2, 1) := by decide +kernel
theorem dX4_changeSize_11 : decode cX4_changeSize 11 = .ok (.invokestatic 95, 3) := by decide +kernel
theorem dX4_changeSize_14 : decode cX4_changeSize 14 = .ok (.ifCond .ne 6, 3) := by decide +kernel
theorem dX4_changeSize_17 : decode cX4_changeSize 17 = .ok (.bipush (-2), 2) := by decide +kernel
theorem dX4_changeSize_19 : decode cX4_changeSize 19 = .ok (.ireturn, 1) := by decide +kernel
theorem dX4_changeSize_20 : decode cX4_changeSize 20 = .ok (.aload_n 0, 1) := by decide +kernel
theorem dX4_changeSize_21 : decode cX4_changeSize 21 = .ok (.getfield 10, 3) := by decide +kernel
theorem dX4_changeSize_24 : decode cX4_changeSize 24 = .ok (.getfield 75, 3) := by decide +kernel
theorem dX4_changeSize_27 : decode cX4_changeSize 27 = .ok (.iload_n 1, 1) := by decide +kernel
theorem dX4_changeSize_28 : decode cX4_changeSize 28 = .ok (.aaload, 1) := by decide +kernel
theorem dX4_changeSize_29 : decode cX4_changeSize 29 = .ok (.astore_n 3, 1) := by decide +kernel
theorem dX4_changeSize_30 : decode cX4_changeSize 30 = .ok (.aload_n 3, 1) := by decide +kernel
theorem dX4_changeSize_31 : decode cX4_changeSize 31 = .ok (.getfield 109, 3) := by decide +kernel
theorem dX4_changeSize_34 : decode cX4_changeSize 34 = .ok (.istore 4, 2) := by decide +kernel
theorem dX4_changeSize_36 : decode cX4_changeSize 36 = .ok (.aload_n 3, 1) := by decide +kernel
theorem dX4_changeSize_37 : decode cX4_changeSize 37 = .ok (.iload_n 2, 1) := by decide +kernel
theorem dX4_changeSize_38 : decode cX4_changeSize 38 = .ok (.putfield 109, 3) := by decide +kernel
theorem dX4_changeSize_41 : decode cX4_changeSize 41 = .ok (.iload 4, 2) := by decide +kernel
theorem dX4_changeSize_43 : decode cX4_changeSize 43 = .ok (.ireturn, 1) := by decide +kernel
theorem dX4_letCome_0 : decode cX4_letCome 0 = .ok (.aload_n 0, 1) := by decide +kernel
theorem dX4_letCome_1 : decode cX4_letCome 1 = .ok (.iload_n 1, 1) := by decide +kernel
theorem dX4_letCome_2 : decode cX4_letCome 2 = .ok (.iload_n 2, 1) := by decide +kernel
theorem dX4_letCome_3 : decode cX4_letCome 3 = .ok (.iload_n 3, 1) := by decide +kernel
theorem dX4_letCome_4 : decode cX4_letCome 4 = .ok (.invokevirtual 112, 3) := by decide +kernel
theorem dX4_letCome_7 : decode cX4_letCome 7 = .ok (.istore 4, 2) := by decide +kernel
theorem dX4_letCome_9 : decode cX4_letCome 9 = .ok (.iload 4, 2) := by decide +kernel
theorem dX4_letCome_11 : decode cX4_letCome 11 = .ok (.ifCond .ge 6, 3) := by decide +kernel
theorem dX4_letCome_14 : decode cX4_letCome 14 = .ok (.iload 4, 2) := by decide +kernel
theorem dX4_letCome_16 : decode cX4_letCome 16 = .ok (.ireturn, 1) := by decide +kernel
theorem dX4_letCome_17 : decode cX4_letCome 17 = .ok (.iload 4, 2) := by decide +kernel
theorem dX4_letCome_19 : decode cX4_letCome 19 = .ok (.iconst 4, 1) := by decide +kernel
theorem dX4_letCome_20 : decode cX4_letCome 20 = .ok (.if_icmp .ne 19, 3) := by decide +kernel
theorem dX4_letCome_23 : decode cX4_letCome 23 = .ok (.aload_n 0, 1) := by decide +kernel
theorem dX4_letCome_24 : decode cX4_letCome 24 = .ok (.getfield 10, 3) := by decide +kernel
theorem dX4_letCome_27 : decode cX4_letCome 27 = .ok (.dup, 1) := by decide +kernel
theorem dX4_letCome_28 : decode cX4_letCome 28 = .ok (.getfield 115, 3) := by decide +kernel
theorem dX4_letCome_31 : decode cX4_letCome 31 = .ok (.iconst 1, 1) := by decide +kernel
theorem dX4_letCome_32 : decode cX4_letCome 32 = .ok (.iadd, 1) := by decide +kernel
theorem dX4_letCome_33 : decode cX4_letCome 33 = .ok (.putfield 115, 3) := by decide +kernel
theorem dX4_letCome_36 : decode cX4_letCome 36 = .ok (.goto 11, 3) := by decide +kernel
theorem dX4_letCome_39 : decode cX4_letCome 39 = .ok (.iload 4, 2) := by decide +kernel
theorem dX4_letCome_41 : decode cX4_letCome 41 = .ok (.ifCond .eq 6, 3) := by decide +kernel
theorem dX4_letCome_44 : decode cX4_letCome 44 = .ok (.bipush (-5), 2) := by decide +kernel
theorem dX4_letCome_46 : decode cX4_letCome 46 = .ok (.ireturn, 1) := by decide +kernel
theorem dX4_letCome_47 : decode cX4_letCome 47 = .ok (.aload_n 0, 1) := by decide +kernel
theorem dX4_letCome_48 : decode cX4_letCome 48 = .ok (.getfield 10, 3) := by decide +kernel
theorem dX4_letCome_51 : decode cX4_letCome 51 = .ok (.getfield 75, 3) := by decide +kernel
theorem dX4_letCome_54 : decode cX4_letCome 54 = .ok (.iload_n 1, 1) := by decide +kernel
theorem dX4_letCome_55 : decode cX4_letCome 55 = .ok (.aaload, 1) := by decide +kernel
theorem dX4_letCome_56 : decode cX4_letCome 56 = .ok (.iload_n 2, 1) := by decide +kernel
theorem dX4_letCome_57 : decode cX4_letCome 57 = .ok (.iload_n 3, 1) := by decide +kernel
theorem dX4_letCome_58 : decode cX4_letCome 58 = .ok (.aload_n 0, 1) := by decide +kernel
theorem dX4_letCome_59 : decode cX4_letCome 59 = .ok (.getfield 10, 3) := by decide +kernel
theorem dX4_letCome_62 : decode cX4_letCome 62 = .ok (.getfield 49, 3) := by decide +kernel
theorem dX4_letCome_65 : decode cX4_letCome 65 = .ok (.iconst 1, 1) := by decide +kernel
theorem dX4_letCome_66 : decode cX4_letCome 66 = .ok (.iaload, 1) := by decide +kernel
theorem dX4_letCome_67 : decode cX4_letCome 67 = .ok (.invokevirtual 118, 3) := by decide +kernel
theorem dX4_letCome_70 : decode cX4_letCome 70 = .ok (.ireturn, 1) := by decide +kernel
theorem dX4_loseScout_0 : decode cX4_loseScout 0 = .ok (.aload_n 0, 1) := by decide +kernel
theorem dX4_loseScout_1 : decode cX4_loseScout 1 = .ok (.iload_n 1, 1) := by decide +kernel
theorem dX4_loseScout_2 : decode cX4_loseScout 2 = .ok (.iload_n 2, 1) := by decide +kernel
theorem dX4_loseScout_3 : decode cX4_loseScout 3 = .ok (.invokevirtual 71, 3) := by decide +kernel
theorem dX4_loseScout_6 : decode cX4_loseScout 6 = .ok (.ifCond .ne 5, 3) := by decide +kernel
theorem dX4_loseScout_9 : decode cX4_loseScout 9 = .ok (.iconst (-1), 1) := by decide +kernel
theorem dX4_loseScout_10 : decode cX4_loseScout 10 = .ok (.ireturn, 1) := by decide +kernel
theorem dX4_loseScout_11 : decode cX4_loseScout 11 = .ok (.aload_n 0, 1) := by decide +kernel
theorem dX4_loseScout_12 : decode cX4_loseScout 12 = .ok (.getfield 10, 3) := by decide +kernel
theorem dX4_loseScout_15 : decode cX4_loseScout 15 = .ok (.getfield 75, 3) := by decide +kernel
theorem dX4_loseScout_18 : decode cX4_loseScout 18 = .ok (.iload_n 1, 1) := by decide +kernel
theorem dX4_loseScout_19 : decode cX4_loseScout 19 = .ok (.aaload, 1) := by decide +kernel
theorem dX4_loseScout_20 : decode cX4_loseScout 20 = .ok (.astore_n 3, 1) := by decide +kernel
theorem dX4_loseScout_21 : decode cX4_loseScout 21 = .ok (.aload_n 3, 1) := by decide +kernel
theorem dX4_loseScout_22 : decode cX4_loseScout 22 = .ok (.iload_n 2, 1) := by decide +kernel
theorem dX4_loseScout_23 : decode cX4_loseScout 23 = .ok (.invokevirtual 79, 3) := by decide +kernel
theorem dX4_loseScout_26 : decode cX4_loseScout 26 = .ok (.istore 4, 2) := by decide +kernel
theorem dX4_loseScout_28 : decode cX4_loseScout 28 = .ok (.iload 4, 2) := by decide +kernel
theorem dX4_loseScout_30 : decode cX4_loseScout 30 = .ok (.iconst 3, 1) := by decide +kernel
theorem dX4_loseScout_31 : decode cX4_loseScout 31 = .ok (.if_icmp .eq 9, 3) := by decide +kernel
theorem dX4_loseScout_34 : decode cX4_loseScout 34 = .ok (.iload 4, 2) := by decide +kernel
theorem dX4_loseScout_36 : decode cX4_loseScout 36 = .ok (.iconst 4, 1) := by decide +kernel
theorem dX4_loseScout_37 : decode cX4_loseScout 37 = .ok (.if_icmp .ne 6, 3) := by decide +kernel
theorem dX4_loseScout_40 : decode cX4_loseScout 40 = .ok (.bipush (-5), 2) := by decide +kernel
theorem dX4_loseScout_42 : decode cX4_loseScout 42 = .ok (.ireturn, 1) := by decide +kernel
theorem dX4_loseScout_43 : decode cX4_loseScout 43 = .ok (.aload_n 3, 1) := by decide +kernel
theorem dX4_loseScout_44 : decode cX4_loseScout 44 = .ok (.iload_n 2, 1) := by decide +kernel
theorem dX4_loseScout_45 : decode cX4_loseScout 45 = .ok (.invokevirtual 121, 3) := by decide +kernel
theorem dX4_loseScout_48 : decode cX4_loseScout 48 = .ok (.aload_n 3, 1) := by decide +kernel
theorem dX4_loseScout_49 : decode cX4_loseScout 49 = .ok (.invokevirtual 124, 3) := by decide +kernel
theorem dX4_loseScout_52 : decode cX4_loseScout 52 = .ok (.ireturn, 1) := by decide +kernel
theorem dX4_passMinutes_0 : decode cX4_passMinutes 0 = .ok (.iload_n 1, 1) := by decide +kernel
theorem dX4_passMinutes_1 : decode cX4_passMinutes 1 = .ok (.iconst 1, 1) := by decide +kernel
theorem dX4_passMinutes_2 : decode cX4_passMinutes 2 = .ok (.if_icmp .lt 9, 3) := by decide +kernel
theorem dX4_passMinutes_5 : decode cX4_passMinutes 5 = .ok (.iload_n 1, 1) := by decide +kernel
theorem dX4_passMinutes_6 : decode cX4_passMinutes 6 = .ok (.bipush 99, 2) := by decide +kernel
theorem dX4_passMinutes_8 : decode cX4_passMinutes 8 = .ok (.if_icmp .le 6, 3) := by decide +kernel
theorem dX4_passMinutes_11 : decode cX4_passMinutes 11 = .ok (.bipush (-2), 2) := by decide +kernel
theorem dX4_passMinutes_13 : decode cX4_passMinutes 13 = .ok (.ireturn, 1) := by decide +kernel
theorem dX4_passMinutes_14 : decode cX4_passMinutes 14 = .ok (.aload_n 0, 1) := by decide +kernel
theorem dX4_passMinutes_15 : decode cX4_passMinutes 15 = .ok (.getfield 10, 3) := by decide +kernel
theorem dX4_passMinutes_18 : decode cX4_passMinutes 18 = .ok (.getfield 128, 3) := by decide +kernel
theorem dX4_passMinutes_21 : decode cX4_passMinutes 21 = .ok (.iload_n 1, 1) := by decide +kernel
theorem dX4_passMinutes_22 : decode cX4_passMinutes 22 = .ok (.iadd, 1) := by decide +kernel
theorem dX4_passMinutes_23 : decode cX4_passMinutes 23 = .ok (.sipush 9999, 3) := by decide +kernel
theorem dX4_passMinutes_26 : decode cX4_passMinutes 26 = .ok (.if_icmp .le 6, 3) := by decide +kernel
theorem dX4_passMinutes_29 : decode cX4_passMinutes 29 = .ok (.bipush (-5), 2) := by decide +kernel
theorem dX4_passMinutes_31 : decode cX4_passMinutes 31 = .ok (.ireturn, 1) := by decide +kernel
theorem dX4_passMinutes_32 : decode cX4_passMinutes 32 = .ok (.iconst 0, 1) := by decide +kernel
theorem dX4_passMinutes_33 : decode cX4_passMinutes 33 = .ok (.istore_n 2, 1) := by decide +kernel
theorem dX4_passMinutes_34 : decode cX4_passMinutes 34 = .ok (.iconst 0, 1) := by decide +kernel
theorem dX4_passMinutes_35 : decode cX4_passMinutes 35 = .ok (.istore_n 3, 1) := by decide +kernel
theorem dX4_passMinutes_36 : decode cX4_passMinutes 36 = .ok (.iload_n 3, 1) := by decide +kernel
theorem dX4_passMinutes_37 : decode cX4_passMinutes 37 = .ok (.iload_n 1, 1) := by decide +kernel
theorem dX4_passMinutes_38 : decode cX4_passMinutes 38 = .ok (.if_icmp .ge 64, 3) := by decide +kernel
theorem dX4_passMinutes_41 : decode cX4_passMinutes 41 = .ok (.iconst 0, 1) := by decide +kernel
theorem dX4_passMinutes_42 : decode cX4_passMinutes 42 = .ok (.istore 4, 2) := by decide +kernel
theorem dX4_passMinutes_44 : decode cX4_passMinutes 44 = .ok (.iload 4, 2) := by decide +kernel
theorem dX4_passMinutes_46 : decode cX4_passMinutes 46 = .ok (.aload_n 0, 1) := by decide +kernel
theorem dX4_passMinutes_47 : decode cX4_passMinutes 47 = .ok (.getfield 10, 3) := by decide +kernel
theorem dX4_passMinutes_50 : decode cX4_passMinutes 50 = .ok (.getfield 99, 3) := by decide +kernel
theorem dX4_passMinutes_53 : decode cX4_passMinutes 53 = .ok (.if_icmp .ge 43, 3) := by decide +kernel
theorem dX4_passMinutes_56 : decode cX4_passMinutes 56 = .ok (.iload_n 2, 1) := by decide +kernel
theorem dX4_passMinutes_57 : decode cX4_passMinutes 57 = .ok (.aload_n 0, 1) := by decide +kernel
theorem dX4_passMinutes_58 : decode cX4_passMinutes 58 = .ok (.getfield 10, 3) := by decide +kernel
theorem dX4_passMinutes_61 : decode cX4_passMinutes 61 = .ok (.getfield 75, 3) := by decide +kernel
theorem dX4_passMinutes_64 : decode cX4_passMinutes 64 = .ok (.iload 4, 2) := by decide +kernel
theorem dX4_passMinutes_66 : decode cX4_passMinutes 66 = .ok (.aaload, 1) := by decide +kernel
theorem dX4_passMinutes_67 : decode cX4_passMinutes 67 = .ok (.aload_n 0, 1) := by decide +kernel
theorem dX4_passMinutes_68 : decode cX4_passMinutes 68 = .ok (.getfield 10, 3) := by decide +kernel
theorem dX4_passMinutes_71 : decode cX4_passMinutes 71 = .ok (.getfield 49, 3) := by decide +kernel
theorem dX4_passMinutes_74 : decode cX4_passMinutes 74 = .ok (.iconst 0, 1) := by decide +kernel
theorem dX4_passMinutes_75 : decode cX4_passMinutes 75 = .ok (.iaload, 1) := by decide +kernel
theorem dX4_passMinutes_76 : decode cX4_passMinutes 76 = .ok (.aload_n 0, 1) := by decide +kernel
theorem dX4_passMinutes_77 : decode cX4_passMinutes 77 = .ok (.getfield 10, 3) := by decide +kernel
theorem dX4_passMinutes_80 : decode cX4_passMinutes 80 = .ok (.getfield 49, 3) := by decide +kernel
theorem dX4_passMinutes_83 : decode cX4_passMinutes 83 = .ok (.iconst 1, 1) := by decide +kernel
theorem dX4_passMinutes_84 : decode cX4_passMinutes 84 = .ok (.iaload, 1) := by decide +kernel
theorem dX4_passMinutes_85 : decode cX4_passMinutes 85 = .ok (.invokevirtual 130, 3) := by decide +kernel
theorem dX4_passMinutes_88 : decode cX4_passMinutes 88 = .ok (.iadd, 1) := by decide +kernel
theorem dX4_passMinutes_89 : decode cX4_passMinutes 89 = .ok (.istore_n 2, 1) := by decide +kernel
theorem dX4_passMinutes_90 : decode cX4_passMinutes 90 = .ok (.iinc 4 1, 3) := by decide +kernel
theorem dX4_passMinutes_93 : decode cX4_passMinutes 93 = .ok (.goto (-49), 3) := by decide +kernel
theorem dX4_passMinutes_96 : decode cX4_passMinutes 96 = .ok (.iinc 3 1, 3) := by decide +kernel
theorem dX4_passMinutes_99 : decode cX4_passMinutes 99 = .ok (.goto (-63), 3) := by decide +kernel
theorem dX4_passMinutes_102 : decode cX4_passMinutes 102 = .ok (.aload_n 0, 1) := by decide +kernel
theorem dX4_passMinutes_103 : decode cX4_passMinutes 103 = .ok (.getfield 10, 3) := by decide +kernel
theorem dX4_passMinutes_106 : decode cX4_passMinutes 106 = .ok (.dup, 1) := by decide +kernel
theorem dX4_passMinutes_107 : decode cX4_passMinutes 107 = .ok (.getfield 128, 3) := by decide +kernel
theorem dX4_passMinutes_110 : decode cX4_passMinutes 110 = .ok (.iload_n 1, 1) := by decide +kernel
theorem dX4_passMinutes_111 : decode cX4_passMinutes 111 = .ok (.iadd, 1) := by decide +kernel
theorem dX4_passMinutes_112 : decode cX4_passMinutes 112 = .ok (.putfield 128, 3) := by decide +kernel
theorem dX4_passMinutes_115 : decode cX4_passMinutes 115 = .ok (.iload_n 2, 1) := by decide +kernel
theorem dX4_passMinutes_116 : decode cX4_passMinutes 116 = .ok (.ireturn, 1) := by decide +kernel
theorem dX4_ofTroop_0 : decode cX4_ofTroop 0 = .ok (.aload_n 0, 1) := by decide +kernel
theorem dX4_ofTroop_1 : decode cX4_ofTroop 1 = .ok (.iload_n 1, 1) := by decide +kernel
theorem dX4_ofTroop_2 : decode cX4_ofTroop 2 = .ok (.invokevirtual 106, 3) := by decide +kernel
theorem dX4_ofTroop_5 : decode cX4_ofTroop 5 = .ok (.ifCond .ne 5, 3) := by decide +kernel
theorem dX4_ofTroop_8 : decode cX4_ofTroop 8 = .ok (.iconst (-1), 1) := by decide +kernel
theorem dX4_ofTroop_9 : decode cX4_ofTroop 9 = .ok (.ireturn, 1) := by decide +kernel
theorem dX4_ofTroop_10 : decode cX4_ofTroop 10 = .ok (.aload_n 0, 1) := by decide +kernel
theorem dX4_ofTroop_11 : decode cX4_ofTroop 11 = .ok (.getfield 10, 3) := by decide +kernel
theorem dX4_ofTroop_14 : decode cX4_ofTroop 14 = .ok (.getfield 75, 3) := by decide +kernel
theorem dX4_ofTroop_17 : decode cX4_ofTroop 17 = .ok (.iload_n 1, 1) := by decide +kernel
theorem dX4_ofTroop_18 : decode cX4_ofTroop 18 = .ok (.aaload, 1) := by decide +kernel
theorem dX4_ofTroop_19 : decode cX4_ofTroop 19 = .ok (.astore_n 3, 1) := by decide +kernel
theorem dX4_ofTroop_20 : decode cX4_ofTroop 20 = .ok (.iload_n 2, 1) := by decide +kernel
theorem dX4_ofTroop_21 : decode cX4_ofTroop 21 = .ok (.tableswitch 123 0 11 #[63, 68, 73, 78, 83, 88, 93, 98, 103, 108, 113, 118], 63) := by decide +kernel
theorem dX4_ofTroop_84 : decode cX4_ofTroop 84 = .ok (.aload_n 3, 1) := by decide +kernel
theorem dX4_ofTroop_85 : decode cX4_ofTroop 85 = .ok (.getfield 133, 3) := by decide +kernel
theorem dX4_ofTroop_88 : decode cX4_ofTroop 88 = .ok (.ireturn, 1) := by decide +kernel
theorem dX4_ofTroop_89 : decode cX4_ofTroop 89 = .ok (.aload_n 3, 1) := by decide +kernel
theorem dX4_ofTroop_90 : decode cX4_ofTroop 90 = .ok (.getfield 136, 3) := by decide +kernel
theorem dX4_ofTroop_93 : decode cX4_ofTroop 93 = .ok (.ireturn, 1) := by decide +kernel
theorem dX4_ofTroop_94 : decode cX4_ofTroop 94 = .ok (.aload_n 3, 1) := by decide +kernel
theorem dX4_ofTroop_95 : decode cX4_ofTroop 95 = .ok (.getfield 109, 3) := by decide +kernel
theorem dX4_ofTroop_98 : decode cX4_ofTroop 98 = .ok (.ireturn, 1) := by decide +kernel
theorem dX4_ofTroop_99 : decode cX4_ofTroop 99 = .ok (.aload_n 3, 1) := by decide +kernel
theorem dX4_ofTroop_100 : decode cX4_ofTroop 100 = .ok (.invokevirtual 124, 3) := by decide +kernel
theorem dX4_ofTroop_103 : decode cX4_ofTroop 103 = .ok (.ireturn, 1) := by decide +kernel
theorem dX4_ofTroop_104 : decode cX4_ofTroop 104 = .ok (.aload_n 3, 1) := by decide +kernel
theorem dX4_ofTroop_105 : decode cX4_ofTroop 105 = .ok (.getfield 139, 3) := by decide +kernel
theorem dX4_ofTroop_108 : decode cX4_ofTroop 108 = .ok (.ireturn, 1) := by decide +kernel
theorem dX4_ofTroop_109 : decode cX4_ofTroop 109 = .ok (.aload_n 3, 1) := by decide +kernel
theorem dX4_ofTroop_110 : decode cX4_ofTroop 110 = .ok (.invokevirtual 142, 3) := by decide +kernel
theorem dX4_ofTroop_113 : decode cX4_ofTroop 113 = .ok (.ireturn, 1) := by decide +kernel
theorem dX4_ofTroop_114 : decode cX4_ofTroop 114 = .ok (.aload_n 3, 1) := by decide +kernel
theorem dX4_ofTroop_115 : decode cX4_ofTroop 115 = .ok (.getfield 145, 3) := by decide +kernel
theorem dX4_ofTroop_118 : decode cX4_ofTroop 118 = .ok (.ireturn, 1) := by decide +kernel
theorem dX4_ofTroop_119 : decode cX4_ofTroop 119 = .ok (.aload_n 3, 1) := by decide +kernel
theorem dX4_ofTroop_120 : decode cX4_ofTroop 120 = .ok (.getfield 148, 3) := by decide +kernel
theorem dX4_ofTroop_123 : decode cX4_ofTroop 123 = .ok (.ireturn, 1) := by decide +kernel
theorem dX4_ofTroop_124 : decode cX4_ofTroop 124 = .ok (.aload_n 3, 1) := by decide +kernel
theorem dX4_ofTroop_125 : decode cX4_ofTroop 125 = .ok (.getfield 151, 3) := by decide +kernel
theorem dX4_ofTroop_128 : decode cX4_ofTroop 128 = .ok (.ireturn, 1) := by decide +kernel
theorem dX4_ofTroop_129 : decode cX4_ofTroop 129 = .ok (.aload_n 3, 1) := by decide +kernel
theorem dX4_ofTroop_130 : decode cX4_ofTroop 130 = .ok (.getfield 154, 3) := by decide +kernel
theorem dX4_ofTroop_133 : decode cX4_ofTroop 133 = .ok (.ireturn, 1) := by decide +kernel
theorem dX4_ofTroop_134 : decode cX4_ofTroop 134 = .ok (.aload_n 3, 1) := by decide +kernel
theorem dX4_ofTroop_135 : decode cX4_ofTroop 135 = .ok (.getfield 157, 3) := by decide +kernel
theorem dX4_ofTroop_138 : decode cX4_ofTroop 138 = .ok (.ireturn, 1) := by decide +kernel
theorem dX4_ofTroop_139 : decode cX4_ofTroop 139 = .ok (.aload_n 3, 1) := by decide +kernel
theorem dX4_ofTroop_140 : decode cX4_ofTroop 140 = .ok (.getfield 160, 3) := by decide +kernel
theorem dX4_ofTroop_143 : decode cX4_ofTroop 143 = .ok (.ireturn, 1) := by decide +kernel
theorem dX4_ofTroop_144 : decode cX4_ofTroop 144 = .ok (.bipush (-2), 2) := by decide +kernel
theorem dX4_ofTroop_146 : decode cX4_ofTroop 146 = .ok (.ireturn, 1) := by decide +kernel
theorem dX4_of_0 : decode cX4_of 0 = .ok (.aload_n 0, 1) := by decide +kernel
theorem dX4_of_1 : decode cX4_of 1 = .ok (.iload_n 1, 1) := by decide +kernel
theorem dX4_of_2 : decode cX4_of 2 = .ok (.invokevirtual 106, 3) := by decide +kernel
theorem dX4_of_5 : decode cX4_of 5 = .ok (.ifCond .ne 5, 3) := by decide +kernel
theorem dX4_of_8 : decode cX4_of 8 = .ok (.iconst (-1), 1) := by decide +kernel
theorem dX4_of_9 : decode cX4_of 9 = .ok (.ireturn, 1) := by decide +kernel
theorem dX4_of_10 : decode cX4_of 10 = .ok (.aload_n 0, 1) := by decide +kernel
theorem dX4_of_11 : decode cX4_of 11 = .ok (.getfield 10, 3) := by decide +kernel
theorem dX4_of_14 : decode cX4_of 14 = .ok (.getfield 75, 3) := by decide +kernel
theorem dX4_of_17 : decode cX4_of 17 = .ok (.iload_n 1, 1) := by decide +kernel
theorem dX4_of_18 : decode cX4_of 18 = .ok (.aaload, 1) := by decide +kernel
theorem dX4_of_19 : decode cX4_of 19 = .ok (.astore 4, 2) := by decide +kernel
theorem dX4_of_21 : decode cX4_of 21 = .ok (.aload 4, 2) := by decide +kernel
theorem dX4_of_23 : decode cX4_of 23 = .ok (.iload_n 2, 1) := by decide +kernel
theorem dX4_of_24 : decode cX4_of 24 = .ok (.invokevirtual 163, 3) := by decide +kernel
theorem dX4_of_27 : decode cX4_of 27 = .ok (.ifCond .ne 5, 3) := by decide +kernel
theorem dX4_of_30 : decode cX4_of 30 = .ok (.iconst (-1), 1) := by decide +kernel
theorem dX4_of_31 : decode cX4_of 31 = .ok (.ireturn, 1) := by decide +kernel
theorem dX4_of_32 : decode cX4_of 32 = .ok (.iload_n 3, 1) := by decide +kernel
theorem dX4_of_33 : decode cX4_of 33 = .ok (.tableswitch 64 0 3 #[31, 38, 46, 54], 31) := by decide +kernel
theorem dX4_of_64 : decode cX4_of 64 = .ok (.aload 4, 2) := by decide +kernel
theorem dX4_of_66 : decode cX4_of 66 = .ok (.iload_n 2, 1) := by decide +kernel
theorem dX4_of_67 : decode cX4_of 67 = .ok (.invokevirtual 79, 3) := by decide +kernel
theorem dX4_of_70 : decode cX4_of 70 = .ok (.ireturn, 1) := by decide +kernel
theorem dX4_of_71 : decode cX4_of 71 = .ok (.aload 4, 2) := by decide +kernel
theorem dX4_of_73 : decode cX4_of 73 = .ok (.getfield 82, 3) := by decide +kernel
theorem dX4_of_76 : decode cX4_of 76 = .ok (.iload_n 2, 1) := by decide +kernel
theorem dX4_of_77 : decode cX4_of 77 = .ok (.iaload, 1) := by decide +kernel
theorem dX4_of_78 : decode cX4_of 78 = .ok (.ireturn, 1) := by decide +kernel
theorem dX4_of_79 : decode cX4_of 79 = .ok (.aload 4, 2) := by decide +kernel
theorem dX4_of_81 : decode cX4_of 81 = .ok (.getfield 166, 3) := by decide +kernel
theorem dX4_of_84 : decode cX4_of 84 = .ok (.iload_n 2, 1) := by decide +kernel
theorem dX4_of_85 : decode cX4_of 85 = .ok (.iaload, 1) := by decide +kernel
theorem dX4_of_86 : decode cX4_of 86 = .ok (.ireturn, 1) := by decide +kernel
theorem dX4_of_87 : decode cX4_of 87 = .ok (.aload 4, 2) := by decide +kernel
theorem dX4_of_89 : decode cX4_of 89 = .ok (.getfield 157, 3) := by decide +kernel
theorem dX4_of_92 : decode cX4_of 92 = .ok (.iload_n 2, 1) := by decide +kernel
theorem dX4_of_93 : decode cX4_of 93 = .ok (.ishr, 1) := by decide +kernel
theorem dX4_of_94 : decode cX4_of 94 = .ok (.iconst 1, 1) := by decide +kernel
theorem dX4_of_95 : decode cX4_of 95 = .ok (.iand, 1) := by decide +kernel
theorem dX4_of_96 : decode cX4_of 96 = .ok (.ireturn, 1) := by decide +kernel
theorem dX4_of_97 : decode cX4_of 97 = .ok (.bipush (-2), 2) := by decide +kernel
theorem dX4_of_99 : decode cX4_of 99 = .ok (.ireturn, 1) := by decide +kernel
theorem dX4_count_0 : decode cX4_count 0 = .ok (.iload_n 1, 1) := by decide +kernel
theorem dX4_count_1 : decode cX4_count 1 = .ok (.tableswitch 139 0 9 #[55, 63, 71, 79, 87, 95, 103, 113, 123, 131], 55) := by decide +kernel
theorem dX4_count_56 : decode cX4_count 56 = .ok (.aload_n 0, 1) := by decide +kernel
theorem dX4_count_57 : decode cX4_count 57 = .ok (.getfield 10, 3) := by decide +kernel
theorem dX4_count_60 : decode cX4_count 60 = .ok (.getfield 128, 3) := by decide +kernel
theorem dX4_count_63 : decode cX4_count 63 = .ok (.ireturn, 1) := by decide +kernel
theorem dX4_count_64 : decode cX4_count 64 = .ok (.aload_n 0, 1) := by decide +kernel
theorem dX4_count_65 : decode cX4_count 65 = .ok (.getfield 10, 3) := by decide +kernel
theorem dX4_count_68 : decode cX4_count 68 = .ok (.getfield 99, 3) := by decide +kernel
theorem dX4_count_71 : decode cX4_count 71 = .ok (.ireturn, 1) := by decide +kernel
theorem dX4_count_72 : decode cX4_count 72 = .ok (.aload_n 0, 1) := by decide +kernel
theorem dX4_count_73 : decode cX4_count 73 = .ok (.getfield 10, 3) := by decide +kernel
theorem dX4_count_76 : decode cX4_count 76 = .ok (.invokevirtual 169, 3) := by decide +kernel
theorem dX4_count_79 : decode cX4_count 79 = .ok (.ireturn, 1) := by decide +kernel
theorem dX4_count_80 : decode cX4_count 80 = .ok (.aload_n 0, 1) := by decide +kernel
theorem dX4_count_81 : decode cX4_count 81 = .ok (.getfield 10, 3) := by decide +kernel
theorem dX4_count_84 : decode cX4_count 84 = .ok (.invokevirtual 171, 3) := by decide +kernel
theorem dX4_count_87 : decode cX4_count 87 = .ok (.ireturn, 1) := by decide +kernel
theorem dX4_count_88 : decode cX4_count 88 = .ok (.aload_n 0, 1) := by decide +kernel
theorem dX4_count_89 : decode cX4_count 89 = .ok (.getfield 10, 3) := by decide +kernel
theorem dX4_count_92 : decode cX4_count 92 = .ok (.invokevirtual 174, 3) := by decide +kernel
theorem dX4_count_95 : decode cX4_count 95 = .ok (.ireturn, 1) := by decide +kernel
theorem dX4_count_96 : decode cX4_count 96 = .ok (.aload_n 0, 1) := by decide +kernel
theorem dX4_count_97 : decode cX4_count 97 = .ok (.getfield 10, 3) := by decide +kernel
theorem dX4_count_100 : decode cX4_count 100 = .ok (.getfield 115, 3) := by decide +kernel
theorem dX4_count_103 : decode cX4_count 103 = .ok (.ireturn, 1) := by decide +kernel
theorem dX4_count_104 : decode cX4_count 104 = .ok (.aload_n 0, 1) := by decide +kernel
theorem dX4_count_105 : decode cX4_count 105 = .ok (.getfield 10, 3) := by decide +kernel
theorem dX4_count_108 : decode cX4_count 108 = .ok (.getfield 49, 3) := by decide +kernel
theorem dX4_count_111 : decode cX4_count 111 = .ok (.iconst 0, 1) := by decide +kernel
theorem dX4_count_112 : decode cX4_count 112 = .ok (.iaload, 1) := by decide +kernel
theorem dX4_count_113 : decode cX4_count 113 = .ok (.ireturn, 1) := by decide +kernel
theorem dX4_count_114 : decode cX4_count 114 = .ok (.aload_n 0, 1) := by decide +kernel
theorem dX4_count_115 : decode cX4_count 115 = .ok (.getfield 10, 3) := by decide +kernel
theorem dX4_count_118 : decode cX4_count 118 = .ok (.getfield 49, 3) := by decide +kernel
theorem dX4_count_121 : decode cX4_count 121 = .ok (.iconst 1, 1) := by decide +kernel
theorem dX4_count_122 : decode cX4_count 122 = .ok (.iaload, 1) := by decide +kernel
theorem dX4_count_123 : decode cX4_count 123 = .ok (.ireturn, 1) := by decide +kernel
theorem dX4_count_124 : decode cX4_count 124 = .ok (.aload_n 0, 1) := by decide +kernel
theorem dX4_count_125 : decode cX4_count 125 = .ok (.getfield 34, 3) := by decide +kernel
theorem dX4_count_128 : decode cX4_count 128 = .ok (.getfield 177, 3) := by decide +kernel
theorem dX4_count_131 : decode cX4_count 131 = .ok (.ireturn, 1) := by decide +kernel
theorem dX4_count_132 : decode cX4_count 132 = .ok (.aload_n 0, 1) := by decide +kernel
theorem dX4_count_133 : decode cX4_count 133 = .ok (.getfield 19, 3) := by decide +kernel
theorem dX4_count_136 : decode cX4_count 136 = .ok (.getfield 180, 3) := by decide +kernel
theorem dX4_count_139 : decode cX4_count 139 = .ok (.ireturn, 1) := by decide +kernel
theorem dX4_count_140 : decode cX4_count 140 = .ok (.bipush (-2), 2) := by decide +kernel
theorem dX4_count_142 : decode cX4_count 142 = .ok (.ireturn, 1) := by decide +kernel
theorem dX4_why_0 : decode cX4_why 0 = .ok (.aload_n 0, 1) := by decide +kernel
theorem dX4_why_1 : decode cX4_why 1 = .ok (.iload_n 1, 1) := by decide +kernel
theorem dX4_why_2 : decode cX4_why 2 = .ok (.iload_n 2, 1) := by decide +kernel
theorem dX4_why_3 : decode cX4_why 3 = .ok (.invokevirtual 71, 3) := by decide +kernel
theorem dX4_why_6 : decode cX4_why 6 = .ok (.ifCond .ne 5, 3) := by decide +kernel
theorem dX4_why_9 : decode cX4_why 9 = .ok (.iconst (-1), 1) := by decide +kernel
theorem dX4_why_10 : decode cX4_why 10 = .ok (.ireturn, 1) := by decide +kernel
theorem dX4_why_11 : decode cX4_why 11 = .ok (.iload_n 3, 1) := by decide +kernel
theorem dX4_why_12 : decode cX4_why 12 = .ok (.ifCond .lt 8, 3) := by decide +kernel
theorem dX4_why_15 : decode cX4_why 15 = .ok (.iload_n 3, 1) := by decide +kernel
theorem dX4_why_16 : decode cX4_why 16 = .ok (.iconst 1, 1) := by decide +kernel
theorem dX4_why_17 : decode cX4_why 17 = .ok (.if_icmp .le 6, 3) := by decide +kernel
theorem dX4_why_20 : decode cX4_why 20 = .ok (.bipush (-2), 2) := by decide +kernel
theorem dX4_why_22 : decode cX4_why 22 = .ok (.ireturn, 1) := by decide +kernel
theorem dX4_why_23 : decode cX4_why 23 = .ok (.aload_n 0, 1) := by decide +kernel
theorem dX4_why_24 : decode cX4_why 24 = .ok (.getfield 10, 3) := by decide +kernel
theorem dX4_why_27 : decode cX4_why 27 = .ok (.getfield 75, 3) := by decide +kernel
theorem dX4_why_30 : decode cX4_why 30 = .ok (.iload_n 1, 1) := by decide +kernel
theorem dX4_why_31 : decode cX4_why 31 = .ok (.aaload, 1) := by decide +kernel
theorem dX4_why_32 : decode cX4_why 32 = .ok (.astore 4, 2) := by decide +kernel
theorem dX4_why_34 : decode cX4_why 34 = .ok (.aload 4, 2) := by decide +kernel
theorem dX4_why_36 : decode cX4_why 36 = .ok (.iload_n 2, 1) := by decide +kernel
theorem dX4_why_37 : decode cX4_why 37 = .ok (.invokevirtual 79, 3) := by decide +kernel
theorem dX4_why_40 : decode cX4_why 40 = .ok (.tableswitch 34 1 3 #[30, 32, 28], 28) := by decide +kernel
theorem dX4_why_68 : decode cX4_why 68 = .ok (.iconst 1, 1) := by decide +kernel
theorem dX4_why_69 : decode cX4_why 69 = .ok (.ireturn, 1) := by decide +kernel
theorem dX4_why_70 : decode cX4_why 70 = .ok (.iconst 2, 1) := by decide +kernel
theorem dX4_why_71 : decode cX4_why 71 = .ok (.ireturn, 1) := by decide +kernel
theorem dX4_why_72 : decode cX4_why 72 = .ok (.iconst 3, 1) := by decide +kernel
theorem dX4_why_73 : decode cX4_why 73 = .ok (.ireturn, 1) := by decide +kernel
theorem dX4_why_74 : decode cX4_why 74 = .ok (.iload_n 3, 1) := by decide +kernel
theorem dX4_why_75 : decode cX4_why 75 = .ok (.aload 4, 2) := by decide +kernel
theorem dX4_why_77 : decode cX4_why 77 = .ok (.getfield 136, 3) := by decide +kernel
theorem dX4_why_80 : decode cX4_why 80 = .ok (.if_icmp .ne 7, 3) := by decide +kernel
theorem dX4_why_83 : decode cX4_why 83 = .ok (.iconst 0, 1) := by decide +kernel
theorem dX4_why_84 : decode cX4_why 84 = .ok (.goto 4, 3) := by decide +kernel
theorem dX4_why_87 : decode cX4_why 87 = .ok (.iconst 4, 1) := by decide +kernel
theorem dX4_why_88 : decode cX4_why 88 = .ok (.ireturn, 1) := by decide +kernel
theorem dX4_waitsFor_0 : decode cX4_waitsFor 0 = .ok (.aload_n 0, 1) := by decide +kernel
theorem dX4_waitsFor_1 : decode cX4_waitsFor 1 = .ok (.iload_n 1, 1) := by decide +kernel
theorem dX4_waitsFor_2 : decode cX4_waitsFor 2 = .ok (.invokevirtual 106, 3) := by decide +kernel
theorem dX4_waitsFor_5 : decode cX4_waitsFor 5 = .ok (.ifCond .ne 5, 3) := by decide +kernel
theorem dX4_waitsFor_8 : decode cX4_waitsFor 8 = .ok (.iconst (-1), 1) := by decide +kernel
theorem dX4_waitsFor_9 : decode cX4_waitsFor 9 = .ok (.ireturn, 1) := by decide +kernel
theorem dX4_waitsFor_10 : decode cX4_waitsFor 10 = .ok (.aload_n 0, 1) := by decide +kernel
theorem dX4_waitsFor_11 : decode cX4_waitsFor 11 = .ok (.getfield 10, 3) := by decide +kernel
theorem dX4_waitsFor_14 : decode cX4_waitsFor 14 = .ok (.getfield 75, 3) := by decide +kernel
theorem dX4_waitsFor_17 : decode cX4_waitsFor 17 = .ok (.iload_n 1, 1) := by decide +kernel
theorem dX4_waitsFor_18 : decode cX4_waitsFor 18 = .ok (.aaload, 1) := by decide +kernel
theorem dX4_waitsFor_19 : decode cX4_waitsFor 19 = .ok (.invokevirtual 183, 3) := by decide +kernel
theorem dX4_waitsFor_22 : decode cX4_waitsFor 22 = .ok (.ireturn, 1) := by decide +kernel
theorem dX4_isTroop_0 : decode cX4_isTroop 0 = .ok (.iload_n 1, 1) := by decide +kernel
theorem dX4_isTroop_1 : decode cX4_isTroop 1 = .ok (.ifCond .lt 18, 3) := by decide +kernel
theorem dX4_isTroop_4 : decode cX4_isTroop 4 = .ok (.iload_n 1, 1) := by decide +kernel
theorem dX4_isTroop_5 : decode cX4_isTroop 5 = .ok (.aload_n 0, 1) := by decide +kernel
theorem dX4_isTroop_6 : decode cX4_isTroop 6 = .ok (.getfield 10, 3) := by decide +kernel
theorem dX4_isTroop_9 : decode cX4_isTroop 9 = .ok (.getfield 99, 3) := by decide +kernel
theorem dX4_isTroop_12 : decode cX4_isTroop 12 = .ok (.if_icmp .ge 7, 3) := by decide +kernel
theorem dX4_isTroop_15 : decode cX4_isTroop 15 = .ok (.iconst 1, 1) := by decide +kernel
theorem dX4_isTroop_16 : decode cX4_isTroop 16 = .ok (.goto 4, 3) := by decide +kernel
theorem dX4_isTroop_19 : decode cX4_isTroop 19 = .ok (.iconst 0, 1) := by decide +kernel
theorem dX4_isTroop_20 : decode cX4_isTroop 20 = .ok (.ireturn, 1) := by decide +kernel
theorem dX4_isScout_0 : decode cX4_isScout 0 = .ok (.aload_n 0, 1) := by decide +kernel
theorem dX4_isScout_1 : decode cX4_isScout 1 = .ok (.iload_n 1, 1) := by decide +kernel
theorem dX4_isScout_2 : decode cX4_isScout 2 = .ok (.invokevirtual 106, 3) := by decide +kernel
theorem dX4_isScout_5 : decode cX4_isScout 5 = .ok (.ifCond .eq 23, 3) := by decide +kernel
theorem dX4_isScout_8 : decode cX4_isScout 8 = .ok (.aload_n 0, 1) := by decide +kernel
theorem dX4_isScout_9 : decode cX4_isScout 9 = .ok (.getfield 10, 3) := by decide +kernel
theorem dX4_isScout_12 : decode cX4_isScout 12 = .ok (.getfield 75, 3) := by decide +kernel
theorem dX4_isScout_15 : decode cX4_isScout 15 = .ok (.iload_n 1, 1) := by decide +kernel
theorem dX4_isScout_16 : decode cX4_isScout 16 = .ok (.aaload, 1) := by decide +kernel
theorem dX4_isScout_17 : decode cX4_isScout 17 = .ok (.iload_n 2, 1) := by decide +kernel
theorem dX4_isScout_18 : decode cX4_isScout 18 = .ok (.invokevirtual 234, 3) := by decide +kernel
theorem dX4_isScout_21 : decode cX4_isScout 21 = .ok (.ifCond .eq 7, 3) := by decide +kernel
theorem dX4_isScout_24 : decode cX4_isScout 24 = .ok (.iconst 1, 1) := by decide +kernel
theorem dX4_isScout_25 : decode cX4_isScout 25 = .ok (.goto 4, 3) := by decide +kernel
theorem dX4_isScout_28 : decode cX4_isScout 28 = .ok (.iconst 0, 1) := by decide +kernel
theorem dX4_isScout_29 : decode cX4_isScout 29 = .ok (.ireturn, 1) := by decide +kernel
theorem dX4_isSize_0 : decode cX4_isSize 0 = .ok (.iload_n 0, 1) := by decide +kernel
theorem dX4_isSize_1 : decode cX4_isSize 1 = .ok (.iconst 1, 1) := by decide +kernel
theorem dX4_isSize_2 : decode cX4_isSize 2 = .ok (.if_icmp .lt 13, 3) := by decide +kernel
theorem dX4_isSize_5 : decode cX4_isSize 5 = .ok (.iload_n 0, 1) := by decide +kernel
theorem dX4_isSize_6 : decode cX4_isSize 6 = .ok (.bipush 16, 2) := by decide +kernel
theorem dX4_isSize_8 : decode cX4_isSize 8 = .ok (.if_icmp .gt 7, 3) := by decide +kernel
theorem dX4_isSize_11 : decode cX4_isSize 11 = .ok (.iconst 1, 1) := by decide +kernel
theorem dX4_isSize_12 : decode cX4_isSize 12 = .ok (.goto 4, 3) := by decide +kernel
theorem dX4_isSize_15 : decode cX4_isSize 15 = .ok (.iconst 0, 1) := by decide +kernel
theorem dX4_isSize_16 : decode cX4_isSize 16 = .ok (.ireturn, 1) := by decide +kernel
end
section
theorem dL_cell_0 : decode cL_cell 0 = .ok (.iload_n 1, 1) := by decide +kernel
theorem dL_cell_1 : decode cL_cell 1 = .ok (.aload_n 0, 1) := by decide +kernel
theorem dL_cell_2 : decode cL_cell 2 = .ok (.arraylength, 1) := by decide +kernel
theorem dL_cell_3 : decode cL_cell 3 = .ok (.if_icmp .ge 9, 3) := by decide +kernel
theorem dL_cell_6 : decode cL_cell 6 = .ok (.aload_n 0, 1) := by decide +kernel
theorem dL_cell_7 : decode cL_cell 7 = .ok (.iload_n 1, 1) := by decide +kernel
theorem dL_cell_8 : decode cL_cell 8 = .ok (.iaload, 1) := by decide +kernel
theorem dL_cell_9 : decode cL_cell 9 = .ok (.goto 11, 3) := by decide +kernel
theorem dL_cell_12 : decode cL_cell 12 = .ok (.ldc 7, 2) := by decide +kernel
theorem dL_cell_14 : decode cL_cell 14 = .ok (.iload_n 1, 1) := by decide +kernel
theorem dL_cell_15 : decode cL_cell 15 = .ok (.imul, 1) := by decide +kernel
theorem dL_cell_16 : decode cL_cell 16 = .ok (.sipush 20011, 3) := by decide +kernel
theorem dL_cell_19 : decode cL_cell 19 = .ok (.iadd, 1) := by decide +kernel
theorem dL_cell_20 : decode cL_cell 20 = .ok (.ireturn, 1) := by decide +kernel
theorem dL_low_0 : decode cL_low 0 = .ok (.iload_n 0, 1) := by decide +kernel
theorem dL_low_1 : decode cL_low 1 = .ok (.ldc 8, 2) := by decide +kernel
theorem dL_low_3 : decode cL_low 3 = .ok (.iand, 1) := by decide +kernel
theorem dL_low_4 : decode cL_low 4 = .ok (.iload_n 1, 1) := by decide +kernel
theorem dL_low_5 : decode cL_low 5 = .ok (.irem, 1) := by decide +kernel
theorem dL_low_6 : decode cL_low 6 = .ok (.ireturn, 1) := by decide +kernel
theorem dL_size_0 : decode cL_size 0 = .ok (.iconst 0, 1) := by decide +kernel
theorem dL_size_1 : decode cL_size 1 = .ok (.istore_n 1, 1) := by decide +kernel
theorem dL_size_2 : decode cL_size 2 = .ok (.iconst 0, 1) := by decide +kernel
theorem dL_size_3 : decode cL_size 3 = .ok (.istore_n 2, 1) := by decide +kernel
theorem dL_size_4 : decode cL_size 4 = .ok (.iload_n 2, 1) := by decide +kernel
theorem dL_size_5 : decode cL_size 5 = .ok (.bipush 16, 2) := by decide +kernel
theorem dL_size_7 : decode cL_size 7 = .ok (.if_icmp .ge 17, 3) := by decide +kernel
theorem dL_size_10 : decode cL_size 10 = .ok (.iload_n 1, 1) := by decide +kernel
theorem dL_size_11 : decode cL_size 11 = .ok (.iload_n 0, 1) := by decide +kernel
theorem dL_size_12 : decode cL_size 12 = .ok (.iload_n 2, 1) := by decide +kernel
theorem dL_size_13 : decode cL_size 13 = .ok (.ishr, 1) := by decide +kernel
theorem dL_size_14 : decode cL_size 14 = .ok (.iconst 1, 1) := by decide +kernel
theorem dL_size_15 : decode cL_size 15 = .ok (.iand, 1) := by decide +kernel
theorem dL_size_16 : decode cL_size 16 = .ok (.iadd, 1) := by decide +kernel
theorem dL_size_17 : decode cL_size 17 = .ok (.istore_n 1, 1) := by decide +kernel
theorem dL_size_18 : decode cL_size 18 = .ok (.iinc 2 1, 3) := by decide +kernel
theorem dL_size_21 : decode cL_size 21 = .ok (.goto (-17), 3) := by decide +kernel
theorem dL_size_24 : decode cL_size 24 = .ok (.iload_n 1, 1) := by decide +kernel
theorem dL_size_25 : decode cL_size 25 = .ok (.ireturn, 1) := by decide +kernel
theorem dL_told_0 : decode cL_told 0 = .ok (.iconst 0, 1) := by decide +kernel
theorem dL_told_1 : decode cL_told 1 = .ok (.istore_n 1, 1) := by decide +kernel
theorem dL_told_2 : decode cL_told 2 = .ok (.iconst 0, 1) := by decide +kernel
theorem dL_told_3 : decode cL_told 3 = .ok (.istore_n 2, 1) := by decide +kernel
theorem dL_told_4 : decode cL_told 4 = .ok (.iconst 0, 1) := by decide +kernel
theorem dL_told_5 : decode cL_told 5 = .ok (.istore_n 3, 1) := by decide +kernel
theorem dL_told_6 : decode cL_told 6 = .ok (.iconst 0, 1) := by decide +kernel
theorem dL_told_7 : decode cL_told 7 = .ok (.istore 4, 2) := by decide +kernel
theorem dL_told_9 : decode cL_told 9 = .ok (.iload 4, 2) := by decide +kernel
theorem dL_told_11 : decode cL_told 11 = .ok (.aload_n 0, 1) := by decide +kernel
theorem dL_told_12 : decode cL_told 12 = .ok (.iconst 1, 1) := by decide +kernel
theorem dL_told_13 : decode cL_told 13 = .ok (.invokevirtual 9, 3) := by decide +kernel
theorem dL_told_16 : decode cL_told 16 = .ok (.if_icmp .ge 328, 3) := by decide +kernel
theorem dL_told_19 : decode cL_told 19 = .ok (.iconst 5, 1) := by decide +kernel
theorem dL_told_20 : decode cL_told 20 = .ok (.newarray .int, 2) := by decide +kernel
theorem dL_told_22 : decode cL_told 22 = .ok (.astore 5, 2) := by decide +kernel
theorem dL_told_24 : decode cL_told 24 = .ok (.iconst 0, 1) := by decide +kernel
theorem dL_told_25 : decode cL_told 25 = .ok (.istore 6, 2) := by decide +kernel
theorem dL_told_27 : decode cL_told 27 = .ok (.iconst 0, 1) := by decide +kernel
theorem dL_told_28 : decode cL_told 28 = .ok (.istore 7, 2) := by decide +kernel
theorem dL_told_30 : decode cL_told 30 = .ok (.iconst 0, 1) := by decide +kernel
theorem dL_told_31 : decode cL_told 31 = .ok (.istore 8, 2) := by decide +kernel
theorem dL_told_33 : decode cL_told 33 = .ok (.iload 8, 2) := by decide +kernel
theorem dL_told_35 : decode cL_told 35 = .ok (.bipush 16, 2) := by decide +kernel
theorem dL_told_37 : decode cL_told 37 = .ok (.if_icmp .ge 177, 3) := by decide +kernel
theorem dL_told_40 : decode cL_told 40 = .ok (.aload_n 0, 1) := by decide +kernel
theorem dL_told_41 : decode cL_told 41 = .ok (.iload 4, 2) := by decide +kernel
theorem dL_told_43 : decode cL_told 43 = .ok (.iload 8, 2) := by decide +kernel
theorem dL_told_45 : decode cL_told 45 = .ok (.iconst 0, 1) := by decide +kernel
theorem dL_told_46 : decode cL_told 46 = .ok (.invokevirtual 15, 3) := by decide +kernel
theorem dL_told_49 : decode cL_told 49 = .ok (.istore 9, 2) := by decide +kernel
theorem dL_told_51 : decode cL_told 51 = .ok (.iload 8, 2) := by decide +kernel
theorem dL_told_53 : decode cL_told 53 = .ok (.aload_n 0, 1) := by decide +kernel
theorem dL_told_54 : decode cL_told 54 = .ok (.iload 4, 2) := by decide +kernel
theorem dL_told_56 : decode cL_told 56 = .ok (.iconst 0, 1) := by decide +kernel
theorem dL_told_57 : decode cL_told 57 = .ok (.invokevirtual 19, 3) := by decide +kernel
theorem dL_told_60 : decode cL_told 60 = .ok (.if_icmp .ge 7, 3) := by decide +kernel
theorem dL_told_63 : decode cL_told 63 = .ok (.iconst 1, 1) := by decide +kernel
theorem dL_told_64 : decode cL_told 64 = .ok (.goto 4, 3) := by decide +kernel
theorem dL_told_67 : decode cL_told 67 = .ok (.iconst 0, 1) := by decide +kernel
theorem dL_told_68 : decode cL_told 68 = .ok (.istore 10, 2) := by decide +kernel
theorem dL_told_70 : decode cL_told 70 = .ok (.iload 9, 2) := by decide +kernel
theorem dL_told_72 : decode cL_told 72 = .ok (.ifCond .ge 11, 3) := by decide +kernel
theorem dL_told_75 : decode cL_told 75 = .ok (.iload 10, 2) := by decide +kernel
theorem dL_told_77 : decode cL_told 77 = .ok (.ifCond .eq 19, 3) := by decide +kernel
theorem dL_told_80 : decode cL_told 80 = .ok (.goto 14, 3) := by decide +kernel
theorem dL_told_83 : decode cL_told 83 = .ok (.iload 10, 2) := by decide +kernel
theorem dL_told_85 : decode cL_told 85 = .ok (.ifCond .ne 11, 3) := by decide +kernel
theorem dL_told_88 : decode cL_told 88 = .ok (.iload 9, 2) := by decide +kernel
theorem dL_told_90 : decode cL_told 90 = .ok (.iconst 3, 1) := by decide +kernel
theorem dL_told_91 : decode cL_told 91 = .ok (.if_icmp .eq 5, 3) := by decide +kernel
theorem dL_told_94 : decode cL_told 94 = .ok (.iconst 0, 1) := by decide +kernel
theorem dL_told_95 : decode cL_told 95 = .ok (.ireturn, 1) := by decide +kernel
theorem dL_told_96 : decode cL_told 96 = .ok (.iload 9, 2) := by decide +kernel
theorem dL_told_98 : decode cL_told 98 = .ok (.ifCond .ge 6, 3) := by decide +kernel
theorem dL_told_101 : decode cL_told 101 = .ok (.goto 107, 3) := by decide +kernel
theorem dL_told_104 : decode cL_told 104 = .ok (.aload 5, 2) := by decide +kernel
theorem dL_told_106 : decode cL_told 106 = .ok (.iload 9, 2) := by decide +kernel
theorem dL_told_108 : decode cL_told 108 = .ok (.dup2, 1) := by decide +kernel
theorem dL_told_109 : decode cL_told 109 = .ok (.iaload, 1) := by decide +kernel
theorem dL_told_110 : decode cL_told 110 = .ok (.iconst 1, 1) := by decide +kernel
theorem dL_told_111 : decode cL_told 111 = .ok (.iload 8, 2) := by decide +kernel
theorem dL_told_113 : decode cL_told 113 = .ok (.ishl, 1) := by decide +kernel
theorem dL_told_114 : decode cL_told 114 = .ok (.ior, 1) := by decide +kernel
theorem dL_told_115 : decode cL_told 115 = .ok (.iastore, 1) := by decide +kernel
theorem dL_told_116 : decode cL_told 116 = .ok (.iload 6, 2) := by decide +kernel
theorem dL_told_118 : decode cL_told 118 = .ok (.aload_n 0, 1) := by decide +kernel
theorem dL_told_119 : decode cL_told 119 = .ok (.iload 4, 2) := by decide +kernel
theorem dL_told_121 : decode cL_told 121 = .ok (.iload 8, 2) := by decide +kernel
theorem dL_told_123 : decode cL_told 123 = .ok (.iconst 3, 1) := by decide +kernel
theorem dL_told_124 : decode cL_told 124 = .ok (.invokevirtual 15, 3) := by decide +kernel
theorem dL_told_127 : decode cL_told 127 = .ok (.iload 8, 2) := by decide +kernel
theorem dL_told_129 : decode cL_told 129 = .ok (.ishl, 1) := by decide +kernel
theorem dL_told_130 : decode cL_told 130 = .ok (.ior, 1) := by decide +kernel
theorem dL_told_131 : decode cL_told 131 = .ok (.istore 6, 2) := by decide +kernel
theorem dL_told_133 : decode cL_told 133 = .ok (.iload 7, 2) := by decide +kernel
theorem dL_told_135 : decode cL_told 135 = .ok (.iload 10, 2) := by decide +kernel
theorem dL_told_137 : decode cL_told 137 = .ok (.ifCond .eq 28, 3) := by decide +kernel
theorem dL_told_140 : decode cL_told 140 = .ok (.iload 9, 2) := by decide +kernel
theorem dL_told_142 : decode cL_told 142 = .ok (.iconst 1, 1) := by decide +kernel
theorem dL_told_143 : decode cL_told 143 = .ok (.if_icmp .eq 22, 3) := by decide +kernel
theorem dL_told_146 : decode cL_told 146 = .ok (.aload_n 0, 1) := by decide +kernel
theorem dL_told_147 : decode cL_told 147 = .ok (.iload 4, 2) := by decide +kernel
theorem dL_told_149 : decode cL_told 149 = .ok (.iload 8, 2) := by decide +kernel
theorem dL_told_151 : decode cL_told 151 = .ok (.iconst 3, 1) := by decide +kernel
theorem dL_told_152 : decode cL_told 152 = .ok (.invokevirtual 15, 3) := by decide +kernel
theorem dL_told_155 : decode cL_told 155 = .ok (.ifCond .ne 10, 3) := by decide +kernel
theorem dL_told_158 : decode cL_told 158 = .ok (.iconst 1, 1) := by decide +kernel
theorem dL_told_159 : decode cL_told 159 = .ok (.iload 8, 2) := by decide +kernel
theorem dL_told_161 : decode cL_told 161 = .ok (.ishl, 1) := by decide +kernel
theorem dL_told_162 : decode cL_told 162 = .ok (.goto 4, 3) := by decide +kernel
theorem dL_told_165 : decode cL_told 165 = .ok (.iconst 0, 1) := by decide +kernel
theorem dL_told_166 : decode cL_told 166 = .ok (.ior, 1) := by decide +kernel
theorem dL_told_167 : decode cL_told 167 = .ok (.istore 7, 2) := by decide +kernel
theorem dL_told_169 : decode cL_told 169 = .ok (.iload 9, 2) := by decide +kernel
theorem dL_told_171 : decode cL_told 171 = .ok (.iconst 3, 1) := by decide +kernel
theorem dL_told_172 : decode cL_told 172 = .ok (.if_icmp .ge 15, 3) := by decide +kernel
theorem dL_told_175 : decode cL_told 175 = .ok (.aload_n 0, 1) := by decide +kernel
theorem dL_told_176 : decode cL_told 176 = .ok (.iload 4, 2) := by decide +kernel
theorem dL_told_178 : decode cL_told 178 = .ok (.iload 8, 2) := by decide +kernel
theorem dL_told_180 : decode cL_told 180 = .ok (.iconst 1, 1) := by decide +kernel
theorem dL_told_181 : decode cL_told 181 = .ok (.invokevirtual 15, 3) := by decide +kernel
theorem dL_told_184 : decode cL_told 184 = .ok (.ifCond .ne 22, 3) := by decide +kernel
theorem dL_told_187 : decode cL_told 187 = .ok (.iload 9, 2) := by decide +kernel
theorem dL_told_189 : decode cL_told 189 = .ok (.iconst 3, 1) := by decide +kernel
theorem dL_told_190 : decode cL_told 190 = .ok (.if_icmp .ne 18, 3) := by decide +kernel
theorem dL_told_193 : decode cL_told 193 = .ok (.aload_n 0, 1) := by decide +kernel
theorem dL_told_194 : decode cL_told 194 = .ok (.iload 4, 2) := by decide +kernel
theorem dL_told_196 : decode cL_told 196 = .ok (.iload 8, 2) := by decide +kernel
theorem dL_told_198 : decode cL_told 198 = .ok (.iconst 1, 1) := by decide +kernel
theorem dL_told_199 : decode cL_told 199 = .ok (.invokevirtual 15, 3) := by decide +kernel
theorem dL_told_202 : decode cL_told 202 = .ok (.iconst 1, 1) := by decide +kernel
theorem dL_told_203 : decode cL_told 203 = .ok (.if_icmp .ge 5, 3) := by decide +kernel
theorem dL_told_206 : decode cL_told 206 = .ok (.iconst 0, 1) := by decide +kernel
theorem dL_told_207 : decode cL_told 207 = .ok (.ireturn, 1) := by decide +kernel
theorem dL_told_208 : decode cL_told 208 = .ok (.iinc 8 1, 3) := by decide +kernel
theorem dL_told_211 : decode cL_told 211 = .ok (.goto (-178), 3) := by decide +kernel
theorem dL_told_214 : decode cL_told 214 = .ok (.iconst 0, 1) := by decide +kernel
theorem dL_told_215 : decode cL_told 215 = .ok (.istore 8, 2) := by decide +kernel
theorem dL_told_217 : decode cL_told 217 = .ok (.iload 8, 2) := by decide +kernel
theorem dL_told_219 : decode cL_told 219 = .ok (.iconst 5, 1) := by decide +kernel
theorem dL_told_220 : decode cL_told 220 = .ok (.if_icmp .ge 29, 3) := by decide +kernel
theorem dL_told_223 : decode cL_told 223 = .ok (.aload_n 0, 1) := by decide +kernel
theorem dL_told_224 : decode cL_told 224 = .ok (.iload 4, 2) := by decide +kernel
theorem dL_told_226 : decode cL_told 226 = .ok (.iconst 5, 1) := by decide +kernel
theorem dL_told_227 : decode cL_told 227 = .ok (.iload 8, 2) := by decide +kernel
theorem dL_told_229 : decode cL_told 229 = .ok (.iadd, 1) := by decide +kernel
theorem dL_told_230 : decode cL_told 230 = .ok (.invokevirtual 19, 3) := by decide +kernel
theorem dL_told_233 : decode cL_told 233 = .ok (.aload 5, 2) := by decide +kernel
theorem dL_told_235 : decode cL_told 235 = .ok (.iload 8, 2) := by decide +kernel
theorem dL_told_237 : decode cL_told 237 = .ok (.iaload, 1) := by decide +kernel
theorem dL_told_238 : decode cL_told 238 = .ok (.if_icmp .eq 5, 3) := by decide +kernel
theorem dL_told_241 : decode cL_told 241 = .ok (.iconst 0, 1) := by decide +kernel
theorem dL_told_242 : decode cL_told 242 = .ok (.ireturn, 1) := by decide +kernel
theorem dL_told_243 : decode cL_told 243 = .ok (.iinc 8 1, 3) := by decide +kernel
theorem dL_told_246 : decode cL_told 246 = .ok (.goto (-29), 3) := by decide +kernel
theorem dL_told_249 : decode cL_told 249 = .ok (.aload_n 0, 1) := by decide +kernel
theorem dL_told_250 : decode cL_told 250 = .ok (.iload 4, 2) := by decide +kernel
theorem dL_told_252 : decode cL_told 252 = .ok (.invokevirtual 23, 3) := by decide +kernel
theorem dL_told_255 : decode cL_told 255 = .ok (.iload 7, 2) := by decide +kernel
theorem dL_told_257 : decode cL_told 257 = .ok (.if_icmp .ne 49, 3) := by decide +kernel
theorem dL_told_260 : decode cL_told 260 = .ok (.aload_n 0, 1) := by decide +kernel
theorem dL_told_261 : decode cL_told 261 = .ok (.iload 4, 2) := by decide +kernel
theorem dL_told_263 : decode cL_told 263 = .ok (.iconst 3, 1) := by decide +kernel
theorem dL_told_264 : decode cL_told 264 = .ok (.invokevirtual 19, 3) := by decide +kernel
theorem dL_told_267 : decode cL_told 267 = .ok (.iload 7, 2) := by decide +kernel
theorem dL_told_269 : decode cL_told 269 = .ok (.invokestatic 26, 3) := by decide +kernel
theorem dL_told_272 : decode cL_told 272 = .ok (.if_icmp .ne 34, 3) := by decide +kernel
theorem dL_told_275 : decode cL_told 275 = .ok (.aload_n 0, 1) := by decide +kernel
theorem dL_told_276 : decode cL_told 276 = .ok (.iload 4, 2) := by decide +kernel
theorem dL_told_278 : decode cL_told 278 = .ok (.bipush 10, 2) := by decide +kernel
theorem dL_told_280 : decode cL_told 280 = .ok (.invokevirtual 19, 3) := by decide +kernel
theorem dL_told_283 : decode cL_told 283 = .ok (.iload 6, 2) := by decide +kernel
theorem dL_told_285 : decode cL_told 285 = .ok (.if_icmp .ne 21, 3) := by decide +kernel
theorem dL_told_288 : decode cL_told 288 = .ok (.aload_n 0, 1) := by decide +kernel
theorem dL_told_289 : decode cL_told 289 = .ok (.iload 4, 2) := by decide +kernel
theorem dL_told_291 : decode cL_told 291 = .ok (.bipush 11, 2) := by decide +kernel
theorem dL_told_293 : decode cL_told 293 = .ok (.invokevirtual 19, 3) := by decide +kernel
theorem dL_told_296 : decode cL_told 296 = .ok (.aload_n 0, 1) := by decide +kernel
theorem dL_told_297 : decode cL_told 297 = .ok (.iload 4, 2) := by decide +kernel
theorem dL_told_299 : decode cL_told 299 = .ok (.iconst 4, 1) := by decide +kernel
theorem dL_told_300 : decode cL_told 300 = .ok (.invokevirtual 19, 3) := by decide +kernel
theorem dL_told_303 : decode cL_told 303 = .ok (.if_icmp .ge 5, 3) := by decide +kernel
theorem dL_told_306 : decode cL_told 306 = .ok (.iconst 0, 1) := by decide +kernel
theorem dL_told_307 : decode cL_told 307 = .ok (.ireturn, 1) := by decide +kernel
theorem dL_told_308 : decode cL_told 308 = .ok (.iload_n 1, 1) := by decide +kernel
theorem dL_told_309 : decode cL_told 309 = .ok (.aload_n 0, 1) := by decide +kernel
theorem dL_told_310 : decode cL_told 310 = .ok (.iload 4, 2) := by decide +kernel
theorem dL_told_312 : decode cL_told 312 = .ok (.iconst 4, 1) := by decide +kernel
theorem dL_told_313 : decode cL_told 313 = .ok (.invokevirtual 19, 3) := by decide +kernel
theorem dL_told_316 : decode cL_told 316 = .ok (.iadd, 1) := by decide +kernel
theorem dL_told_317 : decode cL_told 317 = .ok (.istore_n 1, 1) := by decide +kernel
theorem dL_told_318 : decode cL_told 318 = .ok (.iload_n 2, 1) := by decide +kernel
theorem dL_told_319 : decode cL_told 319 = .ok (.aload 5, 2) := by decide +kernel
theorem dL_told_321 : decode cL_told 321 = .ok (.iconst 3, 1) := by decide +kernel
theorem dL_told_322 : decode cL_told 322 = .ok (.iaload, 1) := by decide +kernel
theorem dL_told_323 : decode cL_told 323 = .ok (.invokestatic 26, 3) := by decide +kernel
theorem dL_told_326 : decode cL_told 326 = .ok (.iadd, 1) := by decide +kernel
theorem dL_told_327 : decode cL_told 327 = .ok (.istore_n 2, 1) := by decide +kernel
theorem dL_told_328 : decode cL_told 328 = .ok (.iload_n 3, 1) := by decide +kernel
theorem dL_told_329 : decode cL_told 329 = .ok (.aload 5, 2) := by decide +kernel
theorem dL_told_331 : decode cL_told 331 = .ok (.iconst 4, 1) := by decide +kernel
theorem dL_told_332 : decode cL_told 332 = .ok (.iaload, 1) := by decide +kernel
theorem dL_told_333 : decode cL_told 333 = .ok (.invokestatic 26, 3) := by decide +kernel
theorem dL_told_336 : decode cL_told 336 = .ok (.iadd, 1) := by decide +kernel
theorem dL_told_337 : decode cL_told 337 = .ok (.istore_n 3, 1) := by decide +kernel
theorem dL_told_338 : decode cL_told 338 = .ok (.iinc 4 1, 3) := by decide +kernel
theorem dL_told_341 : decode cL_told 341 = .ok (.goto (-332), 3) := by decide +kernel
theorem dL_told_344 : decode cL_told 344 = .ok (.aload_n 0, 1) := by decide +kernel
theorem dL_told_345 : decode cL_told 345 = .ok (.iconst 2, 1) := by decide +kernel
theorem dL_told_346 : decode cL_told 346 = .ok (.invokevirtual 9, 3) := by decide +kernel
theorem dL_told_349 : decode cL_told 349 = .ok (.iload_n 1, 1) := by decide +kernel
theorem dL_told_350 : decode cL_told 350 = .ok (.if_icmp .ne 38, 3) := by decide +kernel
theorem dL_told_353 : decode cL_told 353 = .ok (.aload_n 0, 1) := by decide +kernel
theorem dL_told_354 : decode cL_told 354 = .ok (.iconst 3, 1) := by decide +kernel
theorem dL_told_355 : decode cL_told 355 = .ok (.invokevirtual 9, 3) := by decide +kernel
theorem dL_told_358 : decode cL_told 358 = .ok (.iload_n 2, 1) := by decide +kernel
theorem dL_told_359 : decode cL_told 359 = .ok (.if_icmp .ne 29, 3) := by decide +kernel
theorem dL_told_362 : decode cL_told 362 = .ok (.aload_n 0, 1) := by decide +kernel
theorem dL_told_363 : decode cL_told 363 = .ok (.iconst 4, 1) := by decide +kernel
theorem dL_told_364 : decode cL_told 364 = .ok (.invokevirtual 9, 3) := by decide +kernel
theorem dL_told_367 : decode cL_told 367 = .ok (.iload_n 3, 1) := by decide +kernel
theorem dL_told_368 : decode cL_told 368 = .ok (.if_icmp .ne 20, 3) := by decide +kernel
theorem dL_told_371 : decode cL_told 371 = .ok (.aload_n 0, 1) := by decide +kernel
theorem dL_told_372 : decode cL_told 372 = .ok (.aload_n 0, 1) := by decide +kernel
theorem dL_told_373 : decode cL_told 373 = .ok (.iconst 1, 1) := by decide +kernel
theorem dL_told_374 : decode cL_told 374 = .ok (.invokevirtual 9, 3) := by decide +kernel
theorem dL_told_377 : decode cL_told 377 = .ok (.invokevirtual 23, 3) := by decide +kernel
theorem dL_told_380 : decode cL_told 380 = .ok (.iconst (-1), 1) := by decide +kernel
theorem dL_told_381 : decode cL_told 381 = .ok (.if_icmp .ne 7, 3) := by decide +kernel
theorem dL_told_384 : decode cL_told 384 = .ok (.iconst 1, 1) := by decide +kernel
theorem dL_told_385 : decode cL_told 385 = .ok (.goto 4, 3) := by decide +kernel
theorem dL_told_388 : decode cL_told 388 = .ok (.iconst 0, 1) := by decide +kernel
theorem dL_told_389 : decode cL_told 389 = .ok (.ireturn, 1) := by decide +kernel
theorem dL_comes_0 : decode cL_comes 0 = .ok (.aload_n 0, 1) := by decide +kernel
theorem dL_comes_1 : decode cL_comes 1 = .ok (.iload_n 1, 1) := by decide +kernel
theorem dL_comes_2 : decode cL_comes 2 = .ok (.iload_n 2, 1) := by decide +kernel
theorem dL_comes_3 : decode cL_comes 3 = .ok (.iload_n 3, 1) := by decide +kernel
theorem dL_comes_4 : decode cL_comes 4 = .ok (.invokevirtual 31, 3) := by decide +kernel
theorem dL_comes_7 : decode cL_comes 7 = .ok (.istore 4, 2) := by decide +kernel
theorem dL_comes_9 : decode cL_comes 9 = .ok (.aload_n 0, 1) := by decide +kernel
theorem dL_comes_10 : decode cL_comes 10 = .ok (.iload_n 1, 1) := by decide +kernel
theorem dL_comes_11 : decode cL_comes 11 = .ok (.iload_n 2, 1) := by decide +kernel
theorem dL_comes_12 : decode cL_comes 12 = .ok (.iconst 0, 1) := by decide +kernel
theorem dL_comes_13 : decode cL_comes 13 = .ok (.invokevirtual 15, 3) := by decide +kernel
theorem dL_comes_16 : decode cL_comes 16 = .ok (.istore 5, 2) := by decide +kernel
theorem dL_comes_18 : decode cL_comes 18 = .ok (.iload_n 2, 1) := by decide +kernel
theorem dL_comes_19 : decode cL_comes 19 = .ok (.aload_n 0, 1) := by decide +kernel
theorem dL_comes_20 : decode cL_comes 20 = .ok (.iload_n 1, 1) := by decide +kernel
theorem dL_comes_21 : decode cL_comes 21 = .ok (.iconst 0, 1) := by decide +kernel
theorem dL_comes_22 : decode cL_comes 22 = .ok (.invokevirtual 19, 3) := by decide +kernel
theorem dL_comes_25 : decode cL_comes 25 = .ok (.if_icmp .ge 7, 3) := by decide +kernel
theorem dL_comes_28 : decode cL_comes 28 = .ok (.iconst 1, 1) := by decide +kernel
theorem dL_comes_29 : decode cL_comes 29 = .ok (.goto 4, 3) := by decide +kernel
theorem dL_comes_32 : decode cL_comes 32 = .ok (.iconst 0, 1) := by decide +kernel
theorem dL_comes_33 : decode cL_comes 33 = .ok (.istore 6, 2) := by decide +kernel
theorem dL_comes_35 : decode cL_comes 35 = .ok (.iload 6, 2) := by decide +kernel
theorem dL_comes_37 : decode cL_comes 37 = .ok (.ifCond .ne 7, 3) := by decide +kernel
theorem dL_comes_40 : decode cL_comes 40 = .ok (.iconst (-1), 1) := by decide +kernel
theorem dL_comes_41 : decode cL_comes 41 = .ok (.goto 48, 3) := by decide +kernel
theorem dL_comes_44 : decode cL_comes 44 = .ok (.iload 5, 2) := by decide +kernel
theorem dL_comes_46 : decode cL_comes 46 = .ok (.iconst 3, 1) := by decide +kernel
theorem dL_comes_47 : decode cL_comes 47 = .ok (.if_icmp .ne 7, 3) := by decide +kernel
theorem dL_comes_50 : decode cL_comes 50 = .ok (.iconst 1, 1) := by decide +kernel
theorem dL_comes_51 : decode cL_comes 51 = .ok (.goto 38, 3) := by decide +kernel
theorem dL_comes_54 : decode cL_comes 54 = .ok (.iload 5, 2) := by decide +kernel
theorem dL_comes_56 : decode cL_comes 56 = .ok (.iconst 1, 1) := by decide +kernel
theorem dL_comes_57 : decode cL_comes 57 = .ok (.if_icmp .ne 7, 3) := by decide +kernel
theorem dL_comes_60 : decode cL_comes 60 = .ok (.iconst 2, 1) := by decide +kernel
theorem dL_comes_61 : decode cL_comes 61 = .ok (.goto 28, 3) := by decide +kernel
theorem dL_comes_64 : decode cL_comes 64 = .ok (.iload 5, 2) := by decide +kernel
theorem dL_comes_66 : decode cL_comes 66 = .ok (.iconst 2, 1) := by decide +kernel
theorem dL_comes_67 : decode cL_comes 67 = .ok (.if_icmp .ne 7, 3) := by decide +kernel
theorem dL_comes_70 : decode cL_comes 70 = .ok (.iconst 3, 1) := by decide +kernel
theorem dL_comes_71 : decode cL_comes 71 = .ok (.goto 18, 3) := by decide +kernel
theorem dL_comes_74 : decode cL_comes 74 = .ok (.iload_n 3, 1) := by decide +kernel
theorem dL_comes_75 : decode cL_comes 75 = .ok (.aload_n 0, 1) := by decide +kernel
theorem dL_comes_76 : decode cL_comes 76 = .ok (.iload_n 1, 1) := by decide +kernel
theorem dL_comes_77 : decode cL_comes 77 = .ok (.iconst 1, 1) := by decide +kernel
theorem dL_comes_78 : decode cL_comes 78 = .ok (.invokevirtual 19, 3) := by decide +kernel
theorem dL_comes_81 : decode cL_comes 81 = .ok (.if_icmp .ne 7, 3) := by decide +kernel
theorem dL_comes_84 : decode cL_comes 84 = .ok (.iconst 0, 1) := by decide +kernel
theorem dL_comes_85 : decode cL_comes 85 = .ok (.goto 4, 3) := by decide +kernel
theorem dL_comes_88 : decode cL_comes 88 = .ok (.iconst 4, 1) := by decide +kernel
theorem dL_comes_89 : decode cL_comes 89 = .ok (.istore 7, 2) := by decide +kernel
theorem dL_comes_91 : decode cL_comes 91 = .ok (.iload 4, 2) := by decide +kernel
theorem dL_comes_93 : decode cL_comes 93 = .ok (.iload 7, 2) := by decide +kernel
theorem dL_comes_95 : decode cL_comes 95 = .ok (.if_icmp .eq 5, 3) := by decide +kernel
theorem dL_comes_98 : decode cL_comes 98 = .ok (.iconst 0, 1) := by decide +kernel
theorem dL_comes_99 : decode cL_comes 99 = .ok (.ireturn, 1) := by decide +kernel
theorem dL_comes_100 : decode cL_comes 100 = .ok (.aload_n 0, 1) := by decide +kernel
theorem dL_comes_101 : decode cL_comes 101 = .ok (.iload_n 1, 1) := by decide +kernel
theorem dL_comes_102 : decode cL_comes 102 = .ok (.bipush 6, 2) := by decide +kernel
theorem dL_comes_104 : decode cL_comes 104 = .ok (.invokevirtual 19, 3) := by decide +kernel
theorem dL_comes_107 : decode cL_comes 107 = .ok (.istore 8, 2) := by decide +kernel
theorem dL_comes_109 : decode cL_comes 109 = .ok (.aload_n 0, 1) := by decide +kernel
theorem dL_comes_110 : decode cL_comes 110 = .ok (.iload_n 1, 1) := by decide +kernel
theorem dL_comes_111 : decode cL_comes 111 = .ok (.bipush 7, 2) := by decide +kernel
theorem dL_comes_113 : decode cL_comes 113 = .ok (.invokevirtual 19, 3) := by decide +kernel
theorem dL_comes_116 : decode cL_comes 116 = .ok (.istore 9, 2) := by decide +kernel
theorem dL_comes_118 : decode cL_comes 118 = .ok (.aload_n 0, 1) := by decide +kernel
theorem dL_comes_119 : decode cL_comes 119 = .ok (.iload_n 1, 1) := by decide +kernel
theorem dL_comes_120 : decode cL_comes 120 = .ok (.invokevirtual 23, 3) := by decide +kernel
theorem dL_comes_123 : decode cL_comes 123 = .ok (.istore 10, 2) := by decide +kernel
theorem dL_comes_125 : decode cL_comes 125 = .ok (.aload_n 0, 1) := by decide +kernel
theorem dL_comes_126 : decode cL_comes 126 = .ok (.iload_n 1, 1) := by decide +kernel
theorem dL_comes_127 : decode cL_comes 127 = .ok (.iconst 4, 1) := by decide +kernel
theorem dL_comes_128 : decode cL_comes 128 = .ok (.invokevirtual 19, 3) := by decide +kernel
theorem dL_comes_131 : decode cL_comes 131 = .ok (.istore 11, 2) := by decide +kernel
theorem dL_comes_133 : decode cL_comes 133 = .ok (.aload_n 0, 1) := by decide +kernel
theorem dL_comes_134 : decode cL_comes 134 = .ok (.iload_n 1, 1) := by decide +kernel
theorem dL_comes_135 : decode cL_comes 135 = .ok (.bipush 11, 2) := by decide +kernel
theorem dL_comes_137 : decode cL_comes 137 = .ok (.invokevirtual 19, 3) := by decide +kernel
theorem dL_comes_140 : decode cL_comes 140 = .ok (.istore 12, 2) := by decide +kernel
theorem dL_comes_142 : decode cL_comes 142 = .ok (.aload_n 0, 1) := by decide +kernel
theorem dL_comes_143 : decode cL_comes 143 = .ok (.iload_n 1, 1) := by decide +kernel
theorem dL_comes_144 : decode cL_comes 144 = .ok (.iconst 1, 1) := by decide +kernel
theorem dL_comes_145 : decode cL_comes 145 = .ok (.invokevirtual 19, 3) := by decide +kernel
theorem dL_comes_148 : decode cL_comes 148 = .ok (.istore 13, 2) := by decide +kernel
theorem dL_comes_150 : decode cL_comes 150 = .ok (.aload_n 0, 1) := by decide +kernel
theorem dL_comes_151 : decode cL_comes 151 = .ok (.iload_n 1, 1) := by decide +kernel
theorem dL_comes_152 : decode cL_comes 152 = .ok (.iconst 2, 1) := by decide +kernel
theorem dL_comes_153 : decode cL_comes 153 = .ok (.invokevirtual 19, 3) := by decide +kernel
theorem dL_comes_156 : decode cL_comes 156 = .ok (.istore 14, 2) := by decide +kernel
theorem dL_comes_158 : decode cL_comes 158 = .ok (.aload_n 0, 1) := by decide +kernel
theorem dL_comes_159 : decode cL_comes 159 = .ok (.iconst 5, 1) := by decide +kernel
theorem dL_comes_160 : decode cL_comes 160 = .ok (.invokevirtual 9, 3) := by decide +kernel
theorem dL_comes_163 : decode cL_comes 163 = .ok (.istore 15, 2) := by decide +kernel
theorem dL_comes_165 : decode cL_comes 165 = .ok (.aload_n 0, 1) := by decide +kernel
theorem dL_comes_166 : decode cL_comes 166 = .ok (.iload_n 1, 1) := by decide +kernel
theorem dL_comes_167 : decode cL_comes 167 = .ok (.iload_n 2, 1) := by decide +kernel
theorem dL_comes_168 : decode cL_comes 168 = .ok (.iload_n 3, 1) := by decide +kernel
theorem dL_comes_169 : decode cL_comes 169 = .ok (.invokevirtual 34, 3) := by decide +kernel
theorem dL_comes_172 : decode cL_comes 172 = .ok (.istore 16, 2) := by decide +kernel
theorem dL_comes_174 : decode cL_comes 174 = .ok (.iload 4, 2) := by decide +kernel
theorem dL_comes_176 : decode cL_comes 176 = .ok (.ifCond .lt 14, 3) := by decide +kernel
theorem dL_comes_179 : decode cL_comes 179 = .ok (.iload 4, 2) := by decide +kernel
theorem dL_comes_181 : decode cL_comes 181 = .ok (.ifCond .le 54, 3) := by decide +kernel
theorem dL_comes_184 : decode cL_comes 184 = .ok (.iload 4, 2) := by decide +kernel
theorem dL_comes_186 : decode cL_comes 186 = .ok (.iconst 4, 1) := by decide +kernel
theorem dL_comes_187 : decode cL_comes 187 = .ok (.if_icmp .ge 48, 3) := by decide +kernel
theorem dL_comes_190 : decode cL_comes 190 = .ok (.iload 16, 2) := by decide +kernel
theorem dL_comes_192 : decode cL_comes 192 = .ok (.iload 4, 2) := by decide +kernel
theorem dL_comes_194 : decode cL_comes 194 = .ok (.ifCond .ge 7, 3) := by decide +kernel
theorem dL_comes_197 : decode cL_comes 197 = .ok (.iconst (-1), 1) := by decide +kernel
theorem dL_comes_198 : decode cL_comes 198 = .ok (.goto 5, 3) := by decide +kernel
theorem dL_comes_201 : decode cL_comes 201 = .ok (.bipush (-5), 2) := by decide +kernel
theorem dL_comes_203 : decode cL_comes 203 = .ok (.if_icmp .ne 30, 3) := by decide +kernel
theorem dL_comes_206 : decode cL_comes 206 = .ok (.aload_n 0, 1) := by decide +kernel
theorem dL_comes_207 : decode cL_comes 207 = .ok (.iload_n 1, 1) := by decide +kernel
theorem dL_comes_208 : decode cL_comes 208 = .ok (.bipush 6, 2) := by decide +kernel
theorem dL_comes_210 : decode cL_comes 210 = .ok (.invokevirtual 19, 3) := by decide +kernel
theorem dL_comes_213 : decode cL_comes 213 = .ok (.iload 8, 2) := by decide +kernel
theorem dL_comes_215 : decode cL_comes 215 = .ok (.if_icmp .ne 18, 3) := by decide +kernel
theorem dL_comes_218 : decode cL_comes 218 = .ok (.aload_n 0, 1) := by decide +kernel
theorem dL_comes_219 : decode cL_comes 219 = .ok (.iload_n 1, 1) := by decide +kernel
theorem dL_comes_220 : decode cL_comes 220 = .ok (.iconst 4, 1) := by decide +kernel
theorem dL_comes_221 : decode cL_comes 221 = .ok (.invokevirtual 19, 3) := by decide +kernel
theorem dL_comes_224 : decode cL_comes 224 = .ok (.iload 11, 2) := by decide +kernel
theorem dL_comes_226 : decode cL_comes 226 = .ok (.if_icmp .ne 7, 3) := by decide +kernel
theorem dL_comes_229 : decode cL_comes 229 = .ok (.iconst 1, 1) := by decide +kernel
theorem dL_comes_230 : decode cL_comes 230 = .ok (.goto 4, 3) := by decide +kernel
theorem dL_comes_233 : decode cL_comes 233 = .ok (.iconst 0, 1) := by decide +kernel
theorem dL_comes_234 : decode cL_comes 234 = .ok (.ireturn, 1) := by decide +kernel
theorem dL_comes_235 : decode cL_comes 235 = .ok (.iload 16, 2) := by decide +kernel
theorem dL_comes_237 : decode cL_comes 237 = .ok (.ifCond .lt 61, 3) := by decide +kernel
theorem dL_comes_240 : decode cL_comes 240 = .ok (.iload 16, 2) := by decide +kernel
theorem dL_comes_242 : decode cL_comes 242 = .ok (.iconst 3, 1) := by decide +kernel
theorem dL_comes_243 : decode cL_comes 243 = .ok (.if_icmp .gt 55, 3) := by decide +kernel
theorem dL_comes_246 : decode cL_comes 246 = .ok (.aload_n 0, 1) := by decide +kernel
theorem dL_comes_247 : decode cL_comes 247 = .ok (.iload_n 1, 1) := by decide +kernel
theorem dL_comes_248 : decode cL_comes 248 = .ok (.iconst 4, 1) := by decide +kernel
theorem dL_comes_249 : decode cL_comes 249 = .ok (.invokevirtual 19, 3) := by decide +kernel
theorem dL_comes_252 : decode cL_comes 252 = .ok (.iload 11, 2) := by decide +kernel
theorem dL_comes_254 : decode cL_comes 254 = .ok (.iload 16, 2) := by decide +kernel
theorem dL_comes_256 : decode cL_comes 256 = .ok (.iadd, 1) := by decide +kernel
theorem dL_comes_257 : decode cL_comes 257 = .ok (.if_icmp .ne 41, 3) := by decide +kernel
theorem dL_comes_260 : decode cL_comes 260 = .ok (.aload_n 0, 1) := by decide +kernel
theorem dL_comes_261 : decode cL_comes 261 = .ok (.iload_n 1, 1) := by decide +kernel
theorem dL_comes_262 : decode cL_comes 262 = .ok (.iconst 1, 1) := by decide +kernel
theorem dL_comes_263 : decode cL_comes 263 = .ok (.invokevirtual 19, 3) := by decide +kernel
theorem dL_comes_266 : decode cL_comes 266 = .ok (.iload 13, 2) := by decide +kernel
theorem dL_comes_268 : decode cL_comes 268 = .ok (.iload 16, 2) := by decide +kernel
theorem dL_comes_270 : decode cL_comes 270 = .ok (.iadd, 1) := by decide +kernel
theorem dL_comes_271 : decode cL_comes 271 = .ok (.iconst 2, 1) := by decide +kernel
theorem dL_comes_272 : decode cL_comes 272 = .ok (.irem, 1) := by decide +kernel
theorem dL_comes_273 : decode cL_comes 273 = .ok (.if_icmp .ne 25, 3) := by decide +kernel
theorem dL_comes_276 : decode cL_comes 276 = .ok (.aload_n 0, 1) := by decide +kernel
theorem dL_comes_277 : decode cL_comes 277 = .ok (.iconst 5, 1) := by decide +kernel
theorem dL_comes_278 : decode cL_comes 278 = .ok (.invokevirtual 9, 3) := by decide +kernel
theorem dL_comes_281 : decode cL_comes 281 = .ok (.iload 15, 2) := by decide +kernel
theorem dL_comes_283 : decode cL_comes 283 = .ok (.iload 4, 2) := by decide +kernel
theorem dL_comes_285 : decode cL_comes 285 = .ok (.iconst 4, 1) := by decide +kernel
theorem dL_comes_286 : decode cL_comes 286 = .ok (.if_icmp .ne 7, 3) := by decide +kernel
theorem dL_comes_289 : decode cL_comes 289 = .ok (.iconst 1, 1) := by decide +kernel
theorem dL_comes_290 : decode cL_comes 290 = .ok (.goto 4, 3) := by decide +kernel
theorem dL_comes_293 : decode cL_comes 293 = .ok (.iconst 0, 1) := by decide +kernel
theorem dL_comes_294 : decode cL_comes 294 = .ok (.iadd, 1) := by decide +kernel
theorem dL_comes_295 : decode cL_comes 295 = .ok (.if_icmp .eq 5, 3) := by decide +kernel
theorem dL_comes_298 : decode cL_comes 298 = .ok (.iconst 0, 1) := by decide +kernel
theorem dL_comes_299 : decode cL_comes 299 = .ok (.ireturn, 1) := by decide +kernel
theorem dL_comes_300 : decode cL_comes 300 = .ok (.iload 16, 2) := by decide +kernel
theorem dL_comes_302 : decode cL_comes 302 = .ok (.ifCond .ne 58, 3) := by decide +kernel
theorem dL_comes_305 : decode cL_comes 305 = .ok (.aload_n 0, 1) := by decide +kernel
theorem dL_comes_306 : decode cL_comes 306 = .ok (.iload_n 1, 1) := by decide +kernel
theorem dL_comes_307 : decode cL_comes 307 = .ok (.iload_n 2, 1) := by decide +kernel
theorem dL_comes_308 : decode cL_comes 308 = .ok (.iconst 0, 1) := by decide +kernel
theorem dL_comes_309 : decode cL_comes 309 = .ok (.invokevirtual 15, 3) := by decide +kernel
theorem dL_comes_312 : decode cL_comes 312 = .ok (.iload 4, 2) := by decide +kernel
theorem dL_comes_314 : decode cL_comes 314 = .ok (.ifCond .ne 7, 3) := by decide +kernel
theorem dL_comes_317 : decode cL_comes 317 = .ok (.iconst 1, 1) := by decide +kernel
theorem dL_comes_318 : decode cL_comes 318 = .ok (.goto 4, 3) := by decide +kernel
theorem dL_comes_321 : decode cL_comes 321 = .ok (.iconst 2, 1) := by decide +kernel
theorem dL_comes_322 : decode cL_comes 322 = .ok (.if_icmp .ne 36, 3) := by decide +kernel
theorem dL_comes_325 : decode cL_comes 325 = .ok (.aload_n 0, 1) := by decide +kernel
theorem dL_comes_326 : decode cL_comes 326 = .ok (.iload_n 1, 1) := by decide +kernel
theorem dL_comes_327 : decode cL_comes 327 = .ok (.bipush 11, 2) := by decide +kernel
theorem dL_comes_329 : decode cL_comes 329 = .ok (.invokevirtual 19, 3) := by decide +kernel
theorem dL_comes_332 : decode cL_comes 332 = .ok (.iload 12, 2) := by decide +kernel
theorem dL_comes_334 : decode cL_comes 334 = .ok (.if_icmp .ne 24, 3) := by decide +kernel
theorem dL_comes_337 : decode cL_comes 337 = .ok (.iload 4, 2) := by decide +kernel
theorem dL_comes_339 : decode cL_comes 339 = .ok (.iconst 4, 1) := by decide +kernel
theorem dL_comes_340 : decode cL_comes 340 = .ok (.if_icmp .eq 14, 3) := by decide +kernel
theorem dL_comes_343 : decode cL_comes 343 = .ok (.iload 10, 2) := by decide +kernel
theorem dL_comes_345 : decode cL_comes 345 = .ok (.iconst 1, 1) := by decide +kernel
theorem dL_comes_346 : decode cL_comes 346 = .ok (.iload_n 2, 1) := by decide +kernel
theorem dL_comes_347 : decode cL_comes 347 = .ok (.ishl, 1) := by decide +kernel
theorem dL_comes_348 : decode cL_comes 348 = .ok (.iconst (-1), 1) := by decide +kernel
theorem dL_comes_349 : decode cL_comes 349 = .ok (.ixor, 1) := by decide +kernel
theorem dL_comes_350 : decode cL_comes 350 = .ok (.iand, 1) := by decide +kernel
theorem dL_comes_351 : decode cL_comes 351 = .ok (.ifCond .eq 7, 3) := by decide +kernel
theorem dL_comes_354 : decode cL_comes 354 = .ok (.iconst 1, 1) := by decide +kernel
theorem dL_comes_355 : decode cL_comes 355 = .ok (.goto 4, 3) := by decide +kernel
theorem dL_comes_358 : decode cL_comes 358 = .ok (.iconst 0, 1) := by decide +kernel
theorem dL_comes_359 : decode cL_comes 359 = .ok (.ireturn, 1) := by decide +kernel
theorem dL_comes_360 : decode cL_comes 360 = .ok (.iload 4, 2) := by decide +kernel
theorem dL_comes_362 : decode cL_comes 362 = .ok (.ifCond .ne 14, 3) := by decide +kernel
theorem dL_comes_365 : decode cL_comes 365 = .ok (.iload 10, 2) := by decide +kernel
theorem dL_comes_367 : decode cL_comes 367 = .ok (.iconst 1, 1) := by decide +kernel
theorem dL_comes_368 : decode cL_comes 368 = .ok (.iload_n 2, 1) := by decide +kernel
theorem dL_comes_369 : decode cL_comes 369 = .ok (.ishl, 1) := by decide +kernel
theorem dL_comes_370 : decode cL_comes 370 = .ok (.iconst (-1), 1) := by decide +kernel
theorem dL_comes_371 : decode cL_comes 371 = .ok (.ixor, 1) := by decide +kernel
theorem dL_comes_372 : decode cL_comes 372 = .ok (.iand, 1) := by decide +kernel
theorem dL_comes_373 : decode cL_comes 373 = .ok (.ifCond .ne 24, 3) := by decide +kernel
theorem dL_comes_376 : decode cL_comes 376 = .ok (.aload_n 0, 1) := by decide +kernel
theorem dL_comes_377 : decode cL_comes 377 = .ok (.iload_n 1, 1) := by decide +kernel
theorem dL_comes_378 : decode cL_comes 378 = .ok (.iconst 0, 1) := by decide +kernel
theorem dL_comes_379 : decode cL_comes 379 = .ok (.invokevirtual 19, 3) := by decide +kernel
theorem dL_comes_382 : decode cL_comes 382 = .ok (.iload 14, 2) := by decide +kernel
theorem dL_comes_384 : decode cL_comes 384 = .ok (.if_icmp .ne 13, 3) := by decide +kernel
theorem dL_comes_387 : decode cL_comes 387 = .ok (.aload_n 0, 1) := by decide +kernel
theorem dL_comes_388 : decode cL_comes 388 = .ok (.iload_n 1, 1) := by decide +kernel
theorem dL_comes_389 : decode cL_comes 389 = .ok (.bipush 10, 2) := by decide +kernel
theorem dL_comes_391 : decode cL_comes 391 = .ok (.invokevirtual 19, 3) := by decide +kernel
theorem dL_comes_394 : decode cL_comes 394 = .ok (.ifCond .eq 5, 3) := by decide +kernel
theorem dL_comes_397 : decode cL_comes 397 = .ok (.iconst 0, 1) := by decide +kernel
theorem dL_comes_398 : decode cL_comes 398 = .ok (.ireturn, 1) := by decide +kernel
theorem dL_comes_399 : decode cL_comes 399 = .ok (.iload 8, 2) := by decide +kernel
theorem dL_comes_401 : decode cL_comes 401 = .ok (.iload 4, 2) := by decide +kernel
theorem dL_comes_403 : decode cL_comes 403 = .ok (.ifCond .ne 9, 3) := by decide +kernel
theorem dL_comes_406 : decode cL_comes 406 = .ok (.iconst 1, 1) := by decide +kernel
theorem dL_comes_407 : decode cL_comes 407 = .ok (.iload_n 2, 1) := by decide +kernel
theorem dL_comes_408 : decode cL_comes 408 = .ok (.ishl, 1) := by decide +kernel
theorem dL_comes_409 : decode cL_comes 409 = .ok (.goto 4, 3) := by decide +kernel
theorem dL_comes_412 : decode cL_comes 412 = .ok (.iconst 0, 1) := by decide +kernel
theorem dL_comes_413 : decode cL_comes 413 = .ok (.ior, 1) := by decide +kernel
theorem dL_comes_414 : decode cL_comes 414 = .ok (.istore 8, 2) := by decide +kernel
theorem dL_comes_416 : decode cL_comes 416 = .ok (.iconst 0, 1) := by decide +kernel
theorem dL_comes_417 : decode cL_comes 417 = .ok (.istore 17, 2) := by decide +kernel
theorem dL_comes_419 : decode cL_comes 419 = .ok (.iload 17, 2) := by decide +kernel
theorem dL_comes_421 : decode cL_comes 421 = .ok (.bipush 16, 2) := by decide +kernel
theorem dL_comes_423 : decode cL_comes 423 = .ok (.if_icmp .ge 101, 3) := by decide +kernel
theorem dL_comes_426 : decode cL_comes 426 = .ok (.iload 8, 2) := by decide +kernel
theorem dL_comes_428 : decode cL_comes 428 = .ok (.iload 17, 2) := by decide +kernel
theorem dL_comes_430 : decode cL_comes 430 = .ok (.ishr, 1) := by decide +kernel
theorem dL_comes_431 : decode cL_comes 431 = .ok (.iconst 1, 1) := by decide +kernel
theorem dL_comes_432 : decode cL_comes 432 = .ok (.iand, 1) := by decide +kernel
theorem dL_comes_433 : decode cL_comes 433 = .ok (.iconst 1, 1) := by decide +kernel
theorem dL_comes_434 : decode cL_comes 434 = .ok (.if_icmp .ne 46, 3) := by decide +kernel
theorem dL_comes_437 : decode cL_comes 437 = .ok (.aload_n 0, 1) := by decide +kernel
theorem dL_comes_438 : decode cL_comes 438 = .ok (.iload_n 1, 1) := by decide +kernel
theorem dL_comes_439 : decode cL_comes 439 = .ok (.iload 17, 2) := by decide +kernel
theorem dL_comes_441 : decode cL_comes 441 = .ok (.iconst 0, 1) := by decide +kernel
theorem dL_comes_442 : decode cL_comes 442 = .ok (.invokevirtual 15, 3) := by decide +kernel
theorem dL_comes_445 : decode cL_comes 445 = .ok (.iconst 3, 1) := by decide +kernel
theorem dL_comes_446 : decode cL_comes 446 = .ok (.if_icmp .ne 32, 3) := by decide +kernel
theorem dL_comes_449 : decode cL_comes 449 = .ok (.aload_n 0, 1) := by decide +kernel
theorem dL_comes_450 : decode cL_comes 450 = .ok (.iload_n 1, 1) := by decide +kernel
theorem dL_comes_451 : decode cL_comes 451 = .ok (.iload 17, 2) := by decide +kernel
theorem dL_comes_453 : decode cL_comes 453 = .ok (.iconst 1, 1) := by decide +kernel
theorem dL_comes_454 : decode cL_comes 454 = .ok (.invokevirtual 15, 3) := by decide +kernel
theorem dL_comes_457 : decode cL_comes 457 = .ok (.aload_n 0, 1) := by decide +kernel
theorem dL_comes_458 : decode cL_comes 458 = .ok (.bipush 7, 2) := by decide +kernel
theorem dL_comes_460 : decode cL_comes 460 = .ok (.invokevirtual 9, 3) := by decide +kernel
theorem dL_comes_463 : decode cL_comes 463 = .ok (.if_icmp .ne 15, 3) := by decide +kernel
theorem dL_comes_466 : decode cL_comes 466 = .ok (.aload_n 0, 1) := by decide +kernel
theorem dL_comes_467 : decode cL_comes 467 = .ok (.iload_n 1, 1) := by decide +kernel
theorem dL_comes_468 : decode cL_comes 468 = .ok (.iload 17, 2) := by decide +kernel
theorem dL_comes_470 : decode cL_comes 470 = .ok (.iconst 2, 1) := by decide +kernel
theorem dL_comes_471 : decode cL_comes 471 = .ok (.invokevirtual 15, 3) := by decide +kernel
theorem dL_comes_474 : decode cL_comes 474 = .ok (.iconst 1, 1) := by decide +kernel
theorem dL_comes_475 : decode cL_comes 475 = .ok (.if_icmp .ge 5, 3) := by decide +kernel
theorem dL_comes_478 : decode cL_comes 478 = .ok (.iconst 0, 1) := by decide +kernel
theorem dL_comes_479 : decode cL_comes 479 = .ok (.ireturn, 1) := by decide +kernel
theorem dL_comes_480 : decode cL_comes 480 = .ok (.iload 16, 2) := by decide +kernel
theorem dL_comes_482 : decode cL_comes 482 = .ok (.iconst 1, 1) := by decide +kernel
theorem dL_comes_483 : decode cL_comes 483 = .ok (.if_icmp .ne 35, 3) := by decide +kernel
theorem dL_comes_486 : decode cL_comes 486 = .ok (.iload 17, 2) := by decide +kernel
theorem dL_comes_488 : decode cL_comes 488 = .ok (.iload 14, 2) := by decide +kernel
theorem dL_comes_490 : decode cL_comes 490 = .ok (.if_icmp .ge 28, 3) := by decide +kernel
theorem dL_comes_493 : decode cL_comes 493 = .ok (.iload 9, 2) := by decide +kernel
theorem dL_comes_495 : decode cL_comes 495 = .ok (.iload 17, 2) := by decide +kernel
theorem dL_comes_497 : decode cL_comes 497 = .ok (.ishr, 1) := by decide +kernel
theorem dL_comes_498 : decode cL_comes 498 = .ok (.iconst 1, 1) := by decide +kernel
theorem dL_comes_499 : decode cL_comes 499 = .ok (.iand, 1) := by decide +kernel
theorem dL_comes_500 : decode cL_comes 500 = .ok (.iconst 1, 1) := by decide +kernel
theorem dL_comes_501 : decode cL_comes 501 = .ok (.if_icmp .ne 17, 3) := by decide +kernel
theorem dL_comes_504 : decode cL_comes 504 = .ok (.aload_n 0, 1) := by decide +kernel
theorem dL_comes_505 : decode cL_comes 505 = .ok (.iload_n 1, 1) := by decide +kernel
theorem dL_comes_506 : decode cL_comes 506 = .ok (.iload 17, 2) := by decide +kernel
theorem dL_comes_508 : decode cL_comes 508 = .ok (.iconst 0, 1) := by decide +kernel
theorem dL_comes_509 : decode cL_comes 509 = .ok (.invokevirtual 15, 3) := by decide +kernel
theorem dL_comes_512 : decode cL_comes 512 = .ok (.iconst 1, 1) := by decide +kernel
theorem dL_comes_513 : decode cL_comes 513 = .ok (.if_icmp .eq 5, 3) := by decide +kernel
theorem dL_comes_516 : decode cL_comes 516 = .ok (.iconst 0, 1) := by decide +kernel
theorem dL_comes_517 : decode cL_comes 517 = .ok (.ireturn, 1) := by decide +kernel
theorem dL_comes_518 : decode cL_comes 518 = .ok (.iinc 17 1, 3) := by decide +kernel
theorem dL_comes_521 : decode cL_comes 521 = .ok (.goto (-102), 3) := by decide +kernel
theorem dL_comes_524 : decode cL_comes 524 = .ok (.aload_n 0, 1) := by decide +kernel
theorem dL_comes_525 : decode cL_comes 525 = .ok (.iload_n 1, 1) := by decide +kernel
theorem dL_comes_526 : decode cL_comes 526 = .ok (.bipush 11, 2) := by decide +kernel
theorem dL_comes_528 : decode cL_comes 528 = .ok (.invokevirtual 19, 3) := by decide +kernel
theorem dL_comes_531 : decode cL_comes 531 = .ok (.iload 12, 2) := by decide +kernel
theorem dL_comes_533 : decode cL_comes 533 = .ok (.iload 8, 2) := by decide +kernel
theorem dL_comes_535 : decode cL_comes 535 = .ok (.invokestatic 26, 3) := by decide +kernel
theorem dL_comes_538 : decode cL_comes 538 = .ok (.iadd, 1) := by decide +kernel
theorem dL_comes_539 : decode cL_comes 539 = .ok (.if_icmp .lt 7, 3) := by decide +kernel
theorem dL_comes_542 : decode cL_comes 542 = .ok (.iconst 1, 1) := by decide +kernel
theorem dL_comes_543 : decode cL_comes 543 = .ok (.goto 4, 3) := by decide +kernel
theorem dL_comes_546 : decode cL_comes 546 = .ok (.iconst 0, 1) := by decide +kernel
theorem dL_comes_547 : decode cL_comes 547 = .ok (.ireturn, 1) := by decide +kernel
end
section
theorem dL_passes_0 : decode cL_passes 0 = .ok (.bipush 64, 2) := by decide +kernel
theorem dL_passes_2 : decode cL_passes 2 = .ok (.newarray .int, 2) := by decide +kernel
theorem dL_passes_4 : decode cL_passes 4 = .ok (.astore_n 1, 1) := by decide +kernel
theorem dL_passes_5 : decode cL_passes 5 = .ok (.bipush 64, 2) := by decide +kernel
theorem dL_passes_7 : decode cL_passes 7 = .ok (.newarray .int, 2) := by decide +kernel
theorem dL_passes_9 : decode cL_passes 9 = .ok (.astore_n 2, 1) := by decide +kernel
theorem dL_passes_10 : decode cL_passes 10 = .ok (.aload_n 0, 1) := by decide +kernel
theorem dL_passes_11 : decode cL_passes 11 = .ok (.iconst 0, 1) := by decide +kernel
theorem dL_passes_12 : decode cL_passes 12 = .ok (.invokevirtual 9, 3) := by decide +kernel
theorem dL_passes_15 : decode cL_passes 15 = .ok (.istore_n 3, 1) := by decide +kernel
theorem dL_passes_16 : decode cL_passes 16 = .ok (.aload_n 0, 1) := by decide +kernel
theorem dL_passes_17 : decode cL_passes 17 = .ok (.iconst 1, 1) := by decide +kernel
theorem dL_passes_18 : decode cL_passes 18 = .ok (.invokevirtual 9, 3) := by decide +kernel
theorem dL_passes_21 : decode cL_passes 21 = .ok (.iconst 4, 1) := by decide +kernel
theorem dL_passes_22 : decode cL_passes 22 = .ok (.if_icmp .ge 11, 3) := by decide +kernel
theorem dL_passes_25 : decode cL_passes 25 = .ok (.aload_n 0, 1) := by decide +kernel
theorem dL_passes_26 : decode cL_passes 26 = .ok (.iconst 1, 1) := by decide +kernel
theorem dL_passes_27 : decode cL_passes 27 = .ok (.invokevirtual 9, 3) := by decide +kernel
theorem dL_passes_30 : decode cL_passes 30 = .ok (.goto 4, 3) := by decide +kernel
theorem dL_passes_33 : decode cL_passes 33 = .ok (.iconst 4, 1) := by decide +kernel
theorem dL_passes_34 : decode cL_passes 34 = .ok (.istore 4, 2) := by decide +kernel
theorem dL_passes_36 : decode cL_passes 36 = .ok (.iconst 0, 1) := by decide +kernel
theorem dL_passes_37 : decode cL_passes 37 = .ok (.istore 5, 2) := by decide +kernel
theorem dL_passes_39 : decode cL_passes 39 = .ok (.iload 5, 2) := by decide +kernel
theorem dL_passes_41 : decode cL_passes 41 = .ok (.bipush 16, 2) := by decide +kernel
theorem dL_passes_43 : decode cL_passes 43 = .ok (.iload 4, 2) := by decide +kernel
theorem dL_passes_45 : decode cL_passes 45 = .ok (.imul, 1) := by decide +kernel
theorem dL_passes_46 : decode cL_passes 46 = .ok (.if_icmp .ge 47, 3) := by decide +kernel
theorem dL_passes_49 : decode cL_passes 49 = .ok (.aload_n 1, 1) := by decide +kernel
theorem dL_passes_50 : decode cL_passes 50 = .ok (.iload 5, 2) := by decide +kernel
theorem dL_passes_52 : decode cL_passes 52 = .ok (.aload_n 0, 1) := by decide +kernel
theorem dL_passes_53 : decode cL_passes 53 = .ok (.iload 5, 2) := by decide +kernel
theorem dL_passes_55 : decode cL_passes 55 = .ok (.bipush 16, 2) := by decide +kernel
theorem dL_passes_57 : decode cL_passes 57 = .ok (.idiv, 1) := by decide +kernel
theorem dL_passes_58 : decode cL_passes 58 = .ok (.iload 5, 2) := by decide +kernel
theorem dL_passes_60 : decode cL_passes 60 = .ok (.bipush 16, 2) := by decide +kernel
theorem dL_passes_62 : decode cL_passes 62 = .ok (.irem, 1) := by decide +kernel
theorem dL_passes_63 : decode cL_passes 63 = .ok (.iconst 0, 1) := by decide +kernel
theorem dL_passes_64 : decode cL_passes 64 = .ok (.invokevirtual 15, 3) := by decide +kernel
theorem dL_passes_67 : decode cL_passes 67 = .ok (.iastore, 1) := by decide +kernel
theorem dL_passes_68 : decode cL_passes 68 = .ok (.aload_n 2, 1) := by decide +kernel
theorem dL_passes_69 : decode cL_passes 69 = .ok (.iload 5, 2) := by decide +kernel
theorem dL_passes_71 : decode cL_passes 71 = .ok (.aload_n 0, 1) := by decide +kernel
theorem dL_passes_72 : decode cL_passes 72 = .ok (.iload 5, 2) := by decide +kernel
theorem dL_passes_74 : decode cL_passes 74 = .ok (.bipush 16, 2) := by decide +kernel
theorem dL_passes_76 : decode cL_passes 76 = .ok (.idiv, 1) := by decide +kernel
theorem dL_passes_77 : decode cL_passes 77 = .ok (.iload 5, 2) := by decide +kernel
theorem dL_passes_79 : decode cL_passes 79 = .ok (.bipush 16, 2) := by decide +kernel
theorem dL_passes_81 : decode cL_passes 81 = .ok (.irem, 1) := by decide +kernel
theorem dL_passes_82 : decode cL_passes 82 = .ok (.iconst 1, 1) := by decide +kernel
theorem dL_passes_83 : decode cL_passes 83 = .ok (.invokevirtual 15, 3) := by decide +kernel
theorem dL_passes_86 : decode cL_passes 86 = .ok (.iastore, 1) := by decide +kernel
theorem dL_passes_87 : decode cL_passes 87 = .ok (.iinc 5 1, 3) := by decide +kernel
theorem dL_passes_90 : decode cL_passes 90 = .ok (.goto (-51), 3) := by decide +kernel
theorem dL_passes_93 : decode cL_passes 93 = .ok (.aload_n 0, 1) := by decide +kernel
theorem dL_passes_94 : decode cL_passes 94 = .ok (.iconst 2, 1) := by decide +kernel
theorem dL_passes_95 : decode cL_passes 95 = .ok (.invokevirtual 9, 3) := by decide +kernel
theorem dL_passes_98 : decode cL_passes 98 = .ok (.istore 5, 2) := by decide +kernel
theorem dL_passes_100 : decode cL_passes 100 = .ok (.aload_n 0, 1) := by decide +kernel
theorem dL_passes_101 : decode cL_passes 101 = .ok (.iconst 1, 1) := by decide +kernel
theorem dL_passes_102 : decode cL_passes 102 = .ok (.invokevirtual 37, 3) := by decide +kernel
theorem dL_passes_105 : decode cL_passes 105 = .ok (.istore 6, 2) := by decide +kernel
theorem dL_passes_107 : decode cL_passes 107 = .ok (.iload 6, 2) := by decide +kernel
theorem dL_passes_109 : decode cL_passes 109 = .ok (.ifCond .lt 27, 3) := by decide +kernel
theorem dL_passes_112 : decode cL_passes 112 = .ok (.aload_n 0, 1) := by decide +kernel
theorem dL_passes_113 : decode cL_passes 113 = .ok (.iconst 2, 1) := by decide +kernel
theorem dL_passes_114 : decode cL_passes 114 = .ok (.invokevirtual 9, 3) := by decide +kernel
theorem dL_passes_117 : decode cL_passes 117 = .ok (.iload 5, 2) := by decide +kernel
theorem dL_passes_119 : decode cL_passes 119 = .ok (.iload 6, 2) := by decide +kernel
theorem dL_passes_121 : decode cL_passes 121 = .ok (.iadd, 1) := by decide +kernel
theorem dL_passes_122 : decode cL_passes 122 = .ok (.if_icmp .ne 14, 3) := by decide +kernel
theorem dL_passes_125 : decode cL_passes 125 = .ok (.aload_n 0, 1) := by decide +kernel
theorem dL_passes_126 : decode cL_passes 126 = .ok (.iconst 0, 1) := by decide +kernel
theorem dL_passes_127 : decode cL_passes 127 = .ok (.invokevirtual 9, 3) := by decide +kernel
theorem dL_passes_130 : decode cL_passes 130 = .ok (.iload_n 3, 1) := by decide +kernel
theorem dL_passes_131 : decode cL_passes 131 = .ok (.iconst 1, 1) := by decide +kernel
theorem dL_passes_132 : decode cL_passes 132 = .ok (.iadd, 1) := by decide +kernel
theorem dL_passes_133 : decode cL_passes 133 = .ok (.if_icmp .eq 5, 3) := by decide +kernel
theorem dL_passes_136 : decode cL_passes 136 = .ok (.iconst 0, 1) := by decide +kernel
theorem dL_passes_137 : decode cL_passes 137 = .ok (.ireturn, 1) := by decide +kernel
theorem dL_passes_138 : decode cL_passes 138 = .ok (.iconst 0, 1) := by decide +kernel
theorem dL_passes_139 : decode cL_passes 139 = .ok (.istore 7, 2) := by decide +kernel
theorem dL_passes_141 : decode cL_passes 141 = .ok (.iload 7, 2) := by decide +kernel
theorem dL_passes_143 : decode cL_passes 143 = .ok (.bipush 16, 2) := by decide +kernel
theorem dL_passes_145 : decode cL_passes 145 = .ok (.iload 4, 2) := by decide +kernel
theorem dL_passes_147 : decode cL_passes 147 = .ok (.imul, 1) := by decide +kernel
theorem dL_passes_148 : decode cL_passes 148 = .ok (.if_icmp .ge 189, 3) := by decide +kernel
theorem dL_passes_151 : decode cL_passes 151 = .ok (.iload 6, 2) := by decide +kernel
theorem dL_passes_153 : decode cL_passes 153 = .ok (.ifCond .ne 184, 3) := by decide +kernel
theorem dL_passes_156 : decode cL_passes 156 = .ok (.iload 7, 2) := by decide +kernel
theorem dL_passes_158 : decode cL_passes 158 = .ok (.bipush 16, 2) := by decide +kernel
theorem dL_passes_160 : decode cL_passes 160 = .ok (.idiv, 1) := by decide +kernel
theorem dL_passes_161 : decode cL_passes 161 = .ok (.istore 8, 2) := by decide +kernel
theorem dL_passes_163 : decode cL_passes 163 = .ok (.iload 7, 2) := by decide +kernel
theorem dL_passes_165 : decode cL_passes 165 = .ok (.bipush 16, 2) := by decide +kernel
theorem dL_passes_167 : decode cL_passes 167 = .ok (.irem, 1) := by decide +kernel
theorem dL_passes_168 : decode cL_passes 168 = .ok (.istore 9, 2) := by decide +kernel
theorem dL_passes_170 : decode cL_passes 170 = .ok (.aload_n 1, 1) := by decide +kernel
theorem dL_passes_171 : decode cL_passes 171 = .ok (.iload 7, 2) := by decide +kernel
theorem dL_passes_173 : decode cL_passes 173 = .ok (.iaload, 1) := by decide +kernel
theorem dL_passes_174 : decode cL_passes 174 = .ok (.iconst 3, 1) := by decide +kernel
theorem dL_passes_175 : decode cL_passes 175 = .ok (.if_icmp .ne 15, 3) := by decide +kernel
theorem dL_passes_178 : decode cL_passes 178 = .ok (.aload_n 2, 1) := by decide +kernel
theorem dL_passes_179 : decode cL_passes 179 = .ok (.iload 7, 2) := by decide +kernel
theorem dL_passes_181 : decode cL_passes 181 = .ok (.iaload, 1) := by decide +kernel
theorem dL_passes_182 : decode cL_passes 182 = .ok (.iconst 1, 1) := by decide +kernel
theorem dL_passes_183 : decode cL_passes 183 = .ok (.if_icmp .ne 7, 3) := by decide +kernel
theorem dL_passes_186 : decode cL_passes 186 = .ok (.iconst 1, 1) := by decide +kernel
theorem dL_passes_187 : decode cL_passes 187 = .ok (.goto 4, 3) := by decide +kernel
theorem dL_passes_190 : decode cL_passes 190 = .ok (.iconst 0, 1) := by decide +kernel
theorem dL_passes_191 : decode cL_passes 191 = .ok (.istore 10, 2) := by decide +kernel
theorem dL_passes_193 : decode cL_passes 193 = .ok (.iload 10, 2) := by decide +kernel
theorem dL_passes_195 : decode cL_passes 195 = .ok (.ifCond .eq 23, 3) := by decide +kernel
theorem dL_passes_198 : decode cL_passes 198 = .ok (.iload 9, 2) := by decide +kernel
theorem dL_passes_200 : decode cL_passes 200 = .ok (.aload_n 0, 1) := by decide +kernel
theorem dL_passes_201 : decode cL_passes 201 = .ok (.iload 8, 2) := by decide +kernel
theorem dL_passes_203 : decode cL_passes 203 = .ok (.iconst 0, 1) := by decide +kernel
theorem dL_passes_204 : decode cL_passes 204 = .ok (.invokevirtual 19, 3) := by decide +kernel
theorem dL_passes_207 : decode cL_passes 207 = .ok (.if_icmp .ge 7, 3) := by decide +kernel
theorem dL_passes_210 : decode cL_passes 210 = .ok (.iconst 0, 1) := by decide +kernel
theorem dL_passes_211 : decode cL_passes 211 = .ok (.goto 11, 3) := by decide +kernel
theorem dL_passes_214 : decode cL_passes 214 = .ok (.iconst (-1), 1) := by decide +kernel
theorem dL_passes_215 : decode cL_passes 215 = .ok (.goto 7, 3) := by decide +kernel
theorem dL_passes_218 : decode cL_passes 218 = .ok (.aload_n 1, 1) := by decide +kernel
theorem dL_passes_219 : decode cL_passes 219 = .ok (.iload 7, 2) := by decide +kernel
theorem dL_passes_221 : decode cL_passes 221 = .ok (.iaload, 1) := by decide +kernel
theorem dL_passes_222 : decode cL_passes 222 = .ok (.istore 11, 2) := by decide +kernel
theorem dL_passes_224 : decode cL_passes 224 = .ok (.aload_n 1, 1) := by decide +kernel
theorem dL_passes_225 : decode cL_passes 225 = .ok (.iload 7, 2) := by decide +kernel
theorem dL_passes_227 : decode cL_passes 227 = .ok (.iaload, 1) := by decide +kernel
theorem dL_passes_228 : decode cL_passes 228 = .ok (.iconst 3, 1) := by decide +kernel
theorem dL_passes_229 : decode cL_passes 229 = .ok (.if_icmp .ne 17, 3) := by decide +kernel
theorem dL_passes_232 : decode cL_passes 232 = .ok (.iload 10, 2) := by decide +kernel
theorem dL_passes_234 : decode cL_passes 234 = .ok (.ifCond .ne 12, 3) := by decide +kernel
theorem dL_passes_237 : decode cL_passes 237 = .ok (.aload_n 2, 1) := by decide +kernel
theorem dL_passes_238 : decode cL_passes 238 = .ok (.iload 7, 2) := by decide +kernel
theorem dL_passes_240 : decode cL_passes 240 = .ok (.iaload, 1) := by decide +kernel
theorem dL_passes_241 : decode cL_passes 241 = .ok (.iconst 1, 1) := by decide +kernel
theorem dL_passes_242 : decode cL_passes 242 = .ok (.isub, 1) := by decide +kernel
theorem dL_passes_243 : decode cL_passes 243 = .ok (.goto 21, 3) := by decide +kernel
theorem dL_passes_246 : decode cL_passes 246 = .ok (.aload_n 1, 1) := by decide +kernel
theorem dL_passes_247 : decode cL_passes 247 = .ok (.iload 7, 2) := by decide +kernel
theorem dL_passes_249 : decode cL_passes 249 = .ok (.iaload, 1) := by decide +kernel
theorem dL_passes_250 : decode cL_passes 250 = .ok (.iconst 4, 1) := by decide +kernel
theorem dL_passes_251 : decode cL_passes 251 = .ok (.if_icmp .ne 12, 3) := by decide +kernel
theorem dL_passes_254 : decode cL_passes 254 = .ok (.aload_n 2, 1) := by decide +kernel
theorem dL_passes_255 : decode cL_passes 255 = .ok (.iload 7, 2) := by decide +kernel
theorem dL_passes_257 : decode cL_passes 257 = .ok (.iaload, 1) := by decide +kernel
theorem dL_passes_258 : decode cL_passes 258 = .ok (.iconst 1, 1) := by decide +kernel
theorem dL_passes_259 : decode cL_passes 259 = .ok (.iadd, 1) := by decide +kernel
theorem dL_passes_260 : decode cL_passes 260 = .ok (.goto 4, 3) := by decide +kernel
theorem dL_passes_263 : decode cL_passes 263 = .ok (.iconst 0, 1) := by decide +kernel
theorem dL_passes_264 : decode cL_passes 264 = .ok (.istore 12, 2) := by decide +kernel
theorem dL_passes_266 : decode cL_passes 266 = .ok (.aload_n 0, 1) := by decide +kernel
theorem dL_passes_267 : decode cL_passes 267 = .ok (.iload 8, 2) := by decide +kernel
theorem dL_passes_269 : decode cL_passes 269 = .ok (.iload 9, 2) := by decide +kernel
theorem dL_passes_271 : decode cL_passes 271 = .ok (.iconst 0, 1) := by decide +kernel
theorem dL_passes_272 : decode cL_passes 272 = .ok (.invokevirtual 15, 3) := by decide +kernel
theorem dL_passes_275 : decode cL_passes 275 = .ok (.iload 11, 2) := by decide +kernel
theorem dL_passes_277 : decode cL_passes 277 = .ok (.if_icmp .ne 52, 3) := by decide +kernel
theorem dL_passes_280 : decode cL_passes 280 = .ok (.iload 11, 2) := by decide +kernel
theorem dL_passes_282 : decode cL_passes 282 = .ok (.ifCond .lt 17, 3) := by decide +kernel
theorem dL_passes_285 : decode cL_passes 285 = .ok (.aload_n 0, 1) := by decide +kernel
theorem dL_passes_286 : decode cL_passes 286 = .ok (.iload 8, 2) := by decide +kernel
theorem dL_passes_288 : decode cL_passes 288 = .ok (.iload 9, 2) := by decide +kernel
theorem dL_passes_290 : decode cL_passes 290 = .ok (.iconst 1, 1) := by decide +kernel
theorem dL_passes_291 : decode cL_passes 291 = .ok (.invokevirtual 15, 3) := by decide +kernel
theorem dL_passes_294 : decode cL_passes 294 = .ok (.iload 12, 2) := by decide +kernel
theorem dL_passes_296 : decode cL_passes 296 = .ok (.if_icmp .ne 33, 3) := by decide +kernel
theorem dL_passes_299 : decode cL_passes 299 = .ok (.iload 11, 2) := by decide +kernel
theorem dL_passes_301 : decode cL_passes 301 = .ok (.iconst 4, 1) := by decide +kernel
theorem dL_passes_302 : decode cL_passes 302 = .ok (.if_icmp .ne 29, 3) := by decide +kernel
theorem dL_passes_305 : decode cL_passes 305 = .ok (.iload 12, 2) := by decide +kernel
theorem dL_passes_307 : decode cL_passes 307 = .ok (.aload_n 0, 1) := by decide +kernel
theorem dL_passes_308 : decode cL_passes 308 = .ok (.bipush 6, 2) := by decide +kernel
theorem dL_passes_310 : decode cL_passes 310 = .ok (.invokevirtual 9, 3) := by decide +kernel
theorem dL_passes_313 : decode cL_passes 313 = .ok (.if_icmp .le 18, 3) := by decide +kernel
theorem dL_passes_316 : decode cL_passes 316 = .ok (.aload_n 0, 1) := by decide +kernel
theorem dL_passes_317 : decode cL_passes 317 = .ok (.iload 8, 2) := by decide +kernel
theorem dL_passes_319 : decode cL_passes 319 = .ok (.iload 9, 2) := by decide +kernel
theorem dL_passes_321 : decode cL_passes 321 = .ok (.iconst 3, 1) := by decide +kernel
theorem dL_passes_322 : decode cL_passes 322 = .ok (.invokevirtual 15, 3) := by decide +kernel
theorem dL_passes_325 : decode cL_passes 325 = .ok (.iconst 1, 1) := by decide +kernel
theorem dL_passes_326 : decode cL_passes 326 = .ok (.if_icmp .eq 5, 3) := by decide +kernel
theorem dL_passes_329 : decode cL_passes 329 = .ok (.iconst 0, 1) := by decide +kernel
theorem dL_passes_330 : decode cL_passes 330 = .ok (.ireturn, 1) := by decide +kernel
theorem dL_passes_331 : decode cL_passes 331 = .ok (.iinc 7 1, 3) := by decide +kernel
theorem dL_passes_334 : decode cL_passes 334 = .ok (.goto (-193), 3) := by decide +kernel
theorem dL_passes_337 : decode cL_passes 337 = .ok (.iconst 1, 1) := by decide +kernel
theorem dL_passes_338 : decode cL_passes 338 = .ok (.ireturn, 1) := by decide +kernel
theorem dL_act_0 : decode cL_act 0 = .ok (.aload_n 0, 1) := by decide +kernel
theorem dL_act_1 : decode cL_act 1 = .ok (.iconst 1, 1) := by decide +kernel
theorem dL_act_2 : decode cL_act 2 = .ok (.invokevirtual 9, 3) := by decide +kernel
theorem dL_act_5 : decode cL_act 5 = .ok (.istore_n 2, 1) := by decide +kernel
theorem dL_act_6 : decode cL_act 6 = .ok (.iload_n 1, 1) := by decide +kernel
theorem dL_act_7 : decode cL_act 7 = .ok (.iconst 4, 1) := by decide +kernel
theorem dL_act_8 : decode cL_act 8 = .ok (.ishr, 1) := by decide +kernel
theorem dL_act_9 : decode cL_act 9 = .ok (.iload_n 2, 1) := by decide +kernel
theorem dL_act_10 : decode cL_act 10 = .ok (.invokestatic 40, 3) := by decide +kernel
theorem dL_act_13 : decode cL_act 13 = .ok (.istore_n 3, 1) := by decide +kernel
theorem dL_act_14 : decode cL_act 14 = .ok (.iload_n 1, 1) := by decide +kernel
theorem dL_act_15 : decode cL_act 15 = .ok (.bipush 7, 2) := by decide +kernel
theorem dL_act_17 : decode cL_act 17 = .ok (.ishr, 1) := by decide +kernel
theorem dL_act_18 : decode cL_act 18 = .ok (.iload_n 1, 1) := by decide +kernel
theorem dL_act_19 : decode cL_act 19 = .ok (.bipush 20, 2) := by decide +kernel
theorem dL_act_21 : decode cL_act 21 = .ok (.ishr, 1) := by decide +kernel
theorem dL_act_22 : decode cL_act 22 = .ok (.iconst 3, 1) := by decide +kernel
theorem dL_act_23 : decode cL_act 23 = .ok (.invokestatic 40, 3) := by decide +kernel
theorem dL_act_26 : decode cL_act 26 = .ok (.ifCond .ne 8, 3) := by decide +kernel
theorem dL_act_29 : decode cL_act 29 = .ok (.bipush 16, 2) := by decide +kernel
theorem dL_act_31 : decode cL_act 31 = .ok (.goto 9, 3) := by decide +kernel
theorem dL_act_34 : decode cL_act 34 = .ok (.aload_n 0, 1) := by decide +kernel
theorem dL_act_35 : decode cL_act 35 = .ok (.iload_n 3, 1) := by decide +kernel
theorem dL_act_36 : decode cL_act 36 = .ok (.iconst 0, 1) := by decide +kernel
theorem dL_act_37 : decode cL_act 37 = .ok (.invokevirtual 19, 3) := by decide +kernel
theorem dL_act_40 : decode cL_act 40 = .ok (.invokestatic 40, 3) := by decide +kernel
theorem dL_act_43 : decode cL_act 43 = .ok (.istore 4, 2) := by decide +kernel
theorem dL_act_45 : decode cL_act 45 = .ok (.iload_n 1, 1) := by decide +kernel
theorem dL_act_46 : decode cL_act 46 = .ok (.bipush 12, 2) := by decide +kernel
theorem dL_act_48 : decode cL_act 48 = .ok (.invokestatic 40, 3) := by decide +kernel
theorem dL_act_51 : decode cL_act 51 = .ok (.istore 5, 2) := by decide +kernel
theorem dL_act_53 : decode cL_act 53 = .ok (.iload 5, 2) := by decide +kernel
theorem dL_act_55 : decode cL_act 55 = .ok (.bipush 6, 2) := by decide +kernel
theorem dL_act_57 : decode cL_act 57 = .ok (.if_icmp .ge 39, 3) := by decide +kernel
theorem dL_act_60 : decode cL_act 60 = .ok (.aload_n 0, 1) := by decide +kernel
theorem dL_act_61 : decode cL_act 61 = .ok (.iload_n 3, 1) := by decide +kernel
theorem dL_act_62 : decode cL_act 62 = .ok (.iload 4, 2) := by decide +kernel
theorem dL_act_64 : decode cL_act 64 = .ok (.iload_n 1, 1) := by decide +kernel
theorem dL_act_65 : decode cL_act 65 = .ok (.bipush 11, 2) := by decide +kernel
theorem dL_act_67 : decode cL_act 67 = .ok (.ishr, 1) := by decide +kernel
theorem dL_act_68 : decode cL_act 68 = .ok (.iconst 3, 1) := by decide +kernel
theorem dL_act_69 : decode cL_act 69 = .ok (.invokestatic 40, 3) := by decide +kernel
theorem dL_act_72 : decode cL_act 72 = .ok (.ifCond .ne 14, 3) := by decide +kernel
theorem dL_act_75 : decode cL_act 75 = .ok (.iconst 1, 1) := by decide +kernel
theorem dL_act_76 : decode cL_act 76 = .ok (.aload_n 0, 1) := by decide +kernel
theorem dL_act_77 : decode cL_act 77 = .ok (.iload_n 3, 1) := by decide +kernel
theorem dL_act_78 : decode cL_act 78 = .ok (.iconst 1, 1) := by decide +kernel
theorem dL_act_79 : decode cL_act 79 = .ok (.invokevirtual 19, 3) := by decide +kernel
theorem dL_act_82 : decode cL_act 82 = .ok (.isub, 1) := by decide +kernel
theorem dL_act_83 : decode cL_act 83 = .ok (.goto 9, 3) := by decide +kernel
theorem dL_act_86 : decode cL_act 86 = .ok (.aload_n 0, 1) := by decide +kernel
theorem dL_act_87 : decode cL_act 87 = .ok (.iload_n 3, 1) := by decide +kernel
theorem dL_act_88 : decode cL_act 88 = .ok (.iconst 1, 1) := by decide +kernel
theorem dL_act_89 : decode cL_act 89 = .ok (.invokevirtual 19, 3) := by decide +kernel
theorem dL_act_92 : decode cL_act 92 = .ok (.invokestatic 43, 3) := by decide +kernel
theorem dL_act_95 : decode cL_act 95 = .ok (.ireturn, 1) := by decide +kernel
theorem dL_act_96 : decode cL_act 96 = .ok (.iload 5, 2) := by decide +kernel
theorem dL_act_98 : decode cL_act 98 = .ok (.bipush 8, 2) := by decide +kernel
theorem dL_act_100 : decode cL_act 100 = .ok (.if_icmp .ge 8, 3) := by decide +kernel
theorem dL_act_103 : decode cL_act 103 = .ok (.aload_n 0, 1) := by decide +kernel
theorem dL_act_104 : decode cL_act 104 = .ok (.invokestatic 47, 3) := by decide +kernel
theorem dL_act_107 : decode cL_act 107 = .ok (.ireturn, 1) := by decide +kernel
theorem dL_act_108 : decode cL_act 108 = .ok (.iload 5, 2) := by decide +kernel
theorem dL_act_110 : decode cL_act 110 = .ok (.bipush 8, 2) := by decide +kernel
theorem dL_act_112 : decode cL_act 112 = .ok (.if_icmp .ne 120, 3) := by decide +kernel
theorem dL_act_115 : decode cL_act 115 = .ok (.aload_n 0, 1) := by decide +kernel
theorem dL_act_116 : decode cL_act 116 = .ok (.iload_n 3, 1) := by decide +kernel
theorem dL_act_117 : decode cL_act 117 = .ok (.iload 4, 2) := by decide +kernel
theorem dL_act_119 : decode cL_act 119 = .ok (.iconst 0, 1) := by decide +kernel
theorem dL_act_120 : decode cL_act 120 = .ok (.invokevirtual 15, 3) := by decide +kernel
theorem dL_act_123 : decode cL_act 123 = .ok (.istore 6, 2) := by decide +kernel
theorem dL_act_125 : decode cL_act 125 = .ok (.iload 4, 2) := by decide +kernel
theorem dL_act_127 : decode cL_act 127 = .ok (.aload_n 0, 1) := by decide +kernel
theorem dL_act_128 : decode cL_act 128 = .ok (.iload_n 3, 1) := by decide +kernel
theorem dL_act_129 : decode cL_act 129 = .ok (.iconst 0, 1) := by decide +kernel
theorem dL_act_130 : decode cL_act 130 = .ok (.invokevirtual 19, 3) := by decide +kernel
theorem dL_act_133 : decode cL_act 133 = .ok (.if_icmp .ge 7, 3) := by decide +kernel
theorem dL_act_136 : decode cL_act 136 = .ok (.iconst 1, 1) := by decide +kernel
theorem dL_act_137 : decode cL_act 137 = .ok (.goto 4, 3) := by decide +kernel
theorem dL_act_140 : decode cL_act 140 = .ok (.iconst 0, 1) := by decide +kernel
theorem dL_act_141 : decode cL_act 141 = .ok (.istore 7, 2) := by decide +kernel
theorem dL_act_143 : decode cL_act 143 = .ok (.aload_n 0, 1) := by decide +kernel
theorem dL_act_144 : decode cL_act 144 = .ok (.iload_n 3, 1) := by decide +kernel
theorem dL_act_145 : decode cL_act 145 = .ok (.iload 4, 2) := by decide +kernel
theorem dL_act_147 : decode cL_act 147 = .ok (.invokevirtual 51, 3) := by decide +kernel
theorem dL_act_150 : decode cL_act 150 = .ok (.istore 8, 2) := by decide +kernel
theorem dL_act_152 : decode cL_act 152 = .ok (.iload 7, 2) := by decide +kernel
theorem dL_act_154 : decode cL_act 154 = .ok (.ifCond .ne 17, 3) := by decide +kernel
theorem dL_act_157 : decode cL_act 157 = .ok (.iload 8, 2) := by decide +kernel
theorem dL_act_159 : decode cL_act 159 = .ok (.iconst (-1), 1) := by decide +kernel
theorem dL_act_160 : decode cL_act 160 = .ok (.if_icmp .ne 7, 3) := by decide +kernel
theorem dL_act_163 : decode cL_act 163 = .ok (.iconst 1, 1) := by decide +kernel
theorem dL_act_164 : decode cL_act 164 = .ok (.goto 67, 3) := by decide +kernel
theorem dL_act_167 : decode cL_act 167 = .ok (.iconst 0, 1) := by decide +kernel
theorem dL_act_168 : decode cL_act 168 = .ok (.goto 63, 3) := by decide +kernel
theorem dL_act_171 : decode cL_act 171 = .ok (.iload 6, 2) := by decide +kernel
theorem dL_act_173 : decode cL_act 173 = .ok (.iconst 2, 1) := by decide +kernel
theorem dL_act_174 : decode cL_act 174 = .ok (.if_icmp .le 18, 3) := by decide +kernel
theorem dL_act_177 : decode cL_act 177 = .ok (.iload 8, 2) := by decide +kernel
theorem dL_act_179 : decode cL_act 179 = .ok (.bipush (-5), 2) := by decide +kernel
theorem dL_act_181 : decode cL_act 181 = .ok (.if_icmp .ne 7, 3) := by decide +kernel
theorem dL_act_184 : decode cL_act 184 = .ok (.iconst 1, 1) := by decide +kernel
theorem dL_act_185 : decode cL_act 185 = .ok (.goto 46, 3) := by decide +kernel
theorem dL_act_188 : decode cL_act 188 = .ok (.iconst 0, 1) := by decide +kernel
theorem dL_act_189 : decode cL_act 189 = .ok (.goto 42, 3) := by decide +kernel
theorem dL_act_192 : decode cL_act 192 = .ok (.iload 8, 2) := by decide +kernel
theorem dL_act_194 : decode cL_act 194 = .ok (.aload_n 0, 1) := by decide +kernel
theorem dL_act_195 : decode cL_act 195 = .ok (.iload_n 3, 1) := by decide +kernel
theorem dL_act_196 : decode cL_act 196 = .ok (.iconst 3, 1) := by decide +kernel
theorem dL_act_197 : decode cL_act 197 = .ok (.invokevirtual 19, 3) := by decide +kernel
theorem dL_act_200 : decode cL_act 200 = .ok (.if_icmp .ne 30, 3) := by decide +kernel
theorem dL_act_203 : decode cL_act 203 = .ok (.aload_n 0, 1) := by decide +kernel
theorem dL_act_204 : decode cL_act 204 = .ok (.iload_n 3, 1) := by decide +kernel
theorem dL_act_205 : decode cL_act 205 = .ok (.iload 4, 2) := by decide +kernel
theorem dL_act_207 : decode cL_act 207 = .ok (.iconst 0, 1) := by decide +kernel
theorem dL_act_208 : decode cL_act 208 = .ok (.invokevirtual 15, 3) := by decide +kernel
theorem dL_act_211 : decode cL_act 211 = .ok (.iconst 4, 1) := by decide +kernel
theorem dL_act_212 : decode cL_act 212 = .ok (.if_icmp .ne 18, 3) := by decide +kernel
theorem dL_act_215 : decode cL_act 215 = .ok (.aload_n 0, 1) := by decide +kernel
theorem dL_act_216 : decode cL_act 216 = .ok (.iload_n 3, 1) := by decide +kernel
theorem dL_act_217 : decode cL_act 217 = .ok (.iload 4, 2) := by decide +kernel
theorem dL_act_219 : decode cL_act 219 = .ok (.iconst 1, 1) := by decide +kernel
theorem dL_act_220 : decode cL_act 220 = .ok (.invokevirtual 15, 3) := by decide +kernel
theorem dL_act_223 : decode cL_act 223 = .ok (.ifCond .ne 7, 3) := by decide +kernel
theorem dL_act_226 : decode cL_act 226 = .ok (.iconst 1, 1) := by decide +kernel
theorem dL_act_227 : decode cL_act 227 = .ok (.goto 4, 3) := by decide +kernel
theorem dL_act_230 : decode cL_act 230 = .ok (.iconst 0, 1) := by decide +kernel
theorem dL_act_231 : decode cL_act 231 = .ok (.ireturn, 1) := by decide +kernel
theorem dL_act_232 : decode cL_act 232 = .ok (.iload 5, 2) := by decide +kernel
theorem dL_act_234 : decode cL_act 234 = .ok (.bipush 9, 2) := by decide +kernel
theorem dL_act_236 : decode cL_act 236 = .ok (.if_icmp .ne 114, 3) := by decide +kernel
theorem dL_act_239 : decode cL_act 239 = .ok (.aload_n 0, 1) := by decide +kernel
theorem dL_act_240 : decode cL_act 240 = .ok (.iload_n 3, 1) := by decide +kernel
theorem dL_act_241 : decode cL_act 241 = .ok (.iload 4, 2) := by decide +kernel
theorem dL_act_243 : decode cL_act 243 = .ok (.iconst 0, 1) := by decide +kernel
theorem dL_act_244 : decode cL_act 244 = .ok (.invokevirtual 15, 3) := by decide +kernel
theorem dL_act_247 : decode cL_act 247 = .ok (.istore 6, 2) := by decide +kernel
theorem dL_act_249 : decode cL_act 249 = .ok (.aload_n 0, 1) := by decide +kernel
theorem dL_act_250 : decode cL_act 250 = .ok (.iload_n 3, 1) := by decide +kernel
theorem dL_act_251 : decode cL_act 251 = .ok (.iload 4, 2) := by decide +kernel
theorem dL_act_253 : decode cL_act 253 = .ok (.iconst 1, 1) := by decide +kernel
theorem dL_act_254 : decode cL_act 254 = .ok (.invokevirtual 15, 3) := by decide +kernel
theorem dL_act_257 : decode cL_act 257 = .ok (.istore 7, 2) := by decide +kernel
theorem dL_act_259 : decode cL_act 259 = .ok (.iload 4, 2) := by decide +kernel
theorem dL_act_261 : decode cL_act 261 = .ok (.aload_n 0, 1) := by decide +kernel
theorem dL_act_262 : decode cL_act 262 = .ok (.iload_n 3, 1) := by decide +kernel
theorem dL_act_263 : decode cL_act 263 = .ok (.iconst 0, 1) := by decide +kernel
theorem dL_act_264 : decode cL_act 264 = .ok (.invokevirtual 19, 3) := by decide +kernel
theorem dL_act_267 : decode cL_act 267 = .ok (.if_icmp .ge 7, 3) := by decide +kernel
theorem dL_act_270 : decode cL_act 270 = .ok (.iconst 1, 1) := by decide +kernel
theorem dL_act_271 : decode cL_act 271 = .ok (.goto 4, 3) := by decide +kernel
theorem dL_act_274 : decode cL_act 274 = .ok (.iconst 0, 1) := by decide +kernel
theorem dL_act_275 : decode cL_act 275 = .ok (.istore 8, 2) := by decide +kernel
theorem dL_act_277 : decode cL_act 277 = .ok (.aload_n 0, 1) := by decide +kernel
theorem dL_act_278 : decode cL_act 278 = .ok (.iload_n 3, 1) := by decide +kernel
theorem dL_act_279 : decode cL_act 279 = .ok (.iload 4, 2) := by decide +kernel
theorem dL_act_281 : decode cL_act 281 = .ok (.invokevirtual 54, 3) := by decide +kernel
theorem dL_act_284 : decode cL_act 284 = .ok (.istore 9, 2) := by decide +kernel
theorem dL_act_286 : decode cL_act 286 = .ok (.iload 8, 2) := by decide +kernel
theorem dL_act_288 : decode cL_act 288 = .ok (.ifCond .ne 17, 3) := by decide +kernel
theorem dL_act_291 : decode cL_act 291 = .ok (.iload 9, 2) := by decide +kernel
theorem dL_act_293 : decode cL_act 293 = .ok (.iconst (-1), 1) := by decide +kernel
theorem dL_act_294 : decode cL_act 294 = .ok (.if_icmp .ne 7, 3) := by decide +kernel
theorem dL_act_297 : decode cL_act 297 = .ok (.iconst 1, 1) := by decide +kernel
theorem dL_act_298 : decode cL_act 298 = .ok (.goto 51, 3) := by decide +kernel
theorem dL_act_301 : decode cL_act 301 = .ok (.iconst 0, 1) := by decide +kernel
theorem dL_act_302 : decode cL_act 302 = .ok (.goto 47, 3) := by decide +kernel
theorem dL_act_305 : decode cL_act 305 = .ok (.iload 6, 2) := by decide +kernel
theorem dL_act_307 : decode cL_act 307 = .ok (.iconst 4, 1) := by decide +kernel
theorem dL_act_308 : decode cL_act 308 = .ok (.if_icmp .eq 18, 3) := by decide +kernel
theorem dL_act_311 : decode cL_act 311 = .ok (.iload 9, 2) := by decide +kernel
theorem dL_act_313 : decode cL_act 313 = .ok (.bipush (-5), 2) := by decide +kernel
theorem dL_act_315 : decode cL_act 315 = .ok (.if_icmp .ne 7, 3) := by decide +kernel
theorem dL_act_318 : decode cL_act 318 = .ok (.iconst 1, 1) := by decide +kernel
theorem dL_act_319 : decode cL_act 319 = .ok (.goto 30, 3) := by decide +kernel
theorem dL_act_322 : decode cL_act 322 = .ok (.iconst 0, 1) := by decide +kernel
theorem dL_act_323 : decode cL_act 323 = .ok (.goto 26, 3) := by decide +kernel
theorem dL_act_326 : decode cL_act 326 = .ok (.iload 9, 2) := by decide +kernel
theorem dL_act_328 : decode cL_act 328 = .ok (.iload 7, 2) := by decide +kernel
theorem dL_act_330 : decode cL_act 330 = .ok (.if_icmp .ne 18, 3) := by decide +kernel
theorem dL_act_333 : decode cL_act 333 = .ok (.aload_n 0, 1) := by decide +kernel
theorem dL_act_334 : decode cL_act 334 = .ok (.iload_n 3, 1) := by decide +kernel
theorem dL_act_335 : decode cL_act 335 = .ok (.iload 4, 2) := by decide +kernel
theorem dL_act_337 : decode cL_act 337 = .ok (.iconst 0, 1) := by decide +kernel
theorem dL_act_338 : decode cL_act 338 = .ok (.invokevirtual 15, 3) := by decide +kernel
theorem dL_act_341 : decode cL_act 341 = .ok (.ifCond .ne 7, 3) := by decide +kernel
theorem dL_act_344 : decode cL_act 344 = .ok (.iconst 1, 1) := by decide +kernel
theorem dL_act_345 : decode cL_act 345 = .ok (.goto 4, 3) := by decide +kernel
theorem dL_act_348 : decode cL_act 348 = .ok (.iconst 0, 1) := by decide +kernel
theorem dL_act_349 : decode cL_act 349 = .ok (.ireturn, 1) := by decide +kernel
theorem dL_act_350 : decode cL_act 350 = .ok (.iload 5, 2) := by decide +kernel
theorem dL_act_352 : decode cL_act 352 = .ok (.bipush 10, 2) := by decide +kernel
theorem dL_act_354 : decode cL_act 354 = .ok (.if_icmp .ne 58, 3) := by decide +kernel
theorem dL_act_357 : decode cL_act 357 = .ok (.aload_n 0, 1) := by decide +kernel
theorem dL_act_358 : decode cL_act 358 = .ok (.iload_n 3, 1) := by decide +kernel
theorem dL_act_359 : decode cL_act 359 = .ok (.iconst 2, 1) := by decide +kernel
theorem dL_act_360 : decode cL_act 360 = .ok (.invokevirtual 19, 3) := by decide +kernel
theorem dL_act_363 : decode cL_act 363 = .ok (.istore 6, 2) := by decide +kernel
theorem dL_act_365 : decode cL_act 365 = .ok (.aload_n 0, 1) := by decide +kernel
theorem dL_act_366 : decode cL_act 366 = .ok (.iload_n 3, 1) := by decide +kernel
theorem dL_act_367 : decode cL_act 367 = .ok (.iconst 1, 1) := by decide +kernel
theorem dL_act_368 : decode cL_act 368 = .ok (.iload_n 1, 1) := by decide +kernel
theorem dL_act_369 : decode cL_act 369 = .ok (.bipush 12, 2) := by decide +kernel
theorem dL_act_371 : decode cL_act 371 = .ok (.ishr, 1) := by decide +kernel
theorem dL_act_372 : decode cL_act 372 = .ok (.bipush 6, 2) := by decide +kernel
theorem dL_act_374 : decode cL_act 374 = .ok (.invokestatic 40, 3) := by decide +kernel
theorem dL_act_377 : decode cL_act 377 = .ok (.iadd, 1) := by decide +kernel
theorem dL_act_378 : decode cL_act 378 = .ok (.invokevirtual 57, 3) := by decide +kernel
theorem dL_act_381 : decode cL_act 381 = .ok (.iload 6, 2) := by decide +kernel
theorem dL_act_383 : decode cL_act 383 = .ok (.if_icmp .ne 27, 3) := by decide +kernel
theorem dL_act_386 : decode cL_act 386 = .ok (.aload_n 0, 1) := by decide +kernel
theorem dL_act_387 : decode cL_act 387 = .ok (.iload_n 3, 1) := by decide +kernel
theorem dL_act_388 : decode cL_act 388 = .ok (.iconst 2, 1) := by decide +kernel
theorem dL_act_389 : decode cL_act 389 = .ok (.invokevirtual 19, 3) := by decide +kernel
theorem dL_act_392 : decode cL_act 392 = .ok (.iconst 1, 1) := by decide +kernel
theorem dL_act_393 : decode cL_act 393 = .ok (.iload_n 1, 1) := by decide +kernel
theorem dL_act_394 : decode cL_act 394 = .ok (.bipush 12, 2) := by decide +kernel
theorem dL_act_396 : decode cL_act 396 = .ok (.ishr, 1) := by decide +kernel
theorem dL_act_397 : decode cL_act 397 = .ok (.bipush 6, 2) := by decide +kernel
theorem dL_act_399 : decode cL_act 399 = .ok (.invokestatic 40, 3) := by decide +kernel
theorem dL_act_402 : decode cL_act 402 = .ok (.iadd, 1) := by decide +kernel
theorem dL_act_403 : decode cL_act 403 = .ok (.if_icmp .ne 7, 3) := by decide +kernel
theorem dL_act_406 : decode cL_act 406 = .ok (.iconst 1, 1) := by decide +kernel
theorem dL_act_407 : decode cL_act 407 = .ok (.goto 4, 3) := by decide +kernel
theorem dL_act_410 : decode cL_act 410 = .ok (.iconst 0, 1) := by decide +kernel
theorem dL_act_411 : decode cL_act 411 = .ok (.ireturn, 1) := by decide +kernel
theorem dL_act_412 : decode cL_act 412 = .ok (.aload_n 0, 1) := by decide +kernel
theorem dL_act_413 : decode cL_act 413 = .ok (.iconst 1, 1) := by decide +kernel
theorem dL_act_414 : decode cL_act 414 = .ok (.iload_n 1, 1) := by decide +kernel
theorem dL_act_415 : decode cL_act 415 = .ok (.bipush 12, 2) := by decide +kernel
theorem dL_act_417 : decode cL_act 417 = .ok (.ishr, 1) := by decide +kernel
theorem dL_act_418 : decode cL_act 418 = .ok (.iconst 5, 1) := by decide +kernel
theorem dL_act_419 : decode cL_act 419 = .ok (.invokestatic 40, 3) := by decide +kernel
theorem dL_act_422 : decode cL_act 422 = .ok (.iadd, 1) := by decide +kernel
theorem dL_act_423 : decode cL_act 423 = .ok (.invokevirtual 60, 3) := by decide +kernel
theorem dL_act_426 : decode cL_act 426 = .ok (.istore 6, 2) := by decide +kernel
theorem dL_act_428 : decode cL_act 428 = .ok (.iload_n 2, 1) := by decide +kernel
theorem dL_act_429 : decode cL_act 429 = .ok (.iconst 5, 1) := by decide +kernel
theorem dL_act_430 : decode cL_act 430 = .ok (.if_icmp .ne 18, 3) := by decide +kernel
theorem dL_act_433 : decode cL_act 433 = .ok (.iload 6, 2) := by decide +kernel
theorem dL_act_435 : decode cL_act 435 = .ok (.bipush (-4), 2) := by decide +kernel
theorem dL_act_437 : decode cL_act 437 = .ok (.if_icmp .ne 7, 3) := by decide +kernel
theorem dL_act_440 : decode cL_act 440 = .ok (.iconst 1, 1) := by decide +kernel
theorem dL_act_441 : decode cL_act 441 = .ok (.goto 37, 3) := by decide +kernel
theorem dL_act_444 : decode cL_act 444 = .ok (.iconst 0, 1) := by decide +kernel
theorem dL_act_445 : decode cL_act 445 = .ok (.goto 33, 3) := by decide +kernel
theorem dL_act_448 : decode cL_act 448 = .ok (.iload 6, 2) := by decide +kernel
theorem dL_act_450 : decode cL_act 450 = .ok (.iload_n 2, 1) := by decide +kernel
theorem dL_act_451 : decode cL_act 451 = .ok (.if_icmp .ne 26, 3) := by decide +kernel
theorem dL_act_454 : decode cL_act 454 = .ok (.aload_n 0, 1) := by decide +kernel
theorem dL_act_455 : decode cL_act 455 = .ok (.iload_n 2, 1) := by decide +kernel
theorem dL_act_456 : decode cL_act 456 = .ok (.iconst 3, 1) := by decide +kernel
theorem dL_act_457 : decode cL_act 457 = .ok (.invokevirtual 19, 3) := by decide +kernel
theorem dL_act_460 : decode cL_act 460 = .ok (.iconst 1, 1) := by decide +kernel
theorem dL_act_461 : decode cL_act 461 = .ok (.iload_n 1, 1) := by decide +kernel
theorem dL_act_462 : decode cL_act 462 = .ok (.bipush 12, 2) := by decide +kernel
theorem dL_act_464 : decode cL_act 464 = .ok (.ishr, 1) := by decide +kernel
theorem dL_act_465 : decode cL_act 465 = .ok (.iconst 5, 1) := by decide +kernel
theorem dL_act_466 : decode cL_act 466 = .ok (.invokestatic 40, 3) := by decide +kernel
theorem dL_act_469 : decode cL_act 469 = .ok (.iadd, 1) := by decide +kernel
theorem dL_act_470 : decode cL_act 470 = .ok (.if_icmp .ne 7, 3) := by decide +kernel
theorem dL_act_473 : decode cL_act 473 = .ok (.iconst 1, 1) := by decide +kernel
theorem dL_act_474 : decode cL_act 474 = .ok (.goto 4, 3) := by decide +kernel
theorem dL_act_477 : decode cL_act 477 = .ok (.iconst 0, 1) := by decide +kernel
theorem dL_act_478 : decode cL_act 478 = .ok (.ireturn, 1) := by decide +kernel
theorem dL_law_0 : decode cL_law 0 = .ok (.new 10, 3) := by decide +kernel
theorem dL_law_3 : decode cL_law 3 = .ok (.dup, 1) := by decide +kernel
theorem dL_law_4 : decode cL_law 4 = .ok (.invokespecial 63, 3) := by decide +kernel
theorem dL_law_7 : decode cL_law 7 = .ok (.astore_n 1, 1) := by decide +kernel
theorem dL_law_8 : decode cL_law 8 = .ok (.aload_n 1, 1) := by decide +kernel
theorem dL_law_9 : decode cL_law 9 = .ok (.iconst 0, 1) := by decide +kernel
theorem dL_law_10 : decode cL_law 10 = .ok (.aload_n 0, 1) := by decide +kernel
theorem dL_law_11 : decode cL_law 11 = .ok (.iconst 0, 1) := by decide +kernel
theorem dL_law_12 : decode cL_law 12 = .ok (.invokestatic 64, 3) := by decide +kernel
theorem dL_law_15 : decode cL_law 15 = .ok (.bipush 6, 2) := by decide +kernel
theorem dL_law_17 : decode cL_law 17 = .ok (.invokestatic 40, 3) := by decide +kernel
theorem dL_law_20 : decode cL_law 20 = .ok (.invokevirtual 68, 3) := by decide +kernel
theorem dL_law_23 : decode cL_law 23 = .ok (.pop, 1) := by decide +kernel
theorem dL_law_24 : decode cL_law 24 = .ok (.aload_n 1, 1) := by decide +kernel
theorem dL_law_25 : decode cL_law 25 = .ok (.iconst 1, 1) := by decide +kernel
theorem dL_law_26 : decode cL_law 26 = .ok (.iconst 1, 1) := by decide +kernel
theorem dL_law_27 : decode cL_law 27 = .ok (.aload_n 0, 1) := by decide +kernel
theorem dL_law_28 : decode cL_law 28 = .ok (.iconst 1, 1) := by decide +kernel
theorem dL_law_29 : decode cL_law 29 = .ok (.invokestatic 64, 3) := by decide +kernel
theorem dL_law_32 : decode cL_law 32 = .ok (.bipush 8, 2) := by decide +kernel
theorem dL_law_34 : decode cL_law 34 = .ok (.invokestatic 40, 3) := by decide +kernel
theorem dL_law_37 : decode cL_law 37 = .ok (.iadd, 1) := by decide +kernel
theorem dL_law_38 : decode cL_law 38 = .ok (.invokevirtual 68, 3) := by decide +kernel
theorem dL_law_41 : decode cL_law 41 = .ok (.pop, 1) := by decide +kernel
theorem dL_law_42 : decode cL_law 42 = .ok (.aload_n 1, 1) := by decide +kernel
theorem dL_law_43 : decode cL_law 43 = .ok (.iconst 1, 1) := by decide +kernel
theorem dL_law_44 : decode cL_law 44 = .ok (.aload_n 0, 1) := by decide +kernel
theorem dL_law_45 : decode cL_law 45 = .ok (.iconst 2, 1) := by decide +kernel
theorem dL_law_46 : decode cL_law 46 = .ok (.invokestatic 64, 3) := by decide +kernel
theorem dL_law_49 : decode cL_law 49 = .ok (.iconst 4, 1) := by decide +kernel
theorem dL_law_50 : decode cL_law 50 = .ok (.invokestatic 40, 3) := by decide +kernel
theorem dL_law_53 : decode cL_law 53 = .ok (.iadd, 1) := by decide +kernel
theorem dL_law_54 : decode cL_law 54 = .ok (.invokevirtual 60, 3) := by decide +kernel
theorem dL_law_57 : decode cL_law 57 = .ok (.ifCond .ne 22, 3) := by decide +kernel
theorem dL_law_60 : decode cL_law 60 = .ok (.aload_n 1, 1) := by decide +kernel
theorem dL_law_61 : decode cL_law 61 = .ok (.iconst 1, 1) := by decide +kernel
theorem dL_law_62 : decode cL_law 62 = .ok (.aload_n 0, 1) := by decide +kernel
theorem dL_law_63 : decode cL_law 63 = .ok (.iconst 3, 1) := by decide +kernel
theorem dL_law_64 : decode cL_law 64 = .ok (.invokestatic 64, 3) := by decide +kernel
theorem dL_law_67 : decode cL_law 67 = .ok (.iconst 3, 1) := by decide +kernel
theorem dL_law_68 : decode cL_law 68 = .ok (.invokestatic 40, 3) := by decide +kernel
theorem dL_law_71 : decode cL_law 71 = .ok (.iadd, 1) := by decide +kernel
theorem dL_law_72 : decode cL_law 72 = .ok (.invokevirtual 60, 3) := by decide +kernel
theorem dL_law_75 : decode cL_law 75 = .ok (.iconst 1, 1) := by decide +kernel
theorem dL_law_76 : decode cL_law 76 = .ok (.if_icmp .eq 5, 3) := by decide +kernel
theorem dL_law_79 : decode cL_law 79 = .ok (.iconst 0, 1) := by decide +kernel
theorem dL_law_80 : decode cL_law 80 = .ok (.ireturn, 1) := by decide +kernel
theorem dL_law_81 : decode cL_law 81 = .ok (.iconst 0, 1) := by decide +kernel
theorem dL_law_82 : decode cL_law 82 = .ok (.istore_n 2, 1) := by decide +kernel
theorem dL_law_83 : decode cL_law 83 = .ok (.iload_n 2, 1) := by decide +kernel
theorem dL_law_84 : decode cL_law 84 = .ok (.bipush 60, 2) := by decide +kernel
theorem dL_law_86 : decode cL_law 86 = .ok (.if_icmp .ge 32, 3) := by decide +kernel
theorem dL_law_89 : decode cL_law 89 = .ok (.aload_n 1, 1) := by decide +kernel
theorem dL_law_90 : decode cL_law 90 = .ok (.aload_n 0, 1) := by decide +kernel
theorem dL_law_91 : decode cL_law 91 = .ok (.iconst 4, 1) := by decide +kernel
theorem dL_law_92 : decode cL_law 92 = .ok (.iload_n 2, 1) := by decide +kernel
theorem dL_law_93 : decode cL_law 93 = .ok (.iadd, 1) := by decide +kernel
theorem dL_law_94 : decode cL_law 94 = .ok (.invokestatic 64, 3) := by decide +kernel
theorem dL_law_97 : decode cL_law 97 = .ok (.invokestatic 71, 3) := by decide +kernel
theorem dL_law_100 : decode cL_law 100 = .ok (.ifCond .eq 10, 3) := by decide +kernel
theorem dL_law_103 : decode cL_law 103 = .ok (.aload_n 1, 1) := by decide +kernel
theorem dL_law_104 : decode cL_law 104 = .ok (.invokestatic 75, 3) := by decide +kernel
theorem dL_law_107 : decode cL_law 107 = .ok (.ifCond .ne 5, 3) := by decide +kernel
theorem dL_law_110 : decode cL_law 110 = .ok (.iconst 0, 1) := by decide +kernel
theorem dL_law_111 : decode cL_law 111 = .ok (.ireturn, 1) := by decide +kernel
theorem dL_law_112 : decode cL_law 112 = .ok (.iinc 2 1, 3) := by decide +kernel
theorem dL_law_115 : decode cL_law 115 = .ok (.goto (-32), 3) := by decide +kernel
theorem dL_law_118 : decode cL_law 118 = .ok (.aload_n 1, 1) := by decide +kernel
theorem dL_law_119 : decode cL_law 119 = .ok (.bipush 17, 2) := by decide +kernel
theorem dL_law_121 : decode cL_law 121 = .ok (.invokevirtual 60, 3) := by decide +kernel
theorem dL_law_124 : decode cL_law 124 = .ok (.bipush (-2), 2) := by decide +kernel
theorem dL_law_126 : decode cL_law 126 = .ok (.if_icmp .ne 77, 3) := by decide +kernel
theorem dL_law_129 : decode cL_law 129 = .ok (.aload_n 1, 1) := by decide +kernel
theorem dL_law_130 : decode cL_law 130 = .ok (.bipush 9, 2) := by decide +kernel
theorem dL_law_132 : decode cL_law 132 = .ok (.iconst 0, 1) := by decide +kernel
theorem dL_law_133 : decode cL_law 133 = .ok (.iconst 0, 1) := by decide +kernel
theorem dL_law_134 : decode cL_law 134 = .ok (.invokevirtual 34, 3) := by decide +kernel
theorem dL_law_137 : decode cL_law 137 = .ok (.iconst (-1), 1) := by decide +kernel
theorem dL_law_138 : decode cL_law 138 = .ok (.if_icmp .ne 65, 3) := by decide +kernel
theorem dL_law_141 : decode cL_law 141 = .ok (.aload_n 1, 1) := by decide +kernel
theorem dL_law_142 : decode cL_law 142 = .ok (.iconst 0, 1) := by decide +kernel
theorem dL_law_143 : decode cL_law 143 = .ok (.iconst 0, 1) := by decide +kernel
theorem dL_law_144 : decode cL_law 144 = .ok (.iconst 2, 1) := by decide +kernel
theorem dL_law_145 : decode cL_law 145 = .ok (.invokevirtual 34, 3) := by decide +kernel
theorem dL_law_148 : decode cL_law 148 = .ok (.bipush (-2), 2) := by decide +kernel
theorem dL_law_150 : decode cL_law 150 = .ok (.if_icmp .ne 53, 3) := by decide +kernel
theorem dL_law_153 : decode cL_law 153 = .ok (.aload_n 1, 1) := by decide +kernel
theorem dL_law_154 : decode cL_law 154 = .ok (.bipush 100, 2) := by decide +kernel
theorem dL_law_156 : decode cL_law 156 = .ok (.invokevirtual 37, 3) := by decide +kernel
theorem dL_law_159 : decode cL_law 159 = .ok (.bipush (-2), 2) := by decide +kernel
theorem dL_law_161 : decode cL_law 161 = .ok (.if_icmp .ne 42, 3) := by decide +kernel
theorem dL_law_164 : decode cL_law 164 = .ok (.aload_n 1, 1) := by decide +kernel
theorem dL_law_165 : decode cL_law 165 = .ok (.iconst 0, 1) := by decide +kernel
theorem dL_law_166 : decode cL_law 166 = .ok (.bipush 12, 2) := by decide +kernel
theorem dL_law_168 : decode cL_law 168 = .ok (.invokevirtual 19, 3) := by decide +kernel
theorem dL_law_171 : decode cL_law 171 = .ok (.bipush (-2), 2) := by decide +kernel
theorem dL_law_173 : decode cL_law 173 = .ok (.if_icmp .ne 30, 3) := by decide +kernel
theorem dL_law_176 : decode cL_law 176 = .ok (.aload_n 1, 1) := by decide +kernel
theorem dL_law_177 : decode cL_law 177 = .ok (.iconst 0, 1) := by decide +kernel
theorem dL_law_178 : decode cL_law 178 = .ok (.bipush 16, 2) := by decide +kernel
theorem dL_law_180 : decode cL_law 180 = .ok (.iconst 0, 1) := by decide +kernel
theorem dL_law_181 : decode cL_law 181 = .ok (.invokevirtual 15, 3) := by decide +kernel
theorem dL_law_184 : decode cL_law 184 = .ok (.iconst (-1), 1) := by decide +kernel
theorem dL_law_185 : decode cL_law 185 = .ok (.if_icmp .ne 18, 3) := by decide +kernel
theorem dL_law_188 : decode cL_law 188 = .ok (.aload_n 1, 1) := by decide +kernel
theorem dL_law_189 : decode cL_law 189 = .ok (.bipush 10, 2) := by decide +kernel
theorem dL_law_191 : decode cL_law 191 = .ok (.invokevirtual 9, 3) := by decide +kernel
theorem dL_law_194 : decode cL_law 194 = .ok (.bipush (-2), 2) := by decide +kernel
theorem dL_law_196 : decode cL_law 196 = .ok (.if_icmp .ne 7, 3) := by decide +kernel
theorem dL_law_199 : decode cL_law 199 = .ok (.iconst 1, 1) := by decide +kernel
theorem dL_law_200 : decode cL_law 200 = .ok (.goto 4, 3) := by decide +kernel
theorem dL_law_203 : decode cL_law 203 = .ok (.iconst 0, 1) := by decide +kernel
theorem dL_law_204 : decode cL_law 204 = .ok (.ireturn, 1) := by decide +kernel
end
section
/-! a layer over W: methods over numbers. Cells have virtual addresses 0..198 (the order in which the two constructors make them); what a cell holds of numbers is a function, its references never change -/
/-- the tables' words that a call may hand on -/
def gtbl : List Cond := lw_tbl.filter goodWord
theorem mem_g {w : Cond} (i : Nat) (h : lw_tbl[i]? = some w) (hg : goodWord w = true) : w ∈ gtbl := List.mem_filter.mpr ⟨List.mem_of_getElem? h, hg⟩
theorem all_g {l : List Cond} (h : l.all (fun w => decide (w ∈ lw_tbl) && goodWord w) = true) : ∀ w ∈ l, w ∈ gtbl := fun w hw => by
  have h1 := List.all_eq_true.mp h w hw
  simp only [Bool.and_eq_true, decide_eq_true_eq] at h1
  exact List.mem_filter.mpr h1
abbrev mS : Type := Nat → Nat → Int32
abbrev mG : Type := Launch × va_G × (Nat → ClassId) × (Nat → Nat)
def rv (G : mG) (a : Nat) : Value := .ref (G.2.2.2 a)
def kdL : List Nat := [4, 2, 6, 10, 3, 6, 6, 3, 6, 6, 3, 6, 6, 3, 6, 6, 3, 6, 6, 0, 9, 2, 6, 10, 3, 6, 6, 3, 6, 6, 3, 6, 6, 3, 6, 6, 3, 6, 6, 2, 6, 10, 3, 6, 6, 3, 6, 6, 3, 6, 6, 3, 6, 6, 3, 6, 6, 2, 6, 10, 3, 6, 6, 3, 6, 6, 3, 6, 6, 3, 6, 6, 3, 6, 6, 2, 6, 10, 3, 6, 6, 3, 6, 6, 3, 6, 6, 3, 6, 6, 3, 6, 6, 2, 6, 10, 3, 6, 6, 3, 6, 6, 3, 6, 6, 3, 6, 6, 3, 6, 6, 2, 6, 10, 3, 6, 6, 3, 6, 6, 3, 6, 6, 3, 6, 6, 3, 6, 6, 2, 6, 10, 3, 6, 6, 3, 6, 6, 3, 6, 6, 3, 6, 6, 3, 6, 6, 9, 2, 6, 10, 3, 6, 6, 3, 6, 6, 3, 6, 6, 3, 6, 6, 3, 6, 6, 2, 6, 10, 3, 6, 6, 3, 6, 6, 3, 6, 6, 3, 6, 6, 3, 6, 6, 8, 1, 7, 3, 6, 6]
def lnL : List Nat := [0, 0, 2, 5, 0, 16, 16, 0, 16, 16, 0, 16, 16, 0, 16, 16, 0, 16, 16, 0, 7, 0, 2, 5, 0, 16, 16, 0, 16, 16, 0, 16, 16, 0, 16, 16, 0, 16, 16, 0, 2, 5, 0, 16, 16, 0, 16, 16, 0, 16, 16, 0, 16, 16, 0, 16, 16, 0, 2, 5, 0, 16, 16, 0, 16, 16, 0, 16, 16, 0, 16, 16, 0, 16, 16, 0, 2, 5, 0, 16, 16, 0, 16, 16, 0, 16, 16, 0, 16, 16, 0, 16, 16, 0, 2, 5, 0, 16, 16, 0, 16, 16, 0, 16, 16, 0, 16, 16, 0, 16, 16, 0, 2, 5, 0, 16, 16, 0, 16, 16, 0, 16, 16, 0, 16, 16, 0, 16, 16, 0, 2, 5, 0, 16, 16, 0, 16, 16, 0, 16, 16, 0, 16, 16, 0, 16, 16, 2, 0, 2, 5, 0, 16, 16, 0, 16, 16, 0, 16, 16, 0, 16, 16, 0, 16, 16, 0, 2, 5, 0, 16, 16, 0, 16, 16, 0, 16, 16, 0, 16, 16, 0, 16, 16, 2, 0, 80, 0, 16, 16]
/-- the kind of a cell: 0 to 5 an object of that class, 6 ints, 7 chars, 8 booleans, 9 States, 10 Troops -/
def kd (a : Nat) : Nat := kdL.getD a 99
def ln (a : Nat) : Nat := lnL.getD a 0
/-- where a reference leads -/
def rf (a k : Nat) : Nat := match kd a with
  | 0 => 20
  | 1 => 186
  | 2 => a + 1 + k
  | 3 => a + k - 9
  | 4 => [1, 19, 147, 184, 185, 187].getD k 0
  | 9 => a + 1 + 18 * k
  | 10 => a + 1 + 3 * k
  | _ => 0
def mcl : List vw_C := [(RX0, TX0, 3), (RX1, TX1, 7), (RX2, TX2, 5), (RX3, TX3, 12), (RX4, TX4, 6), (RX4, TX4, 6)]
def fR (ci : Nat) : String := match ci with | 0 => RX0 | 1 => RX1 | 2 => RX2 | 3 => RX3 | _ => RX4
def fT (ci : Nat) : u_T := match ci with | 0 => TX0 | 1 => TX1 | 2 => TX2 | 3 => TX3 | _ => TX4
def fN (ci : Nat) : Nat := match ci with | 0 => 3 | 1 => 7 | 2 => 5 | 3 => 12 | _ => 6
def fY (ci : Nat) : Nat → FieldType := match ci with | 0 => tyX0 | 1 => tyX1 | 2 => tyX2 | 3 => tyX3 | _ => tyX4
/-- whether a field is a number -/
def isI (ci k : Nat) : Bool := match ci with
  | 0 => Nat.ble 1 k
  | 1 => Nat.ble 1 k
  | 2 => Nat.ble 2 k
  | 3 => Nat.ble (k + 1) 10
  | 4 => false
  | _ => false
def mFs (G : mG) (S : mS) (a ci : Nat) : List Value := (List.range (fN ci)).map (fun k => if isI ci k then .int (S a k) else rv G (rf a k))
def cellE (G : mG) (S : mS) (a : Nat) : va_E := if kd a < 6 then .inr (kd a, mFs G S a (kd a)) else .inl (G.2.2.1 (kd a), ln a, if kd a < 9 then .inl (S a) else .inr (.inr (.inr (.inr (fun k => some (G.2.2.2 (rf a k)))))))
def mW (G : mG) (S : mS) : va_W := (List.range 190).map (fun a => (G.2.2.2 a, cellE G S a))
def mTy (G : mG) : List (ClassId × FieldType) := [(G.2.2.1 6, .int), (G.2.2.1 7, .char), (G.2.2.1 8, .boolean), (G.2.2.1 9, .object "ScoutGates$State"), (G.2.2.1 10, .object "ScoutGates$Troop")]
def up1 (S : mS) (a : Nat) (f : Nat → Int32) : mS := fun b => if b = a then f else S b
theorem up1_s (S : mS) (a : Nat) (f : Nat → Int32) : up1 S a f a = f := by simp [up1]
theorem up1_n {S : mS} {a b : Nat} {f : Nat → Int32} (h : b ≠ a) : up1 S a f b = S b := by simp [up1, h]
theorem kd_lt {a : Nat} (h : kd a ≠ 99) : a < 190 := by
  refine Nat.not_le.mp fun q => h ?_
  unfold kd
  rw [List.getD_eq_getElem?_getD, List.getElem?_eq_none (by exact q)]
  rfl
theorem mW_at (G : mG) (S : mS) {a : Nat} (h : a < 190) : (mW G S)[a]? = some (G.2.2.2 a, cellE G S a) := by simp [mW, h]
theorem cellE_eq {G : mG} {S S' : mS} {b : Nat} (h : S' b = S b) : cellE G S' b = cellE G S b := by unfold cellE mFs; rw [h]
theorem mW_set (G : mG) {S S' : mS} {a : Nat} (h : a < 190) (hS : ∀ b, b ≠ a → S' b = S b) : (mW G S).set a (G.2.2.2 a, cellE G S' a) = mW G S' := by
  refine List.ext_getElem? fun k => ?_
  rw [List.getElem?_set]
  by_cases hk : k < 190
  · rw [mW_at G S' hk, mW_at G S hk]
    by_cases e : a = k
    · subst e; simp [mW, hk]
    · rw [if_neg e, cellE_eq (hS k (fun z => e z.symm))]
  · have h1 : (mW G S')[k]? = none := by simp [mW]; omega
    have h2 : (mW G S)[k]? = none := by simp [mW]; omega
    rw [h1, h2, if_neg (by omega)]
theorem cellE_o {G : mG} {S : mS} {a ci : Nat} (h : kd a = ci) (hc : ci < 6) : cellE G S a = .inr (ci, mFs G S a ci) := by subst h; unfold cellE; rw [if_pos hc]
theorem cellE_i {G : mG} {S : mS} {a t : Nat} (h : kd a = t) (h1 : ¬ t < 6) (h2 : t < 9) : cellE G S a = .inl (G.2.2.1 t, ln a, .inl (S a)) := by subst h; unfold cellE; rw [if_neg h1, if_pos h2]
theorem cellE_r {G : mG} {S : mS} {a t : Nat} (h : kd a = t) (h2 : ¬ t < 9) : cellE G S a = .inl (G.2.2.1 t, ln a, .inr (.inr (.inr (.inr (fun k => some (G.2.2.2 (rf a k))))))) := by subst h; unfold cellE; rw [if_neg (by omega), if_neg h2]
theorem mFs_at {G : mG} {S : mS} {a ci k : Nat} (h : k < fN ci) : (mFs G S a ci)[k]? = some (if isI ci k then .int (S a k) else rv G (rf a k)) := by simp [mFs, h]
theorem mFs_len {G : mG} {S : mS} {a ci : Nat} : (mFs G S a ci).length = fN ci := by simp [mFs]
theorem mFs_set {G : mG} {S : mS} {a ci k : Nat} {v : Int32} (hi : isI ci k = true) : (mFs G S a ci).set k (.int v) = mFs G (up1 S a (upd (S a) k v)) a ci := by
  refine List.ext_getElem? fun j => ?_
  rw [List.getElem?_set]
  by_cases hj : j < fN ci
  · rw [mFs_at hj, mFs_at hj]
    by_cases e : k = j
    · subst e; simp [mFs, hj, hi, up1, upd]
    · have e2 : j ≠ k := fun z => e z.symm
      rw [if_neg e]; simp [up1, upd, e2]
  · have h1 : ∀ S', (mFs G S' a ci)[j]? = none := fun S' => by simp [mFs]; omega
    rw [h1, h1]
    by_cases e : k = j
    · subst e; rw [if_pos rfl, if_neg (by rw [mFs_len]; exact hj)]
    · rw [if_neg e]
theorem cls_at : ∀ ci, ci < 6 → mcl[ci]? = some (fR ci, fT ci, fN ci) := by
  intro ci h
  match ci, h with
  | 0, _ => rfl
  | 1, _ => rfl
  | 2, _ => rfl
  | 3, _ => rfl
  | 4, _ => rfl
  | 5, _ => rfl
theorem cls_in : ∀ ci, ci < 6 → ∀ w ∈ u_ws (fR ci) (fT ci) (fN ci), w ∈ gtbl := by
  intro ci h
  match ci, h with
  | 0, _ => exact all_g (by decide +kernel)
  | 1, _ => exact all_g (by decide +kernel)
  | 2, _ => exact all_g (by decide +kernel)
  | 3, _ => exact all_g (by decide +kernel)
  | 4, _ => exact all_g (by decide +kernel)
  | 5, _ => exact all_g (by decide +kernel)
theorem cls_ty : ∀ ci, ci < 6 → ∀ k, k < fN ci → parseFieldDescriptor (fT ci k).2.2.1 = some (fY ci k) := by
  intro ci h
  match ci, h with
  | 0, _ => exact tyX0_ok
  | 1, _ => exact tyX1_ok
  | 2, _ => exact tyX2_ok
  | 3, _ => exact tyX3_ok
  | 4, _ => exact tyX4_ok
  | 5, _ => exact tyX4_ok
theorem cls_nm : ∀ ci, ci < 6 → ∀ a, a < fN ci → ∀ b, b < fN ci → a ≠ b → (fT ci a).2.1 ≠ (fT ci b).2.1 := by
  intro ci h
  match ci, h with
  | 0, _ => exact nmX0
  | 1, _ => exact nmX1
  | 2, _ => exact nmX2
  | 3, _ => exact nmX3
  | 4, _ => exact nmX4
  | 5, _ => exact nmX4
theorem tbl_good {w : Cond} (h : w ∈ gtbl) : goodWord w = true := (List.mem_filter.mp h).2
/-- a method's words: its code, and all words of the tables -/
def mWs (M : mM) : List Cond := .code M.1 M.2.1 M.2.2.1 M.2.2.2 :: gtbl
def mRm (d : Nat) : Room := { frames := d, cells := 0, slots := 0, locals := 30 * d }
def mBh (G : mG) (A : Nat → Prop) (u : mS) (t : State) : Prop := va_P G.2.1 mcl (mW G u) t.heap ∧ va_K G.2.1 mcl (mTy G) t ∧ va_D A (mW G u)
def mPost (G : mG) (M : mM) (Q : Option Int32 → mS → Prop) (A : Nat → Prop) : Array Value → State → Outcome → State → Prop := match M.2.2.2 with
  | none => va_Qv (fun u => Q none u) (mBh G A) A
  | some _ => va_Qi (fun r u => Q (some r) u) (mBh G A) A
/-- the triple of a method: from numbers S with these arguments it comes to its end with Q; d: how deep it calls -/
def Call (G : mG) (d : Nat) (M : mM) (av : List Value) (S : mS) (Q : Option Int32 → mS → Prop) : Prop := ∀ sz : Nat,
  Met G.1 M.1 (mWs M) (mRm d) (va_Pc av (fun U => U.heap.size = sz ∧ va_P G.2.1 mcl (mW G S) U.heap ∧ va_K G.2.1 mcl (mTy G) U ∧ va_D (fun _ => True) (mW G S))) (mPost G M Q (va_A (mW G S) sz)) 0 0 (va_A (mW G S) sz)
def mCx (G : mG) (M : mM) (A : Nat → Prop) (p : Program) (s : State) (m : MethodId) (args : Array Value) (meth : Method) (c : Code) : Prop :=
  p.tables.exec = Jvm.exec ∧ c.code = M.2.1 ∧ c.maxLocals = M.2.2.1 ∧ meth.sig.returnType = M.2.2.2 ∧ s.vm.findClass M.1.cls = some m.cls ∧ (∀ w ∈ mWs M, w.before args s = true) ∧ meth.locks = false ∧ va_K G.2.1 mcl (mTy G) s ∧ ∀ q, s.heap.size ≤ q → A q
/-- in a method, at a place: from these locals, stack and numbers it comes to its end with Q -/
def At (G : mG) (d : Nat) (M : mM) (Q : Option Int32 → mS → Prop) (pc : Nat) (lo : List (Nat × Value)) (st : List Value) (S : mS) : Prop :=
  ∀ (p : Program) (e : Env) (s : State) (m : MethodId) (args : Array Value) (below : List Frame) (meth : Method) (c : Code) (A : Nat → Prop) (H : Heap) (locs : List Loc) (ls : Array Slot),
    mCx G M A p s m args meth c → lv_has ls M.2.2.1 lo → va_P G.2.1 mcl (mW G S) H → va_D A (mW G S) → va_S A s.heap H locs →
    W p G.1 e (mRm d) s m args below meth c H locs 0 0 (MQ below (mPost G M Q A) args s 0 0 A) (F0 m pc ls st)
theorem call_of {G : mG} {d : Nat} {M : mM} {av : List Value} {S : mS} {Q : Option Int32 → mS → Prop} {lo : List (Nat × Value)} (hy : plainName M.1.cls = true) (hn : (lg_sl av).length ≤ M.2.2.1) (hl : lv_args 0 av = lo) (h : At G d M Q 0 lo [] S) : Call G d M av S Q := by
  intro sz
  refine Met.ofW (cc := M.2.1) (maxL := M.2.2.1) (ret := M.2.2.2) hy rfl ?_
  intro p e s m args below meth c s₁ B hml hv
  obtain ⟨rfl, hsz, hP, hK, hD0⟩ := hv
  subst hsz
  rw [lg_entry_eq]
  subst hl
  exact h p e s m _ below meth c _ s.heap [] _ ⟨B.exec, B.bytes, hml, B.returns, findClass_of_methodNamed B.named, atoms_spec (ws := mWs M) B.pre, B.notSynchronized, hK, fun q hq => Or.inr hq⟩ (lv_entry av hn) hP hD0.self va_S.rf
theorem Met_mono {l : Launch} {y : MethodName} {ws : List Cond} {rm : Room} {Pc : Array Value → State → Prop} {Qc Qc' : Array Value → State → Outcome → State → Prop} {mc ms : Nat} {free : Addr → Prop} (h : Met l y ws rm Pc Qc mc ms free) (hq : ∀ a st o t, Qc a st o t → Qc' a st o t) : Met l y ws rm Pc Qc' mc ms free := by
  intro p e ha hc hk s m args below hf happ hP hT
  obtain ⟨k, o, h1, h2, h3, h4, h5⟩ := h p e ha hc hk s m args below hf happ hP hT
  exact ⟨k, o, h1, h2, h3, hq _ _ _ _ h4, h5⟩
theorem call_mono {G : mG} {d : Nat} {M : mM} {av : List Value} {S : mS} {Q Q' : Option Int32 → mS → Prop} (h : Call G d M av S Q) (hq : ∀ v u, Q v u → Q' v u) : Call G d M av S Q' := by
  intro sz
  refine Met_mono (h sz) ?_
  intro a st o t
  unfold mPost
  cases M.2.2.2 with
  | none => exact fun ⟨⟨u, h1, h2, h3⟩, h4⟩ => ⟨⟨u, h1, hq _ _ h2, h3⟩, h4⟩
  | some ty => exact fun ⟨⟨r, u, h1, h2, h3⟩, h4⟩ => ⟨⟨r, u, h1, hq _ _ h2, h3⟩, h4⟩
section ROWS
variable {G : mG} {d : Nat} {M : mM} {Q : Option Int32 → mS → Prop} {pc : Nat} {lo : List (Nat × Value)} {st : List Value} {S : mS}
theorem cp_nat : Cond.native arraycopyName ∈ gtbl := all_g (l := [Cond.native arraycopyName]) (by decide +kernel) _ List.mem_cons_self
theorem cp_sta : Cond.static arraycopyName ∈ gtbl := all_g (l := [Cond.static arraycopyName]) (by decide +kernel) _ List.mem_cons_self
theorem cp_ini : Cond.initialized "java/lang/System" ∈ gtbl := all_g (l := [Cond.initialized "java/lang/System"]) (by decide +kernel) _ List.mem_cons_self
theorem cp_words {d : Nat} (h : 4 ≤ d) : 0 + (nativeFrameWords "java/lang/System" "arraycopy" 5 + 11) ≤ 30 * d := by
  have : nativeFrameWords "java/lang/System" "arraycopy" 5 + 11 ≤ 120 := by decide +kernel
  omega
theorem r_iconst {n : Int} {v : Int32} (hd : decode M.2.1 pc = .ok (.iconst n, 1)) (hv : Int32.ofInt n = v) (k : At G d M Q (pc + 1) lo (.int v :: st) S) : At G d M Q pc lo (st) S := by
  intro p e s m args below meth c A H locs ls C hl hP hD hS
  exact lv_iconst C.1 C.2.1 hd hv (k _ _ _ _ _ _ _ _ _ _ _ _ C hl hP hD hS)
theorem r_bipush {n : Int} {v : Int32} (hd : decode M.2.1 pc = .ok (.bipush n, 2)) (hv : (Int8.ofInt n).toInt32 = v) (k : At G d M Q (pc + 2) lo (.int v :: st) S) : At G d M Q pc lo (st) S := by
  intro p e s m args below meth c A H locs ls C hl hP hD hS
  exact lv_bipush C.1 C.2.1 hd hv (k _ _ _ _ _ _ _ _ _ _ _ _ C hl hP hD hS)
theorem r_sipush {n : Int} {v : Int32} (hd : decode M.2.1 pc = .ok (.sipush n, 3)) (hv : (Int16.ofInt n).toInt32 = v) (k : At G d M Q (pc + 3) lo (.int v :: st) S) : At G d M Q pc lo (st) S := by
  intro p e s m args below meth c A H locs ls C hl hP hD hS
  exact lv_sipush C.1 C.2.1 hd hv (k _ _ _ _ _ _ _ _ _ _ _ _ C hl hP hD hS)
theorem r_lconst {n : Fin 2} {v : Int64} (hd : decode M.2.1 pc = .ok (.lconst n, 1)) (hv : Int64.ofNat (n : Nat) = v) (k : At G d M Q (pc + 1) lo (.long v :: st) S) : At G d M Q pc lo (st) S := by
  intro p e s m args below meth c A H locs ls C hl hP hD hS
  exact lv_lconst C.1 C.2.1 hd hv (k _ _ _ _ _ _ _ _ _ _ _ _ C hl hP hD hS)
theorem r_iload_n {n : Fin 4} {x : Int32} (hd : decode M.2.1 pc = .ok (.iload_n n, 1)) (j : Nat) (hg : lo[j]? = some ((n : Nat), .int x)) (k : At G d M Q (pc + 1) lo (.int x :: st) S) : At G d M Q pc lo (st) S := by
  intro p e s m args below meth c A H locs ls C hl hP hD hS
  exact lv_iload_n C.1 C.2.1 hd rfl (lv_at hl j hg) (k _ _ _ _ _ _ _ _ _ _ _ _ C hl hP hD hS)
theorem r_iload {i : Nat} {x : Int32} (hd : decode M.2.1 pc = .ok (.iload i, 2)) (j : Nat) (hg : lo[j]? = some (i, .int x)) (k : At G d M Q (pc + 2) lo (.int x :: st) S) : At G d M Q pc lo (st) S := by
  intro p e s m args below meth c A H locs ls C hl hP hD hS
  exact lv_iload C.1 C.2.1 hd (lv_at hl j hg) (k _ _ _ _ _ _ _ _ _ _ _ _ C hl hP hD hS)
theorem r_lload_n {n : Fin 4} {x : Int64} (hd : decode M.2.1 pc = .ok (.lload_n n, 1)) (j : Nat) (hg : lo[j]? = some ((n : Nat), .long x)) (k : At G d M Q (pc + 1) lo (.long x :: st) S) : At G d M Q pc lo (st) S := by
  intro p e s m args below meth c A H locs ls C hl hP hD hS
  exact lv_lload_n C.1 C.2.1 hd rfl (lv_at hl j hg) (k _ _ _ _ _ _ _ _ _ _ _ _ C hl hP hD hS)
theorem r_lload {i : Nat} {x : Int64} (hd : decode M.2.1 pc = .ok (.lload i, 2)) (j : Nat) (hg : lo[j]? = some (i, .long x)) (k : At G d M Q (pc + 2) lo (.long x :: st) S) : At G d M Q pc lo (st) S := by
  intro p e s m args below meth c A H locs ls C hl hP hD hS
  exact lv_lload C.1 C.2.1 hd (lv_at hl j hg) (k _ _ _ _ _ _ _ _ _ _ _ _ C hl hP hD hS)
theorem r_aload_n {n : Fin 4} {x : Nat} (hd : decode M.2.1 pc = .ok (.aload_n n, 1)) (j : Nat) (hg : lo[j]? = some ((n : Nat), rv G x)) (k : At G d M Q (pc + 1) lo (rv G x :: st) S) : At G d M Q pc lo (st) S := by
  intro p e s m args below meth c A H locs ls C hl hP hD hS
  exact lv_aload_n C.1 C.2.1 hd rfl (lv_at hl j hg) (k _ _ _ _ _ _ _ _ _ _ _ _ C hl hP hD hS)
theorem r_aload {i : Nat} {x : Nat} (hd : decode M.2.1 pc = .ok (.aload i, 2)) (j : Nat) (hg : lo[j]? = some (i, rv G x)) (k : At G d M Q (pc + 2) lo (rv G x :: st) S) : At G d M Q pc lo (st) S := by
  intro p e s m args below meth c A H locs ls C hl hP hD hS
  exact lv_aload C.1 C.2.1 hd (lv_at hl j hg) (k _ _ _ _ _ _ _ _ _ _ _ _ C hl hP hD hS)
theorem r_istore_n {n : Fin 4} {i : Nat} {x : Int32} {lo2 : List (Nat × Value)} (hd : decode M.2.1 pc = .ok (.istore_n n, 1)) (hi : (n : Nat) = i) (hn : i < M.2.2.1) (ps : List Nat) (hs : lv_pick ((i, .int x) :: lo.filter (fun q => !(q.1 == i) && !(q.1 + 1 == i && q.2.category == 2))) ps = lo2) (k : At G d M Q (pc + 1) lo2 st S) : At G d M Q pc lo (.int x :: st) S := by
  intro p e s m args below meth c A H locs ls C hl hP hD hS
  exact lv_istore_n C.1 C.2.1 hd hi hl hn rfl (fun ls' hl => k _ _ _ _ _ _ _ _ _ _ _ _ C (lv_sub hl ps hs) hP hD hS)
theorem r_istore  {i : Nat} {x : Int32} {lo2 : List (Nat × Value)} (hd : decode M.2.1 pc = .ok (.istore i, 2)) (hn : i < M.2.2.1) (ps : List Nat) (hs : lv_pick ((i, .int x) :: lo.filter (fun q => !(q.1 == i) && !(q.1 + 1 == i && q.2.category == 2))) ps = lo2) (k : At G d M Q (pc + 2) lo2 st S) : At G d M Q pc lo (.int x :: st) S := by
  intro p e s m args below meth c A H locs ls C hl hP hD hS
  exact lv_istore C.1 C.2.1 hd hl hn rfl (fun ls' hl => k _ _ _ _ _ _ _ _ _ _ _ _ C (lv_sub hl ps hs) hP hD hS)
theorem r_lstore_n {n : Fin 4} {i : Nat} {x : Int64} {lo2 : List (Nat × Value)} (hd : decode M.2.1 pc = .ok (.lstore_n n, 1)) (hi : (n : Nat) = i) (hn : i + 1 < M.2.2.1) (ps : List Nat) (hs : lv_pick ((i, .long x) :: lo.filter (fun q => !(q.1 == i) && (!(q.1 == i + 1) && !(q.1 + 1 == i && q.2.category == 2)))) ps = lo2) (k : At G d M Q (pc + 1) lo2 st S) : At G d M Q pc lo (.long x :: st) S := by
  intro p e s m args below meth c A H locs ls C hl hP hD hS
  exact lv_lstore_n C.1 C.2.1 hd hi hl hn rfl (fun ls' hl => k _ _ _ _ _ _ _ _ _ _ _ _ C (lv_sub hl ps hs) hP hD hS)
theorem r_lstore  {i : Nat} {x : Int64} {lo2 : List (Nat × Value)} (hd : decode M.2.1 pc = .ok (.lstore i, 2)) (hn : i + 1 < M.2.2.1) (ps : List Nat) (hs : lv_pick ((i, .long x) :: lo.filter (fun q => !(q.1 == i) && (!(q.1 == i + 1) && !(q.1 + 1 == i && q.2.category == 2)))) ps = lo2) (k : At G d M Q (pc + 2) lo2 st S) : At G d M Q pc lo (.long x :: st) S := by
  intro p e s m args below meth c A H locs ls C hl hP hD hS
  exact lv_lstore C.1 C.2.1 hd hl hn rfl (fun ls' hl => k _ _ _ _ _ _ _ _ _ _ _ _ C (lv_sub hl ps hs) hP hD hS)
theorem r_astore_n {n : Fin 4} {i : Nat} {x : Nat} {lo2 : List (Nat × Value)} (hd : decode M.2.1 pc = .ok (.astore_n n, 1)) (hi : (n : Nat) = i) (hn : i < M.2.2.1) (ps : List Nat) (hs : lv_pick ((i, rv G x) :: lo.filter (fun q => !(q.1 == i) && !(q.1 + 1 == i && q.2.category == 2))) ps = lo2) (k : At G d M Q (pc + 1) lo2 st S) : At G d M Q pc lo (rv G x :: st) S := by
  intro p e s m args below meth c A H locs ls C hl hP hD hS
  exact lv_astore_n C.1 C.2.1 hd hi hl hn rfl (fun ls' hl => k _ _ _ _ _ _ _ _ _ _ _ _ C (lv_sub hl ps hs) hP hD hS)
theorem r_astore  {i : Nat} {x : Nat} {lo2 : List (Nat × Value)} (hd : decode M.2.1 pc = .ok (.astore i, 2)) (hn : i < M.2.2.1) (ps : List Nat) (hs : lv_pick ((i, rv G x) :: lo.filter (fun q => !(q.1 == i) && !(q.1 + 1 == i && q.2.category == 2))) ps = lo2) (k : At G d M Q (pc + 2) lo2 st S) : At G d M Q pc lo (rv G x :: st) S := by
  intro p e s m args below meth c A H locs ls C hl hP hD hS
  exact lv_astore C.1 C.2.1 hd hl hn rfl (fun ls' hl => k _ _ _ _ _ _ _ _ _ _ _ _ C (lv_sub hl ps hs) hP hD hS)
theorem r_iinc {i : Nat} {n : Int} {x w : Int32} {lo2 : List (Nat × Value)} (hd : decode M.2.1 pc = .ok (.iinc i n, 3)) (j : Nat) (hg : lo[j]? = some (i, .int x)) (hw : Int32.ofInt n = w) (hn : i < M.2.2.1) (ps : List Nat) (hs : lv_pick ((i, .int (x + w)) :: lo.filter (fun q => !(q.1 == i) && !(q.1 + 1 == i && q.2.category == 2))) ps = lo2) (k : At G d M Q (pc + 3) lo2 st S) : At G d M Q pc lo st S := by
  intro p e s m args below meth c A H locs ls C hl hP hD hS
  subst hw
  exact lv_iinc C.1 C.2.1 hd hl (k := j) hg rfl hn rfl (fun ls' hl => k _ _ _ _ _ _ _ _ _ _ _ _ C (lv_sub hl ps hs) hP hD hS)
theorem r_sub {lo2 : List (Nat × Value)} (ps : List Nat) (hs : lv_pick lo ps = lo2) (k : At G d M Q pc lo2 st S) : At G d M Q pc lo st S := by
  intro p e s m args below meth c A H locs ls C hl hP hD hS
  exact k _ _ _ _ _ _ _ _ _ _ _ _ C (lv_sub hl ps hs) hP hD hS
theorem r_iadd {x y : Int32} (hd : decode M.2.1 pc = .ok (.iadd, 1))  (k : At G d M Q (pc + 1) lo (.int (x + y) :: st) S) : At G d M Q pc lo (.int y :: .int x :: st) S := by
  intro p e s m args below meth c A H locs ls C hl hP hD hS
  exact lv_iadd C.1 C.2.1 hd  (k _ _ _ _ _ _ _ _ _ _ _ _ C hl hP hD hS)
theorem r_isub {x y : Int32} (hd : decode M.2.1 pc = .ok (.isub, 1))  (k : At G d M Q (pc + 1) lo (.int (x - y) :: st) S) : At G d M Q pc lo (.int y :: .int x :: st) S := by
  intro p e s m args below meth c A H locs ls C hl hP hD hS
  exact lv_isub C.1 C.2.1 hd  (k _ _ _ _ _ _ _ _ _ _ _ _ C hl hP hD hS)
theorem r_imul {x y : Int32} (hd : decode M.2.1 pc = .ok (.imul, 1))  (k : At G d M Q (pc + 1) lo (.int (x * y) :: st) S) : At G d M Q pc lo (.int y :: .int x :: st) S := by
  intro p e s m args below meth c A H locs ls C hl hP hD hS
  exact lv_imul C.1 C.2.1 hd  (k _ _ _ _ _ _ _ _ _ _ _ _ C hl hP hD hS)
theorem r_iand {x y : Int32} (hd : decode M.2.1 pc = .ok (.iand, 1))  (k : At G d M Q (pc + 1) lo (.int (x &&& y) :: st) S) : At G d M Q pc lo (.int y :: .int x :: st) S := by
  intro p e s m args below meth c A H locs ls C hl hP hD hS
  exact lv_iand C.1 C.2.1 hd  (k _ _ _ _ _ _ _ _ _ _ _ _ C hl hP hD hS)
theorem r_ior {x y : Int32} (hd : decode M.2.1 pc = .ok (.ior, 1))  (k : At G d M Q (pc + 1) lo (.int (x ||| y) :: st) S) : At G d M Q pc lo (.int y :: .int x :: st) S := by
  intro p e s m args below meth c A H locs ls C hl hP hD hS
  exact lv_ior C.1 C.2.1 hd  (k _ _ _ _ _ _ _ _ _ _ _ _ C hl hP hD hS)
theorem r_ixor {x y : Int32} (hd : decode M.2.1 pc = .ok (.ixor, 1))  (k : At G d M Q (pc + 1) lo (.int (x ^^^ y) :: st) S) : At G d M Q pc lo (.int y :: .int x :: st) S := by
  intro p e s m args below meth c A H locs ls C hl hP hD hS
  exact lv_ixor C.1 C.2.1 hd  (k _ _ _ _ _ _ _ _ _ _ _ _ C hl hP hD hS)
theorem r_ishl {x y : Int32} (hd : decode M.2.1 pc = .ok (.ishl, 1))  (k : At G d M Q (pc + 1) lo (.int (x <<< (y &&& 31)) :: st) S) : At G d M Q pc lo (.int y :: .int x :: st) S := by
  intro p e s m args below meth c A H locs ls C hl hP hD hS
  exact lv_ishl C.1 C.2.1 hd  (k _ _ _ _ _ _ _ _ _ _ _ _ C hl hP hD hS)
theorem r_ishr {x y : Int32} (hd : decode M.2.1 pc = .ok (.ishr, 1))  (k : At G d M Q (pc + 1) lo (.int (x >>> (y &&& 31)) :: st) S) : At G d M Q pc lo (.int y :: .int x :: st) S := by
  intro p e s m args below meth c A H locs ls C hl hP hD hS
  exact lv_ishr C.1 C.2.1 hd  (k _ _ _ _ _ _ _ _ _ _ _ _ C hl hP hD hS)
theorem r_irem {x y : Int32} (hd : decode M.2.1 pc = .ok (.irem, 1)) (hne : ¬ y = 0) (k : At G d M Q (pc + 1) lo (.int (x - x / y * y) :: st) S) : At G d M Q pc lo (.int y :: .int x :: st) S := by
  intro p e s m args below meth c A H locs ls C hl hP hD hS
  exact lv_irem C.1 C.2.1 hd hne (k _ _ _ _ _ _ _ _ _ _ _ _ C hl hP hD hS)
theorem r_iushr {x y : Int32} (hd : decode M.2.1 pc = .ok (.iushr, 1))  (k : At G d M Q (pc + 1) lo (.int ((x.toUInt32 >>> (y.toUInt32 &&& Int32.toUInt32 31)).toInt32) :: st) S) : At G d M Q pc lo (.int y :: .int x :: st) S := by
  intro p e s m args below meth c A H locs ls C hl hP hD hS
  exact lv_iushr C.1 C.2.1 hd rfl (k _ _ _ _ _ _ _ _ _ _ _ _ C hl hP hD hS)
theorem r_land {x y : Int64} (hd : decode M.2.1 pc = .ok (.land, 1))  (k : At G d M Q (pc + 1) lo (.long (x &&& y) :: st) S) : At G d M Q pc lo (.long y :: .long x :: st) S := by
  intro p e s m args below meth c A H locs ls C hl hP hD hS
  exact lv_land C.1 C.2.1 hd  (k _ _ _ _ _ _ _ _ _ _ _ _ C hl hP hD hS)
theorem r_lor {x y : Int64} (hd : decode M.2.1 pc = .ok (.lor, 1))  (k : At G d M Q (pc + 1) lo (.long (x ||| y) :: st) S) : At G d M Q pc lo (.long y :: .long x :: st) S := by
  intro p e s m args below meth c A H locs ls C hl hP hD hS
  exact lv_lor C.1 C.2.1 hd  (k _ _ _ _ _ _ _ _ _ _ _ _ C hl hP hD hS)
theorem r_lushr {x : Int64} {y : Int32} (hd : decode M.2.1 pc = .ok (.lushr, 1))  (k : At G d M Q (pc + 1) lo (.long ((x.toUInt64 >>> (y.toInt64.toUInt64 &&& Int64.toUInt64 63)).toInt64) :: st) S) : At G d M Q pc lo (.int y :: .long x :: st) S := by
  intro p e s m args below meth c A H locs ls C hl hP hD hS
  exact lv_lushr C.1 C.2.1 hd rfl (k _ _ _ _ _ _ _ _ _ _ _ _ C hl hP hD hS)
theorem r_lshl {x : Int64} {y : Int32} (hd : decode M.2.1 pc = .ok (.lshl, 1))  (k : At G d M Q (pc + 1) lo (.long (x <<< (y.toInt64 &&& 63)) :: st) S) : At G d M Q pc lo (.int y :: .long x :: st) S := by
  intro p e s m args below meth c A H locs ls C hl hP hD hS
  exact lv_lshl C.1 C.2.1 hd rfl (k _ _ _ _ _ _ _ _ _ _ _ _ C hl hP hD hS)
theorem r_lcmp {x y : Int64} (hd : decode M.2.1 pc = .ok (.lcmp, 1))  (k : At G d M Q (pc + 1) lo (.int (lg_cmp x y) :: st) S) : At G d M Q pc lo (.long y :: .long x :: st) S := by
  intro p e s m args below meth c A H locs ls C hl hP hD hS
  exact W.lcmp C.1 C.2.1 hd  (k _ _ _ _ _ _ _ _ _ _ _ _ C hl hP hD hS)
theorem r_i2l {x : Int32} (hd : decode M.2.1 pc = .ok (.i2l, 1))  (k : At G d M Q (pc + 1) lo (.long x.toInt64 :: st) S) : At G d M Q pc lo (.int x :: st) S := by
  intro p e s m args below meth c A H locs ls C hl hP hD hS
  exact lv_i2l C.1 C.2.1 hd rfl (k _ _ _ _ _ _ _ _ _ _ _ _ C hl hP hD hS)
theorem r_l2i {x : Int64} (hd : decode M.2.1 pc = .ok (.l2i, 1))  (k : At G d M Q (pc + 1) lo (.int x.toInt32 :: st) S) : At G d M Q pc lo (.long x :: st) S := by
  intro p e s m args below meth c A H locs ls C hl hP hD hS
  exact lv_l2i C.1 C.2.1 hd rfl (k _ _ _ _ _ _ _ _ _ _ _ _ C hl hP hD hS)
theorem r_i2c {x : Int32} (hd : decode M.2.1 pc = .ok (.i2c, 1))  (k : At G d M Q (pc + 1) lo (.int (x.toUInt32 % 65536).toInt32 :: st) S) : At G d M Q pc lo (.int x :: st) S := by
  intro p e s m args below meth c A H locs ls C hl hP hD hS
  exact lv_i2c C.1 C.2.1 hd rfl (k _ _ _ _ _ _ _ _ _ _ _ _ C hl hP hD hS)
theorem r_dup {v : Value} (hd : decode M.2.1 pc = .ok (.dup, 1)) (hv : v.category = 1) (k : At G d M Q (pc + 1) lo (v :: v :: st) S) : At G d M Q pc lo (v :: st) S := by
  intro p e s m args below meth c A H locs ls C hl hP hD hS
  exact lv_dup C.1 C.2.1 hd hv (k _ _ _ _ _ _ _ _ _ _ _ _ C hl hP hD hS)
theorem r_pop {v : Value} (hd : decode M.2.1 pc = .ok (.pop, 1)) (hv : v.category = 1) (k : At G d M Q (pc + 1) lo (st) S) : At G d M Q pc lo (v :: st) S := by
  intro p e s m args below meth c A H locs ls C hl hP hD hS
  exact lv_pop C.1 C.2.1 hd hv (k _ _ _ _ _ _ _ _ _ _ _ _ C hl hP hD hS)
theorem r_dup2 {v w : Value} (hd : decode M.2.1 pc = .ok (.dup2, 1)) (hv : v.category = 1) (hw : w.category = 1) (k : At G d M Q (pc + 1) lo (v :: w :: v :: w :: st) S) : At G d M Q pc lo (v :: w :: st) S := by
  intro p e s m args below meth c A H locs ls C hl hP hD hS
  exact lv_dup2_11 C.1 C.2.1 hd hv hw (k _ _ _ _ _ _ _ _ _ _ _ _ C hl hP hD hS)
theorem r_if_eq {x : Int32} {off : Int} {tgt : Nat} (hd : decode M.2.1 pc = .ok (.ifCond .eq off, 3)) (ht : (pc : Int) + off = (tgt : Int)) (kt : x = 0 → At G d M Q tgt lo st S) (kf : ¬ (x = 0) → At G d M Q (pc + 3) lo st S) : At G d M Q pc lo (.int x :: st) S := by
  intro p e s m args below meth c A H locs ls C hl hP hD hS
  exact lv_if_eq C.1 C.2.1 hd ht (fun z => kt z _ _ _ _ _ _ _ _ _ _ _ _ C hl hP hD hS) (fun z => kf z _ _ _ _ _ _ _ _ _ _ _ _ C hl hP hD hS)
theorem r_icmp_eq {x y : Int32} {off : Int} {tgt : Nat} (hd : decode M.2.1 pc = .ok (.if_icmp .eq off, 3)) (ht : (pc : Int) + off = (tgt : Int)) (kt : x = y → At G d M Q tgt lo st S) (kf : ¬ (x = y) → At G d M Q (pc + 3) lo st S) : At G d M Q pc lo (.int y :: .int x :: st) S := by
  intro p e s m args below meth c A H locs ls C hl hP hD hS
  exact lv_icmp_eq C.1 C.2.1 hd ht (fun z => kt z _ _ _ _ _ _ _ _ _ _ _ _ C hl hP hD hS) (fun z => kf z _ _ _ _ _ _ _ _ _ _ _ _ C hl hP hD hS)
theorem r_if_ne {x : Int32} {off : Int} {tgt : Nat} (hd : decode M.2.1 pc = .ok (.ifCond .ne off, 3)) (ht : (pc : Int) + off = (tgt : Int)) (kt : x ≠ 0 → At G d M Q tgt lo st S) (kf : x = 0 → At G d M Q (pc + 3) lo st S) : At G d M Q pc lo (.int x :: st) S := by
  intro p e s m args below meth c A H locs ls C hl hP hD hS
  exact lv_if_ne C.1 C.2.1 hd ht (fun z => kt z _ _ _ _ _ _ _ _ _ _ _ _ C hl hP hD hS) (fun z => kf z _ _ _ _ _ _ _ _ _ _ _ _ C hl hP hD hS)
theorem r_icmp_ne {x y : Int32} {off : Int} {tgt : Nat} (hd : decode M.2.1 pc = .ok (.if_icmp .ne off, 3)) (ht : (pc : Int) + off = (tgt : Int)) (kt : x ≠ y → At G d M Q tgt lo st S) (kf : x = y → At G d M Q (pc + 3) lo st S) : At G d M Q pc lo (.int y :: .int x :: st) S := by
  intro p e s m args below meth c A H locs ls C hl hP hD hS
  exact lv_icmp_ne C.1 C.2.1 hd ht (fun z => kt z _ _ _ _ _ _ _ _ _ _ _ _ C hl hP hD hS) (fun z => kf z _ _ _ _ _ _ _ _ _ _ _ _ C hl hP hD hS)
theorem r_if_lt {x : Int32} {off : Int} {tgt : Nat} (hd : decode M.2.1 pc = .ok (.ifCond .lt off, 3)) (ht : (pc : Int) + off = (tgt : Int)) (kt : x < 0 → At G d M Q tgt lo st S) (kf : ¬ (x < 0) → At G d M Q (pc + 3) lo st S) : At G d M Q pc lo (.int x :: st) S := by
  intro p e s m args below meth c A H locs ls C hl hP hD hS
  exact lv_if_lt C.1 C.2.1 hd ht (fun z => kt z _ _ _ _ _ _ _ _ _ _ _ _ C hl hP hD hS) (fun z => kf z _ _ _ _ _ _ _ _ _ _ _ _ C hl hP hD hS)
theorem r_icmp_lt {x y : Int32} {off : Int} {tgt : Nat} (hd : decode M.2.1 pc = .ok (.if_icmp .lt off, 3)) (ht : (pc : Int) + off = (tgt : Int)) (kt : x < y → At G d M Q tgt lo st S) (kf : ¬ (x < y) → At G d M Q (pc + 3) lo st S) : At G d M Q pc lo (.int y :: .int x :: st) S := by
  intro p e s m args below meth c A H locs ls C hl hP hD hS
  exact lv_icmp_lt C.1 C.2.1 hd ht (fun z => kt z _ _ _ _ _ _ _ _ _ _ _ _ C hl hP hD hS) (fun z => kf z _ _ _ _ _ _ _ _ _ _ _ _ C hl hP hD hS)
theorem r_if_ge {x : Int32} {off : Int} {tgt : Nat} (hd : decode M.2.1 pc = .ok (.ifCond .ge off, 3)) (ht : (pc : Int) + off = (tgt : Int)) (kt : 0 ≤ x → At G d M Q tgt lo st S) (kf : ¬ (0 ≤ x) → At G d M Q (pc + 3) lo st S) : At G d M Q pc lo (.int x :: st) S := by
  intro p e s m args below meth c A H locs ls C hl hP hD hS
  exact lv_if_ge C.1 C.2.1 hd ht (fun z => kt z _ _ _ _ _ _ _ _ _ _ _ _ C hl hP hD hS) (fun z => kf z _ _ _ _ _ _ _ _ _ _ _ _ C hl hP hD hS)
theorem r_icmp_ge {x y : Int32} {off : Int} {tgt : Nat} (hd : decode M.2.1 pc = .ok (.if_icmp .ge off, 3)) (ht : (pc : Int) + off = (tgt : Int)) (kt : y ≤ x → At G d M Q tgt lo st S) (kf : ¬ (y ≤ x) → At G d M Q (pc + 3) lo st S) : At G d M Q pc lo (.int y :: .int x :: st) S := by
  intro p e s m args below meth c A H locs ls C hl hP hD hS
  exact lv_icmp_ge C.1 C.2.1 hd ht (fun z => kt z _ _ _ _ _ _ _ _ _ _ _ _ C hl hP hD hS) (fun z => kf z _ _ _ _ _ _ _ _ _ _ _ _ C hl hP hD hS)
theorem r_if_gt {x : Int32} {off : Int} {tgt : Nat} (hd : decode M.2.1 pc = .ok (.ifCond .gt off, 3)) (ht : (pc : Int) + off = (tgt : Int)) (kt : 0 < x → At G d M Q tgt lo st S) (kf : ¬ (0 < x) → At G d M Q (pc + 3) lo st S) : At G d M Q pc lo (.int x :: st) S := by
  intro p e s m args below meth c A H locs ls C hl hP hD hS
  exact lv_if_gt C.1 C.2.1 hd ht (fun z => kt z _ _ _ _ _ _ _ _ _ _ _ _ C hl hP hD hS) (fun z => kf z _ _ _ _ _ _ _ _ _ _ _ _ C hl hP hD hS)
theorem r_icmp_gt {x y : Int32} {off : Int} {tgt : Nat} (hd : decode M.2.1 pc = .ok (.if_icmp .gt off, 3)) (ht : (pc : Int) + off = (tgt : Int)) (kt : y < x → At G d M Q tgt lo st S) (kf : ¬ (y < x) → At G d M Q (pc + 3) lo st S) : At G d M Q pc lo (.int y :: .int x :: st) S := by
  intro p e s m args below meth c A H locs ls C hl hP hD hS
  exact lv_icmp_gt C.1 C.2.1 hd ht (fun z => kt z _ _ _ _ _ _ _ _ _ _ _ _ C hl hP hD hS) (fun z => kf z _ _ _ _ _ _ _ _ _ _ _ _ C hl hP hD hS)
theorem r_if_le {x : Int32} {off : Int} {tgt : Nat} (hd : decode M.2.1 pc = .ok (.ifCond .le off, 3)) (ht : (pc : Int) + off = (tgt : Int)) (kt : x ≤ 0 → At G d M Q tgt lo st S) (kf : ¬ (x ≤ 0) → At G d M Q (pc + 3) lo st S) : At G d M Q pc lo (.int x :: st) S := by
  intro p e s m args below meth c A H locs ls C hl hP hD hS
  exact lv_if_le C.1 C.2.1 hd ht (fun z => kt z _ _ _ _ _ _ _ _ _ _ _ _ C hl hP hD hS) (fun z => kf z _ _ _ _ _ _ _ _ _ _ _ _ C hl hP hD hS)
theorem r_icmp_le {x y : Int32} {off : Int} {tgt : Nat} (hd : decode M.2.1 pc = .ok (.if_icmp .le off, 3)) (ht : (pc : Int) + off = (tgt : Int)) (kt : x ≤ y → At G d M Q tgt lo st S) (kf : ¬ (x ≤ y) → At G d M Q (pc + 3) lo st S) : At G d M Q pc lo (.int y :: .int x :: st) S := by
  intro p e s m args below meth c A H locs ls C hl hP hD hS
  exact lv_icmp_le C.1 C.2.1 hd ht (fun z => kt z _ _ _ _ _ _ _ _ _ _ _ _ C hl hP hD hS) (fun z => kf z _ _ _ _ _ _ _ _ _ _ _ _ C hl hP hD hS)
theorem r_goto {off : Int} {tgt : Nat} (hd : decode M.2.1 pc = .ok (.goto off, 3)) (ht : (pc : Int) + off = (tgt : Int)) (k : At G d M Q tgt lo st S) : At G d M Q pc lo st S := by
  intro p e s m args below meth c A H locs ls C hl hP hD hS
  exact lv_goto C.1 C.2.1 hd ht (k _ _ _ _ _ _ _ _ _ _ _ _ C hl hP hD hS)
theorem r_tabIn {dflt lw hi : Int} {offs : Array Int} {len : Nat} {x : Int32} {off : Int} {tgt : Nat} (hd : decode M.2.1 pc = .ok (.tableswitch dflt lw hi offs, len)) (h1 : ¬ x.toInt < lw) (h2 : ¬ hi < x.toInt) (ho : offs[(x.toInt - lw).toNat]? = some off) (ht : (pc : Int) + off = (tgt : Int)) (k : At G d M Q tgt lo st S) : At G d M Q pc lo (.int x :: st) S := by
  intro p e s m args below meth c A H locs ls C hl hP hD hS
  exact lv_tableIn C.1 C.2.1 hd h1 h2 ho ht (k _ _ _ _ _ _ _ _ _ _ _ _ C hl hP hD hS)
theorem r_tabOut {dflt lw hi : Int} {offs : Array Int} {len : Nat} {x : Int32} {tgt : Nat} (hd : decode M.2.1 pc = .ok (.tableswitch dflt lw hi offs, len)) (h : x.toInt < lw ∨ hi < x.toInt) (ht : (pc : Int) + dflt = (tgt : Int)) (k : At G d M Q tgt lo st S) : At G d M Q pc lo (.int x :: st) S := by
  intro p e s m args below meth c A H locs ls C hl hP hD hS
  exact lv_tableOut C.1 C.2.1 hd h ht (k _ _ _ _ _ _ _ _ _ _ _ _ C hl hP hD hS)
theorem r_lookup {dflt : Int} {ps : Array (Int × Int)} {len : Nat} {x : Int32} {off : Int} {tgt : Nat} (hd : decode M.2.1 pc = .ok (.lookupswitch dflt ps, len)) (hp : (ps.toList.zip (ps.toList.drop 1)).all (fun (a, next) => a.1 < next.1) = true) (ho : Op.lookupswitch.offset ps.toList dflt x.toInt = off) (ht : (pc : Int) + off = (tgt : Int)) (k : At G d M Q tgt lo st S) : At G d M Q pc lo (.int x :: st) S := by
  intro p e s m args below meth c A H locs ls C hl hP hD hS
  exact lv_lookup C.1 C.2.1 hd hp ho ht (k _ _ _ _ _ _ _ _ _ _ _ _ C hl hP hD hS)
def KI (own : String) (i : Nat) (v : Int32) : Prop := Cond.constant own i v ∈ gtbl
def KL (own : String) (i : Nat) (v : Int64) : Prop := Cond.constantLong own i v ∈ gtbl
theorem r_ldcw {i : Nat} {v : Int32} (hk : KI M.1.cls i v) (hd : decode M.2.1 pc = .ok (.ldc_w i, 3)) (k : At G d M Q (pc + 3) lo (.int v :: st) S) : At G d M Q pc lo st S := by
  intro p e s m args below meth c A H locs ls C hl hP hD hS
  exact lv_ldcw C.1 C.2.1 C.2.2.2.2.1 (C.2.2.2.2.2.1 _ (List.mem_cons_of_mem _ hk)) hd (k _ _ _ _ _ _ _ _ _ _ _ _ C hl hP hD hS)
theorem r_ldc2 {i : Nat} {v : Int64} (hk : KL M.1.cls i v) (hd : decode M.2.1 pc = .ok (.ldc2_w i, 3)) (k : At G d M Q (pc + 3) lo (.long v :: st) S) : At G d M Q pc lo st S := by
  intro p e s m args below meth c A H locs ls C hl hP hD hS
  exact lv_ldc2 C.1 C.2.1 C.2.2.2.2.1 (C.2.2.2.2.2.1 _ (List.mem_cons_of_mem _ hk)) hd (k _ _ _ _ _ _ _ _ _ _ _ _ C hl hP hD hS)
/-- a field's link in the tables -/
def FL (own : String) (i ci f : Nat) : Prop := (ci < 6 ∧ f < fN ci) ∧ Cond.fieldLink own i (fR ci) (fT ci f).2.1 (fT ci f).2.2.1 ∈ gtbl
theorem hasO {a ci : Nat} (hk : kd a = ci) (hc : ci < 6) : (mW G S)[a]? = some (G.2.2.2 a, .inr (ci, mFs G S a ci)) := by
  rw [mW_at G S (kd_lt (by omega)), cellE_o hk hc]
theorem r_get {i ci f a : Nat} (hk : kd a = ci) (hf : FL M.1.cls i ci f) (hd : decode M.2.1 pc = .ok (.getfield i, 3)) {v : Value} (hv : (if isI ci f then .int (S a f) else rv G (rf a f)) = v) (hs : fT ci f = (fR ci, (fT ci f).2)) (k : At G d M Q (pc + 3) lo (v :: st) S) : At G d M Q pc lo (rv G a :: st) S := by
  intro p e s m args below meth c A H locs ls C hl hP hD hS
  subst hv
  exact va_get (D := G.2.1) (ci := ci) (C := fR ci) (T := fT ci) (N := fN ci) C.1 C.2.1 C.2.2.2.2.2.1 (fun w hw => List.mem_cons_of_mem _ (cls_in ci hf.1.1 w hw)) C.2.2.2.2.1 C.2.2.2.2.2.2.2.1 hP a (hasO hk hf.1.1) (cls_at ci hf.1.1) f hf.1.2 (C.2.2.2.2.2.1 _ (List.mem_cons_of_mem _ hf.2)) (fun x hx => by rw [hs] at hx; exact hx) (mFs_at hf.1.2) hd (k _ _ _ _ _ _ _ _ _ _ _ _ C hl hP hD hS)
theorem r_getI {i ci f a : Nat} (hk : kd a = ci) (hf : FL M.1.cls i ci f) (hi : isI ci f = true) (hs : fT ci f = (fR ci, (fT ci f).2)) (hd : decode M.2.1 pc = .ok (.getfield i, 3)) (k : At G d M Q (pc + 3) lo (.int (S a f) :: st) S) : At G d M Q pc lo (rv G a :: st) S := r_get hk hf hd (by rw [if_pos hi]) hs k
theorem r_getR {i ci f a b : Nat} (hk : kd a = ci) (hf : FL M.1.cls i ci f) (hi : isI ci f = false) (hs : fT ci f = (fR ci, (fT ci f).2)) (hd : decode M.2.1 pc = .ok (.getfield i, 3)) (hb : rf a f = b) (k : At G d M Q (pc + 3) lo (rv G b :: st) S) : At G d M Q pc lo (rv G a :: st) S := r_get hk hf hd (by rw [hi, hb]; rfl) hs k
theorem r_putT {i ci f a : Nat} {x : Int32} {ty : FieldType} (hk : kd a = ci) (hf : FL M.1.cls i ci f) (hi : isI ci f = true) (hs : fT ci f = (fR ci, (fT ci f).2)) (hfin : (fT ci f).2.2.2 = false) (hty : fY ci f = ty) (hn : narrow ty (.int x) = .int x) (hfit : fits ty (.int x) = true) (hd : decode M.2.1 pc = .ok (.putfield i, 3)) (k : At G d M Q (pc + 3) lo st (up1 S a (upd (S a) f x))) : At G d M Q pc lo (.int x :: rv G a :: st) S := by
  intro p e s m args below meth c A H locs ls C hl hP hD hS
  have ha : a < 190 := kd_lt (by have := hf.1.1; omega)
  refine va_put (D := G.2.1) (ci := ci) (C := fR ci) (T := fT ci) (N := fN ci) (ty := ty) C.1 C.2.1 C.2.2.2.2.2.1 (fun w hw => List.mem_cons_of_mem _ (cls_in ci hf.1.1 w hw)) (fY ci) (cls_ty ci hf.1.1) (cls_nm ci hf.1.1) C.2.2.2.2.1 C.2.2.2.2.2.2.2.1 hP hD hS a (hasO hk hf.1.1) (cls_at ci hf.1.1) f hf.1.2 (C.2.2.2.2.2.1 _ (List.mem_cons_of_mem _ hf.2)) (fun x hx => by rw [hs] at hx; exact hx) hfin (by rw [cls_ty ci hf.1.1 f hf.1.2, hty]) hn hfit (by rw [mFs_len]; exact hf.1.2) hd (fun H1 locs1 hP hD hS => ?_)
  rw [mFs_set hi, ← cellE_o hk hf.1.1, mW_set G ha (fun b hb => up1_n hb)] at hP hD
  exact k _ _ _ _ _ _ _ _ _ _ _ _ C hl hP hD hS
theorem r_putI {i ci f a : Nat} {x : Int32} (hk : kd a = ci) (hf : FL M.1.cls i ci f) (hi : isI ci f = true) (hs : fT ci f = (fR ci, (fT ci f).2)) (hfin : (fT ci f).2.2.2 = false) (hty : fY ci f = .int) (hd : decode M.2.1 pc = .ok (.putfield i, 3)) (k : At G d M Q (pc + 3) lo st (up1 S a (upd (S a) f x))) : At G d M Q pc lo (.int x :: rv G a :: st) S := r_putT hk hf hi hs hfin hty rfl rfl hd k
theorem in_of {x : Int32} {n N : Nat} (hx : x = nI n) (h : n < N) (hN : N < 2 ^ 31) : vp_in x N := by rw [hx]; exact vp_in_nI h hN
theorem ln_small (a : Nat) : ln a < 2 ^ 31 := by
  unfold ln
  by_cases h : a < 190
  · exact (by decide +kernel : ∀ a, a < 190 → lnL.getD a 0 < 2 ^ 31) a h
  · rw [List.getD_eq_getElem?_getD, List.getElem?_eq_none (by show 190 ≤ a; omega)]; decide
theorem r_iald {a j : Nat} {x : Int32} (hk : kd a = 6) (hx : x = nI j) (hj : j < ln a) (hd : decode M.2.1 pc = .ok (.iaload, 1)) (k : At G d M Q (pc + 1) lo (.int (S a j) :: st) S) : At G d M Q pc lo (.int x :: rv G a :: st) S := by
  intro p e s m args below meth c A H locs ls C hl hP hD hS
  have h1 := va_iald (tys := mTy G) C.1 C.2.1 C.2.2.2.2.2.2.2.1 hP a 0 (by rw [mW_at G S (kd_lt (by omega)), cellE_i hk (by decide) (by decide)]) rfl (in_of hx hj (ln_small a)) hd (rest := st) (ls := ls) (pc := pc) (m := m) (p := p) (l := G.1) (e := e) (R := mRm d) (s := s) (args := args) (below := below) (meth := meth) (c := c) (H := H) (locs := locs) (cells := 0) (slots := 0) (Q := MQ below (mPost G M Q A) args s 0 0 A) (D := G.2.1)
  have e : x.toNatClampNeg = j := by rw [hx]; exact nI_clamp (by have := ln_small a; omega)
  rw [e] at h1
  exact h1 (k _ _ _ _ _ _ _ _ _ _ _ _ C hl hP hD hS)
theorem r_cald {a j : Nat} {x : Int32} (hk : kd a = 7) (hx : x = nI j) (hj : j < ln a) (hd : decode M.2.1 pc = .ok (.caload, 1)) (k : At G d M Q (pc + 1) lo (.int (S a j) :: st) S) : At G d M Q pc lo (.int x :: rv G a :: st) S := by
  intro p e s m args below meth c A H locs ls C hl hP hD hS
  have h1 := va_cald (tys := mTy G) C.1 C.2.1 C.2.2.2.2.2.2.2.1 hP a 1 (by rw [mW_at G S (kd_lt (by omega)), cellE_i hk (by decide) (by decide)]) rfl (in_of hx hj (ln_small a)) hd (rest := st) (ls := ls) (pc := pc) (m := m) (p := p) (l := G.1) (e := e) (R := mRm d) (s := s) (args := args) (below := below) (meth := meth) (c := c) (H := H) (locs := locs) (cells := 0) (slots := 0) (Q := MQ below (mPost G M Q A) args s 0 0 A) (D := G.2.1)
  have e : x.toNatClampNeg = j := by rw [hx]; exact nI_clamp (by have := ln_small a; omega)
  rw [e] at h1
  exact h1 (k _ _ _ _ _ _ _ _ _ _ _ _ C hl hP hD hS)
theorem r_zald {a j : Nat} {x : Int32} (hk : kd a = 8) (hx : x = nI j) (hj : j < ln a) (hd : decode M.2.1 pc = .ok (.baload, 1)) (k : At G d M Q (pc + 1) lo (.int (S a j) :: st) S) : At G d M Q pc lo (.int x :: rv G a :: st) S := by
  intro p e s m args below meth c A H locs ls C hl hP hD hS
  have h1 := va_zald (tys := mTy G) C.1 C.2.1 C.2.2.2.2.2.2.2.1 hP a 2 (by rw [mW_at G S (kd_lt (by omega)), cellE_i hk (by decide) (by decide)]) rfl (in_of hx hj (ln_small a)) hd (rest := st) (ls := ls) (pc := pc) (m := m) (p := p) (l := G.1) (e := e) (R := mRm d) (s := s) (args := args) (below := below) (meth := meth) (c := c) (H := H) (locs := locs) (cells := 0) (slots := 0) (Q := MQ below (mPost G M Q A) args s 0 0 A) (D := G.2.1)
  have e : x.toNatClampNeg = j := by rw [hx]; exact nI_clamp (by have := ln_small a; omega)
  rw [e] at h1
  exact h1 (k _ _ _ _ _ _ _ _ _ _ _ _ C hl hP hD hS)
theorem r_iast {a j : Nat} {x y : Int32} (hk : kd a = 6) (hx : x = nI j) (hj : j < ln a) (hd : decode M.2.1 pc = .ok (.iastore, 1)) (k : At G d M Q (pc + 1) lo st (up1 S a (upd (S a) j y))) : At G d M Q pc lo (.int y :: .int x :: rv G a :: st) S := by
  intro p e s m args below meth c A H locs ls C hl hP hD hS
  have ha : a < 190 := kd_lt (by omega)
  have e : x.toNatClampNeg = j := by rw [hx]; exact nI_clamp (by have := ln_small a; omega)
  refine va_iast (D := G.2.1) (tys := mTy G) C.1 C.2.1 C.2.2.2.2.2.2.2.1 hP hD hS a 0 (by rw [mW_at G S ha, cellE_i hk (by decide) (by decide)]) rfl (in_of hx hj (ln_small a)) hd (fun H1 locs1 hP hD hS => ?_)
  have e2 : (Sum.inl (G.2.2.1 6, ln a, Sum.inl (upd (S a) x.toNatClampNeg y)) : va_E) = cellE G (up1 S a (upd (S a) j y)) a := by rw [cellE_i hk (by decide) (by decide), up1_s, e]
  rw [e2, mW_set G ha (fun b hb => up1_n hb)] at hP hD
  exact k _ _ _ _ _ _ _ _ _ _ _ _ C hl hP hD hS
theorem r_cast {a j : Nat} {x y : Int32} (hk : kd a = 7) (hx : x = nI j) (hj : j < ln a) (hd : decode M.2.1 pc = .ok (.castore, 1)) (k : At G d M Q (pc + 1) lo st (up1 S a (upd (S a) j (vp_nar .char y)))) : At G d M Q pc lo (.int y :: .int x :: rv G a :: st) S := by
  intro p e s m args below meth c A H locs ls C hl hP hD hS
  have ha : a < 190 := kd_lt (by omega)
  have e : x.toNatClampNeg = j := by rw [hx]; exact nI_clamp (by have := ln_small a; omega)
  refine va_cast (D := G.2.1) (tys := mTy G) C.1 C.2.1 C.2.2.2.2.2.2.2.1 hP hD hS a 1 (by rw [mW_at G S ha, cellE_i hk (by decide) (by decide)]) rfl (in_of hx hj (ln_small a)) hd (fun H1 locs1 hP hD hS => ?_)
  have e2 : (Sum.inl (G.2.2.1 7, ln a, Sum.inl (upd (S a) x.toNatClampNeg (vp_nar .char y))) : va_E) = cellE G (up1 S a (upd (S a) j (vp_nar .char y))) a := by rw [cellE_i hk (by decide) (by decide), up1_s, e]
  rw [e2, mW_set G ha (fun b hb => up1_n hb)] at hP hD
  exact k _ _ _ _ _ _ _ _ _ _ _ _ C hl hP hD hS
theorem r_zast {a j : Nat} {x y : Int32} (hk : kd a = 8) (hx : x = nI j) (hj : j < ln a) (hd : decode M.2.1 pc = .ok (.bastore, 1)) (k : At G d M Q (pc + 1) lo st (up1 S a (upd (S a) j (vp_nar .boolean y)))) : At G d M Q pc lo (.int y :: .int x :: rv G a :: st) S := by
  intro p e s m args below meth c A H locs ls C hl hP hD hS
  have ha : a < 190 := kd_lt (by omega)
  have e : x.toNatClampNeg = j := by rw [hx]; exact nI_clamp (by have := ln_small a; omega)
  refine va_zast (D := G.2.1) (tys := mTy G) C.1 C.2.1 C.2.2.2.2.2.2.2.1 hP hD hS a 2 (by rw [mW_at G S ha, cellE_i hk (by decide) (by decide)]) rfl (in_of hx hj (ln_small a)) hd (fun H1 locs1 hP hD hS => ?_)
  have e2 : (Sum.inl (G.2.2.1 8, ln a, Sum.inl (upd (S a) x.toNatClampNeg (vp_nar .boolean y))) : va_E) = cellE G (up1 S a (upd (S a) j (vp_nar .boolean y))) a := by rw [cellE_i hk (by decide) (by decide), up1_s, e]
  rw [e2, mW_set G ha (fun b hb => up1_n hb)] at hP hD
  exact k _ _ _ _ _ _ _ _ _ _ _ _ C hl hP hD hS
theorem r_aald9 {a j b : Nat} {x : Int32} (hk : kd a = 9) (hx : x = nI j) (hj : j < ln a) (hb : rf a j = b) (hd : decode M.2.1 pc = .ok (.aaload, 1)) (k : At G d M Q (pc + 1) lo (rv G b :: st) S) : At G d M Q pc lo (.int x :: rv G a :: st) S := by
  intro p e s m args below meth c A H locs ls C hl hP hD hS
  have e : x.toNatClampNeg = j := by rw [hx]; exact nI_clamp (by have := ln_small a; omega)
  refine va_aldq (D := G.2.1) (tys := mTy G) C.1 C.2.1 C.2.2.2.2.2.2.2.1 hP a 3 (by rw [mW_at G S (kd_lt (by omega)), cellE_r hk (by decide)]) rfl (in_of hx hj (ln_small a)) hd ?_
  show W p G.1 _ _ s m args below meth c H locs 0 0 _ (F0 m (pc + 1) ls (rv G (rf a x.toNatClampNeg) :: st))
  rw [e, hb]
  exact k _ _ _ _ _ _ _ _ _ _ _ _ C hl hP hD hS
theorem r_aald10 {a j b : Nat} {x : Int32} (hk : kd a = 10) (hx : x = nI j) (hj : j < ln a) (hb : rf a j = b) (hd : decode M.2.1 pc = .ok (.aaload, 1)) (k : At G d M Q (pc + 1) lo (rv G b :: st) S) : At G d M Q pc lo (.int x :: rv G a :: st) S := by
  intro p e s m args below meth c A H locs ls C hl hP hD hS
  have e : x.toNatClampNeg = j := by rw [hx]; exact nI_clamp (by have := ln_small a; omega)
  refine va_aldq (D := G.2.1) (tys := mTy G) C.1 C.2.1 C.2.2.2.2.2.2.2.1 hP a 4 (by rw [mW_at G S (kd_lt (by omega)), cellE_r hk (by decide)]) rfl (in_of hx hj (ln_small a)) hd ?_
  show W p G.1 _ _ s m args below meth c H locs 0 0 _ (F0 m (pc + 1) ls (rv G (rf a x.toNatClampNeg) :: st))
  rw [e, hb]
  exact k _ _ _ _ _ _ _ _ _ _ _ _ C hl hP hD hS
theorem r_copy {a b sp dp n i : Nat} {x y z : Int32} (hka : kd a = 6) (hkb : kd b = 6) (hx : x = nI sp) (hy : y = nI dp) (hz : z = nI n) (h1 : sp + n ≤ ln a) (h2 : dp + n ≤ ln b) (hl1 : Cond.methodLink M.1.cls i arraycopyName ∈ gtbl) (hr : (st.map fun v => v.category).sum = 0) (hd0 : 4 ≤ d) (hd : decode M.2.1 pc = .ok (.invokestatic i, 3)) (k : At G d M Q (pc + 3) lo st (up1 S b (va_cpy (S a) (S b) sp dp n))) : At G d M Q pc lo (.int z :: .int y :: rv G b :: .int x :: rv G a :: st) S := by
  intro p e s m args below meth c A H locs ls C hl hP hD hS
  have sa := ln_small a
  have sb := ln_small b
  have e1 : x.toNatClampNeg = sp := by rw [hx]; exact nI_clamp (by omega)
  have e2 : y.toNatClampNeg = dp := by rw [hy]; exact nI_clamp (by omega)
  have e3 : z.toNatClampNeg = n := by rw [hz]; exact nI_clamp (by omega)
  have ha : a < 190 := kd_lt (by omega)
  have hb : b < 190 := kd_lt (by omega)
  refine va_copyi (D := G.2.1) (tys := mTy G) (ty := .int) C.1 C.2.1 (C.2.2.1.trans hl.1.symm) C.2.2.2.2.1 (C.2.2.2.2.2.1 _ (List.mem_cons_of_mem _ hl1)) (C.2.2.2.2.2.1 _ (List.mem_cons_of_mem _ cp_nat)) (C.2.2.2.2.2.1 _ (List.mem_cons_of_mem _ cp_sta)) (C.2.2.2.2.2.1 _ (List.mem_cons_of_mem _ cp_ini)) C.2.2.2.2.2.2.2.1 hP hD hS a b 0 0 (by rw [mW_at G S ha, cellE_i hka (by decide) (by decide)]) (by rw [mW_at G S hb, cellE_i hkb (by decide) (by decide)]) rfl rfl rfl (by rw [hx]; exact nI_pos (by omega)) (by rw [hy]; exact nI_pos (by omega)) (by rw [hz]; exact nI_pos (by omega)) (by rw [e1, e3]; exact h1) (by rw [e2, e3]; exact h2) (fun _ _ => rfl) (show 1 ≤ d by omega) (show _ ≤ 30 * d by rw [hr]; exact cp_words hd0) hd (fun H1 locs1 hP hD hS => ?_)
  have e4 : (Sum.inl (G.2.2.1 6, ln b, Sum.inl (va_cpy (S a) (S b) x.toNatClampNeg y.toNatClampNeg z.toNatClampNeg)) : va_E) = cellE G (up1 S b (va_cpy (S a) (S b) sp dp n)) b := by rw [cellE_i hkb (by decide) (by decide), up1_s, e1, e2, e3]
  rw [e4, mW_set G hb (fun b hb => up1_n hb)] at hP hD
  exact k _ _ _ _ _ _ _ _ _ _ _ _ C hl hP hD hS
theorem r_zret {v : Int32} {ty : FieldType} (hr : M.2.2.2 = some ty) (hn : narrow ty (.int v) = .int v) (hd : decode M.2.1 pc = .ok (.ireturn, 1)) (hq : Q (some v) S) : At G d M Q pc lo [.int v] S := by
  intro p e s m args below meth c A H locs ls C hl hP hD hS
  refine W.zret (ty := ty) C.1 C.2.1 (C.2.2.2.1.trans hr) hn (fun t ht hW => ?_) hS.2.2 hd C.2.2.2.2.2.2.1
  unfold mPost
  rw [hr]
  exact ⟨⟨v, S, rfl, hq, by rw [ht]; exact hP, va_K.moved hW.alike C.2.2.2.2.2.2.2.1, hD⟩, hS.F ht⟩
theorem r_iret {v : Int32} (hr : M.2.2.2 = some .int) (hd : decode M.2.1 pc = .ok (.ireturn, 1)) (hq : Q (some v) S) : At G d M Q pc lo [.int v] S := r_zret hr rfl hd hq
theorem r_vret (hr : M.2.2.2 = none) (hd : decode M.2.1 pc = .ok (.return_, 1)) (hq : Q none S) : At G d M Q pc lo [] S := by
  intro p e s m args below meth c A H locs ls C hl hP hD hS
  refine W.vret C.1 C.2.1 (C.2.2.2.1.trans hr) (fun t ht hW => ?_) hS.2.2 hd C.2.2.2.2.2.2.1
  unfold mPost
  rw [hr]
  exact ⟨⟨S, rfl, hq, by rw [ht]; exact hP, va_K.moved hW.alike C.2.2.2.2.2.2.2.1, hD⟩, hS.F ht⟩
/-- what the tables say of a method that is called -/
def CM (M' : mM) (n : Nat) : Prop := (Cond.code M'.1 M'.2.1 M'.2.2.1 M'.2.2.2 ∈ gtbl ∧ Cond.initialized M'.1.cls ∈ gtbl ∧ M'.2.2.1 ≤ 11) ∧ M'.1.cls ≠ "java/lang/invoke/MethodHandle" ∧ M'.1.cls ≠ "java/lang/invoke/VarHandle" ∧ (parseMethodDescriptor M'.1.desc).map (fun d => d.parameters.length) = some n
def CV (M' : mM) (ci n : Nat) : Prop := CM M' n ∧ (ci < 6 ∧ M'.1.cls = fR ci) ∧ Cond.instanceMethod M'.1 ∈ gtbl ∧ Cond.selects M'.1.cls M'.1 M'.1 ∈ gtbl
def CS (M' : mM) (n : Nat) : Prop := CM M' n ∧ Cond.static M'.1 ∈ gtbl
def ML (own : String) (i : Nat) (M' : mM) : Prop := Cond.methodLink own i M'.1 ∈ gtbl
theorem gi_tbl {big : List Cond} (hb : ∀ w ∈ gtbl, w ∈ big) {w : Cond} (h : w ∈ gtbl) : w ∈ big ∧ ((w.onTables && w.keeps) = true ∨ ∃ ty, w = .arrayClass ty) := ⟨hb w h, good_of_word (tbl_good h)⟩
theorem gi_ws {big : List Cond} (hb : ∀ w ∈ gtbl, w ∈ big) {M' : mM} {n : Nat} (h : CM M' n) : GoodIn big (mWs M') := by
  intro w hw
  rcases List.mem_cons.mp hw with rfl | hw
  · exact gi_tbl hb h.1.1
  · exact gi_tbl hb hw
theorem gi_V {big : List Cond} (hb : ∀ w ∈ gtbl, w ∈ big) {M' : mM} {own : String} {i ci n : Nat} (h : CV M' ci n) (hl : ML own i M') : GoodIn big (wsV own i M'.1.cls M'.1 (mWs M')) := by
  intro w hw
  rcases List.mem_append.mp hw with hw | hw
  · simp only [List.mem_cons, List.not_mem_nil, or_false] at hw
    rcases hw with rfl | rfl | rfl | rfl
    · exact gi_tbl hb hl
    · exact gi_tbl hb h.2.2.1
    · exact gi_tbl hb h.2.2.2
    · exact gi_tbl hb h.1.1.2.1
  · exact gi_ws hb h.1 w hw
theorem gi_S {big : List Cond} (hb : ∀ w ∈ gtbl, w ∈ big) {M' : mM} {own : String} {i n : Nat} (h : CS M' n) (hl : ML own i M') : GoodIn big (va_wsS own i M'.1 (mWs M')) := by
  intro w hw
  rcases List.mem_append.mp hw with hw | hw
  · simp only [List.mem_cons, List.not_mem_nil, or_false] at hw
    rcases hw with rfl | rfl | rfl
    · exact gi_tbl hb hl
    · exact gi_tbl hb h.2
    · exact gi_tbl hb h.1.1.2.1
  · exact gi_ws hb h.1 w hw
theorem room_ok {d k : Nat} (h : k ≤ 11) : (mRm d).frames + 1 ≤ (mRm (d + 1)).frames ∧ 8 + (k + 11) + (mRm d).locals ≤ (mRm (d + 1)).locals := by
  refine ⟨Nat.le_refl _, ?_⟩
  show 8 + (k + 11) + 30 * d ≤ 30 * (d + 1)
  omega
theorem blindC {av : List Value} {S' : mS} {sz : Nat} : FrameBlind (va_Pc av (fun U => U.heap.size = sz ∧ va_P G.2.1 mcl (mW G S') U.heap ∧ va_K G.2.1 mcl (mTy G) U ∧ va_D (fun _ => True) (mW G S'))) := fun a U g mk q => by
  obtain ⟨q0, q1, qP, qK, qD⟩ := q
  exact ⟨q0, q1, qP, va_K.moved (u := U) (U := U.calling g mk a) (Vm.Alike.refl U.vm) qK, qD⟩
theorem freeC {A : Nat → Prop} {S : mS} {H0 H : Heap} {locs : List Loc} (hD : va_D A (mW G S)) (hS : va_S A H0 H locs) (hA : ∀ q, H0.size ≤ q → A q) : ∀ q, va_A (mW G S) H.size q → A q := by
  intro q h
  rcases h with ⟨k, e, h⟩ | h
  · exact hD.2 k (q, e) h
  · exact hA q (Nat.le_trans hS.1 h)
theorem apartC {A B : Nat → Prop} {S u : mS} (hD : va_D A (mW G S)) (hu : va_D B (mW G u)) : va_D A (mW G u) := by
  refine ⟨hu.1, fun k q hk => ?_⟩
  have hk9 : k < 190 := by
    have := (List.getElem?_eq_some_iff.mp hk).1
    simpa [mW] using this
  rw [mW_at G u hk9] at hk
  cases hk
  have h9 := hD.2 k _ (mW_at G S hk9)
  exact h9
theorem r_callVi {M' : mM} {As rest : List Value} {Qc : Option Int32 → mS → Prop} {ci a n i : Nat} (hc : CV M' ci n) (hk : kd a = ci) (hl1 : ML M.1.cls i M') {ty : FieldType} (hr : M'.2.2.2 = some ty) (hst : st = As.reverse ++ rv G a :: rest) (hn : As.length = n) (hW : (rest.map fun v => v.category).sum ≤ 8) (hd : decode M.2.1 pc = .ok (.invokevirtual i, 3)) (hcall : Call G d M' (rv G a :: As) S Qc) (k : ∀ r u, Qc (some r) u → At G (d + 1) M Q (pc + 3) lo (.int r :: rest) u) : At G (d + 1) M Q pc lo st S := by
  intro p e s m args below meth c A H locs ls C hl hP hD hS
  subst hst
  have hKK := C.2.2.2.2.2.2.2.1
  have hM := hcall H.size
  have hF := freeC (G := G) hD hS C.2.2.2.2.2.2.2.2
  have e0 : mPost G M' Qc (va_A (mW G S) H.size) = va_Qi (fun r u => Qc (some r) u) (mBh G (va_A (mW G S) H.size)) (va_A (mW G S) H.size) := by unfold mPost; rw [hr]
  rw [e0] at hM
  have hbl := blindC (G := G) (av := rv G a :: As) (S' := S) (sz := H.size)
  refine va_calli (A1 := va_A (mW G S) H.size) (va_runV (R := mRm (d + 1)) (As := As) (rest := rest) ⟨C.1, C.2.1, C.2.2.1, C.2.2.2.2.1, C.2.2.2.2.2.1⟩ hM (cwV n C.2.2.2.2.2.1 (gi_V (fun w hw => List.mem_cons_of_mem _ hw) hc hl1) rfl rfl rfl ⟨rfl, hc.1.2⟩ (room_ok hc.1.1.2.2)) ⟨hbl, by rw [hc.2.1.2]; exact va_recv (D := G.2.1) hKK hP (cls_at ci hc.2.1.1) (hasO hk hc.2.1.1), fun U hU hW => ⟨rfl, by rw [hU], by rw [hU]; exact hP, va_K.moved hW.alike hKK, hD.weaken (fun _ _ _ _ => trivial)⟩⟩ rfl hn hl.1 rfl (lv_room hW) hd ⟨Nat.le_refl 0, Nat.le_refl 0⟩) hS (fun q _ h => hF q h) hF (fun r u t H1 locs1 ht hvm hw hB hz1 hk1 hS1 => ?_)
  obtain ⟨hP1, hK1, hD1⟩ := hB
  rw [ht] at hP1
  exact k r u hw _ _ _ _ _ _ _ _ _ _ _ _ C hl hP1 (apartC hD hD1) hS1
theorem r_callVv {M' : mM} {As rest : List Value} {Qc : Option Int32 → mS → Prop} {ci a n i : Nat} (hc : CV M' ci n) (hk : kd a = ci) (hl1 : ML M.1.cls i M') (hr : M'.2.2.2 = none) (hst : st = As.reverse ++ rv G a :: rest) (hn : As.length = n) (hW : (rest.map fun v => v.category).sum ≤ 8) (hd : decode M.2.1 pc = .ok (.invokevirtual i, 3)) (hcall : Call G d M' (rv G a :: As) S Qc) (k : ∀ u, Qc none u → At G (d + 1) M Q (pc + 3) lo rest u) : At G (d + 1) M Q pc lo st S := by
  intro p e s m args below meth c A H locs ls C hl hP hD hS
  subst hst
  have hKK := C.2.2.2.2.2.2.2.1
  have hM := hcall H.size
  have hF := freeC (G := G) hD hS C.2.2.2.2.2.2.2.2
  have e0 : mPost G M' Qc (va_A (mW G S) H.size) = va_Qv (fun u => Qc none u) (mBh G (va_A (mW G S) H.size)) (va_A (mW G S) H.size) := by unfold mPost; rw [hr]
  rw [e0] at hM
  have hbl := blindC (G := G) (av := rv G a :: As) (S' := S) (sz := H.size)
  refine va_callv (A1 := va_A (mW G S) H.size) (va_runV (R := mRm (d + 1)) (As := As) (rest := rest) ⟨C.1, C.2.1, C.2.2.1, C.2.2.2.2.1, C.2.2.2.2.2.1⟩ hM (cwV n C.2.2.2.2.2.1 (gi_V (fun w hw => List.mem_cons_of_mem _ hw) hc hl1) rfl rfl rfl ⟨rfl, hc.1.2⟩ (room_ok hc.1.1.2.2)) ⟨hbl, by rw [hc.2.1.2]; exact va_recv (D := G.2.1) hKK hP (cls_at ci hc.2.1.1) (hasO hk hc.2.1.1), fun U hU hW => ⟨rfl, by rw [hU], by rw [hU]; exact hP, va_K.moved hW.alike hKK, hD.weaken (fun _ _ _ _ => trivial)⟩⟩ rfl hn hl.1 rfl (lv_room hW) hd ⟨Nat.le_refl 0, Nat.le_refl 0⟩) hS (fun q _ h => hF q h) hF (fun u t H1 locs1 ht hvm hw hB hz1 hk1 hS1 => ?_)
  obtain ⟨hP1, hK1, hD1⟩ := hB
  rw [ht] at hP1
  exact k u hw _ _ _ _ _ _ _ _ _ _ _ _ C hl hP1 (apartC hD hD1) hS1
theorem r_callSi {M' : mM} {As rest : List Value} {Qc : Option Int32 → mS → Prop} {n i : Nat} (hc : CS M' n) (hl1 : ML M.1.cls i M') {ty : FieldType} (hr : M'.2.2.2 = some ty) (hst : st = As.reverse ++ rest) (hn : As.length = n) (hW : (rest.map fun v => v.category).sum ≤ 8) (hd : decode M.2.1 pc = .ok (.invokestatic i, 3)) (hcall : Call G d M' (As) S Qc) (k : ∀ r u, Qc (some r) u → At G (d + 1) M Q (pc + 3) lo (.int r :: rest) u) : At G (d + 1) M Q pc lo st S := by
  intro p e s m args below meth c A H locs ls C hl hP hD hS
  subst hst
  have hKK := C.2.2.2.2.2.2.2.1
  have hM := hcall H.size
  have hF := freeC (G := G) hD hS C.2.2.2.2.2.2.2.2
  have e0 : mPost G M' Qc (va_A (mW G S) H.size) = va_Qi (fun r u => Qc (some r) u) (mBh G (va_A (mW G S) H.size)) (va_A (mW G S) H.size) := by unfold mPost; rw [hr]
  rw [e0] at hM
  have hbl := blindC (G := G) (av := As) (S' := S) (sz := H.size)
  refine va_calli (A1 := va_A (mW G S) H.size) (va_runS (R := mRm (d + 1)) (As := As) (rest := rest) ⟨C.1, C.2.1, C.2.2.1, C.2.2.2.2.1, C.2.2.2.2.2.1⟩ hM (va_cwS n C.2.2.2.2.2.1 (gi_S (fun w hw => List.mem_cons_of_mem _ hw) hc hl1) rfl rfl rfl hc.1.2 (room_ok hc.1.1.2.2)) ⟨hbl, fun U hU hW => ⟨rfl, by rw [hU], by rw [hU]; exact hP, va_K.moved hW.alike hKK, hD.weaken (fun _ _ _ _ => trivial)⟩⟩ rfl hn hl.1 rfl (lv_room hW) hd ⟨Nat.le_refl 0, Nat.le_refl 0⟩) hS (fun q _ h => hF q h) hF (fun r u t H1 locs1 ht hvm hw hB hz1 hk1 hS1 => ?_)
  obtain ⟨hP1, hK1, hD1⟩ := hB
  rw [ht] at hP1
  exact k r u hw _ _ _ _ _ _ _ _ _ _ _ _ C hl hP1 (apartC hD hD1) hS1
theorem r_callSv {M' : mM} {As rest : List Value} {Qc : Option Int32 → mS → Prop} {n i : Nat} (hc : CS M' n) (hl1 : ML M.1.cls i M') (hr : M'.2.2.2 = none) (hst : st = As.reverse ++ rest) (hn : As.length = n) (hW : (rest.map fun v => v.category).sum ≤ 8) (hd : decode M.2.1 pc = .ok (.invokestatic i, 3)) (hcall : Call G d M' (As) S Qc) (k : ∀ u, Qc none u → At G (d + 1) M Q (pc + 3) lo rest u) : At G (d + 1) M Q pc lo st S := by
  intro p e s m args below meth c A H locs ls C hl hP hD hS
  subst hst
  have hKK := C.2.2.2.2.2.2.2.1
  have hM := hcall H.size
  have hF := freeC (G := G) hD hS C.2.2.2.2.2.2.2.2
  have e0 : mPost G M' Qc (va_A (mW G S) H.size) = va_Qv (fun u => Qc none u) (mBh G (va_A (mW G S) H.size)) (va_A (mW G S) H.size) := by unfold mPost; rw [hr]
  rw [e0] at hM
  have hbl := blindC (G := G) (av := As) (S' := S) (sz := H.size)
  refine va_callv (A1 := va_A (mW G S) H.size) (va_runS (R := mRm (d + 1)) (As := As) (rest := rest) ⟨C.1, C.2.1, C.2.2.1, C.2.2.2.2.1, C.2.2.2.2.2.1⟩ hM (va_cwS n C.2.2.2.2.2.1 (gi_S (fun w hw => List.mem_cons_of_mem _ hw) hc hl1) rfl rfl rfl hc.1.2 (room_ok hc.1.1.2.2)) ⟨hbl, fun U hU hW => ⟨rfl, by rw [hU], by rw [hU]; exact hP, va_K.moved hW.alike hKK, hD.weaken (fun _ _ _ _ => trivial)⟩⟩ rfl hn hl.1 rfl (lv_room hW) hd ⟨Nat.le_refl 0, Nat.le_refl 0⟩) hS (fun q _ h => hF q h) hF (fun u t H1 locs1 ht hvm hw hB hz1 hk1 hS1 => ?_)
  obtain ⟨hP1, hK1, hD1⟩ := hB
  rw [ht] at hP1
  exact k u hw _ _ _ _ _ _ _ _ _ _ _ _ C hl hP1 (apartC hD hD1) hS1
theorem r_callViF {M' : mM} {As rest : List Value} {x : Int32} {S2 : mS} {ci a n i : Nat} (hc : CV M' ci n) (hk : kd a = ci) (hl1 : ML M.1.cls i M') {ty : FieldType} (hr : M'.2.2.2 = some ty) (hst : st = As.reverse ++ rv G a :: rest) (hn : As.length = n) (hW : (rest.map fun v => v.category).sum ≤ 8) (hd : decode M.2.1 pc = .ok (.invokevirtual i, 3)) (hcall : Call G d M' (rv G a :: As) S (fun v u => v = some x ∧ u = S2)) (k : At G (d + 1) M Q (pc + 3) lo (.int x :: rest) S2) : At G (d + 1) M Q pc lo st S :=
  r_callVi hc hk hl1 hr hst hn hW hd hcall (fun r u h => by obtain ⟨h1, rfl⟩ := h; cases h1; exact k)
theorem r_callVvF {M' : mM} {As rest : List Value} {S2 : mS} {ci a n i : Nat} (hc : CV M' ci n) (hk : kd a = ci) (hl1 : ML M.1.cls i M') (hr : M'.2.2.2 = none) (hst : st = As.reverse ++ rv G a :: rest) (hn : As.length = n) (hW : (rest.map fun v => v.category).sum ≤ 8) (hd : decode M.2.1 pc = .ok (.invokevirtual i, 3)) (hcall : Call G d M' (rv G a :: As) S (fun v u => v = none ∧ u = S2)) (k : At G (d + 1) M Q (pc + 3) lo rest S2) : At G (d + 1) M Q pc lo st S :=
  r_callVv hc hk hl1 hr hst hn hW hd hcall (fun u h => by obtain ⟨-, rfl⟩ := h; exact k)
theorem r_callSiF {M' : mM} {As rest : List Value} {x : Int32} {S2 : mS} {n i : Nat} (hc : CS M' n) (hl1 : ML M.1.cls i M') {ty : FieldType} (hr : M'.2.2.2 = some ty) (hst : st = As.reverse ++ rest) (hn : As.length = n) (hW : (rest.map fun v => v.category).sum ≤ 8) (hd : decode M.2.1 pc = .ok (.invokestatic i, 3)) (hcall : Call G d M' (As) S (fun v u => v = some x ∧ u = S2)) (k : At G (d + 1) M Q (pc + 3) lo (.int x :: rest) S2) : At G (d + 1) M Q pc lo st S :=
  r_callSi hc hl1 hr hst hn hW hd hcall (fun r u h => by obtain ⟨h1, rfl⟩ := h; cases h1; exact k)
theorem r_callSvF {M' : mM} {As rest : List Value} {S2 : mS} {n i : Nat} (hc : CS M' n) (hl1 : ML M.1.cls i M') (hr : M'.2.2.2 = none) (hst : st = As.reverse ++ rest) (hn : As.length = n) (hW : (rest.map fun v => v.category).sum ≤ 8) (hd : decode M.2.1 pc = .ok (.invokestatic i, 3)) (hcall : Call G d M' (As) S (fun v u => v = none ∧ u = S2)) (k : At G (d + 1) M Q (pc + 3) lo rest S2) : At G (d + 1) M Q pc lo st S :=
  r_callSv hc hl1 hr hst hn hW hd hcall (fun u h => by obtain ⟨-, rfl⟩ := h; exact k)
end ROWS
end
section
theorem l_L_63 : ML RL 63 M_X4_init := mem_g 21 (by decide +kernel) rfl
theorem l_X4_9 : ML RX4 9 M_X2_init := mem_g 29 (by decide +kernel) rfl
theorem l_X2_21 : ML RX2 21 M_X3_init := mem_g 36 (by decide +kernel) rfl
theorem f_X3_18 : FL RX3 18 3 0 := ⟨⟨by decide, by decide⟩, mem_g 40 (by decide +kernel) rfl⟩
theorem f_X4_133 : FL RX4 133 3 0 := ⟨⟨by decide, by decide⟩, mem_g 41 (by decide +kernel) rfl⟩
theorem f_X3_22 : FL RX3 22 3 1 := ⟨⟨by decide, by decide⟩, mem_g 42 (by decide +kernel) rfl⟩
theorem f_X4_109 : FL RX4 109 3 1 := ⟨⟨by decide, by decide⟩, mem_g 43 (by decide +kernel) rfl⟩
theorem f_X3_25 : FL RX3 25 3 2 := ⟨⟨by decide, by decide⟩, mem_g 44 (by decide +kernel) rfl⟩
theorem f_X4_136 : FL RX4 136 3 2 := ⟨⟨by decide, by decide⟩, mem_g 45 (by decide +kernel) rfl⟩
theorem f_X3_28 : FL RX3 28 3 3 := ⟨⟨by decide, by decide⟩, mem_g 46 (by decide +kernel) rfl⟩
theorem f_X4_145 : FL RX4 145 3 3 := ⟨⟨by decide, by decide⟩, mem_g 47 (by decide +kernel) rfl⟩
theorem f_X3_31 : FL RX3 31 3 4 := ⟨⟨by decide, by decide⟩, mem_g 48 (by decide +kernel) rfl⟩
theorem f_X4_148 : FL RX4 148 3 4 := ⟨⟨by decide, by decide⟩, mem_g 49 (by decide +kernel) rfl⟩
theorem f_X3_34 : FL RX3 34 3 5 := ⟨⟨by decide, by decide⟩, mem_g 50 (by decide +kernel) rfl⟩
theorem f_X2_45 : FL RX2 45 3 5 := ⟨⟨by decide, by decide⟩, mem_g 51 (by decide +kernel) rfl⟩
theorem f_X4_151 : FL RX4 151 3 5 := ⟨⟨by decide, by decide⟩, mem_g 52 (by decide +kernel) rfl⟩
theorem f_X3_37 : FL RX3 37 3 6 := ⟨⟨by decide, by decide⟩, mem_g 53 (by decide +kernel) rfl⟩
theorem f_X2_54 : FL RX2 54 3 6 := ⟨⟨by decide, by decide⟩, mem_g 54 (by decide +kernel) rfl⟩
theorem f_X4_154 : FL RX4 154 3 6 := ⟨⟨by decide, by decide⟩, mem_g 55 (by decide +kernel) rfl⟩
theorem f_X3_40 : FL RX3 40 3 7 := ⟨⟨by decide, by decide⟩, mem_g 56 (by decide +kernel) rfl⟩
theorem f_X4_157 : FL RX4 157 3 7 := ⟨⟨by decide, by decide⟩, mem_g 57 (by decide +kernel) rfl⟩
theorem f_X3_43 : FL RX3 43 3 8 := ⟨⟨by decide, by decide⟩, mem_g 58 (by decide +kernel) rfl⟩
theorem f_X2_42 : FL RX2 42 3 8 := ⟨⟨by decide, by decide⟩, mem_g 59 (by decide +kernel) rfl⟩
theorem f_X4_139 : FL RX4 139 3 8 := ⟨⟨by decide, by decide⟩, mem_g 60 (by decide +kernel) rfl⟩
theorem f_X3_46 : FL RX3 46 3 9 := ⟨⟨by decide, by decide⟩, mem_g 61 (by decide +kernel) rfl⟩
theorem f_X4_160 : FL RX4 160 3 9 := ⟨⟨by decide, by decide⟩, mem_g 62 (by decide +kernel) rfl⟩
theorem f_X3_9 : FL RX3 9 3 10 := ⟨⟨by decide, by decide⟩, mem_g 63 (by decide +kernel) rfl⟩
theorem f_X4_82 : FL RX4 82 3 10 := ⟨⟨by decide, by decide⟩, mem_g 64 (by decide +kernel) rfl⟩
theorem f_X3_15 : FL RX3 15 3 11 := ⟨⟨by decide, by decide⟩, mem_g 65 (by decide +kernel) rfl⟩
theorem f_X4_166 : FL RX4 166 3 11 := ⟨⟨by decide, by decide⟩, mem_g 66 (by decide +kernel) rfl⟩
theorem f_X2_9 : FL RX2 9 2 0 := ⟨⟨by decide, by decide⟩, mem_g 93 (by decide +kernel) rfl⟩
theorem f_X4_49 : FL RX4 49 2 0 := ⟨⟨by decide, by decide⟩, mem_g 94 (by decide +kernel) rfl⟩
theorem f_X2_17 : FL RX2 17 2 1 := ⟨⟨by decide, by decide⟩, mem_g 95 (by decide +kernel) rfl⟩
theorem f_X4_75 : FL RX4 75 2 1 := ⟨⟨by decide, by decide⟩, mem_g 96 (by decide +kernel) rfl⟩
theorem f_X2_28 : FL RX2 28 2 2 := ⟨⟨by decide, by decide⟩, mem_g 97 (by decide +kernel) rfl⟩
theorem f_X4_99 : FL RX4 99 2 2 := ⟨⟨by decide, by decide⟩, mem_g 98 (by decide +kernel) rfl⟩
theorem f_X2_32 : FL RX2 32 2 3 := ⟨⟨by decide, by decide⟩, mem_g 99 (by decide +kernel) rfl⟩
theorem f_X4_128 : FL RX4 128 2 3 := ⟨⟨by decide, by decide⟩, mem_g 100 (by decide +kernel) rfl⟩
theorem f_X2_35 : FL RX2 35 2 4 := ⟨⟨by decide, by decide⟩, mem_g 101 (by decide +kernel) rfl⟩
theorem f_X4_115 : FL RX4 115 2 4 := ⟨⟨by decide, by decide⟩, mem_g 102 (by decide +kernel) rfl⟩
theorem l_X4_18 : ML RX4 18 M_X0_init := mem_g 116 (by decide +kernel) rfl
theorem l_X0_17 : ML RX0 17 M_X2_init := mem_g 122 (by decide +kernel) rfl
theorem f_X0_13 : FL RX0 13 0 0 := ⟨⟨by decide, by decide⟩, mem_g 123 (by decide +kernel) rfl⟩
theorem f_X0_18 : FL RX0 18 0 1 := ⟨⟨by decide, by decide⟩, mem_g 124 (by decide +kernel) rfl⟩
theorem f_X0_22 : FL RX0 22 0 2 := ⟨⟨by decide, by decide⟩, mem_g 125 (by decide +kernel) rfl⟩
theorem f_X4_180 : FL RX4 180 0 2 := ⟨⟨by decide, by decide⟩, mem_g 126 (by decide +kernel) rfl⟩
theorem l_X4_33 : ML RX4 33 M_X1_init := mem_g 136 (by decide +kernel) rfl
theorem f_X1_9 : FL RX1 9 1 0 := ⟨⟨by decide, by decide⟩, mem_g 140 (by decide +kernel) rfl⟩
theorem f_X4_177 : FL RX4 177 1 1 := ⟨⟨by decide, by decide⟩, mem_g 141 (by decide +kernel) rfl⟩
theorem l_X4_40 : ML RX4 40 M_X3_init := mem_g 160 (by decide +kernel) rfl
theorem f_X4_10 : FL RX4 10 4 0 := ⟨⟨by decide, by decide⟩, mem_g 161 (by decide +kernel) rfl⟩
theorem f_X4_19 : FL RX4 19 4 1 := ⟨⟨by decide, by decide⟩, mem_g 162 (by decide +kernel) rfl⟩
theorem f_X4_23 : FL RX4 23 4 2 := ⟨⟨by decide, by decide⟩, mem_g 163 (by decide +kernel) rfl⟩
theorem f_X4_27 : FL RX4 27 4 3 := ⟨⟨by decide, by decide⟩, mem_g 164 (by decide +kernel) rfl⟩
theorem f_X4_34 : FL RX4 34 4 4 := ⟨⟨by decide, by decide⟩, mem_g 165 (by decide +kernel) rfl⟩
theorem f_X4_41 : FL RX4 41 4 5 := ⟨⟨by decide, by decide⟩, mem_g 166 (by decide +kernel) rfl⟩
theorem l_L_68 : ML RL 68 M_X4_set := mem_g 180 (by decide +kernel) rfl
theorem l_X4_45 : ML RX4 45 M_X0_note := mem_g 184 (by decide +kernel) rfl
theorem l_X0_25 : ML RX0 25 M_X2_copyFrom := mem_g 188 (by decide +kernel) rfl
theorem l_X2_22 : Cond.methodLink RX2 22 arraycopyName ∈ gtbl := mem_g 192 (by decide +kernel) rfl
theorem l_X2_38 : ML RX2 38 M_X3_copyFrom := mem_g 195 (by decide +kernel) rfl
theorem l_X3_49 : Cond.methodLink RX3 49 arraycopyName ∈ gtbl := mem_g 199 (by decide +kernel) rfl
theorem l_X4_53 : ML RX4 53 M_X4_recorded := mem_g 200 (by decide +kernel) rfl
theorem l_X4_92 : ML RX4 92 M_X0_keepNoted := mem_g 204 (by decide +kernel) rfl
theorem l_L_60 : ML RL 60 M_X4_troop := mem_g 208 (by decide +kernel) rfl
theorem l_X4_57 : ML RX4 57 M_X4_addTroop := mem_g 212 (by decide +kernel) rfl
theorem l_X4_95 : ML RX4 95 M_X4_isSize := mem_g 216 (by decide +kernel) rfl
theorem l_X4_103 : ML RX4 103 M_X3_begin := mem_g 219 (by decide +kernel) rfl
theorem l_L_34 : ML RL 34 M_X4_come := mem_g 223 (by decide +kernel) rfl
theorem l_X4_64 : ML RX4 64 M_X4_letCome := mem_g 227 (by decide +kernel) rfl
theorem l_X4_112 : ML RX4 112 M_X4_why := mem_g 231 (by decide +kernel) rfl
theorem l_X4_71 : ML RX4 71 M_X4_isScout := mem_g 235 (by decide +kernel) rfl
theorem l_X4_106 : ML RX4 106 M_X4_isTroop := mem_g 239 (by decide +kernel) rfl
theorem l_X4_234 : ML RX4 234 M_X3_hasScout := mem_g 243 (by decide +kernel) rfl
theorem l_X4_79 : ML RX4 79 M_X3_howIs := mem_g 247 (by decide +kernel) rfl
theorem l_X3_59 : ML RX3 59 M_X3_isIn := mem_g 251 (by decide +kernel) rfl
theorem l_X4_118 : ML RX4 118 M_X3_takeIn := mem_g 254 (by decide +kernel) rfl
theorem l_X3_76 : ML RX3 76 M_X3_bringHome := mem_g 258 (by decide +kernel) rfl
theorem l_X3_80 : ML RX3 80 M_X3_openGate := mem_g 262 (by decide +kernel) rfl
theorem l_X3_67 : ML RX3 67 M_X3_waitedFor := mem_g 266 (by decide +kernel) rfl
theorem l_X3_63 : ML RX3 63 M_X3_everyone := mem_g 270 (by decide +kernel) rfl
theorem l_X3_86 : ML RX3 86 M_X3_beginHike := mem_g 274 (by decide +kernel) rfl
theorem l_X3_70 : ML RX3 70 M_J6_bitCount_0f7a4 := mem_g 278 (by decide +kernel) rfl
theorem k_J6_265 : KI RJ6 265 1431655765 := mem_g 281 (by decide +kernel) rfl
theorem k_J6_266 : KI RJ6 266 858993459 := mem_g 282 (by decide +kernel) rfl
theorem k_J6_267 : KI RJ6 267 252645135 := mem_g 283 (by decide +kernel) rfl
theorem l_L_37 : ML RL 37 M_X4_pass := mem_g 284 (by decide +kernel) rfl
theorem l_X4_89 : ML RX4 89 M_X4_passMinutes := mem_g 288 (by decide +kernel) rfl
theorem l_X4_130 : ML RX4 130 M_X3_passMinute := mem_g 292 (by decide +kernel) rfl
theorem l_X3_83 : ML RX3 83 M_X3_walkOn := mem_g 296 (by decide +kernel) rfl
theorem l_X3_55 : ML RX3 55 M_X3_hasScout := mem_g 300 (by decide +kernel) rfl
theorem l_L_19 : ML RL 19 M_X4_ofTroop := mem_g 301 (by decide +kernel) rfl
theorem l_X4_124 : ML RX4 124 M_X3_countDown := mem_g 305 (by decide +kernel) rfl
theorem l_X4_142 : ML RX4 142 M_X3_atHome := mem_g 309 (by decide +kernel) rfl
theorem l_L_15 : ML RL 15 M_X4_of := mem_g 313 (by decide +kernel) rfl
theorem l_X4_163 : ML RX4 163 M_X3_knows := mem_g 317 (by decide +kernel) rfl
theorem l_L_9 : ML RL 9 M_X4_count := mem_g 321 (by decide +kernel) rfl
theorem l_X4_169 : ML RX4 169 M_X2_hikes := mem_g 325 (by decide +kernel) rfl
theorem l_X4_171 : ML RX4 171 M_X2_scoutsOnHikes := mem_g 329 (by decide +kernel) rfl
theorem l_X2_48 : ML RX2 48 M_J6_bitCount_0f7a4 := mem_g 333 (by decide +kernel) rfl
theorem l_X4_174 : ML RX4 174 M_X2_scoutsLost := mem_g 334 (by decide +kernel) rfl
theorem l_L_64 : ML RL 64 M_L_cell := mem_g 338 (by decide +kernel) rfl
theorem k_L_7 : KI RL 7 17310019 := mem_g 341 (by decide +kernel) rfl
theorem l_L_40 : ML RL 40 M_L_low := mem_g 342 (by decide +kernel) rfl
theorem k_L_8 : KI RL 8 2147483647 := mem_g 345 (by decide +kernel) rfl
theorem l_L_75 : ML RL 75 M_L_told := mem_g 346 (by decide +kernel) rfl
theorem l_L_23 : ML RL 23 M_X4_waitsFor := mem_g 349 (by decide +kernel) rfl
theorem l_X4_183 : ML RX4 183 M_X3_waitedFor := mem_g 353 (by decide +kernel) rfl
theorem l_L_26 : ML RL 26 M_L_size := mem_g 354 (by decide +kernel) rfl
theorem l_L_71 : ML RL 71 M_L_act := mem_g 357 (by decide +kernel) rfl
theorem l_L_43 : ML RL 43 M_L_comes := mem_g 360 (by decide +kernel) rfl
theorem l_L_31 : ML RL 31 M_X4_why := mem_g 363 (by decide +kernel) rfl
theorem l_L_47 : ML RL 47 M_L_passes := mem_g 364 (by decide +kernel) rfl
theorem l_L_51 : ML RL 51 M_X4_lose := mem_g 367 (by decide +kernel) rfl
theorem l_X4_68 : ML RX4 68 M_X4_loseScout := mem_g 371 (by decide +kernel) rfl
theorem l_X4_121 : ML RX4 121 M_X3_missScout := mem_g 375 (by decide +kernel) rfl
theorem l_L_54 : ML RL 54 M_X4_find := mem_g 379 (by decide +kernel) rfl
theorem l_X4_85 : ML RX4 85 M_X3_bringHome := mem_g 383 (by decide +kernel) rfl
theorem l_L_57 : ML RL 57 M_X4_resize := mem_g 384 (by decide +kernel) rfl
theorem l_X4_60 : ML RX4 60 M_X4_changeSize := mem_g 388 (by decide +kernel) rfl
theorem c_X0_note : CV M_X0_note 0 1 := ⟨⟨⟨mem_g 187 (by decide +kernel) rfl, mem_g 15 (by decide +kernel) rfl, by decide⟩, by decide +kernel, by decide +kernel, by decide +kernel⟩, ⟨by decide, rfl⟩, mem_g 185 (by decide +kernel) rfl, mem_g 186 (by decide +kernel) rfl⟩
theorem c_X0_keepNoted : CV M_X0_keepNoted 0 0 := ⟨⟨⟨mem_g 207 (by decide +kernel) rfl, mem_g 15 (by decide +kernel) rfl, by decide⟩, by decide +kernel, by decide +kernel, by decide +kernel⟩, ⟨by decide, rfl⟩, mem_g 205 (by decide +kernel) rfl, mem_g 206 (by decide +kernel) rfl⟩
theorem c_X2_copyFrom : CV M_X2_copyFrom 2 1 := ⟨⟨⟨mem_g 191 (by decide +kernel) rfl, mem_g 13 (by decide +kernel) rfl, by decide⟩, by decide +kernel, by decide +kernel, by decide +kernel⟩, ⟨by decide, rfl⟩, mem_g 189 (by decide +kernel) rfl, mem_g 190 (by decide +kernel) rfl⟩
theorem c_X2_hikes : CV M_X2_hikes 2 0 := ⟨⟨⟨mem_g 328 (by decide +kernel) rfl, mem_g 13 (by decide +kernel) rfl, by decide⟩, by decide +kernel, by decide +kernel, by decide +kernel⟩, ⟨by decide, rfl⟩, mem_g 326 (by decide +kernel) rfl, mem_g 327 (by decide +kernel) rfl⟩
theorem c_X2_scoutsOnHikes : CV M_X2_scoutsOnHikes 2 0 := ⟨⟨⟨mem_g 332 (by decide +kernel) rfl, mem_g 13 (by decide +kernel) rfl, by decide⟩, by decide +kernel, by decide +kernel, by decide +kernel⟩, ⟨by decide, rfl⟩, mem_g 330 (by decide +kernel) rfl, mem_g 331 (by decide +kernel) rfl⟩
theorem c_X2_scoutsLost : CV M_X2_scoutsLost 2 0 := ⟨⟨⟨mem_g 337 (by decide +kernel) rfl, mem_g 13 (by decide +kernel) rfl, by decide⟩, by decide +kernel, by decide +kernel, by decide +kernel⟩, ⟨by decide, rfl⟩, mem_g 335 (by decide +kernel) rfl, mem_g 336 (by decide +kernel) rfl⟩
theorem c_X3_begin : CV M_X3_begin 3 1 := ⟨⟨⟨mem_g 222 (by decide +kernel) rfl, mem_g 14 (by decide +kernel) rfl, by decide⟩, by decide +kernel, by decide +kernel, by decide +kernel⟩, ⟨by decide, rfl⟩, mem_g 220 (by decide +kernel) rfl, mem_g 221 (by decide +kernel) rfl⟩
theorem c_X3_copyFrom : CV M_X3_copyFrom 3 1 := ⟨⟨⟨mem_g 198 (by decide +kernel) rfl, mem_g 14 (by decide +kernel) rfl, by decide⟩, by decide +kernel, by decide +kernel, by decide +kernel⟩, ⟨by decide, rfl⟩, mem_g 196 (by decide +kernel) rfl, mem_g 197 (by decide +kernel) rfl⟩
theorem c_X3_hasScout : CV M_X3_hasScout 3 1 := ⟨⟨⟨mem_g 246 (by decide +kernel) rfl, mem_g 14 (by decide +kernel) rfl, by decide⟩, by decide +kernel, by decide +kernel, by decide +kernel⟩, ⟨by decide, rfl⟩, mem_g 244 (by decide +kernel) rfl, mem_g 245 (by decide +kernel) rfl⟩
theorem c_X3_knows : CV M_X3_knows 3 1 := ⟨⟨⟨mem_g 320 (by decide +kernel) rfl, mem_g 14 (by decide +kernel) rfl, by decide⟩, by decide +kernel, by decide +kernel, by decide +kernel⟩, ⟨by decide, rfl⟩, mem_g 318 (by decide +kernel) rfl, mem_g 319 (by decide +kernel) rfl⟩
theorem c_X3_howIs : CV M_X3_howIs 3 1 := ⟨⟨⟨mem_g 250 (by decide +kernel) rfl, mem_g 14 (by decide +kernel) rfl, by decide⟩, by decide +kernel, by decide +kernel, by decide +kernel⟩, ⟨by decide, rfl⟩, mem_g 248 (by decide +kernel) rfl, mem_g 249 (by decide +kernel) rfl⟩
theorem c_X3_everyone : CV M_X3_everyone 3 0 := ⟨⟨⟨mem_g 273 (by decide +kernel) rfl, mem_g 14 (by decide +kernel) rfl, by decide⟩, by decide +kernel, by decide +kernel, by decide +kernel⟩, ⟨by decide, rfl⟩, mem_g 271 (by decide +kernel) rfl, mem_g 272 (by decide +kernel) rfl⟩
theorem c_X3_atHome : CV M_X3_atHome 3 0 := ⟨⟨⟨mem_g 312 (by decide +kernel) rfl, mem_g 14 (by decide +kernel) rfl, by decide⟩, by decide +kernel, by decide +kernel, by decide +kernel⟩, ⟨by decide, rfl⟩, mem_g 310 (by decide +kernel) rfl, mem_g 311 (by decide +kernel) rfl⟩
theorem c_X3_waitedFor : CV M_X3_waitedFor 3 0 := ⟨⟨⟨mem_g 269 (by decide +kernel) rfl, mem_g 14 (by decide +kernel) rfl, by decide⟩, by decide +kernel, by decide +kernel, by decide +kernel⟩, ⟨by decide, rfl⟩, mem_g 267 (by decide +kernel) rfl, mem_g 268 (by decide +kernel) rfl⟩
theorem c_X3_countDown : CV M_X3_countDown 3 0 := ⟨⟨⟨mem_g 308 (by decide +kernel) rfl, mem_g 14 (by decide +kernel) rfl, by decide⟩, by decide +kernel, by decide +kernel, by decide +kernel⟩, ⟨by decide, rfl⟩, mem_g 306 (by decide +kernel) rfl, mem_g 307 (by decide +kernel) rfl⟩
theorem c_X3_takeIn : CV M_X3_takeIn 3 3 := ⟨⟨⟨mem_g 257 (by decide +kernel) rfl, mem_g 14 (by decide +kernel) rfl, by decide⟩, by decide +kernel, by decide +kernel, by decide +kernel⟩, ⟨by decide, rfl⟩, mem_g 255 (by decide +kernel) rfl, mem_g 256 (by decide +kernel) rfl⟩
theorem c_X3_bringHome : CV M_X3_bringHome 3 1 := ⟨⟨⟨mem_g 261 (by decide +kernel) rfl, mem_g 14 (by decide +kernel) rfl, by decide⟩, by decide +kernel, by decide +kernel, by decide +kernel⟩, ⟨by decide, rfl⟩, mem_g 259 (by decide +kernel) rfl, mem_g 260 (by decide +kernel) rfl⟩
theorem c_X3_missScout : CV M_X3_missScout 3 1 := ⟨⟨⟨mem_g 378 (by decide +kernel) rfl, mem_g 14 (by decide +kernel) rfl, by decide⟩, by decide +kernel, by decide +kernel, by decide +kernel⟩, ⟨by decide, rfl⟩, mem_g 376 (by decide +kernel) rfl, mem_g 377 (by decide +kernel) rfl⟩
theorem c_X3_passMinute : CV M_X3_passMinute 3 2 := ⟨⟨⟨mem_g 295 (by decide +kernel) rfl, mem_g 14 (by decide +kernel) rfl, by decide⟩, by decide +kernel, by decide +kernel, by decide +kernel⟩, ⟨by decide, rfl⟩, mem_g 293 (by decide +kernel) rfl, mem_g 294 (by decide +kernel) rfl⟩
theorem c_X3_walkOn : CV M_X3_walkOn 3 1 := ⟨⟨⟨mem_g 299 (by decide +kernel) rfl, mem_g 14 (by decide +kernel) rfl, by decide⟩, by decide +kernel, by decide +kernel, by decide +kernel⟩, ⟨by decide, rfl⟩, mem_g 298 (by decide +kernel) rfl, mem_g 8 (by decide +kernel) rfl⟩
theorem c_X3_openGate : CV M_X3_openGate 3 1 := ⟨⟨⟨mem_g 265 (by decide +kernel) rfl, mem_g 14 (by decide +kernel) rfl, by decide⟩, by decide +kernel, by decide +kernel, by decide +kernel⟩, ⟨by decide, rfl⟩, mem_g 264 (by decide +kernel) rfl, mem_g 5 (by decide +kernel) rfl⟩
theorem c_X3_beginHike : CV M_X3_beginHike 3 1 := ⟨⟨⟨mem_g 277 (by decide +kernel) rfl, mem_g 14 (by decide +kernel) rfl, by decide⟩, by decide +kernel, by decide +kernel, by decide +kernel⟩, ⟨by decide, rfl⟩, mem_g 276 (by decide +kernel) rfl, mem_g 6 (by decide +kernel) rfl⟩
theorem c_X3_isIn : CS M_X3_isIn 2 := ⟨⟨⟨mem_g 253 (by decide +kernel) rfl, mem_g 14 (by decide +kernel) rfl, by decide⟩, by decide +kernel, by decide +kernel, by decide +kernel⟩, mem_g 252 (by decide +kernel) rfl⟩
theorem c_X4_set : CV M_X4_set 4 2 := ⟨⟨⟨mem_g 183 (by decide +kernel) rfl, mem_g 12 (by decide +kernel) rfl, by decide⟩, by decide +kernel, by decide +kernel, by decide +kernel⟩, ⟨by decide, rfl⟩, mem_g 181 (by decide +kernel) rfl, mem_g 182 (by decide +kernel) rfl⟩
theorem c_X4_troop : CV M_X4_troop 4 1 := ⟨⟨⟨mem_g 211 (by decide +kernel) rfl, mem_g 12 (by decide +kernel) rfl, by decide⟩, by decide +kernel, by decide +kernel, by decide +kernel⟩, ⟨by decide, rfl⟩, mem_g 209 (by decide +kernel) rfl, mem_g 210 (by decide +kernel) rfl⟩
theorem c_X4_resize : CV M_X4_resize 4 2 := ⟨⟨⟨mem_g 387 (by decide +kernel) rfl, mem_g 12 (by decide +kernel) rfl, by decide⟩, by decide +kernel, by decide +kernel, by decide +kernel⟩, ⟨by decide, rfl⟩, mem_g 385 (by decide +kernel) rfl, mem_g 386 (by decide +kernel) rfl⟩
theorem c_X4_come : CV M_X4_come 4 3 := ⟨⟨⟨mem_g 226 (by decide +kernel) rfl, mem_g 12 (by decide +kernel) rfl, by decide⟩, by decide +kernel, by decide +kernel, by decide +kernel⟩, ⟨by decide, rfl⟩, mem_g 224 (by decide +kernel) rfl, mem_g 225 (by decide +kernel) rfl⟩
theorem c_X4_lose : CV M_X4_lose 4 2 := ⟨⟨⟨mem_g 370 (by decide +kernel) rfl, mem_g 12 (by decide +kernel) rfl, by decide⟩, by decide +kernel, by decide +kernel, by decide +kernel⟩, ⟨by decide, rfl⟩, mem_g 368 (by decide +kernel) rfl, mem_g 369 (by decide +kernel) rfl⟩
theorem c_X4_find : CV M_X4_find 4 2 := ⟨⟨⟨mem_g 382 (by decide +kernel) rfl, mem_g 12 (by decide +kernel) rfl, by decide⟩, by decide +kernel, by decide +kernel, by decide +kernel⟩, ⟨by decide, rfl⟩, mem_g 380 (by decide +kernel) rfl, mem_g 381 (by decide +kernel) rfl⟩
theorem c_X4_pass : CV M_X4_pass 4 1 := ⟨⟨⟨mem_g 287 (by decide +kernel) rfl, mem_g 12 (by decide +kernel) rfl, by decide⟩, by decide +kernel, by decide +kernel, by decide +kernel⟩, ⟨by decide, rfl⟩, mem_g 285 (by decide +kernel) rfl, mem_g 286 (by decide +kernel) rfl⟩
theorem c_X4_recorded : CV M_X4_recorded 4 1 := ⟨⟨⟨mem_g 203 (by decide +kernel) rfl, mem_g 12 (by decide +kernel) rfl, by decide⟩, by decide +kernel, by decide +kernel, by decide +kernel⟩, ⟨by decide, rfl⟩, mem_g 202 (by decide +kernel) rfl, mem_g 0 (by decide +kernel) rfl⟩
theorem c_X4_addTroop : CV M_X4_addTroop 4 1 := ⟨⟨⟨mem_g 215 (by decide +kernel) rfl, mem_g 12 (by decide +kernel) rfl, by decide⟩, by decide +kernel, by decide +kernel, by decide +kernel⟩, ⟨by decide, rfl⟩, mem_g 214 (by decide +kernel) rfl, mem_g 1 (by decide +kernel) rfl⟩
theorem c_X4_changeSize : CV M_X4_changeSize 4 2 := ⟨⟨⟨mem_g 391 (by decide +kernel) rfl, mem_g 12 (by decide +kernel) rfl, by decide⟩, by decide +kernel, by decide +kernel, by decide +kernel⟩, ⟨by decide, rfl⟩, mem_g 390 (by decide +kernel) rfl, mem_g 10 (by decide +kernel) rfl⟩
theorem c_X4_letCome : CV M_X4_letCome 4 3 := ⟨⟨⟨mem_g 230 (by decide +kernel) rfl, mem_g 12 (by decide +kernel) rfl, by decide⟩, by decide +kernel, by decide +kernel, by decide +kernel⟩, ⟨by decide, rfl⟩, mem_g 229 (by decide +kernel) rfl, mem_g 2 (by decide +kernel) rfl⟩
theorem c_X4_loseScout : CV M_X4_loseScout 4 2 := ⟨⟨⟨mem_g 374 (by decide +kernel) rfl, mem_g 12 (by decide +kernel) rfl, by decide⟩, by decide +kernel, by decide +kernel, by decide +kernel⟩, ⟨by decide, rfl⟩, mem_g 373 (by decide +kernel) rfl, mem_g 9 (by decide +kernel) rfl⟩
theorem c_X4_passMinutes : CV M_X4_passMinutes 4 1 := ⟨⟨⟨mem_g 291 (by decide +kernel) rfl, mem_g 12 (by decide +kernel) rfl, by decide⟩, by decide +kernel, by decide +kernel, by decide +kernel⟩, ⟨by decide, rfl⟩, mem_g 290 (by decide +kernel) rfl, mem_g 7 (by decide +kernel) rfl⟩
theorem c_X4_ofTroop : CV M_X4_ofTroop 4 2 := ⟨⟨⟨mem_g 304 (by decide +kernel) rfl, mem_g 12 (by decide +kernel) rfl, by decide⟩, by decide +kernel, by decide +kernel, by decide +kernel⟩, ⟨by decide, rfl⟩, mem_g 302 (by decide +kernel) rfl, mem_g 303 (by decide +kernel) rfl⟩
theorem c_X4_of : CV M_X4_of 4 3 := ⟨⟨⟨mem_g 316 (by decide +kernel) rfl, mem_g 12 (by decide +kernel) rfl, by decide⟩, by decide +kernel, by decide +kernel, by decide +kernel⟩, ⟨by decide, rfl⟩, mem_g 314 (by decide +kernel) rfl, mem_g 315 (by decide +kernel) rfl⟩
theorem c_X4_count : CV M_X4_count 4 1 := ⟨⟨⟨mem_g 324 (by decide +kernel) rfl, mem_g 12 (by decide +kernel) rfl, by decide⟩, by decide +kernel, by decide +kernel, by decide +kernel⟩, ⟨by decide, rfl⟩, mem_g 322 (by decide +kernel) rfl, mem_g 323 (by decide +kernel) rfl⟩
theorem c_X4_why : CV M_X4_why 4 3 := ⟨⟨⟨mem_g 234 (by decide +kernel) rfl, mem_g 12 (by decide +kernel) rfl, by decide⟩, by decide +kernel, by decide +kernel, by decide +kernel⟩, ⟨by decide, rfl⟩, mem_g 232 (by decide +kernel) rfl, mem_g 233 (by decide +kernel) rfl⟩
theorem c_X4_waitsFor : CV M_X4_waitsFor 4 1 := ⟨⟨⟨mem_g 352 (by decide +kernel) rfl, mem_g 12 (by decide +kernel) rfl, by decide⟩, by decide +kernel, by decide +kernel, by decide +kernel⟩, ⟨by decide, rfl⟩, mem_g 350 (by decide +kernel) rfl, mem_g 351 (by decide +kernel) rfl⟩
theorem c_X4_isTroop : CV M_X4_isTroop 4 1 := ⟨⟨⟨mem_g 242 (by decide +kernel) rfl, mem_g 12 (by decide +kernel) rfl, by decide⟩, by decide +kernel, by decide +kernel, by decide +kernel⟩, ⟨by decide, rfl⟩, mem_g 241 (by decide +kernel) rfl, mem_g 4 (by decide +kernel) rfl⟩
theorem c_X4_isScout : CV M_X4_isScout 4 2 := ⟨⟨⟨mem_g 238 (by decide +kernel) rfl, mem_g 12 (by decide +kernel) rfl, by decide⟩, by decide +kernel, by decide +kernel, by decide +kernel⟩, ⟨by decide, rfl⟩, mem_g 237 (by decide +kernel) rfl, mem_g 3 (by decide +kernel) rfl⟩
theorem c_X4_isSize : CS M_X4_isSize 1 := ⟨⟨⟨mem_g 218 (by decide +kernel) rfl, mem_g 12 (by decide +kernel) rfl, by decide⟩, by decide +kernel, by decide +kernel, by decide +kernel⟩, mem_g 217 (by decide +kernel) rfl⟩
theorem c_J6_bitCount_0f7a4 : CS M_J6_bitCount_0f7a4 1 := ⟨⟨⟨mem_g 280 (by decide +kernel) rfl, mem_g 18 (by decide +kernel) rfl, by decide⟩, by decide +kernel, by decide +kernel, by decide +kernel⟩, mem_g 279 (by decide +kernel) rfl⟩
theorem c_L_low : CS M_L_low 2 := ⟨⟨⟨mem_g 344 (by decide +kernel) rfl, mem_g 11 (by decide +kernel) rfl, by decide⟩, by decide +kernel, by decide +kernel, by decide +kernel⟩, mem_g 343 (by decide +kernel) rfl⟩
theorem c_L_size : CS M_L_size 1 := ⟨⟨⟨mem_g 356 (by decide +kernel) rfl, mem_g 11 (by decide +kernel) rfl, by decide⟩, by decide +kernel, by decide +kernel, by decide +kernel⟩, mem_g 355 (by decide +kernel) rfl⟩
end
section
/-! bits of an Int32, masks, counting: (the rows up to b_sshr8 are the kit's, pasted) -/
/-! ===== Int32 by its bits: bt x i ===== -/
def bt (x : Int32) (i : Nat) : Bool := x.toBitVec.getLsbD i
theorem b_ext {x y : Int32} (h : ∀ i, i < 32 → bt x i = bt y i) : x = y := Int32.toBitVec_inj.mp (BitVec.eq_of_getLsbD_eq (fun i hi => h i hi))
theorem b_or (x y : Int32) (i : Nat) : bt (x ||| y) i = (bt x i || bt y i) := by unfold bt; rw [Int32.toBitVec_or, BitVec.getLsbD_or]
theorem b_and (x y : Int32) (i : Nat) : bt (x &&& y) i = (bt x i && bt y i) := by unfold bt; rw [Int32.toBitVec_and, BitVec.getLsbD_and]
theorem b_xor (x y : Int32) (i : Nat) : bt (x ^^^ y) i = (bt x i ^^ bt y i) := by unfold bt; rw [Int32.toBitVec_xor, BitVec.getLsbD_xor]
theorem b_big {x : Int32} {i : Nat} (h : 32 ≤ i) : bt x i = false := BitVec.getLsbD_of_ge _ _ h
theorem b_255 (i : Nat) : bt 255 i = decide (i < 8) := by
  rcases Nat.lt_or_ge i 32 with h | h
  · exact (by decide +kernel : ∀ i, i < 32 → bt 255 i = decide (i < 8)) i h
  · rw [b_big h, decide_eq_false (by omega)]
theorem b_65535 (i : Nat) : bt 65535 i = decide (i < 16) := by
  rcases Nat.lt_or_ge i 32 with h | h
  · exact (by decide +kernel : ∀ i, i < 32 → bt 65535 i = decide (i < 16)) i h
  · rw [b_big h, decide_eq_false (by omega)]
theorem b_m1 : ∀ i, i < 32 → bt (-1) i = true := by decide +kernel
theorem b_0 (i : Nat) : bt 0 i = false := BitVec.getLsbD_zero
theorem s_l : ∀ n, n < 32 → ((nI n &&& 31).toBitVec.smod 32).toNat = n := by decide +kernel
theorem s_u : ∀ n, n < 32 → (((nI n).toUInt32 &&& Int32.toUInt32 31).toBitVec % 32).toNat = n := by decide +kernel
theorem b_shl (n : Nat) (hn : n < 32) (x : Int32) {i : Nat} (hi : i < 32) : bt (x <<< (nI n &&& 31)) i = (decide (n ≤ i) && bt x (i - n)) := by
  unfold bt
  rw [Int32.toBitVec_shiftLeft]
  show (x.toBitVec <<< ((nI n &&& 31).toBitVec.smod 32).toNat).getLsbD i = _
  rw [s_l n hn, BitVec.getLsbD_shiftLeft]
  rcases Nat.lt_or_ge i n with h | h
  · simp [h, Nat.not_le.mpr h]
  · simp [hi, h, Nat.not_lt.mpr h]
theorem b_ushr (n : Nat) (hn : n < 32) (x : Int32) (i : Nat) : bt ((x.toUInt32 >>> ((nI n).toUInt32 &&& Int32.toUInt32 31)).toInt32) i = bt x (n + i) := by
  show (x.toUInt32 >>> ((nI n).toUInt32 &&& Int32.toUInt32 31)).toBitVec.getLsbD i = x.toUInt32.toBitVec.getLsbD (n + i)
  rw [UInt32.toBitVec_shiftRight]
  show (x.toUInt32.toBitVec >>> (((nI n).toUInt32 &&& Int32.toUInt32 31).toBitVec % 32).toNat).getLsbD i = _
  rw [s_u n hn, BitVec.getLsbD_ushiftRight]
theorem b_sshr (n : Nat) (hn : n < 32) (x : Int32) {i : Nat} (hi : i < 32) : bt (x >>> (nI n &&& 31)) i = if n + i < 32 then bt x (n + i) else bt x 31 := by
  unfold bt
  rw [Int32.toBitVec_shiftRight]
  show (x.toBitVec.sshiftRight ((nI n &&& 31).toBitVec.smod 32).toNat).getLsbD i = _
  rw [s_l n hn, BitVec.getLsbD_sshiftRight, BitVec.msb_eq_getLsbD_last]
  simp [hi]
theorem b_shl8 (x : Int32) {i : Nat} (hi : i < 32) : bt (x <<< ((8 : Int32) &&& 31)) i = (decide (8 ≤ i) && bt x (i - 8)) := b_shl 8 (by omega) x hi
theorem b_shl16 (x : Int32) {i : Nat} (hi : i < 32) : bt (x <<< ((16 : Int32) &&& 31)) i = (decide (16 ≤ i) && bt x (i - 16)) := b_shl 16 (by omega) x hi
theorem b_shl24 (x : Int32) {i : Nat} (hi : i < 32) : bt (x <<< ((24 : Int32) &&& 31)) i = (decide (24 ≤ i) && bt x (i - 24)) := b_shl 24 (by omega) x hi
theorem b_sshr8 (x : Int32) {i : Nat} (hi : i < 32) : bt (x >>> ((8 : Int32) &&& 31)) i = if 8 + i < 32 then bt x (8 + i) else bt x 31 := b_sshr 8 (by omega) x hi
def bI (b : Bool) : Int32 := if b = true then 1 else 0
theorem bI_t : bI true = 1 := rfl
theorem bI_f : bI false = 0 := rfl
theorem bI_0 (b : Bool) : bI b = 0 ↔ b = false := by cases b <;> decide
theorem bI_1 (b : Bool) : bI b = 1 ↔ b = true := by cases b <;> decide
theorem bI_nar (b : Bool) : narrow .boolean (.int (bI b)) = .int (bI b) := by cases b <;> rfl
theorem bt_lit1 : ∀ i, i < 32 → bt 1 i = decide (i = 0) := by decide +kernel
theorem bt_and1 (x : Int32) {j : Nat} (hj : j < 32) : ((x >>> (nI j &&& 31)) &&& 1) = bI (bt x j) := by
  refine b_ext fun i hi => ?_
  rw [b_and, b_sshr j hj x hi, bt_lit1 i hi]
  by_cases h : i = 0
  · subst h
    simp only [Nat.add_zero, hj, if_true, decide_true, Bool.and_true]
    cases bt x j <;> decide
  · simp only [h, decide_false, Bool.and_false]
    cases bt x j
    · exact (b_0 i).symm
    · rw [bI_t, bt_lit1 i hi]; simp [h]
theorem bt_one : ∀ n, n < 32 → ∀ i, i < 32 → bt ((1 : Int32) <<< (nI n &&& 31)) i = decide (i = n) := by
  intro n hn i hi
  rw [b_shl n hn _ hi, bt_lit1 _ (by omega)]
  by_cases h : i = n
  · subst h; simp
  · by_cases h2 : n ≤ i
    · have : ¬ i - n = 0 := by omega
      simp [h, h2, this]
    · simp [h, h2]
theorem bt_every : ∀ s, s ≤ 16 → ∀ i, i < 32 → bt (((1 : Int32) <<< (nI s &&& 31)) - 1) i = decide (i < s) := by
  intro s hs i hi
  exact (by decide +kernel : ∀ s, s < 17 → ∀ i, i < 32 → bt (((1 : Int32) <<< (nI s &&& 31)) - 1) i = decide (i < s)) s (by omega) i hi
theorem bt_not (x : Int32) {i : Nat} (hi : i < 32) : bt (x ^^^ (-1)) i = !(bt x i) := by rw [b_xor, b_m1 i hi, Bool.xor_true]
/-- the mask of the numbers below n that have it -/
def mkm (p : Nat → Bool) : Nat → Int32
  | 0 => 0
  | n + 1 => mkm p n ||| (if p n = true then (1 : Int32) <<< (nI n &&& 31) else 0)
theorem bt_mkm (p : Nat → Bool) : ∀ n, n ≤ 32 → ∀ i, i < 32 → bt (mkm p n) i = (decide (i < n) && p i) := by
  intro n
  induction n with
  | zero => intro _ i _; rw [mkm, b_0]; simp
  | succ n ih =>
    intro hn i hi
    rw [mkm, b_or, ih (by omega) i hi]
    by_cases hp : p n = true
    · rw [if_pos hp, bt_one n (by omega) i hi]
      by_cases h : i = n
      · subst h; simp [hp]
      · have : (i < n + 1) ↔ i < n := by omega
        simp [h, this]
    · rw [if_neg hp, b_0]
      by_cases h : i = n
      · subst h; simp [Bool.not_eq_true] at hp; simp [hp]
      · have : (i < n + 1) ↔ i < n := by omega
        simp [this]
theorem mkm_congr {p q : Nat → Bool} : ∀ n, (∀ k, k < n → p k = q k) → mkm p n = mkm q n := by
  intro n
  induction n with
  | zero => intro _; rfl
  | succ n ih => intro h; rw [mkm, mkm, ih (fun k hk => h k (by omega)), h n (by omega)]
theorem mkm_eq {p : Nat → Bool} {x : Int32} (h : ∀ i, i < 16 → bt x i = p i) (h2 : ∀ i, 16 ≤ i → i < 32 → bt x i = false) : x = mkm p 16 := by
  refine b_ext fun i hi => ?_
  rw [bt_mkm p 16 (by omega) i hi]
  by_cases h3 : i < 16
  · rw [h i h3]; simp [h3]
  · rw [h2 i (by omega) hi]; simp [h3]
theorem mkm_hi (p : Nat → Bool) : ∀ i, 16 ≤ i → i < 32 → bt (mkm p 16) i = false := fun i h hi => by rw [bt_mkm p 16 (by omega) i hi]; simp; omega
theorem mkm_bt (p : Nat → Bool) : ∀ i, i < 16 → bt (mkm p 16) i = p i := fun i h => by rw [bt_mkm p 16 (by omega) i (by omega)]; simp [h]
theorem mkm_0 (p : Nat → Bool) : mkm p 16 = 0 ↔ ∀ k, k < 16 → p k = false := by
  constructor
  · intro h k hk
    rw [← mkm_bt p k hk, h, b_0]
  · intro h
    refine b_ext fun i hi => ?_
    rw [b_0, bt_mkm p 16 (by omega) i hi]
    by_cases h3 : i < 16
    · simp [h i h3]
    · simp [h3]
theorem nI_lit (n : Nat) : (OfNat.ofNat n : Int32) = nI n := rfl
theorem bt_nI (n i : Nat) (hi : i < 32) : bt (nI n) i = n.testBit i := by
  show (BitVec.ofNat 32 n).getLsbD i = _
  rw [BitVec.getLsbD_ofNat]
  simp [hi]
/-- the sum of the bits below n -/
def szF (m : Int32) : Nat → Int32
  | 0 => 0
  | n + 1 => szF m n + ((m >>> (nI n &&& 31)) &&& 1)
/-- what the JDK's bitCount computes -/
def bcF (x : Int32) : Int32 :=
  let a := x - (((x.toUInt32 >>> ((1 : Int32).toUInt32 &&& Int32.toUInt32 31)).toInt32) &&& 1431655765)
  let b := (a &&& 858993459) + (((a.toUInt32 >>> ((2 : Int32).toUInt32 &&& Int32.toUInt32 31)).toInt32) &&& 858993459)
  let c := (b + ((b.toUInt32 >>> ((4 : Int32).toUInt32 &&& Int32.toUInt32 31)).toInt32)) &&& 252645135
  let e := c + ((c.toUInt32 >>> ((8 : Int32).toUInt32 &&& Int32.toUInt32 31)).toInt32)
  let f := e + ((e.toUInt32 >>> ((16 : Int32).toUInt32 &&& Int32.toUInt32 31)).toInt32)
  f &&& 63
def bcN1 (n : Nat) : Nat := Nat.sub n (Nat.land (Nat.div n 2) 1431655765)
def bcN2 (a : Nat) : Nat := Nat.add (Nat.land a 858993459) (Nat.land (Nat.div a 4) 858993459)
def bcN3 (b : Nat) : Nat := Nat.land (Nat.add b (Nat.div b 16)) 252645135
def bcN4 (c : Nat) : Nat := Nat.add c (Nat.div c 256)
def bcN5 (e : Nat) : Nat := Nat.land (Nat.add e (Nat.div e 65536)) 63
def bcN (n : Nat) : Nat := bcN5 (bcN4 (bcN3 (bcN2 (bcN1 n))))
def szN (n : Nat) : Nat → Nat
  | 0 => 0
  | k + 1 => Nat.add (szN n k) (Nat.mod (Nat.div n (Nat.pow 2 k)) 2)
def bcK (lo : Nat) : Nat → Bool
  | 0 => Nat.beq (bcN lo) (szN lo 16)
  | k + 1 => bcK lo k && bcK (Nat.add lo (Nat.pow 2 k)) k
theorem bcK_spec : ∀ k lo, bcK lo k = true → ∀ n, lo ≤ n → n < lo + 2 ^ k → bcN n = szN n 16 := by
  intro k
  induction k with
  | zero =>
    intro lo h n h1 h2
    have : n = lo := by simp at h2; omega
    subst this
    exact Nat.eq_of_beq_eq_true h
  | succ k ih =>
    intro lo h n h1 h2
    have hh : bcK lo k = true ∧ bcK (lo + 2 ^ k) k = true := by
      have : bcK lo (k + 1) = (bcK lo k && bcK (lo + 2 ^ k) k) := rfl
      rw [this, Bool.and_eq_true] at h
      exact h
    rw [Nat.pow_succ] at h2
    by_cases h3 : n < lo + 2 ^ k
    · exact ih lo hh.1 n h1 h3
    · exact ih _ hh.2 n (by omega) (by omega)
theorem bcK_ok : bcK 0 16 = true := by decide +kernel
theorem bcN_ok {n : Nat} (h : n < 65536) : bcN n = szN n 16 := bcK_spec 16 0 bcK_ok n (Nat.zero_le n) (by simpa using h)
theorem bc_and (a b : Nat) : nI a &&& nI b = nI (Nat.land a b) := by
  apply Int32.toBitVec_inj.mp
  rw [Int32.toBitVec_and]
  show BitVec.ofNat 32 a &&& BitVec.ofNat 32 b = BitVec.ofNat 32 (a &&& b)
  rw [BitVec.ofNat_and]
theorem bcF_N {n : Nat} (h : n < 65536) : bcF (nI n) = nI (bcN n) := by
  have u1 : ∀ k, k < 2 ^ 32 → ((nI k).toUInt32 >>> ((1 : Int32).toUInt32 &&& Int32.toUInt32 31)).toInt32 = nI (Nat.div k 2) := fun k hk => pk_ushrN hk 1 1 (by decide +kernel)
  have u2 : ∀ k, k < 2 ^ 32 → ((nI k).toUInt32 >>> ((2 : Int32).toUInt32 &&& Int32.toUInt32 31)).toInt32 = nI (Nat.div k 4) := fun k hk => pk_ushrN hk 2 2 (by decide +kernel)
  have u4 : ∀ k, k < 2 ^ 32 → ((nI k).toUInt32 >>> ((4 : Int32).toUInt32 &&& Int32.toUInt32 31)).toInt32 = nI (Nat.div k 16) := fun k hk => pk_ushrN hk 4 4 (by decide +kernel)
  have u8 : ∀ k, k < 2 ^ 32 → ((nI k).toUInt32 >>> ((8 : Int32).toUInt32 &&& Int32.toUInt32 31)).toInt32 = nI (Nat.div k 256) := fun k hk => pk_ushrN hk 8 8 (by decide +kernel)
  have u16 : ∀ k, k < 2 ^ 32 → ((nI k).toUInt32 >>> ((16 : Int32).toUInt32 &&& Int32.toUInt32 31)).toInt32 = nI (Nat.div k 65536) := fun k hk => pk_ushrN hk 16 16 (by decide +kernel)
  have le1 : Nat.land (Nat.div n 2) 1431655765 ≤ n := Nat.le_trans (Nat.and_le_left (n := Nat.div n 2) (m := 1431655765)) (Nat.div_le_self n 2)
  have b1 : bcN1 n < 65536 := Nat.lt_of_le_of_lt (Nat.sub_le _ _) h
  have b2 : bcN2 (bcN1 n) < 131072 := by
    have h1 : Nat.land (bcN1 n) 858993459 ≤ bcN1 n := Nat.and_le_left (n := bcN1 n) (m := 858993459)
    have h2 : Nat.land (Nat.div (bcN1 n) 4) 858993459 ≤ bcN1 n := Nat.le_trans (Nat.and_le_left (n := Nat.div (bcN1 n) 4) (m := 858993459)) (Nat.div_le_self _ _)
    show Nat.land (bcN1 n) 858993459 + Nat.land (Nat.div (bcN1 n) 4) 858993459 < 131072
    omega
  have b3 : bcN3 (bcN2 (bcN1 n)) < 2 ^ 31 := Nat.lt_of_le_of_lt (Nat.and_le_right (n := _) (m := 252645135)) (by decide)
  have b4 : bcN4 (bcN3 (bcN2 (bcN1 n))) < 2 ^ 32 := by
    have h1 : bcN3 (bcN2 (bcN1 n)) ≤ 252645135 := Nat.and_le_right (n := _) (m := 252645135)
    have h2 : Nat.div (bcN3 (bcN2 (bcN1 n))) 256 ≤ bcN3 (bcN2 (bcN1 n)) := Nat.div_le_self _ _
    show bcN3 (bcN2 (bcN1 n)) + Nat.div (bcN3 (bcN2 (bcN1 n))) 256 < 2 ^ 32
    omega
  have e1 : nI n - (((nI n).toUInt32 >>> ((1 : Int32).toUInt32 &&& Int32.toUInt32 31)).toInt32 &&& 1431655765) = nI (bcN1 n) := by
    rw [u1 n (by omega), show (1431655765 : Int32) = nI 1431655765 from rfl, bc_and, pk_sub le1]; rfl
  have e2 : ∀ a, a < 65536 → (nI a &&& 858993459) + (((nI a).toUInt32 >>> ((2 : Int32).toUInt32 &&& Int32.toUInt32 31)).toInt32 &&& 858993459) = nI (bcN2 a) := fun a ha => by
    rw [u2 a (by omega), show (858993459 : Int32) = nI 858993459 from rfl, bc_and, bc_and, nI_add]; rfl
  have e3 : ∀ a, a < 131072 → (nI a + ((nI a).toUInt32 >>> ((4 : Int32).toUInt32 &&& Int32.toUInt32 31)).toInt32) &&& 252645135 = nI (bcN3 a) := fun a ha => by
    rw [u4 a (by omega), show (252645135 : Int32) = nI 252645135 from rfl, nI_add, bc_and]; rfl
  have e4 : ∀ a, a < 2 ^ 31 → nI a + ((nI a).toUInt32 >>> ((8 : Int32).toUInt32 &&& Int32.toUInt32 31)).toInt32 = nI (bcN4 a) := fun a ha => by
    rw [u8 a (by omega), nI_add]; rfl
  have e5 : ∀ a, a < 2 ^ 32 → (nI a + ((nI a).toUInt32 >>> ((16 : Int32).toUInt32 &&& Int32.toUInt32 31)).toInt32) &&& 63 = nI (bcN5 a) := fun a ha => by
    rw [u16 a ha, show (63 : Int32) = nI 63 from rfl, nI_add, bc_and]; rfl
  unfold bcF
  simp only [e1, e2 _ b1, e3 _ b2, e4 _ b3, e5 _ b4]
  rfl
theorem szF_N (n : Nat) : ∀ k, k ≤ 16 → szF (nI n) k = nI (szN n k) := by
  intro k
  induction k with
  | zero => intro _; rfl
  | succ k ih =>
    intro h
    rw [szF, ih (by omega), bt_and1 _ (by omega), bt_nI n k (by omega)]
    have e : bI (n.testBit k) = nI (n / 2 ^ k % 2) := by
      have h1 : n.testBit k = decide (n / 2 ^ k % 2 = 1) := Nat.testBit_eq_decide_div_mod_eq
      rw [h1]
      rcases Nat.mod_two_eq_zero_or_one (n / 2 ^ k) with h2 | h2 <;> rw [h2] <;> decide
    rw [e, nI_add]; rfl
theorem bc_ok {m : Int32} (h : ∀ i, 16 ≤ i → i < 32 → bt m i = false) : bcF m = szF m 16 := by
  have hm : m = nI m.toBitVec.toNat := by
    apply Int32.toBitVec_inj.mp
    show m.toBitVec = BitVec.ofNat 32 m.toBitVec.toNat
    simp
  have hlt : m.toBitVec.toNat < 2 ^ 16 := by
    refine Nat.lt_pow_two_of_testBit _ fun i hi => ?_
    by_cases h2 : i < 32
    · exact h i hi h2
    · have : m.toBitVec.getLsbD i = false := BitVec.getLsbD_of_ge _ _ (by omega)
      exact this
  rw [hm, bcF_N (by simpa using hlt), szF_N _ 16 (Nat.le_refl _), bcN_ok (by simpa using hlt)]
end
section
/-! what both sides compute: a troop as four rows of numbers: sc (0 size, 1 colour, 2 next size, 3 hikes, 4 hikers, 5 struck), hw (how a scout is), fr (minutes), tm (hikes) -/
abbrev mT : Type := (Nat → Int32) × (Nat → Int32) × (Nat → Int32) × (Nat → Int32)
def tsz (T : mT) : Nat := (T.1 0).toNatClampNeg
/-- those who are so -/
def hm (T : mT) (h : Int32) : Int32 := mkm (fun k => T.2.1 k == h) 16
def awp (T : mT) (k : Nat) : Bool := decide (k < tsz T) && !(T.2.1 k == 1) && !(bt (T.1 5) k)
/-- who is waited for -/
def awM (T : mT) : Int32 := mkm (awp T) 16
def canO (T : mT) : Bool := decide (awM T = 0) && !(decide (hm T 1 = 0))
/-- the gate opens -/
def begT (T : mT) (away : Int32) : mT :=
  let ns := (T.1 2).toNatClampNeg
  (fun j => match j with | 0 => T.1 2 | 1 => 1 - T.1 1 | 2 => T.1 2 | 3 => T.1 3 + 1 | 4 => T.1 4 + szF (hm T 1) 16 | _ => 0,
   fun k => if T.2.1 k = 1 then 3 else if T.2.1 k = 3 then 3 else if ¬ k < ns then 0 else if T.2.1 k = 2 then 1 else T.2.1 k,
   fun k => if T.2.1 k = 1 then away else if T.2.1 k = 3 then T.2.2.1 k else if ¬ k < ns then 0 else T.2.2.1 k,
   fun k => if T.2.1 k = 1 then T.2.2.2 k + 1 else if T.2.1 k = 3 then T.2.2.2 k else if ¬ k < ns then 0 else T.2.2.2 k)
def opnN : Nat → mT → Int32 → Int32 × mT
  | 0, T, _ => (0, T)
  | n + 1, T, away => if canO T = true then ((opnN n (begT T away) away).1 + 1, (opnN n (begT T away) away).2) else (0, T)
/-- scouts walk on, lost ones are longer lost: those below n -/
def wlkT (T : mT) (pat : Int32) (n : Nat) : mT :=
  (fun j => if j = 5 then T.1 5 ||| mkm (fun k => decide (T.2.1 k = 4) && decide (pat < T.2.2.1 k + 1)) n else T.1 j,
   fun k => if k < n ∧ T.2.1 k = 3 ∧ T.2.2.1 k - 1 ≤ 0 then 0 else T.2.1 k,
   fun k => if k < n then (if T.2.1 k = 3 then (if T.2.2.1 k - 1 ≤ 0 then 0 else T.2.2.1 k - 1) else if T.2.1 k = 4 then T.2.2.1 k + 1 else T.2.2.1 k) else T.2.2.1 k,
   fun k => if k < n ∧ T.2.1 k = 3 ∧ T.2.2.1 k - 1 ≤ 0 ∧ ¬ k < tsz T then 0 else T.2.2.2 k)
def minT (T : mT) (pat away : Int32) : Int32 × mT := opnN 3 (wlkT T pat 16) away
def setH (T : mT) (k : Nat) (h : Int32) : mT := (T.1, upd T.2.1 k h, upd T.2.2.1 k 0, T.2.2.2)
def newT (size : Int32) : mT := (fun j => if j = 0 then size else if j = 2 then size else 0, fun _ => 0, fun _ => 0, fun _ => 0)
def rszT (T : mT) (size : Int32) : mT := (upd T.1 2 size, T.2.1, T.2.2.1, T.2.2.2)
/-- a troop as it can be -/
def WF (T : mT) : Prop := (∃ s n : Nat, T.1 0 = nI s ∧ 1 ≤ s ∧ s ≤ 16 ∧ T.1 2 = nI n ∧ 1 ≤ n ∧ n ≤ 16) ∧ (T.1 1 = 0 ∨ T.1 1 = 1) ∧
  ∀ k, k < 16 → (T.2.1 k = 0 ∨ T.2.1 k = 1 ∨ T.2.1 k = 2 ∨ T.2.1 k = 3 ∨ T.2.1 k = 4) ∧ (tsz T ≤ k → T.2.1 k = 0 ∨ T.2.1 k = 3) ∧ (T.2.1 k = 2 → T.2.2.1 k = 0)
theorem nI_cl {n : Nat} (h : n ≤ 16) : (nI n).toNatClampNeg = n := nI_clamp (by omega)
theorem WF.sz {T : mT} (h : WF T) : ∃ s, tsz T = s ∧ T.1 0 = nI s ∧ 1 ≤ s ∧ s ≤ 16 := by
  obtain ⟨⟨s, n, h1, h2, h3, -⟩, -⟩ := h
  exact ⟨s, by unfold tsz; rw [h1, nI_cl h3], h1, h2, h3⟩
theorem WF.nx {T : mT} (h : WF T) : ∃ n, (T.1 2).toNatClampNeg = n ∧ T.1 2 = nI n ∧ 1 ≤ n ∧ n ≤ 16 := by
  obtain ⟨⟨s, n, h1, h2, h3, h4, h5, h6⟩, -⟩ := h
  exact ⟨n, by rw [h4, nI_cl h6], h4, h5, h6⟩
theorem wf_set {T : mT} (h : WF T) {k : Nat} {x : Int32} (hk : k < tsz T) (hx : x = 0 ∨ x = 1 ∨ x = 2 ∨ x = 4) : WF (setH T k x) := by
  refine ⟨h.1, h.2.1, fun j hj => ?_⟩
  have hj3 := h.2.2 j hj
  have e : tsz (setH T k x) = tsz T := rfl
  rw [e]
  unfold setH
  dsimp only
  by_cases e : j = k
  · subst e
    simp only [upd, if_true]
    refine ⟨by rcases hx with h | h | h | h <;> simp [h], fun h => absurd hk (by omega), fun _ => trivial⟩
  · simp only [upd, if_neg e]
    exact hj3
theorem wf_rsz {T : mT} (h : WF T) {n : Nat} (h1 : 1 ≤ n) (h2 : n ≤ 16) : WF (rszT T (nI n)) := by
  obtain ⟨⟨s, n0, a1, a2, a3, -⟩, b, c⟩ := h
  refine ⟨⟨s, n, ?_, a2, a3, ?_, h1, h2⟩, ?_, fun k hk => ?_⟩
  · simp [rszT, upd, a1]
  · simp [rszT, upd]
  · simpa [rszT, upd] using b
  · have := c k hk
    have e : tsz (rszT T (nI n)) = tsz T := by simp [tsz, rszT, upd]
    rw [e]
    exact this
theorem wf_new {n : Nat} (h1 : 1 ≤ n) (h2 : n ≤ 16) : WF (newT (nI n)) :=
  ⟨⟨n, n, rfl, h1, h2, rfl, h1, h2⟩, Or.inl rfl, fun k _ => ⟨Or.inl rfl, fun _ => Or.inl rfl, fun _ => rfl⟩⟩
theorem wf_beg {T : mT} (h : WF T) (away : Int32) : WF (begT T away) := by
  obtain ⟨n, e1, e2, e3, e4⟩ := h.nx
  refine ⟨⟨n, n, e2, e3, e4, e2, e3, e4⟩, ?_, fun k hk => ?_⟩
  · rcases h.2.1 with z | z
    · right; show 1 - T.1 1 = 1; rw [z]; decide
    · left; show 1 - T.1 1 = 0; rw [z]; decide
  · obtain ⟨a1, a2, a3⟩ := h.2.2 k hk
    have et : tsz (begT T away) = n := e1
    rw [et]
    unfold begT
    dsimp only
    rw [e1]
    by_cases h1 : T.2.1 k = 1
    · simp [h1]
    · by_cases h3 : T.2.1 k = 3
      · simp [h3]
      · by_cases hn : k < n
        · by_cases h2 : T.2.1 k = 2
          · simp [h2, hn]
          · simp only [h1, h2, h3, hn, if_false, if_true, not_true_eq_false, not_false_eq_true, false_implies, and_true, true_and, false_or, or_false] at a1 ⊢
            exact ⟨a1, fun h => absurd hn (by omega)⟩
        · simp [h1, h3, hn]
theorem wf_wlk {T : mT} (h : WF T) (pat : Int32) {n : Nat} : WF (wlkT T pat n) := by
  have e0 : ∀ j, j ≠ 5 → (wlkT T pat n).1 j = T.1 j := fun j hj => by simp [wlkT, hj]
  have et : tsz (wlkT T pat n) = tsz T := by unfold tsz; rw [e0 0 (by decide)]
  refine ⟨?_, ?_, fun k hk => ?_⟩
  · rw [e0 0 (by decide), e0 2 (by decide)]; exact h.1
  · rw [e0 1 (by decide)]; exact h.2.1
  · obtain ⟨a1, a2, a3⟩ := h.2.2 k hk
    rw [et]
    unfold wlkT
    dsimp only
    by_cases h3 : k < n ∧ T.2.1 k = 3 ∧ T.2.2.1 k - 1 ≤ 0
    · rw [if_pos h3]; simp
    · rw [if_neg h3]
      refine ⟨a1, a2, fun z => ?_⟩
      have := a3 z
      simp [z, this]
theorem wf_opn (away : Int32) : ∀ n (T : mT), WF T → WF (opnN n T away).2 := by
  intro n
  induction n with
  | zero => intro T h; exact h
  | succ n ih =>
    intro T h
    unfold opnN
    split
    · exact ih _ (wf_beg h away)
    · exact h
theorem wf_min {T : mT} (h : WF T) (pat away : Int32) : WF (minT T pat away).2 := wf_opn away 3 _ (wf_wlk h pat)
/-- the class's picture of a troop: cells a, a+1, a+2 -/
def TP (S : mS) (a : Nat) (T : mT) : Prop :=
  (S a 0 = T.1 0 ∧ S a 1 = T.1 2 ∧ S a 2 = T.1 1 ∧ S a 7 = T.1 5 ∧ S a 8 = T.1 3 ∧ S a 9 = T.1 4) ∧
  (S a 3 = hm T 1 ∧ S a 4 = hm T 2 ∧ S a 5 = hm T 3 ∧ S a 6 = hm T 4) ∧
  ∀ k, k < 16 → S (a + 1) k = T.2.2.1 k ∧ S (a + 2) k = T.2.2.2 k
/-- the reference's picture of a troop: a stretch of its row -/
def MP (r : Nat → Int32) (t : Nat) (T : mT) : Prop :=
  (∀ j, j < 6 → r (5 + 54 * t + j) = T.1 j) ∧ ∀ k, k < 16 → r (11 + 54 * t + 3 * k) = T.2.1 k ∧ r (12 + 54 * t + 3 * k) = T.2.2.1 k ∧ r (13 + 54 * t + 3 * k) = T.2.2.2 k
theorem kdT {a : Nat} (h : kd a = 3) : kd (a + 1) = 6 ∧ kd (a + 2) = 6 ∧ ln (a + 1) = 16 ∧ ln (a + 2) = 16 ∧ rf a 10 = a + 1 ∧ rf a 11 = a + 2 := by
  have h2 := (by decide +kernel : ∀ a, a < 190 → kd a = 3 → kd (a + 1) = 6 ∧ kd (a + 2) = 6 ∧ ln (a + 1) = 16 ∧ ln (a + 2) = 16) a (kd_lt (by omega)) h
  refine ⟨h2.1, h2.2.1, h2.2.2.1, h2.2.2.2, ?_, ?_⟩
  · unfold rf; rw [h]; show a + 10 - 9 = a + 1; omega
  · unfold rf; rw [h]; show a + 11 - 9 = a + 2; omega
theorem TP.off {S u : mS} {a : Nat} {T : mT} (h : TP S a T) (h2 : ∀ b, b = a ∨ b = a + 1 ∨ b = a + 2 → u b = S b) : TP u a T := by
  unfold TP
  rw [h2 a (by omega), h2 (a + 1) (by omega), h2 (a + 2) (by omega)]
  exact h
end
section
/-! the class's Troop, method by method, over its picture -/
theorem i16 : (16 : Int32).toInt = 16 := by decide
theorem t_J6_bitCount_0f7a4 {G : mG} {d : Nat} {S : mS} {x : Int32} : Call G d M_J6_bitCount_0f7a4 [.int x] S (fun v u => v = some (bcF x) ∧ u = S) := by
  refine call_of (lo := [(0, .int x)]) (by decide +kernel) (Nat.le_of_ble_eq_true rfl) rfl ?_
  refine r_iload_n dJ6_bitCount_0f7a4_0 0 rfl ?_
  refine r_iload_n dJ6_bitCount_0f7a4_1 0 rfl ?_
  refine r_iconst dJ6_bitCount_0f7a4_2 (v := 1) rfl ?_
  refine r_iushr dJ6_bitCount_0f7a4_3 ?_
  refine r_ldcw k_J6_265 dJ6_bitCount_0f7a4_4 ?_
  refine r_iand dJ6_bitCount_0f7a4_7 ?_
  refine r_isub dJ6_bitCount_0f7a4_8 ?_
  refine r_istore_n (lo2 := [(0, _)]) dJ6_bitCount_0f7a4_9 rfl (Nat.le_of_ble_eq_true rfl) [0] rfl ?_
  refine r_iload_n dJ6_bitCount_0f7a4_10 0 rfl ?_
  refine r_ldcw k_J6_266 dJ6_bitCount_0f7a4_11 ?_
  refine r_iand dJ6_bitCount_0f7a4_14 ?_
  refine r_iload_n dJ6_bitCount_0f7a4_15 0 rfl ?_
  refine r_iconst dJ6_bitCount_0f7a4_16 (v := 2) rfl ?_
  refine r_iushr dJ6_bitCount_0f7a4_17 ?_
  refine r_ldcw k_J6_266 dJ6_bitCount_0f7a4_18 ?_
  refine r_iand dJ6_bitCount_0f7a4_21 ?_
  refine r_iadd dJ6_bitCount_0f7a4_22 ?_
  refine r_istore_n (lo2 := [(0, _)]) dJ6_bitCount_0f7a4_23 rfl (Nat.le_of_ble_eq_true rfl) [0] rfl ?_
  refine r_iload_n dJ6_bitCount_0f7a4_24 0 rfl ?_
  refine r_iload_n dJ6_bitCount_0f7a4_25 0 rfl ?_
  refine r_iconst dJ6_bitCount_0f7a4_26 (v := 4) rfl ?_
  refine r_iushr dJ6_bitCount_0f7a4_27 ?_
  refine r_iadd dJ6_bitCount_0f7a4_28 ?_
  refine r_ldcw k_J6_267 dJ6_bitCount_0f7a4_29 ?_
  refine r_iand dJ6_bitCount_0f7a4_32 ?_
  refine r_istore_n (lo2 := [(0, _)]) dJ6_bitCount_0f7a4_33 rfl (Nat.le_of_ble_eq_true rfl) [0] rfl ?_
  refine r_iload_n dJ6_bitCount_0f7a4_34 0 rfl ?_
  refine r_iload_n dJ6_bitCount_0f7a4_35 0 rfl ?_
  refine r_bipush dJ6_bitCount_0f7a4_36 (v := 8) (by decide +kernel) ?_
  refine r_iushr dJ6_bitCount_0f7a4_38 ?_
  refine r_iadd dJ6_bitCount_0f7a4_39 ?_
  refine r_istore_n (lo2 := [(0, _)]) dJ6_bitCount_0f7a4_40 rfl (Nat.le_of_ble_eq_true rfl) [0] rfl ?_
  refine r_iload_n dJ6_bitCount_0f7a4_41 0 rfl ?_
  refine r_iload_n dJ6_bitCount_0f7a4_42 0 rfl ?_
  refine r_bipush dJ6_bitCount_0f7a4_43 (v := 16) (by decide +kernel) ?_
  refine r_iushr dJ6_bitCount_0f7a4_45 ?_
  refine r_iadd dJ6_bitCount_0f7a4_46 ?_
  refine r_istore_n (lo2 := [(0, _)]) dJ6_bitCount_0f7a4_47 rfl (Nat.le_of_ble_eq_true rfl) [0] rfl ?_
  refine r_iload_n dJ6_bitCount_0f7a4_48 0 rfl ?_
  refine r_bipush dJ6_bitCount_0f7a4_49 (v := 63) (by decide +kernel) ?_
  refine r_iand dJ6_bitCount_0f7a4_51 ?_
  refine r_iret rfl dJ6_bitCount_0f7a4_52 ?_
  exact ⟨rfl, rfl⟩
theorem t_X3_isIn {G : mG} {d : Nat} {S : mS} {x y : Int32} {j : Nat} (hy : y = nI j) (hj : j < 32) : Call G d M_X3_isIn [.int x, .int y] S (fun v u => v = some (bI (bt x j)) ∧ u = S) := by
  refine call_of (lo := [(0, .int x), (1, .int y)]) (by decide +kernel) (Nat.le_of_ble_eq_true rfl) rfl ?_
  subst hy
  refine r_iload_n dX3_isIn_0 0 rfl ?_
  refine r_iload_n dX3_isIn_1 1 rfl ?_
  refine r_ishr dX3_isIn_2 ?_
  refine r_iconst dX3_isIn_3 (v := 1) rfl ?_
  refine r_iand dX3_isIn_4 ?_
  refine r_if_eq dX3_isIn_5 (tgt := 12) (by decide) (fun h5 => ?_) (fun h5 => ?_)
  · --t
    refine r_iconst dX3_isIn_12 (v := 0) rfl ?_
    refine r_zret rfl (by first | rfl | decide) dX3_isIn_13 ?_
    rw [bt_and1 x hj, bI_0] at h5
    exact ⟨by first | rw [h5]; rfl | (rw [Bool.not_eq_false] at h5; rw [h5]; rfl), rfl⟩
  · --f
    refine r_iconst dX3_isIn_8 (v := 1) rfl ?_
    refine r_goto dX3_isIn_9 (tgt := 13) (by decide) ?_
    refine r_zret rfl (by first | rfl | decide) dX3_isIn_13 ?_
    rw [bt_and1 x hj, bI_0] at h5
    exact ⟨by first | rw [h5]; rfl | (rw [Bool.not_eq_false] at h5; rw [h5]; rfl), rfl⟩
theorem t_X3_hasScout {G : mG} {d : Nat} {S : mS} {a : Nat} {k : Int32} (ha : kd a = 3) : Call G d M_X3_hasScout [rv G a, .int k] S (fun v u => v = some (bI (decide (0 ≤ k ∧ k < S a 0))) ∧ u = S) := by
  refine call_of (lo := [(0, rv G a), (1, .int k)]) (by decide +kernel) (Nat.le_of_ble_eq_true rfl) rfl ?_
  refine r_iload_n dX3_hasScout_0 1 rfl ?_
  refine r_if_lt dX3_hasScout_1 (tgt := 16) (by decide) (fun h1 => ?_) (fun h1 => ?_)
  · --t
    refine r_iconst dX3_hasScout_16 (v := 0) rfl ?_
    refine r_zret rfl (by first | rfl | decide) dX3_hasScout_17 ?_
    exact ⟨by first | (congr 1; simp_all [bI]; done) | (congr 1; simp_all [bI, Int32.le_iff_toInt_le, Int32.lt_iff_toInt_lt, i16]; (first | omega | (intros; omega))), rfl⟩
  · --f
    refine r_iload_n dX3_hasScout_4 1 rfl ?_
    refine r_aload_n dX3_hasScout_5 0 rfl ?_
    refine r_getI (by first | assumption | rfl) f_X3_18 rfl rfl dX3_hasScout_6 ?_
    refine r_icmp_ge dX3_hasScout_9 (tgt := 16) (by decide) (fun h9 => ?_) (fun h9 => ?_)
    · --t
      refine r_iconst dX3_hasScout_16 (v := 0) rfl ?_
      refine r_zret rfl (by first | rfl | decide) dX3_hasScout_17 ?_
      exact ⟨by first | (congr 1; simp_all [bI]; done) | (congr 1; simp_all [bI, Int32.le_iff_toInt_le, Int32.lt_iff_toInt_lt, i16]; (first | omega | (intros; omega))), rfl⟩
    · --f
      refine r_iconst dX3_hasScout_12 (v := 1) rfl ?_
      refine r_goto dX3_hasScout_13 (tgt := 17) (by decide) ?_
      refine r_zret rfl (by first | rfl | decide) dX3_hasScout_17 ?_
      exact ⟨by first | (congr 1; simp_all [bI]; done) | (congr 1; simp_all [bI, Int32.le_iff_toInt_le, Int32.lt_iff_toInt_lt, i16]; (first | omega | (intros; omega))), rfl⟩
theorem t_X3_everyone {G : mG} {d : Nat} {S : mS} {a : Nat} (ha : kd a = 3) : Call G d M_X3_everyone [rv G a] S (fun v u => v = some (((1 : Int32) <<< (S a 0 &&& 31)) - 1) ∧ u = S) := by
  refine call_of (lo := [(0, rv G a)]) (by decide +kernel) (Nat.le_of_ble_eq_true rfl) rfl ?_
  refine r_iconst dX3_everyone_0 (v := 1) rfl ?_
  refine r_aload_n dX3_everyone_1 0 rfl ?_
  refine r_getI (by first | assumption | rfl) f_X3_18 rfl rfl dX3_everyone_2 ?_
  refine r_ishl dX3_everyone_5 ?_
  refine r_iconst dX3_everyone_6 (v := 1) rfl ?_
  refine r_isub dX3_everyone_7 ?_
  refine r_iret rfl dX3_everyone_8 ?_
  exact ⟨rfl, rfl⟩
theorem t_X3_knows {G : mG} {d : Nat} {S : mS} {a : Nat} {k : Int32} (ha : kd a = 3) : Call G (d + 1) M_X3_knows [rv G a, .int k] S (fun v u => v = some (bI (decide (0 ≤ k ∧ k < S a 0) || (decide (0 ≤ k ∧ k < 16) && bt (S a 5) k.toNatClampNeg))) ∧ u = S) := by
  refine call_of (lo := [(0, rv G a), (1, .int k)]) (by decide +kernel) (Nat.le_of_ble_eq_true rfl) rfl ?_
  by_cases hk : 0 ≤ k ∧ k < 16
  · obtain ⟨j, hj, rfl⟩ : ∃ j, j < 16 ∧ k = nI j := by
      obtain ⟨j, h1, h2⟩ := nI_of (Int32.not_lt.mpr hk.1)
      exact ⟨j, by have := hk.2; rw [h2, show (16 : Int32) = nI 16 from rfl, nI_ltI h1 (by omega)] at this; exact this, h2⟩
    have hj32 : j < 32 := by omega
    have e : (nI j).toNatClampNeg = j := nI_clamp (by omega)
    refine r_aload_n dX3_knows_0 0 rfl ?_
    refine r_iload_n dX3_knows_1 1 rfl ?_
    refine r_callViF (As := [_]) c_X3_hasScout (by first | assumption | rfl) l_X3_55 rfl rfl rfl (Nat.le_of_ble_eq_true rfl) dX3_knows_2 (t_X3_hasScout ha) ?_
    refine r_if_ne dX3_knows_5 (tgt := 29) (by decide) (fun h5 => ?_) (fun h5 => ?_)
    · --t
      refine r_iconst dX3_knows_29 (v := 1) rfl ?_
      refine r_goto dX3_knows_30 (tgt := 34) (by decide) ?_
      refine r_zret rfl (by first | rfl | decide) dX3_knows_34 ?_
      exact ⟨by first | (congr 1; simp_all [bI]; done) | (congr 1; simp_all [bI, Int32.le_iff_toInt_le, Int32.lt_iff_toInt_lt, i16]; (first | omega | (intros; omega))), rfl⟩
    · --f
      refine r_iload_n dX3_knows_8 1 rfl ?_
      refine r_if_lt dX3_knows_9 (tgt := 33) (by decide) (fun h9 => ?_) (fun h9 => ?_)
      · --t
        refine r_iconst dX3_knows_33 (v := 0) rfl ?_
        refine r_zret rfl (by first | rfl | decide) dX3_knows_34 ?_
        exact ⟨by first | (congr 1; simp_all [bI]; done) | (congr 1; simp_all [bI, Int32.le_iff_toInt_le, Int32.lt_iff_toInt_lt, i16]; (first | omega | (intros; omega))), rfl⟩
      · --f
        refine r_iload_n dX3_knows_12 1 rfl ?_
        refine r_bipush dX3_knows_13 (v := 16) (by decide +kernel) ?_
        refine r_icmp_ge dX3_knows_15 (tgt := 33) (by decide) (fun h15 => ?_) (fun h15 => ?_)
        · --t
          refine r_iconst dX3_knows_33 (v := 0) rfl ?_
          refine r_zret rfl (by first | rfl | decide) dX3_knows_34 ?_
          exact ⟨by first | (congr 1; simp_all [bI]; done) | (congr 1; simp_all [bI, Int32.le_iff_toInt_le, Int32.lt_iff_toInt_lt, i16]; (first | omega | (intros; omega))), rfl⟩
        · --f
          refine r_aload_n dX3_knows_18 0 rfl ?_
          refine r_getI (by first | assumption | rfl) f_X3_34 rfl rfl dX3_knows_19 ?_
          refine r_iload_n dX3_knows_22 1 rfl ?_
          refine r_callSiF (As := [_, _]) c_X3_isIn l_X3_59 rfl rfl rfl (Nat.le_of_ble_eq_true rfl) dX3_knows_23 (t_X3_isIn rfl hj32) ?_
          refine r_if_eq dX3_knows_26 (tgt := 33) (by decide) (fun h26 => ?_) (fun h26 => ?_)
          · --t
            refine r_iconst dX3_knows_33 (v := 0) rfl ?_
            refine r_zret rfl (by first | rfl | decide) dX3_knows_34 ?_
            exact ⟨by first | (congr 1; simp_all [bI]; done) | (congr 1; simp_all [bI, Int32.le_iff_toInt_le, Int32.lt_iff_toInt_lt, i16]; (first | omega | (intros; omega))), rfl⟩
          · --f
            refine r_iconst dX3_knows_29 (v := 1) rfl ?_
            refine r_goto dX3_knows_30 (tgt := 34) (by decide) ?_
            refine r_zret rfl (by first | rfl | decide) dX3_knows_34 ?_
            exact ⟨by first | (congr 1; simp_all [bI]; done) | (congr 1; simp_all [bI, Int32.le_iff_toInt_le, Int32.lt_iff_toInt_lt, i16]; (first | omega | (intros; omega))), rfl⟩
  · have e : decide (0 ≤ k ∧ k < 16) = false := decide_eq_false hk
    rw [e]
    simp only [Bool.false_and, Bool.or_false]
    clear e
    refine r_aload_n dX3_knows_0 0 rfl ?_
    refine r_iload_n dX3_knows_1 1 rfl ?_
    refine r_callViF (As := [_]) c_X3_hasScout (by first | assumption | rfl) l_X3_55 rfl rfl rfl (Nat.le_of_ble_eq_true rfl) dX3_knows_2 (t_X3_hasScout ha) ?_
    refine r_if_ne dX3_knows_5 (tgt := 29) (by decide) (fun h5 => ?_) (fun h5 => ?_)
    · --t
      refine r_iconst dX3_knows_29 (v := 1) rfl ?_
      refine r_goto dX3_knows_30 (tgt := 34) (by decide) ?_
      refine r_zret rfl (by first | rfl | decide) dX3_knows_34 ?_
      exact ⟨by first | (congr 1; simp_all [bI]; done) | (congr 1; simp_all [bI, Int32.le_iff_toInt_le, Int32.lt_iff_toInt_lt, i16]; (first | omega | (intros; omega))), rfl⟩
    · --f
      refine r_iload_n dX3_knows_8 1 rfl ?_
      refine r_if_lt dX3_knows_9 (tgt := 33) (by decide) (fun h9 => ?_) (fun h9 => ?_)
      · --t
        refine r_iconst dX3_knows_33 (v := 0) rfl ?_
        refine r_zret rfl (by first | rfl | decide) dX3_knows_34 ?_
        exact ⟨by first | (congr 1; simp_all [bI]; done) | (congr 1; simp_all [bI, Int32.le_iff_toInt_le, Int32.lt_iff_toInt_lt, i16]; (first | omega | (intros; omega))), rfl⟩
      · --f
        refine r_iload_n dX3_knows_12 1 rfl ?_
        refine r_bipush dX3_knows_13 (v := 16) (by decide +kernel) ?_
        refine r_icmp_ge dX3_knows_15 (tgt := 33) (by decide) (fun h15 => ?_) (fun h15 => ?_)
        · --t
          refine r_iconst dX3_knows_33 (v := 0) rfl ?_
          refine r_zret rfl (by first | rfl | decide) dX3_knows_34 ?_
          exact ⟨by first | (congr 1; simp_all [bI]; done) | (congr 1; simp_all [bI, Int32.le_iff_toInt_le, Int32.lt_iff_toInt_lt, i16]; (first | omega | (intros; omega))), rfl⟩
        · --f
          exact absurd ⟨Int32.not_lt.mp h9, Int32.not_le.mp h15⟩ hk
theorem bt_hm (T : mT) (h : Int32) {j : Nat} (hj : j < 16) : bt (hm T h) j = (T.2.1 j == h) := mkm_bt _ j hj
theorem t_X3_howIs {G : mG} {d : Nat} {S : mS} {a j : Nat} {T : mT} (ha : kd a = 3) (hj : j < 16) (hT : TP S a T) (hW : WF T) : Call G (d + 1) M_X3_howIs [rv G a, .int (nI j)] S (fun v u => v = some (T.2.1 j) ∧ u = S) := by
  refine call_of (lo := [(0, rv G a), (1, .int (nI j))]) (by decide +kernel) (Nat.le_of_ble_eq_true rfl) rfl ?_
  have hj32 : j < 32 := by omega
  have e3 := hT.2.1.1
  have e4 := hT.2.1.2.1
  have e5 := hT.2.1.2.2.1
  have e6 := hT.2.1.2.2.2
  have hv := (hW.2.2 j hj).1
  refine r_aload_n dX3_howIs_0 0 rfl ?_
  refine r_getI (by first | assumption | rfl) f_X3_28 rfl rfl dX3_howIs_1 ?_
  refine r_iload_n dX3_howIs_4 1 rfl ?_
  refine r_callSiF (As := [_, _]) c_X3_isIn l_X3_59 rfl rfl rfl (Nat.le_of_ble_eq_true rfl) dX3_howIs_5 (t_X3_isIn rfl hj32) ?_
  refine r_if_eq dX3_howIs_8 (tgt := 13) (by decide) (fun h8 => ?_) (fun h8 => ?_)
  · --t
    refine r_aload_n dX3_howIs_13 0 rfl ?_
    refine r_getI (by first | assumption | rfl) f_X3_31 rfl rfl dX3_howIs_14 ?_
    refine r_iload_n dX3_howIs_17 1 rfl ?_
    refine r_callSiF (As := [_, _]) c_X3_isIn l_X3_59 rfl rfl rfl (Nat.le_of_ble_eq_true rfl) dX3_howIs_18 (t_X3_isIn rfl hj32) ?_
    refine r_if_eq dX3_howIs_21 (tgt := 26) (by decide) (fun h21 => ?_) (fun h21 => ?_)
    · --t
      refine r_aload_n dX3_howIs_26 0 rfl ?_
      refine r_getI (by first | assumption | rfl) f_X3_34 rfl rfl dX3_howIs_27 ?_
      refine r_iload_n dX3_howIs_30 1 rfl ?_
      refine r_callSiF (As := [_, _]) c_X3_isIn l_X3_59 rfl rfl rfl (Nat.le_of_ble_eq_true rfl) dX3_howIs_31 (t_X3_isIn rfl hj32) ?_
      refine r_if_eq dX3_howIs_34 (tgt := 39) (by decide) (fun h34 => ?_) (fun h34 => ?_)
      · --t
        refine r_aload_n dX3_howIs_39 0 rfl ?_
        refine r_getI (by first | assumption | rfl) f_X3_37 rfl rfl dX3_howIs_40 ?_
        refine r_iload_n dX3_howIs_43 1 rfl ?_
        refine r_callSiF (As := [_, _]) c_X3_isIn l_X3_59 rfl rfl rfl (Nat.le_of_ble_eq_true rfl) dX3_howIs_44 (t_X3_isIn rfl hj32) ?_
        refine r_if_eq dX3_howIs_47 (tgt := 54) (by decide) (fun h47 => ?_) (fun h47 => ?_)
        · --t
          refine r_iconst dX3_howIs_54 (v := 0) rfl ?_
          refine r_iret rfl dX3_howIs_55 ?_
          refine ⟨?_, rfl⟩
          simp only [bI_0, e3, e4, e5, e6, bt_hm T _ hj, beq_eq_false_iff_ne, beq_iff_eq, ne_eq] at *
          congr 1; simp_all
        · --f
          refine r_iconst dX3_howIs_50 (v := 4) rfl ?_
          refine r_goto dX3_howIs_51 (tgt := 55) (by decide) ?_
          refine r_iret rfl dX3_howIs_55 ?_
          refine ⟨?_, rfl⟩
          simp only [bI_0, e3, e4, e5, e6, bt_hm T _ hj, beq_eq_false_iff_ne, beq_iff_eq, ne_eq] at *
          congr 1; simp_all
      · --f
        refine r_iconst dX3_howIs_37 (v := 3) rfl ?_
        refine r_iret rfl dX3_howIs_38 ?_
        refine ⟨?_, rfl⟩
        simp only [bI_0, e3, e4, e5, e6, bt_hm T _ hj, beq_eq_false_iff_ne, beq_iff_eq, ne_eq] at *
        congr 1; simp_all
    · --f
      refine r_iconst dX3_howIs_24 (v := 2) rfl ?_
      refine r_iret rfl dX3_howIs_25 ?_
      refine ⟨?_, rfl⟩
      simp only [bI_0, e3, e4, e5, e6, bt_hm T _ hj, beq_eq_false_iff_ne, beq_iff_eq, ne_eq] at *
      congr 1; simp_all
  · --f
    refine r_iconst dX3_howIs_11 (v := 1) rfl ?_
    refine r_iret rfl dX3_howIs_12 ?_
    refine ⟨?_, rfl⟩
    simp only [bI_0, e3, e4, e5, e6, bt_hm T _ hj, beq_eq_false_iff_ne, beq_iff_eq, ne_eq] at *
    congr 1; simp_all
theorem t_X3_atHome {G : mG} {d : Nat} {S : mS} {a : Nat} {T : mT} (ha : kd a = 3) (hT : TP S a T) (hW : WF T) : Call G (d + 1) M_X3_atHome [rv G a] S (fun v u => v = some (mkm (fun k => decide (k < tsz T) && (T.2.1 k == 0)) 16) ∧ u = S) := by
  refine call_of (lo := [(0, rv G a)]) (by decide +kernel) (Nat.le_of_ble_eq_true rfl) rfl ?_
  obtain ⟨s, hs, hs2, hs3, hs4⟩ := hW.sz
  refine r_aload_n dX3_atHome_0 0 rfl ?_
  refine r_callViF (As := []) c_X3_everyone (by first | assumption | rfl) l_X3_63 rfl rfl rfl (Nat.le_of_ble_eq_true rfl) dX3_atHome_1 (t_X3_everyone ha) ?_
  refine r_aload_n dX3_atHome_4 0 rfl ?_
  refine r_getI (by first | assumption | rfl) f_X3_28 rfl rfl dX3_atHome_5 ?_
  refine r_aload_n dX3_atHome_8 0 rfl ?_
  refine r_getI (by first | assumption | rfl) f_X3_31 rfl rfl dX3_atHome_9 ?_
  refine r_ior dX3_atHome_12 ?_
  refine r_aload_n dX3_atHome_13 0 rfl ?_
  refine r_getI (by first | assumption | rfl) f_X3_34 rfl rfl dX3_atHome_14 ?_
  refine r_ior dX3_atHome_17 ?_
  refine r_aload_n dX3_atHome_18 0 rfl ?_
  refine r_getI (by first | assumption | rfl) f_X3_37 rfl rfl dX3_atHome_19 ?_
  refine r_ior dX3_atHome_22 ?_
  refine r_iconst dX3_atHome_23 (v := -1) rfl ?_
  refine r_ixor dX3_atHome_24 ?_
  refine r_iand dX3_atHome_25 ?_
  refine r_iret rfl dX3_atHome_26 ?_
  refine ⟨?_, rfl⟩
  congr 1
  rw [hT.1.1, hs2, hT.2.1.1, hT.2.1.2.1, hT.2.1.2.2.1, hT.2.1.2.2.2, hs]
  refine mkm_eq (fun i hi => ?_) (fun i h1 h2 => ?_)
  · have hv := (hW.2.2 i hi).1
    rw [b_and, bt_every s hs4 i (by omega), bt_not _ (by omega), b_or, b_or, b_or, bt_hm T _ hi, bt_hm T _ hi, bt_hm T _ hi, bt_hm T _ hi]
    rcases hv with h | h | h | h | h <;> simp [h]
  · rw [b_and, bt_every s hs4 i (by omega)]
    have : ¬ i < s := by omega
    simp [this]
theorem t_X3_waitedFor {G : mG} {d : Nat} {S : mS} {a : Nat} {T : mT} (ha : kd a = 3) (hT : TP S a T) (hW : WF T) : Call G (d + 1) M_X3_waitedFor [rv G a] S (fun v u => v = some (awM T) ∧ u = S) := by
  refine call_of (lo := [(0, rv G a)]) (by decide +kernel) (Nat.le_of_ble_eq_true rfl) rfl ?_
  obtain ⟨s, hs, hs2, hs3, hs4⟩ := hW.sz
  refine r_aload_n dX3_waitedFor_0 0 rfl ?_
  refine r_callViF (As := []) c_X3_everyone (by first | assumption | rfl) l_X3_63 rfl rfl rfl (Nat.le_of_ble_eq_true rfl) dX3_waitedFor_1 (t_X3_everyone ha) ?_
  refine r_aload_n dX3_waitedFor_4 0 rfl ?_
  refine r_getI (by first | assumption | rfl) f_X3_28 rfl rfl dX3_waitedFor_5 ?_
  refine r_aload_n dX3_waitedFor_8 0 rfl ?_
  refine r_getI (by first | assumption | rfl) f_X3_40 rfl rfl dX3_waitedFor_9 ?_
  refine r_ior dX3_waitedFor_12 ?_
  refine r_iconst dX3_waitedFor_13 (v := -1) rfl ?_
  refine r_ixor dX3_waitedFor_14 ?_
  refine r_iand dX3_waitedFor_15 ?_
  refine r_iret rfl dX3_waitedFor_16 ?_
  refine ⟨?_, rfl⟩
  congr 1
  rw [hT.1.1, hs2, hT.2.1.1, hT.1.2.2.2.1]
  refine mkm_eq (fun i hi => ?_) (fun i h1 h2 => ?_)
  · rw [b_and, bt_every s hs4 i (by omega), bt_not _ (by omega), b_or, bt_hm T _ hi]
    unfold awp
    rw [hs, Bool.not_or, Bool.and_assoc]
  · rw [b_and, bt_every s hs4 i (by omega)]
    have : ¬ i < s := by omega
    simp [this]
theorem t_X3_countDown {G : mG} {d : Nat} {S : mS} {a : Nat} {T : mT} (ha : kd a = 3) (hT : TP S a T) (hW : WF T) : Call G (d + 2) M_X3_countDown [rv G a] S (fun v u => v = some (szF (awM T) 16) ∧ u = S) := by
  refine call_of (lo := [(0, rv G a)]) (by decide +kernel) (Nat.le_of_ble_eq_true rfl) rfl ?_
  refine r_aload_n dX3_countDown_0 0 rfl ?_
  refine r_callViF (As := []) c_X3_waitedFor (by first | assumption | rfl) l_X3_67 rfl rfl rfl (Nat.le_of_ble_eq_true rfl) dX3_countDown_1 (t_X3_waitedFor ha hT hW) ?_
  refine r_callSiF (As := [_]) c_J6_bitCount_0f7a4 l_X3_70 rfl rfl rfl (Nat.le_of_ble_eq_true rfl) dX3_countDown_4 t_J6_bitCount_0f7a4 ?_
  refine r_iret rfl dX3_countDown_7 ?_
  exact ⟨by rw [bc_ok (m := awM T) (mkm_hi _)], rfl⟩
end
section
/-! the class's Troop: what changes it -/
theorem bI_n0 (b : Bool) : bI b ≠ 0 ↔ b = true := by cases b <;> decide
theorem ap1 (a : Nat) : (a = a + 1) = False := by simp
theorem ap2 (a : Nat) : (a = a + 2) = False := by simp
theorem ap3 (a : Nat) : (a + 1 = a) = False := by simp
theorem ap4 (a : Nat) : (a + 2 = a) = False := by simp
theorem ap5 (a : Nat) : (a + 1 = a + 2) = False := by simp
theorem ap6 (a : Nat) : (a + 2 = a + 1) = False := by simp
def FR (a : Nat) (S u : mS) : Prop := ∀ b, b ≠ a → b ≠ a + 1 → b ≠ a + 2 → u b = S b
theorem FR.rf {a : Nat} {S : mS} : FR a S S := fun _ _ _ _ => rfl
theorem FR.tr {a : Nat} {S u w : mS} (h : FR a S u) (h2 : FR a u w) : FR a S w := fun b h1 h3 h4 => (h2 b h1 h3 h4).trans (h b h1 h3 h4)
theorem FR.up0 {a : Nat} {S u : mS} {f : Nat → Int32} (h : FR a S u) : FR a S (up1 u a f) := fun b h1 h2 h3 => (up1_n h1).trans (h b h1 h2 h3)
theorem FR.up1' {a : Nat} {S u : mS} {f : Nat → Int32} (h : FR a S u) : FR a S (up1 u (a + 1) f) := fun b h1 h2 h3 => (up1_n h2).trans (h b h1 h2 h3)
theorem FR.up2 {a : Nat} {S u : mS} {f : Nat → Int32} (h : FR a S u) : FR a S (up1 u (a + 2) f) := fun b h1 h2 h3 => (up1_n h3).trans (h b h1 h2 h3)
def hmk (hw : Nat → Int32) (h : Int32) : Int32 := mkm (fun k => hw k == h) 16
theorem hm_hmk (T : mT) (h : Int32) : hm T h = hmk T.2.1 h := rfl
theorem hmk_in (hw : Nat → Int32) (h : Int32) {k : Nat} (hk : k < 16) : hmk hw h ||| ((1 : Int32) <<< (nI k &&& 31)) = hmk (upd hw k h) h := by
  refine mkm_eq (fun i hi => ?_) (fun i h1 h2 => ?_)
  · rw [b_or, hmk, mkm_bt _ i hi, bt_one k (by omega) i (by omega)]
    by_cases e : i = k
    · subst e; simp [upd]
    · simp [upd, e]
  · rw [b_or, hmk, mkm_hi _ i h1 h2, bt_one k (by omega) i h2]
    have : ¬ i = k := by omega
    simp [this]
theorem hmk_out (hw : Nat → Int32) {h x : Int32} {k : Nat} (hx : x ≠ h) (hk : k < 16) : hmk hw h &&& (((1 : Int32) <<< (nI k &&& 31)) ^^^ (-1)) = hmk (upd hw k x) h := by
  refine mkm_eq (fun i hi => ?_) (fun i h1 h2 => ?_)
  · rw [b_and, hmk, mkm_bt _ i hi, bt_not _ (by omega), bt_one k (by omega) i (by omega)]
    by_cases e : i = k
    · subst e; simp [upd, hx]
    · simp [upd, e]
  · rw [b_and, hmk, mkm_hi _ i h1 h2]; rfl
theorem hmk_no {hw : Nat → Int32} {h x : Int32} {k : Nat} (h1 : hw k ≠ h) (hx : x ≠ h) : hmk (upd hw k x) h = hmk hw h := by
  refine mkm_congr 16 fun i hi => ?_
  by_cases e : i = k
  · subst e
    show (upd hw i x i == h) = _
    rw [show upd hw i x i = x by simp [upd], beq_eq_false_iff_ne.mpr hx, beq_eq_false_iff_ne.mpr h1]
  · simp [upd, e]
/-- two troops that agree where a troop is -/
def TE (T T' : mT) : Prop := (∀ j, j < 6 → T.1 j = T'.1 j) ∧ ∀ k, k < 16 → T.2.1 k = T'.2.1 k ∧ T.2.2.1 k = T'.2.2.1 k ∧ T.2.2.2 k = T'.2.2.2 k
theorem TE.hm {T T' : mT} (h : TE T T') (x : Int32) : hm T x = hm T' x := mkm_congr 16 fun k hk => by rw [(h.2 k hk).1]
theorem TP.te {S : mS} {a : Nat} {T T' : mT} (h : TP S a T) (e : TE T T') : TP S a T' := by
  obtain ⟨⟨a1, a2, a3, a4, a5, a6⟩, ⟨b1, b2, b3, b4⟩, c⟩ := h
  refine ⟨⟨a1.trans (e.1 0 (by omega)), a2.trans (e.1 2 (by omega)), a3.trans (e.1 1 (by omega)), a4.trans (e.1 5 (by omega)), a5.trans (e.1 3 (by omega)), a6.trans (e.1 4 (by omega))⟩, ⟨b1.trans (e.hm 1), b2.trans (e.hm 2), b3.trans (e.hm 3), b4.trans (e.hm 4)⟩, fun k hk => ?_⟩
  exact ⟨(c k hk).1.trans (e.2 k hk).2.1, (c k hk).2.trans (e.2 k hk).2.2⟩
theorem set_set (T : mT) {j : Nat} {h x : Int32} (hx : x ≠ h ∧ 0 ≠ h) (hj : j < 16) : hm (setH T j 0) h = hm (setH T j x) h := by
  show hmk (upd T.2.1 j 0) h = hmk (upd T.2.1 j x) h
  rw [← hmk_out T.2.1 hx.2 hj, ← hmk_out T.2.1 hx.1 hj]
theorem upd_upd (f : Nat → Int32) (k : Nat) (x y : Int32) : upd (upd f k x) k y = upd f k y := by funext j; simp only [upd]; split <;> rfl
theorem set_in (T : mT) {j : Nat} {h : Int32} (hj : j < 16) : hm (setH T j 0) h ||| ((1 : Int32) <<< (nI j &&& 31)) = hm (setH T j h) h := by
  show hmk (upd T.2.1 j 0) h ||| _ = hmk (upd T.2.1 j h) h
  rw [hmk_in _ h hj, upd_upd]
theorem t_X3_bringHome {G : mG} {d : Nat} {S : mS} {a j : Nat} {T : mT} (ha : kd a = 3) (hj : j < 16) (hT : TP S a T) : Call G d M_X3_bringHome [rv G a, .int (nI j)] S (fun v u => v = none ∧ TP u a (setH T j 0) ∧ FR a S u) := by
  refine call_of (lo := [(0, rv G a), (1, .int (nI j))]) (by decide +kernel) (Nat.le_of_ble_eq_true rfl) rfl ?_
  obtain ⟨k1, k2, l1, l2, f1, f2⟩ := kdT ha
  obtain ⟨⟨a1, a2, a3, a4, a5, a6⟩, ⟨b1, b2, b3, b4⟩, c⟩ := hT
  refine r_aload_n dX3_bringHome_0 0 rfl ?_
  refine r_dup dX3_bringHome_1 rfl ?_
  refine r_getI (by first | assumption | rfl) f_X3_28 rfl rfl dX3_bringHome_2 ?_
  refine r_iconst dX3_bringHome_5 (v := 1) rfl ?_
  refine r_iload_n dX3_bringHome_6 1 rfl ?_
  refine r_ishl dX3_bringHome_7 ?_
  refine r_iconst dX3_bringHome_8 (v := -1) rfl ?_
  refine r_ixor dX3_bringHome_9 ?_
  refine r_iand dX3_bringHome_10 ?_
  refine r_putI (by first | assumption | rfl) f_X3_28 rfl rfl rfl rfl dX3_bringHome_11 ?_
  refine r_aload_n dX3_bringHome_14 0 rfl ?_
  refine r_dup dX3_bringHome_15 rfl ?_
  refine r_getI (by first | assumption | rfl) f_X3_31 rfl rfl dX3_bringHome_16 ?_
  refine r_iconst dX3_bringHome_19 (v := 1) rfl ?_
  refine r_iload_n dX3_bringHome_20 1 rfl ?_
  refine r_ishl dX3_bringHome_21 ?_
  refine r_iconst dX3_bringHome_22 (v := -1) rfl ?_
  refine r_ixor dX3_bringHome_23 ?_
  refine r_iand dX3_bringHome_24 ?_
  refine r_putI (by first | assumption | rfl) f_X3_31 rfl rfl rfl rfl dX3_bringHome_25 ?_
  refine r_aload_n dX3_bringHome_28 0 rfl ?_
  refine r_dup dX3_bringHome_29 rfl ?_
  refine r_getI (by first | assumption | rfl) f_X3_34 rfl rfl dX3_bringHome_30 ?_
  refine r_iconst dX3_bringHome_33 (v := 1) rfl ?_
  refine r_iload_n dX3_bringHome_34 1 rfl ?_
  refine r_ishl dX3_bringHome_35 ?_
  refine r_iconst dX3_bringHome_36 (v := -1) rfl ?_
  refine r_ixor dX3_bringHome_37 ?_
  refine r_iand dX3_bringHome_38 ?_
  refine r_putI (by first | assumption | rfl) f_X3_34 rfl rfl rfl rfl dX3_bringHome_39 ?_
  refine r_aload_n dX3_bringHome_42 0 rfl ?_
  refine r_dup dX3_bringHome_43 rfl ?_
  refine r_getI (by first | assumption | rfl) f_X3_37 rfl rfl dX3_bringHome_44 ?_
  refine r_iconst dX3_bringHome_47 (v := 1) rfl ?_
  refine r_iload_n dX3_bringHome_48 1 rfl ?_
  refine r_ishl dX3_bringHome_49 ?_
  refine r_iconst dX3_bringHome_50 (v := -1) rfl ?_
  refine r_ixor dX3_bringHome_51 ?_
  refine r_iand dX3_bringHome_52 ?_
  refine r_putI (by first | assumption | rfl) f_X3_37 rfl rfl rfl rfl dX3_bringHome_53 ?_
  refine r_aload_n dX3_bringHome_56 0 rfl ?_
  refine r_getR (by first | assumption | rfl) f_X3_9 rfl rfl dX3_bringHome_57 (by first | assumption | rfl) ?_
  refine r_iload_n dX3_bringHome_60 1 rfl ?_
  refine r_iconst dX3_bringHome_61 (v := 0) rfl ?_
  refine r_iast (j := _) (by first | assumption | rfl) (by first | assumption | rfl) (by rw [l1]; exact hj) dX3_bringHome_62 ?_
  refine r_vret rfl dX3_bringHome_63 ?_
  refine ⟨rfl, ⟨⟨?_, ?_, ?_, ?_, ?_, ?_⟩, ⟨?_, ?_, ?_, ?_⟩, fun i hi => ⟨?_, ?_⟩⟩, (((((FR.rf).up0).up0).up0).up0).up1'⟩
  · simp only [up1, upd, ap1, ap2, reduceIte]; exact a1
  · simp only [up1, upd, ap1, ap2, reduceIte]; exact a2
  · simp only [up1, upd, ap1, ap2, reduceIte]; exact a3
  · simp only [up1, upd, ap1, ap2, reduceIte]; exact a4
  · simp only [up1, upd, ap1, ap2, reduceIte]; exact a5
  · simp only [up1, upd, ap1, ap2, reduceIte]; exact a6
  · simp only [up1, upd, ap1, ap2, reduceIte]; rw [b1]; exact hmk_out T.2.1 (by decide) hj
  · simp only [up1, upd, ap1, ap2, reduceIte]; rw [b2]; exact hmk_out T.2.1 (by decide) hj
  · simp only [up1, upd, ap1, ap2, reduceIte]; rw [b3]; exact hmk_out T.2.1 (by decide) hj
  · simp only [up1, upd, ap1, ap2, reduceIte]; rw [b4]; exact hmk_out T.2.1 (by decide) hj
  · simp only [up1, upd, setH, ap3, reduceIte, (c i hi).1]
  · simp only [up1, upd, setH, ap4, ap6, reduceIte, (c i hi).2]
theorem t_X3_missScout {G : mG} {d : Nat} {S : mS} {a j : Nat} {T : mT} (ha : kd a = 3) (hj : j < 16) (hT : TP S a T) : Call G (d + 1) M_X3_missScout [rv G a, .int (nI j)] S (fun v u => v = none ∧ TP u a (setH T j 4) ∧ FR a S u) := by
  refine call_of (lo := [(0, rv G a), (1, .int (nI j))]) (by decide +kernel) (Nat.le_of_ble_eq_true rfl) rfl ?_
  obtain ⟨k1, k2, l1, l2, f1, f2⟩ := kdT ha
  refine r_aload_n dX3_missScout_0 0 rfl ?_
  refine r_iload_n dX3_missScout_1 1 rfl ?_
  refine r_callVv (As := [_]) c_X3_bringHome (by first | assumption | rfl) l_X3_76 rfl rfl rfl (Nat.le_of_ble_eq_true rfl) dX3_missScout_2 (t_X3_bringHome ha hj hT) (fun u2 q2 => ?_)
  obtain ⟨-, hT1, hF1⟩ := q2
  obtain ⟨⟨a1, a2, a3, a4, a5, a6⟩, ⟨b1, b2, b3, b4⟩, c⟩ := hT1
  refine r_aload_n dX3_missScout_5 0 rfl ?_
  refine r_dup dX3_missScout_6 rfl ?_
  refine r_getI (by first | assumption | rfl) f_X3_37 rfl rfl dX3_missScout_7 ?_
  refine r_iconst dX3_missScout_10 (v := 1) rfl ?_
  refine r_iload_n dX3_missScout_11 1 rfl ?_
  refine r_ishl dX3_missScout_12 ?_
  refine r_ior dX3_missScout_13 ?_
  refine r_putI (by first | assumption | rfl) f_X3_37 rfl rfl rfl rfl dX3_missScout_14 ?_
  refine r_vret rfl dX3_missScout_17 ?_
  refine ⟨rfl, ⟨⟨?_, ?_, ?_, ?_, ?_, ?_⟩, ⟨?_, ?_, ?_, ?_⟩, fun i hi => ⟨?_, ?_⟩⟩, hF1.up0⟩
  · simp only [up1, upd, reduceIte]; exact a1
  · simp only [up1, upd, reduceIte]; exact a2
  · simp only [up1, upd, reduceIte]; exact a3
  · simp only [up1, upd, reduceIte]; exact a4
  · simp only [up1, upd, reduceIte]; exact a5
  · simp only [up1, upd, reduceIte]; exact a6
  · simp only [up1, upd, reduceIte]; rw [b1]; exact set_set T (by decide) hj
  · simp only [up1, upd, reduceIte]; rw [b2]; exact set_set T (by decide) hj
  · simp only [up1, upd, reduceIte]; rw [b3]; exact set_set T (by decide) hj
  · simp only [up1, upd, reduceIte]; rw [b4]; exact set_in T hj
  · simp only [up1, ap3, reduceIte]; exact (c i hi).1
  · simp only [up1, ap4, reduceIte]; exact (c i hi).2

theorem TP.fr {S : mS} {a j : Nat} {T : mT} (x : Int32) (h : TP S a T) : TP (up1 S (a + 1) (upd (S (a + 1)) j x)) a (T.1, T.2.1, upd T.2.2.1 j x, T.2.2.2) := by
  obtain ⟨⟨a1, a2, a3, a4, a5, a6⟩, ⟨b1, b2, b3, b4⟩, c⟩ := h
  refine ⟨?_, ?_, fun i hi => ⟨?_, ?_⟩⟩
  · simp only [up1, ap1, reduceIte]; exact ⟨a1, a2, a3, a4, a5, a6⟩
  · simp only [up1, ap1, reduceIte]; exact ⟨b1, b2, b3, b4⟩
  · simp only [up1, reduceIte, upd, (c i hi).1]
  · simp only [up1, ap6, reduceIte]; exact (c i hi).2
theorem TP.tm {S : mS} {a j : Nat} {T : mT} (x : Int32) (h : TP S a T) : TP (up1 S (a + 2) (upd (S (a + 2)) j x)) a (T.1, T.2.1, T.2.2.1, upd T.2.2.2 j x) := by
  obtain ⟨⟨a1, a2, a3, a4, a5, a6⟩, ⟨b1, b2, b3, b4⟩, c⟩ := h
  refine ⟨?_, ?_, fun i hi => ⟨?_, ?_⟩⟩
  · simp only [up1, ap2, reduceIte]; exact ⟨a1, a2, a3, a4, a5, a6⟩
  · simp only [up1, ap2, reduceIte]; exact ⟨b1, b2, b3, b4⟩
  · simp only [up1, ap5, reduceIte]; exact (c i hi).1
  · simp only [up1, reduceIte, upd, (c i hi).2]
theorem TP.struck {S : mS} {a : Nat} {T : mT} (x : Int32) (h : TP S a T) : TP (up1 S a (upd (S a) 7 x)) a (upd T.1 5 x, T.2) := by
  obtain ⟨⟨a1, a2, a3, a4, a5, a6⟩, ⟨b1, b2, b3, b4⟩, c⟩ := h
  refine ⟨?_, ?_, fun i hi => ⟨?_, ?_⟩⟩
  · simp only [up1, upd, reduceIte, Nat.reduceEqDiff]; exact ⟨a1, a2, a3, trivial, a5, a6⟩
  · simp only [up1, upd, reduceIte, Nat.reduceEqDiff]; exact ⟨b1, b2, b3, b4⟩
  · simp only [up1, ap3, reduceIte]; exact (c i hi).1
  · simp only [up1, ap4, reduceIte]; exact (c i hi).2
def wk1 (T : mT) (j : Nat) : mT := if T.2.2.1 j - 1 ≤ 0 then (T.1, upd T.2.1 j 0, upd T.2.2.1 j 0, if j < tsz T then T.2.2.2 else upd T.2.2.2 j 0) else (T.1, T.2.1, upd T.2.2.1 j (T.2.2.1 j - 1), T.2.2.2)
theorem sz_lt {T : mT} (hW : WF T) {j : Nat} (hj : j < 16) : (0 ≤ nI j ∧ nI j < T.1 0) ↔ j < tsz T := by
  obtain ⟨s, hs, hs2, hs3, hs4⟩ := hW.sz
  rw [hs, hs2, nI_ltI (by omega) (by omega)]
  exact ⟨fun h => h.2, fun h => ⟨nI_pos' (by omega), h⟩⟩
theorem t_X3_walkOn {G : mG} {d : Nat} {S : mS} {a j : Nat} {T : mT} (ha : kd a = 3) (hj : j < 16) (hT : TP S a T) (hW : WF T) : Call G (d + 1) M_X3_walkOn [rv G a, .int (nI j)] S (fun v u => v = none ∧ TP u a (wk1 T j) ∧ FR a S u) := by
  refine call_of (lo := [(0, rv G a), (1, .int (nI j))]) (by decide +kernel) (Nat.le_of_ble_eq_true rfl) rfl ?_
  obtain ⟨k1, k2, l1, l2, f1, f2⟩ := kdT ha
  have hl1 : j < ln (a + 1) := by rw [l1]; exact hj
  have hl2 : j < ln (a + 2) := by rw [l2]; exact hj
  have e0 := (hT.2.2 j hj).1
  have hT1 := hT.fr (j := j) (S (a + 1) j - 1)
  have e1 : up1 S (a + 1) (upd (S (a + 1)) j (S (a + 1) j - 1)) (a + 1) j = T.2.2.1 j - 1 := by simp only [up1, upd, reduceIte, e0]
  have hF1 : FR a S (up1 S (a + 1) (upd (S (a + 1)) j (S (a + 1) j - 1))) := (FR.rf).up1'
  refine r_aload_n dX3_walkOn_0 0 rfl ?_
  refine r_getR (by first | assumption | rfl) f_X3_9 rfl rfl dX3_walkOn_1 (by first | assumption | rfl) ?_
  refine r_iload_n dX3_walkOn_4 1 rfl ?_
  refine r_dup2 dX3_walkOn_5 rfl rfl ?_
  refine r_iald (j := _) (by first | assumption | rfl) (by first | assumption | rfl) (by first | assumption | decide) dX3_walkOn_6 ?_
  refine r_iconst dX3_walkOn_7 (v := 1) rfl ?_
  refine r_isub dX3_walkOn_8 ?_
  refine r_iast (j := _) (by first | assumption | rfl) (by first | assumption | rfl) (by first | assumption | decide) dX3_walkOn_9 ?_
  generalize up1 S (a + 1) (upd (S (a + 1)) j (S (a + 1) j - 1)) = S1 at hT1 e1 hF1 ⊢
  refine r_aload_n dX3_walkOn_10 0 rfl ?_
  refine r_getR (by first | assumption | rfl) f_X3_9 rfl rfl dX3_walkOn_11 (by first | assumption | rfl) ?_
  refine r_iload_n dX3_walkOn_14 1 rfl ?_
  refine r_iald (j := _) (by first | assumption | rfl) (by first | assumption | rfl) (by first | assumption | decide) dX3_walkOn_15 ?_
  refine r_if_gt dX3_walkOn_16 (tgt := 39) (by decide) (fun h16 => ?_) (fun h16 => ?_)
  · --t
    rw [e1] at h16
    refine r_vret rfl dX3_walkOn_39 ⟨rfl, ?_, hF1⟩
    unfold wk1
    rw [if_neg (Int32.not_le.mpr h16)]
    exact hT1.te ⟨fun _ _ => rfl, fun i hi => ⟨rfl, by simp only [e0], rfl⟩⟩
  · --f
    rw [e1] at h16
    refine r_aload_n dX3_walkOn_19 0 rfl ?_
    refine r_iload_n dX3_walkOn_20 1 rfl ?_
    refine r_callVv (As := [_]) c_X3_bringHome (by first | assumption | rfl) l_X3_76 rfl rfl rfl (Nat.le_of_ble_eq_true rfl) dX3_walkOn_21 (t_X3_bringHome ha hj hT1) (fun u21 q21 => ?_)
    obtain ⟨-, hT2, hF2⟩ := q21
    refine r_aload_n dX3_walkOn_24 0 rfl ?_
    refine r_iload_n dX3_walkOn_25 1 rfl ?_
    refine r_callViF (As := [_]) c_X3_hasScout (by first | assumption | rfl) l_X3_55 rfl rfl rfl (Nat.le_of_ble_eq_true rfl) dX3_walkOn_26 (t_X3_hasScout ha) ?_
    refine r_if_ne dX3_walkOn_29 (tgt := 39) (by decide) (fun h29 => ?_) (fun h29 => ?_)
    · --t
      refine r_vret rfl dX3_walkOn_39 ⟨rfl, ?_, hF1.tr hF2⟩
      rw [bI_n0, decide_eq_true_iff, hT2.1.1] at h29
      unfold wk1
      rw [if_pos (Int32.not_lt.mp h16), if_pos ((sz_lt hW hj).mp h29)]
      exact hT2.te ⟨fun _ _ => rfl, fun i hi => ⟨rfl, by simp only [setH, upd_upd], rfl⟩⟩
    · --f
      refine r_aload_n dX3_walkOn_32 0 rfl ?_
      refine r_getR (by first | assumption | rfl) f_X3_15 rfl rfl dX3_walkOn_33 (by first | assumption | rfl) ?_
      refine r_iload_n dX3_walkOn_36 1 rfl ?_
      refine r_iconst dX3_walkOn_37 (v := 0) rfl ?_
      refine r_iast (j := _) (by first | assumption | rfl) (by first | assumption | rfl) (by first | assumption | decide) dX3_walkOn_38 ?_
      skip
      refine r_vret rfl dX3_walkOn_39 ?_
      rw [bI_0, decide_eq_false_iff_not, hT2.1.1] at h29
      refine ⟨rfl, ?_, (hF1.tr hF2).up2⟩
      unfold wk1
      rw [if_pos (Int32.not_lt.mp h16), if_neg (fun z => h29 ((sz_lt hW hj).mpr z))]
      exact (hT2.tm 0).te ⟨fun _ _ => rfl, fun i hi => ⟨rfl, by simp only [setH, upd_upd], rfl⟩⟩
theorem TE.rf {T : mT} : TE T T := ⟨fun _ _ => rfl, fun _ _ => ⟨rfl, rfl, rfl⟩⟩
theorem wlk_hw {T : mT} {pat : Int32} {k : Nat} : (wlkT T pat k).2.1 k = T.2.1 k := by simp [wlkT]
theorem wlk_fr {T : mT} {pat : Int32} {k : Nat} : (wlkT T pat k).2.2.1 k = T.2.2.1 k := by simp [wlkT]
theorem wlk_sz {T : mT} {pat : Int32} {k : Nat} : tsz (wlkT T pat k) = tsz T := by simp [wlkT, tsz]
theorem wlk_0 {T : mT} {pat : Int32} : TE T (wlkT T pat 0) := by
  refine ⟨fun j _ => ?_, fun k _ => ⟨?_, ?_, ?_⟩⟩
  · simp only [wlkT, mkm, Int32.or_zero]; split <;> simp_all
  · simp [wlkT]
  · simp [wlkT]
  · simp [wlkT]
theorem wlk_3 {T : mT} {pat : Int32} {k : Nat} (h : T.2.1 k = 3) : TE (wk1 (wlkT T pat k) k) (wlkT T pat (k + 1)) := by
  have h4 : ¬ T.2.1 k = 4 := by rw [h]; decide
  unfold wk1
  rw [wlk_fr, wlk_sz]
  by_cases h2 : T.2.2.1 k - 1 ≤ 0
  · rw [if_pos h2]
    refine ⟨fun j _ => ?_, fun i hi => ⟨?_, ?_, ?_⟩⟩
    · simp [wlkT, mkm, h4]
    · simp only [wlkT, upd]
      by_cases e : i = k
      · subst e; simp [h, h2]
      · have : i < k + 1 ↔ i < k := by omega
        simp [e, this]
    · simp only [wlkT, upd]
      by_cases e : i = k
      · subst e; simp [h, h2]
      · have : i < k + 1 ↔ i < k := by omega
        simp [e, this]
    · by_cases e : i = k
      · subst e
        by_cases h5 : i < tsz T
        · simp [wlkT, upd, h, h2, h5]
          intro z; omega
        · simp [wlkT, upd, h, h2, h5]
      · have : i < k + 1 ↔ i < k := by omega
        by_cases h5 : k < tsz T
        · simp [wlkT, upd, e, this, h5]
        · simp [wlkT, upd, e, this, h5]
  · rw [if_neg h2]
    refine ⟨fun j _ => ?_, fun i hi => ⟨?_, ?_, ?_⟩⟩
    · simp [wlkT, mkm, h4]
    · simp only [wlkT]
      by_cases e : i = k
      · subst e; simp [h2]
      · have : i < k + 1 ↔ i < k := by omega
        simp [this]
    · simp only [wlkT, upd]
      by_cases e : i = k
      · subst e; simp [h, h2]
      · have : i < k + 1 ↔ i < k := by omega
        simp [e, this]
    · simp only [wlkT]
      by_cases e : i = k
      · subst e; simp [h2]
      · have : i < k + 1 ↔ i < k := by omega
        simp [this]
theorem wlk_4 {T : mT} {pat : Int32} {k : Nat} (h : T.2.1 k = 4) : TE ((if pat < T.2.2.1 k + 1 then upd (wlkT T pat k).1 5 ((wlkT T pat k).1 5 ||| ((1 : Int32) <<< (nI k &&& 31))) else (wlkT T pat k).1), (wlkT T pat k).2.1, upd (wlkT T pat k).2.2.1 k (T.2.2.1 k + 1), (wlkT T pat k).2.2.2) (wlkT T pat (k + 1)) := by
  have h3 : ¬ T.2.1 k = 3 := by rw [h]; decide
  refine ⟨fun j _ => ?_, fun i hi => ⟨?_, ?_, ?_⟩⟩
  · by_cases h2 : pat < T.2.2.1 k + 1
    · by_cases e : j = 5
      · subst e; simp [wlkT, mkm, h, h2, upd, Int32.or_assoc]
      · simp [wlkT, upd, h2, e]
    · by_cases e : j = 5
      · subst e; simp [wlkT, mkm, h2]
      · simp [wlkT, h2, e]
  · simp only [wlkT]
    by_cases e : i = k
    · subst e; simp [h3]
    · have : i < k + 1 ↔ i < k := by omega
      simp [this]
  · simp only [wlkT, upd]
    by_cases e : i = k
    · subst e; simp [h]
    · have : i < k + 1 ↔ i < k := by omega
      simp [e, this]
  · simp only [wlkT]
    by_cases e : i = k
    · subst e; simp [h3]
    · have : i < k + 1 ↔ i < k := by omega
      simp [this]
theorem wlk_n {T : mT} {pat : Int32} {k : Nat} (h3 : ¬ T.2.1 k = 3) (h4 : ¬ T.2.1 k = 4) : TE (wlkT T pat k) (wlkT T pat (k + 1)) := by
  refine ⟨fun j _ => ?_, fun i hi => ⟨?_, ?_, ?_⟩⟩
  · simp [wlkT, mkm, h4]
  · simp only [wlkT]
    by_cases e : i = k
    · subst e; simp [h3]
    · have : i < k + 1 ↔ i < k := by omega
      simp [this]
  · simp only [wlkT]
    by_cases e : i = k
    · subst e; simp [h3, h4]
    · have : i < k + 1 ↔ i < k := by omega
      simp [this]
  · simp only [wlkT]
    by_cases e : i = k
    · subst e; simp [h3]
    · have : i < k + 1 ↔ i < k := by omega
      simp [this]
theorem wlk_no {T : mT} {pat : Int32} (h3 : hm T 3 = 0) (h4 : hm T 4 = 0) : ∀ n, n ≤ 16 → TE T (wlkT T pat n) := by
  have n3 : ∀ k, k < 16 → ¬ T.2.1 k = 3 := fun k hk z => by
    have := (mkm_0 _).mp h3 k hk
    simp [z] at this
  have n4 : ∀ k, k < 16 → ¬ T.2.1 k = 4 := fun k hk z => by
    have := (mkm_0 _).mp h4 k hk
    simp [z] at this
  intro n
  induction n with
  | zero => intro _; exact wlk_0
  | succ n ih =>
    intro hn
    obtain ⟨e1, e2⟩ := ih (by omega)
    obtain ⟨g1, g2⟩ := wlk_n (pat := pat) (n3 n (by omega)) (n4 n (by omega))
    exact ⟨fun j hj => (e1 j hj).trans (g1 j hj), fun k hk => ⟨(e2 k hk).1.trans (g2 k hk).1, (e2 k hk).2.1.trans (g2 k hk).2.1, (e2 k hk).2.2.trans (g2 k hk).2.2⟩⟩
end
section
/-! the class's Troop: the gate, a minute, coming, beginning, copying -/
theorem at_gen {G : mG} {d : Nat} {M : mM} {Q : Option Int32 → mS → Prop} {pc : Nat} {lo : List (Nat × Value)} {st : List Value} {S : mS} (h : ∀ w, w = S → At G d M Q pc lo st w) : At G d M Q pc lo st S := h S rfl
theorem TE.tr {T U V : mT} (h : TE T U) (g : TE U V) : TE T V := ⟨fun j hj => (h.1 j hj).trans (g.1 j hj), fun k hk => ⟨(h.2 k hk).1.trans (g.2 k hk).1, (h.2 k hk).2.1.trans (g.2 k hk).2.1, (h.2 k hk).2.2.trans (g.2 k hk).2.2⟩⟩
theorem c16 {k : Nat} (h : k < 16) : ¬ (16 : Int32) ≤ nI k := nI_ge (b := 16) h (by decide)
/-- the first loop of beginHike: those inside below n get their minutes and one hike more -/
def bg1 (T : mT) (away : Int32) (n : Nat) : mT := (T.1, T.2.1, fun k => if k < n ∧ T.2.1 k = 1 then away else T.2.2.1 k, fun k => if k < n ∧ T.2.1 k = 1 then T.2.2.2 k + 1 else T.2.2.2 k)
/-- behind the straight part -/
def bg2 (T : mT) (away : Int32) : mT := ((begT T away).1, (begT T away).2.1, (bg1 T away 16).2.2)
/-- the second loop: those below n who are none any more -/
def bg3 (T : mT) (away : Int32) (n : Nat) : mT := ((begT T away).1, (begT T away).2.1, fun k => if (T.1 2).toNatClampNeg ≤ k ∧ k < n ∧ ¬ (begT T away).2.1 k = 3 then 0 else (bg1 T away 16).2.2.1 k, fun k => if (T.1 2).toNatClampNeg ≤ k ∧ k < n ∧ ¬ (begT T away).2.1 k = 3 then 0 else (bg1 T away 16).2.2.2 k)
theorem bg1_0 {T : mT} {away : Int32} : TE T (bg1 T away 0) := ⟨fun _ _ => rfl, fun k _ => ⟨rfl, by simp [bg1], by simp [bg1]⟩⟩
theorem bg1_y {T : mT} {away : Int32} {k : Nat} (h : T.2.1 k = 1) : TE (T.1, T.2.1, upd (bg1 T away k).2.2.1 k away, upd (bg1 T away k).2.2.2 k (T.2.2.2 k + 1)) (bg1 T away (k + 1)) := by
  refine ⟨fun _ _ => rfl, fun i _ => ⟨rfl, ?_, ?_⟩⟩
  · simp only [bg1, upd]
    by_cases e : i = k
    · subst e; simp [h]
    · have : i < k + 1 ↔ i < k := by omega
      simp [e, this]
  · simp only [bg1, upd]
    by_cases e : i = k
    · subst e; simp [h]
    · have : i < k + 1 ↔ i < k := by omega
      simp [e, this]
theorem bg1_n {T : mT} {away : Int32} {k : Nat} (h : ¬ T.2.1 k = 1) : TE (bg1 T away k) (bg1 T away (k + 1)) := by
  refine ⟨fun _ _ => rfl, fun i _ => ⟨rfl, ?_, ?_⟩⟩
  · simp only [bg1]
    by_cases e : i = k
    · subst e; simp [h]
    · have : i < k + 1 ↔ i < k := by omega
      simp [this]
  · simp only [bg1]
    by_cases e : i = k
    · subst e; simp [h]
    · have : i < k + 1 ↔ i < k := by omega
      simp [this]
theorem bg3_0 {T : mT} {away : Int32} {n : Nat} (hn : n = (T.1 2).toNatClampNeg) : TE (bg2 T away) (bg3 T away n) := by
  refine ⟨fun _ _ => rfl, fun k _ => ⟨rfl, ?_, ?_⟩⟩
  · have : ¬ ((T.1 2).toNatClampNeg ≤ k ∧ k < n ∧ ¬ (begT T away).2.1 k = 3) := by omega
    simp only [bg2, bg3, if_neg this]
  · have : ¬ ((T.1 2).toNatClampNeg ≤ k ∧ k < n ∧ ¬ (begT T away).2.1 k = 3) := by omega
    simp only [bg2, bg3, if_neg this]
theorem bg3_y {T : mT} {away : Int32} {k : Nat} (hn : (T.1 2).toNatClampNeg ≤ k) (h : ¬ (begT T away).2.1 k = 3) : TE ((bg3 T away k).1, (bg3 T away k).2.1, upd (bg3 T away k).2.2.1 k 0, upd (bg3 T away k).2.2.2 k 0) (bg3 T away (k + 1)) := by
  refine ⟨fun _ _ => rfl, fun i _ => ⟨rfl, ?_, ?_⟩⟩
  · simp only [bg3, upd]
    by_cases e : i = k
    · subst e; simp [h, hn]
    · have : i < k + 1 ↔ i < k := by omega
      simp [e, this]
  · simp only [bg3, upd]
    by_cases e : i = k
    · subst e; simp [h, hn]
    · have : i < k + 1 ↔ i < k := by omega
      simp [e, this]
theorem bg3_n {T : mT} {away : Int32} {k : Nat} (h : (begT T away).2.1 k = 3) : TE (bg3 T away k) (bg3 T away (k + 1)) := by
  refine ⟨fun _ _ => rfl, fun i _ => ⟨rfl, ?_, ?_⟩⟩
  · simp only [bg3]
    by_cases e : i = k
    · subst e; simp [h]
    · have : i < k + 1 ↔ i < k := by omega
      simp [this]
  · simp only [bg3]
    by_cases e : i = k
    · subst e; simp [h]
    · have : i < k + 1 ↔ i < k := by omega
      simp [this]
theorem bg3_16 {T : mT} {away : Int32} : TE (bg3 T away 16) (begT T away) := by
  refine ⟨fun _ _ => rfl, fun k hk => ⟨rfl, ?_, ?_⟩⟩
  · by_cases h1 : T.2.1 k = 1
    · simp [bg3, bg1, begT, h1, hk]
    · by_cases h3 : T.2.1 k = 3
      · simp [bg3, bg1, begT, h3]
      · by_cases hn : k < (T.1 2).toNatClampNeg
        · have : ¬ (T.1 2).toNatClampNeg ≤ k := by omega
          simp [bg3, bg1, begT, h1, h3, hn, this]
        · have : (T.1 2).toNatClampNeg ≤ k := by omega
          simp [bg3, bg1, begT, h1, h3, this, hk]
  · by_cases h1 : T.2.1 k = 1
    · simp [bg3, bg1, begT, h1, hk]
    · by_cases h3 : T.2.1 k = 3
      · simp [bg3, bg1, begT, h3]
      · by_cases hn : k < (T.1 2).toNatClampNeg
        · have : ¬ (T.1 2).toNatClampNeg ≤ k := by omega
          simp [bg3, bg1, begT, h1, h3, hn, this]
        · have : (T.1 2).toNatClampNeg ≤ k := by omega
          simp [bg3, bg1, begT, h1, h3, this, hk]
section HIKE
variable {G : mG} {d : Nat} {S0 : mS} {a : Nat} {T : mT} {away : Int32} {Q : Option Int32 → mS → Prop}
theorem lp_X3_beginHike1 (ha : kd a = 3) (hx : ∀ u, TP u a (bg1 T away 16) → FR a S0 u → At G (d + 1) M_X3_beginHike Q 42 [(0, rv G a), (1, .int away)] [] u) : ∀ n k S, n + k = 16 → TP S a (bg1 T away k) → FR a S0 S → At G (d + 1) M_X3_beginHike Q 2 [(0, rv G a), (1, .int away), (2, .int (nI k))] [] S := by
  obtain ⟨k1, k2, l1, l2, f1, f2⟩ := kdT ha
  intro n
  induction n with
  | zero =>
    intro k S hk hT hF
    obtain rfl : k = 16 := by omega
    refine r_iload_n dX3_beginHike_2 2 rfl ?_
    refine r_bipush dX3_beginHike_3 (v := 16) (by decide +kernel) ?_
    refine r_icmp_ge dX3_beginHike_5 (tgt := 42) (by decide) (fun h5 => ?_) (fun h5 => ?_)
    · --t
      exact r_sub [0, 1] rfl (hx _ hT hF)
    · --f
      exact absurd (show (16 : Int32) ≤ nI 16 by decide) h5
  | succ n ih =>
    intro k S hk hT hF
    have hk16 : k < 16 := by omega
    have hk32 : k < 32 := by omega
    have hl1 : k < ln (a + 1) := by rw [l1]; exact hk16
    have hl2 : k < ln (a + 2) := by rw [l2]; exact hk16
    have eb : bt (S a 3) k = (T.2.1 k == 1) := by rw [hT.2.1.1, bt_hm _ _ hk16]; rfl
    have e2 : up1 S (a + 1) (upd (S (a + 1)) k away) (a + 2) k = T.2.2.2 k := by rw [up1_n (by omega), (hT.2.2 k hk16).2]; simp [bg1]
    refine r_iload_n dX3_beginHike_2 2 rfl ?_
    refine r_bipush dX3_beginHike_3 (v := 16) (by decide +kernel) ?_
    refine r_icmp_ge dX3_beginHike_5 (tgt := 42) (by decide) (fun h5 => ?_) (fun h5 => ?_)
    · --t
      exact absurd h5 (c16 hk16)
    · --f
      refine r_aload_n dX3_beginHike_8 0 rfl ?_
      refine r_getI (by first | assumption | rfl) f_X3_28 rfl rfl dX3_beginHike_9 ?_
      refine r_iload_n dX3_beginHike_12 2 rfl ?_
      refine r_callSiF (As := [_, _]) c_X3_isIn l_X3_59 rfl rfl rfl (Nat.le_of_ble_eq_true rfl) dX3_beginHike_13 (t_X3_isIn rfl hk32) ?_
      refine r_if_eq dX3_beginHike_16 (tgt := 36) (by decide) (fun h16 => ?_) (fun h16 => ?_)
      · --t
        rw [eb, bI_0, beq_eq_false_iff_ne] at h16
        refine r_iinc (lo2 := [(0, _), (1, _), (2, _)]) dX3_beginHike_36 2 rfl (w := 1) rfl (Nat.le_of_ble_eq_true rfl) [1, 2, 0] rfl ?_
        refine r_goto dX3_beginHike_39 (tgt := 2) (by decide) ?_
        rw [nI_1]
        exact ih (k + 1) _ (by omega) (hT.te (bg1_n h16)) hF
      · --f
        refine r_aload_n dX3_beginHike_19 0 rfl ?_
        refine r_getR (by first | assumption | rfl) f_X3_9 rfl rfl dX3_beginHike_20 (by first | assumption | rfl) ?_
        refine r_iload_n dX3_beginHike_23 2 rfl ?_
        refine r_iload_n dX3_beginHike_24 1 rfl ?_
        refine r_iast (j := _) (by first | assumption | rfl) (by first | assumption | rfl) (by first | assumption | decide) dX3_beginHike_25 ?_
        refine r_aload_n dX3_beginHike_26 0 rfl ?_
        refine r_getR (by first | assumption | rfl) f_X3_15 rfl rfl dX3_beginHike_27 (by first | assumption | rfl) ?_
        refine r_iload_n dX3_beginHike_30 2 rfl ?_
        refine r_dup2 dX3_beginHike_31 rfl rfl ?_
        refine r_iald (j := _) (by first | assumption | rfl) (by first | assumption | rfl) (by first | assumption | decide) dX3_beginHike_32 ?_
        refine r_iconst dX3_beginHike_33 (v := 1) rfl ?_
        refine r_iadd dX3_beginHike_34 ?_
        refine r_iast (j := _) (by first | assumption | rfl) (by first | assumption | rfl) (by first | assumption | decide) dX3_beginHike_35 ?_
        refine r_iinc (lo2 := [(0, _), (1, _), (2, _)]) dX3_beginHike_36 2 rfl (w := 1) rfl (Nat.le_of_ble_eq_true rfl) [1, 2, 0] rfl ?_
        refine r_goto dX3_beginHike_39 (tgt := 2) (by decide) ?_
        rw [nI_1]
        rw [eb, bI_0, beq_eq_false_iff_ne, ne_eq, Classical.not_not] at h16
        have h1 := (hT.fr (j := k) away).tm (j := k) (T.2.2.2 k + 1)
        rw [e2]
        exact ih (k + 1) _ (by omega) (TP.te h1 (bg1_y h16)) (hF.up1'.up2)
theorem lp_X3_beginHike2 (ha : kd a = 3) (hW : WF T) (hx : ∀ u, TP u a (begT T away) → FR a S0 u → Q none u) : ∀ n k S, n + k = 16 → (T.1 2).toNatClampNeg ≤ k → TP S a (bg3 T away k) → FR a S0 S → At G (d + 1) M_X3_beginHike Q 140 [(0, rv G a), (1, .int away), (2, .int (nI k))] [] S := by
  obtain ⟨k1, k2, l1, l2, f1, f2⟩ := kdT ha
  intro n
  induction n with
  | zero =>
    intro k S hk hn hT hF
    obtain rfl : k = 16 := by omega
    refine r_iload_n dX3_beginHike_140 2 rfl ?_
    refine r_bipush dX3_beginHike_141 (v := 16) (by decide +kernel) ?_
    refine r_icmp_ge dX3_beginHike_143 (tgt := 177) (by decide) (fun h143 => ?_) (fun h143 => ?_)
    · --t
      refine r_vret rfl dX3_beginHike_177 ?_
      exact hx _ (hT.te bg3_16) hF
    · --f
      exact absurd (show (16 : Int32) ≤ nI 16 by decide) h143
  | succ n ih =>
    intro k S hk hn hT hF
    have hk16 : k < 16 := by omega
    have hk32 : k < 32 := by omega
    have hl1 : k < ln (a + 1) := by rw [l1]; exact hk16
    have hl2 : k < ln (a + 2) := by rw [l2]; exact hk16
    have eb : bt (S a 5) k = ((begT T away).2.1 k == 3) := by rw [hT.2.1.2.2.1, bt_hm _ _ hk16]; rfl
    refine r_iload_n dX3_beginHike_140 2 rfl ?_
    refine r_bipush dX3_beginHike_141 (v := 16) (by decide +kernel) ?_
    refine r_icmp_ge dX3_beginHike_143 (tgt := 177) (by decide) (fun h143 => ?_) (fun h143 => ?_)
    · --t
      exact absurd h143 (c16 hk16)
    · --f
      refine r_aload_n dX3_beginHike_146 0 rfl ?_
      refine r_getI (by first | assumption | rfl) f_X3_34 rfl rfl dX3_beginHike_147 ?_
      refine r_iload_n dX3_beginHike_150 2 rfl ?_
      refine r_callSiF (As := [_, _]) c_X3_isIn l_X3_59 rfl rfl rfl (Nat.le_of_ble_eq_true rfl) dX3_beginHike_151 (t_X3_isIn rfl hk32) ?_
      refine r_if_ne dX3_beginHike_154 (tgt := 171) (by decide) (fun h154 => ?_) (fun h154 => ?_)
      · --t
        rw [eb, bI_n0, beq_iff_eq] at h154
        refine r_iinc (lo2 := [(0, _), (1, _), (2, _)]) dX3_beginHike_171 2 rfl (w := 1) rfl (Nat.le_of_ble_eq_true rfl) [1, 2, 0] rfl ?_
        refine r_goto dX3_beginHike_174 (tgt := 140) (by decide) ?_
        rw [nI_1]
        exact ih (k + 1) _ (by omega) (by omega) (hT.te (bg3_n h154)) hF
      · --f
        refine r_aload_n dX3_beginHike_157 0 rfl ?_
        refine r_getR (by first | assumption | rfl) f_X3_9 rfl rfl dX3_beginHike_158 (by first | assumption | rfl) ?_
        refine r_iload_n dX3_beginHike_161 2 rfl ?_
        refine r_iconst dX3_beginHike_162 (v := 0) rfl ?_
        refine r_iast (j := _) (by first | assumption | rfl) (by first | assumption | rfl) (by first | assumption | decide) dX3_beginHike_163 ?_
        refine r_aload_n dX3_beginHike_164 0 rfl ?_
        refine r_getR (by first | assumption | rfl) f_X3_15 rfl rfl dX3_beginHike_165 (by first | assumption | rfl) ?_
        refine r_iload_n dX3_beginHike_168 2 rfl ?_
        refine r_iconst dX3_beginHike_169 (v := 0) rfl ?_
        refine r_iast (j := _) (by first | assumption | rfl) (by first | assumption | rfl) (by first | assumption | decide) dX3_beginHike_170 ?_
        refine r_iinc (lo2 := [(0, _), (1, _), (2, _)]) dX3_beginHike_171 2 rfl (w := 1) rfl (Nat.le_of_ble_eq_true rfl) [1, 2, 0] rfl ?_
        refine r_goto dX3_beginHike_174 (tgt := 140) (by decide) ?_
        rw [nI_1]
        rw [eb, bI_0, beq_eq_false_iff_ne] at h154
        have h1 := (hT.fr (j := k) 0).tm (j := k) 0
        exact ih (k + 1) _ (by omega) (by omega) (TP.te h1 (bg3_y hn h154)) (hF.up1'.up2)
end HIKE

theorem TP.sc {S u : mS} {a : Nat} {T T' : mT} (h : TP S a T) (h1 : u (a + 1) = S (a + 1)) (h2 : u (a + 2) = S (a + 2)) (e1 : u a 0 = T'.1 0) (e2 : u a 1 = T'.1 2) (e3 : u a 2 = T'.1 1) (e4 : u a 7 = T'.1 5) (e5 : u a 8 = T'.1 3) (e6 : u a 9 = T'.1 4)
    (m1 : u a 3 = hm T' 1) (m2 : u a 4 = hm T' 2) (m3 : u a 5 = hm T' 3) (m4 : u a 6 = hm T' 4) (hr : T'.2.2 = T.2.2) : TP u a T' := by
  refine ⟨⟨e1, e2, e3, e4, e5, e6⟩, ⟨m1, m2, m3, m4⟩, fun k hk => ?_⟩
  rw [h1, h2, hr]
  exact h.2.2 k hk
theorem hm_beg1 {T : mT} {away : Int32} {n : Nat} (hn : (T.1 2).toNatClampNeg = n) (h16 : n ≤ 16) (e2 : T.1 2 = nI n) (hW : WF T) : hm T 2 &&& (((1 : Int32) <<< (T.1 2 &&& 31)) - 1) = mkm (fun k => (begT T away).2.1 k == 1) 16 := by
  rw [e2]
  refine mkm_eq (fun i hi => ?_) (fun i h1 h2 => ?_)
  · rw [b_and, bt_hm _ _ hi, bt_every n h16 i (by omega)]
    unfold begT
    dsimp only
    rw [hn]
    have hv := (hW.2.2 i hi).1
    by_cases hl : i < n
    · rcases hv with h | h | h | h | h <;> simp [h, hl]
    · rcases hv with h | h | h | h | h <;> simp [h, hl]
  · rw [b_and, hm, mkm_hi _ i h1 h2]; rfl
theorem hm_beg2 {T : mT} {away : Int32} (hW : WF T) : 0 = mkm (fun k => (begT T away).2.1 k == 2) 16 := by
  symm
  rw [mkm_0]
  intro i hi
  have hv := (hW.2.2 i hi).1
  unfold begT
  dsimp only
  by_cases hl : i < (T.1 2).toNatClampNeg
  · rcases hv with h | h | h | h | h <;> simp [h, hl]
  · rcases hv with h | h | h | h | h <;> simp [h, hl]
theorem hm_beg3 {T : mT} {away : Int32} (hW : WF T) : hm T 3 ||| hm T 1 = mkm (fun k => (begT T away).2.1 k == 3) 16 := by
  refine mkm_eq (fun i hi => ?_) (fun i h1 h2 => ?_)
  · rw [b_or, bt_hm _ _ hi, bt_hm _ _ hi]
    have hv := (hW.2.2 i hi).1
    unfold begT
    dsimp only
    by_cases hl : i < (T.1 2).toNatClampNeg
    · rcases hv with h | h | h | h | h <;> simp [h, hl]
    · rcases hv with h | h | h | h | h <;> simp [h, hl]
  · rw [b_or, hm, mkm_hi _ i h1 h2, hm, mkm_hi _ i h1 h2]; rfl
theorem hm_beg4 {T : mT} {away : Int32} {n : Nat} (hn : (T.1 2).toNatClampNeg = n) (h16 : n ≤ 16) (e2 : T.1 2 = nI n) (hW : WF T) : hm T 4 &&& (((1 : Int32) <<< (T.1 2 &&& 31)) - 1) = mkm (fun k => (begT T away).2.1 k == 4) 16 := by
  rw [e2]
  refine mkm_eq (fun i hi => ?_) (fun i h1 h2 => ?_)
  · rw [b_and, bt_hm _ _ hi, bt_every n h16 i (by omega)]
    unfold begT
    dsimp only
    rw [hn]
    have hv := (hW.2.2 i hi).1
    by_cases hl : i < n
    · rcases hv with h | h | h | h | h <;> simp [h, hl]
    · rcases hv with h | h | h | h | h <;> simp [h, hl]
  · rw [b_and, hm, mkm_hi _ i h1 h2]; rfl
theorem t_X3_beginHike {G : mG} {d : Nat} {S : mS} {a : Nat} {T : mT} {away : Int32} (ha : kd a = 3) (hT : TP S a T) (hW : WF T) : Call G (d + 1) M_X3_beginHike [rv G a, .int away] S (fun v u => v = none ∧ TP u a (begT T away) ∧ FR a S u) := by
  refine call_of (lo := [(0, rv G a), (1, .int away)]) (by decide +kernel) (Nat.le_of_ble_eq_true rfl) rfl ?_
  refine r_iconst dX3_beginHike_0 (v := 0) rfl ?_
  refine r_istore_n (lo2 := [(0, _), (1, _), (2, _)]) dX3_beginHike_1 rfl (Nat.le_of_ble_eq_true rfl) [1, 2, 0] rfl ?_
  refine lp_X3_beginHike1 (T := T) ha (fun u hT hF => ?_) 16 0 S (by omega) (hT.te bg1_0) FR.rf
  obtain ⟨n, hn, e2, hn1, hn2⟩ := hW.nx
  obtain ⟨⟨a1, a2, a3, a4, a5, a6⟩, ⟨b1, b2, b3, b4⟩, c⟩ := id hT
  replace b1 : u a 3 = hm T 1 := b1
  replace b2 : u a 4 = hm T 2 := b2
  replace b3 : u a 5 = hm T 3 := b3
  replace b4 : u a 6 = hm T 4 := b4
  replace a2 : u a 1 = T.1 2 := a2
  refine r_aload_n dX3_beginHike_42 0 rfl ?_
  refine r_dup dX3_beginHike_43 rfl ?_
  refine r_getI (by first | assumption | rfl) f_X3_43 rfl rfl dX3_beginHike_44 ?_
  refine r_iconst dX3_beginHike_47 (v := 1) rfl ?_
  refine r_iadd dX3_beginHike_48 ?_
  refine r_putI (by first | assumption | rfl) f_X3_43 rfl rfl rfl rfl dX3_beginHike_49 ?_
  refine r_aload_n dX3_beginHike_52 0 rfl ?_
  refine r_dup dX3_beginHike_53 rfl ?_
  refine r_getI (by first | assumption | rfl) f_X3_46 rfl rfl dX3_beginHike_54 ?_
  refine r_aload_n dX3_beginHike_57 0 rfl ?_
  refine r_getI (by first | assumption | rfl) f_X3_28 rfl rfl dX3_beginHike_58 ?_
  refine r_callSiF (As := [_]) c_J6_bitCount_0f7a4 l_X3_70 rfl rfl rfl (Nat.le_of_ble_eq_true rfl) dX3_beginHike_61 t_J6_bitCount_0f7a4 ?_
  refine r_iadd dX3_beginHike_64 ?_
  refine r_putI (by first | assumption | rfl) f_X3_46 rfl rfl rfl rfl dX3_beginHike_65 ?_
  refine r_aload_n dX3_beginHike_68 0 rfl ?_
  refine r_dup dX3_beginHike_69 rfl ?_
  refine r_getI (by first | assumption | rfl) f_X3_34 rfl rfl dX3_beginHike_70 ?_
  refine r_aload_n dX3_beginHike_73 0 rfl ?_
  refine r_getI (by first | assumption | rfl) f_X3_28 rfl rfl dX3_beginHike_74 ?_
  refine r_ior dX3_beginHike_77 ?_
  refine r_putI (by first | assumption | rfl) f_X3_34 rfl rfl rfl rfl dX3_beginHike_78 ?_
  refine r_aload_n dX3_beginHike_81 0 rfl ?_
  refine r_iconst dX3_beginHike_82 (v := 1) rfl ?_
  refine r_aload_n dX3_beginHike_83 0 rfl ?_
  refine r_getI (by first | assumption | rfl) f_X3_25 rfl rfl dX3_beginHike_84 ?_
  refine r_isub dX3_beginHike_87 ?_
  refine r_putI (by first | assumption | rfl) f_X3_25 rfl rfl rfl rfl dX3_beginHike_88 ?_
  refine r_aload_n dX3_beginHike_91 0 rfl ?_
  refine r_aload_n dX3_beginHike_92 0 rfl ?_
  refine r_getI (by first | assumption | rfl) f_X3_22 rfl rfl dX3_beginHike_93 ?_
  refine r_putI (by first | assumption | rfl) f_X3_18 rfl rfl rfl rfl dX3_beginHike_96 ?_
  refine r_aload_n dX3_beginHike_99 0 rfl ?_
  refine r_dup dX3_beginHike_100 rfl ?_
  refine r_getI (by first | assumption | rfl) f_X3_37 rfl rfl dX3_beginHike_101 ?_
  refine r_aload_n dX3_beginHike_104 0 rfl ?_
  refine r_callViF (As := []) c_X3_everyone (by first | assumption | rfl) l_X3_63 rfl rfl rfl (Nat.le_of_ble_eq_true rfl) dX3_beginHike_105 (t_X3_everyone ha) ?_
  refine r_iand dX3_beginHike_108 ?_
  refine r_putI (by first | assumption | rfl) f_X3_37 rfl rfl rfl rfl dX3_beginHike_109 ?_
  refine r_aload_n dX3_beginHike_112 0 rfl ?_
  refine r_iconst dX3_beginHike_113 (v := 0) rfl ?_
  refine r_putI (by first | assumption | rfl) f_X3_40 rfl rfl rfl rfl dX3_beginHike_114 ?_
  refine r_aload_n dX3_beginHike_117 0 rfl ?_
  refine r_aload_n dX3_beginHike_118 0 rfl ?_
  refine r_getI (by first | assumption | rfl) f_X3_31 rfl rfl dX3_beginHike_119 ?_
  refine r_aload_n dX3_beginHike_122 0 rfl ?_
  refine r_callViF (As := []) c_X3_everyone (by first | assumption | rfl) l_X3_63 rfl rfl rfl (Nat.le_of_ble_eq_true rfl) dX3_beginHike_123 (t_X3_everyone ha) ?_
  refine r_iand dX3_beginHike_126 ?_
  refine r_putI (by first | assumption | rfl) f_X3_28 rfl rfl rfl rfl dX3_beginHike_127 ?_
  refine r_aload_n dX3_beginHike_130 0 rfl ?_
  refine r_iconst dX3_beginHike_131 (v := 0) rfl ?_
  refine r_putI (by first | assumption | rfl) f_X3_31 rfl rfl rfl rfl dX3_beginHike_132 ?_
  refine at_gen (fun w hw => ?_)
  have hF2 : FR a S w := by rw [hw]; exact hF.up0.up0.up0.up0.up0.up0.up0.up0.up0
  have hT2 : TP w a (bg2 T away) := by
    refine TP.sc hT ?_ ?_ ?_ ?_ ?_ ?_ ?_ ?_ ?_ ?_ ?_ ?_ rfl <;> rw [hw] <;> simp only [up1, upd, reduceIte, Nat.reduceEqDiff, ap3, ap4]
    · exact a2
    · exact a2
    · rw [a3]; rfl
    · rfl
    · rw [a5]; rfl
    · rw [a6, b1, bc_ok (m := hm T 1) (mkm_hi _)]; rfl
    · rw [b2, a2]; exact hm_beg1 (away := away) hn hn2 e2 hW
    · exact hm_beg2 (T := T) (away := away) hW
    · rw [b1, b3]; exact hm_beg3 (away := away) hW
    · rw [b4, a2]; exact hm_beg4 (away := away) hn hn2 e2 hW
  have es : w a 0 = nI n := hT2.1.1.trans e2
  clear hw
  refine r_aload_n dX3_beginHike_135 0 rfl ?_
  refine r_getI (by first | assumption | rfl) f_X3_18 rfl rfl dX3_beginHike_136 ?_
  refine r_istore_n (lo2 := [(0, _), (1, _), (2, _)]) dX3_beginHike_139 rfl (Nat.le_of_ble_eq_true rfl) [1, 2, 0] rfl ?_
  rw [es]
  exact lp_X3_beginHike2 ha hW (fun u hT hF => ⟨rfl, hT, hF⟩) (16 - n) n _ (by omega) (by omega) (hT2.te (bg3_0 hn.symm)) hF2
theorem tk_in {u w : mS} {a j : Nat} {T : mT} {c : Prop} [Decidable c] (hj : j < 16) (h : TP u a (setH T j 0)) (h1 : c → w = up1 u a (upd (u a) 3 (u a 3 ||| ((1 : Int32) <<< (nI j &&& 31))))) (h2 : ¬ c → w = up1 u a (upd (u a) 4 (u a 4 ||| ((1 : Int32) <<< (nI j &&& 31))))) : TP w a (setH T j (if c then 1 else 2)) := by
  obtain ⟨⟨a1, a2, a3, a4, a5, a6⟩, ⟨b1, b2, b3, b4⟩, c1⟩ := id h
  by_cases z : c
  · rw [h1 z, if_pos z]
    refine TP.sc h ?_ ?_ ?_ ?_ ?_ ?_ ?_ ?_ ?_ ?_ ?_ ?_ rfl <;> simp only [up1, upd, reduceIte, Nat.reduceEqDiff, ap3, ap4]
    · exact a1
    · exact a2
    · exact a3
    · exact a4
    · exact a5
    · exact a6
    · rw [b1]; exact set_in T hj
    · rw [b2]; exact set_set T (by decide) hj
    · rw [b3]; exact set_set T (by decide) hj
    · rw [b4]; exact set_set T (by decide) hj
  · rw [h2 z, if_neg z]
    refine TP.sc h ?_ ?_ ?_ ?_ ?_ ?_ ?_ ?_ ?_ ?_ ?_ ?_ rfl <;> simp only [up1, upd, reduceIte, Nat.reduceEqDiff, ap3, ap4]
    · exact a1
    · exact a2
    · exact a3
    · exact a4
    · exact a5
    · exact a6
    · rw [b1]; exact set_set T (by decide) hj
    · rw [b2]; exact set_in T hj
    · rw [b3]; exact set_set T (by decide) hj
    · rw [b4]; exact set_set T (by decide) hj
theorem opn_f {T : mT} {away : Int32} {n : Nat} (h : ¬ canO T = true) : opnN n T away = (0, T) := by
  cases n with
  | zero => rfl
  | succ n => rw [opnN, if_neg h]
theorem lp_X3_openGate {G : mG} {d : Nat} {S0 : mS} {a : Nat} {away : Int32} {Q : Option Int32 → mS → Prop} (ha : kd a = 3) : ∀ n i S (T : mT), n + i = 3 → TP S a T → WF T → FR a S0 S → (∀ u, TP u a (opnN n T away).2 → FR a S0 u → Q (some (nI i + (opnN n T away).1)) u) → At G (d + 2) M_X3_openGate Q 2 [(0, rv G a), (1, .int away), (2, .int (nI i))] [] S := by
  intro n
  induction n with
  | zero =>
    intro i S T hi hT hW hF hQ
    obtain rfl : i = 3 := by omega
    refine r_iload_n dX3_openGate_2 2 rfl ?_
    refine r_iconst dX3_openGate_3 (v := 3) rfl ?_
    refine r_icmp_ge dX3_openGate_4 (tgt := 32) (by decide) (fun h4 => ?_) (fun h4 => ?_)
    · --t
      refine r_iload_n dX3_openGate_32 2 rfl ?_
      refine r_iret rfl dX3_openGate_33 ?_
      have h1 := hQ _ hT hF
      rw [show nI 3 + (opnN 0 T away).1 = nI 3 by show nI 3 + 0 = nI 3; decide] at h1
      exact h1
    · --f
      exact absurd (show (3 : Int32) ≤ nI 3 by decide) h4
  | succ n ih =>
    intro i S T hi hT hW hF hQ
    have hi3 : i < 3 := by omega
    have stop : ¬ canO T = true → Q (some (nI i)) S := fun h => by
      have h1 := hQ S (by rw [opn_f h]; exact hT) hF
      rw [opn_f h] at h1
      rw [show nI i + (0 : Int32) = nI i from Int32.add_zero _] at h1
      exact h1
    refine r_iload_n dX3_openGate_2 2 rfl ?_
    refine r_iconst dX3_openGate_3 (v := 3) rfl ?_
    refine r_icmp_ge dX3_openGate_4 (tgt := 32) (by decide) (fun h4 => ?_) (fun h4 => ?_)
    · --t
      exact absurd h4 (nI_ge (b := 3) hi3 (by decide))
    · --f
      refine r_aload_n dX3_openGate_7 0 rfl ?_
      refine r_getI (by first | assumption | rfl) f_X3_28 rfl rfl dX3_openGate_8 ?_
      refine r_if_eq dX3_openGate_11 (tgt := 32) (by decide) (fun h11 => ?_) (fun h11 => ?_)
      · --t
        refine r_iload_n dX3_openGate_32 2 rfl ?_
        refine r_iret rfl dX3_openGate_33 ?_
        exact stop (by simp only [canO]; first | (rw [hT.2.1.1] at h11; simp [h11]; done) | simp [h18])
      · --f
        refine r_aload_n dX3_openGate_14 0 rfl ?_
        refine r_callViF (As := []) c_X3_waitedFor (by first | assumption | rfl) l_X3_67 rfl rfl rfl (Nat.le_of_ble_eq_true rfl) dX3_openGate_15 (t_X3_waitedFor ha hT hW) ?_
        refine r_if_ne dX3_openGate_18 (tgt := 32) (by decide) (fun h18 => ?_) (fun h18 => ?_)
        · --t
          refine r_iload_n dX3_openGate_32 2 rfl ?_
          refine r_iret rfl dX3_openGate_33 ?_
          exact stop (by simp only [canO]; first | (rw [hT.2.1.1] at h11; simp [h11]; done) | simp [h18])
        · --f
          refine r_aload_n dX3_openGate_21 0 rfl ?_
          refine r_iload_n dX3_openGate_22 1 rfl ?_
          refine r_callVv (As := [_]) c_X3_beginHike (by first | assumption | rfl) l_X3_86 rfl rfl rfl (Nat.le_of_ble_eq_true rfl) dX3_openGate_23 (t_X3_beginHike ha hT hW) (fun u23 q23 => ?_)
          obtain ⟨-, hT2, hF2⟩ := q23
          refine r_iinc (lo2 := [(0, _), (1, _), (2, _)]) dX3_openGate_26 2 rfl (w := 1) rfl (Nat.le_of_ble_eq_true rfl) [1, 2, 0] rfl ?_
          refine r_goto dX3_openGate_29 (tgt := 2) (by decide) ?_
          rw [nI_1]
          rw [hT.2.1.1] at h11
          have hc : canO T = true := by simp only [canO]; simp [h11, h18]
          have e1 : opnN (n + 1) T away = ((opnN n (begT T away) away).1 + 1, (opnN n (begT T away) away).2) := by rw [opnN, if_pos hc]
          refine ih (i + 1) _ (begT T away) (by omega) hT2 (wf_beg hW away) (hF.tr hF2) (fun u hTu hFu => ?_)
          have h1 := hQ u (by rw [e1]; exact hTu) hFu
          rw [e1] at h1
          rw [show nI i + ((opnN n (begT T away) away).1 + 1) = nI (i + 1) + (opnN n (begT T away) away).1 by rw [← nI_1, Int32.add_assoc, Int32.add_comm 1]] at h1
          exact h1
theorem t_X3_openGate {G : mG} {d : Nat} {S : mS} {a : Nat} {T : mT} {away : Int32} (ha : kd a = 3) (hT : TP S a T) (hW : WF T) : Call G (d + 2) M_X3_openGate [rv G a, .int away] S (fun v u => v = some (opnN 3 T away).1 ∧ TP u a (opnN 3 T away).2 ∧ FR a S u) := by
  refine call_of (lo := [(0, rv G a), (1, .int away)]) (by decide +kernel) (Nat.le_of_ble_eq_true rfl) rfl ?_
  refine r_iconst dX3_openGate_0 (v := 0) rfl ?_
  refine r_istore_n (lo2 := [(0, _), (1, _), (2, _)]) dX3_openGate_1 rfl (Nat.le_of_ble_eq_true rfl) [1, 2, 0] rfl ?_
  refine lp_X3_openGate ha 3 0 S T (by omega) hT hW FR.rf (fun u hT hF => ⟨?_, hT, hF⟩)
  rw [show nI 0 + (opnN 3 T away).1 = (opnN 3 T away).1 from Int32.zero_add _]
theorem t_X3_takeIn {G : mG} {d : Nat} {S : mS} {a j : Nat} {T : mT} {col away : Int32} (ha : kd a = 3) (hj : j < tsz T) (hT : TP S a T) (hW : WF T) : Call G (d + 3) M_X3_takeIn [rv G a, .int (nI j), .int col, .int away] S (fun v u => v = some (opnN 3 (setH T j (if col = T.1 1 then 1 else 2)) away).1 ∧ TP u a (opnN 3 (setH T j (if col = T.1 1 then 1 else 2)) away).2 ∧ FR a S u) := by
  refine call_of (lo := [(0, rv G a), (1, .int (nI j)), (2, .int col), (3, .int away)]) (by decide +kernel) (Nat.le_of_ble_eq_true rfl) rfl ?_
  have hj16 : j < 16 := by obtain ⟨s, h1, h2, h3, h4⟩ := hW.sz; omega
  refine r_aload_n dX3_takeIn_0 0 rfl ?_
  refine r_iload_n dX3_takeIn_1 1 rfl ?_
  refine r_callVv (As := [_]) c_X3_bringHome (by first | assumption | rfl) l_X3_76 rfl rfl rfl (Nat.le_of_ble_eq_true rfl) dX3_takeIn_2 (t_X3_bringHome ha hj16 hT) (fun u2 q2 => ?_)
  obtain ⟨-, hT1, hF1⟩ := q2
  refine r_iload_n dX3_takeIn_5 2 rfl ?_
  refine r_aload_n dX3_takeIn_6 0 rfl ?_
  refine r_getI (by first | assumption | rfl) f_X3_25 rfl rfl dX3_takeIn_7 ?_
  refine r_icmp_ne dX3_takeIn_10 (tgt := 28) (by decide) (fun h10 => ?_) (fun h10 => ?_)
  · --t
    refine r_aload_n dX3_takeIn_28 0 rfl ?_
    refine r_dup dX3_takeIn_29 rfl ?_
    refine r_getI (by first | assumption | rfl) f_X3_31 rfl rfl dX3_takeIn_30 ?_
    refine r_iconst dX3_takeIn_33 (v := 1) rfl ?_
    refine r_iload_n dX3_takeIn_34 1 rfl ?_
    refine r_ishl dX3_takeIn_35 ?_
    refine r_ior dX3_takeIn_36 ?_
    refine r_putI (by first | assumption | rfl) f_X3_31 rfl rfl rfl rfl dX3_takeIn_37 ?_
    refine at_gen (fun w hw => ?_)
    have hx : (col = T.1 1 → w = up1 u2 a (upd (u2 a) 3 (u2 a 3 ||| ((1 : Int32) <<< (nI j &&& 31))))) ∧ (¬ col = T.1 1 → w = up1 u2 a (upd (u2 a) 4 (u2 a 4 ||| ((1 : Int32) <<< (nI j &&& 31))))) := by
      rw [hT1.1.2.2.1] at h10
      have h10' : _ := h10
      exact ⟨fun z => by first | exact hw | exact absurd z h10', fun z => by first | exact hw | exact absurd h10' z | exact absurd (Classical.not_not.mp h10') z⟩
    have hW2 : WF (setH T j (if col = T.1 1 then 1 else 2)) := wf_set hW hj (by by_cases z : col = T.1 1 <;> simp [z])
    have hT2 : TP w a (setH T j (if col = T.1 1 then 1 else 2)) := tk_in hj16 hT1 hx.1 hx.2
    have hF2 : FR a S w := by rw [hw]; exact hF1.up0
    clear hw hx
    refine r_aload_n dX3_takeIn_40 0 rfl ?_
    refine r_iload_n dX3_takeIn_41 3 rfl ?_
    refine r_callVi (As := [_]) c_X3_openGate (by first | assumption | rfl) l_X3_80 rfl rfl rfl (Nat.le_of_ble_eq_true rfl) dX3_takeIn_42 (t_X3_openGate ha hT2 hW2) (fun r42 u42 q42 => ?_)
    obtain ⟨h3, hT3, hF3⟩ := q42
    cases h3
    refine r_iret rfl dX3_takeIn_45 ?_
    exact ⟨rfl, hT3, hF2.tr hF3⟩
  · --f
    refine r_aload_n dX3_takeIn_13 0 rfl ?_
    refine r_dup dX3_takeIn_14 rfl ?_
    refine r_getI (by first | assumption | rfl) f_X3_28 rfl rfl dX3_takeIn_15 ?_
    refine r_iconst dX3_takeIn_18 (v := 1) rfl ?_
    refine r_iload_n dX3_takeIn_19 1 rfl ?_
    refine r_ishl dX3_takeIn_20 ?_
    refine r_ior dX3_takeIn_21 ?_
    refine r_putI (by first | assumption | rfl) f_X3_28 rfl rfl rfl rfl dX3_takeIn_22 ?_
    refine r_goto dX3_takeIn_25 (tgt := 40) (by decide) ?_
    refine at_gen (fun w hw => ?_)
    have hx : (col = T.1 1 → w = up1 u2 a (upd (u2 a) 3 (u2 a 3 ||| ((1 : Int32) <<< (nI j &&& 31))))) ∧ (¬ col = T.1 1 → w = up1 u2 a (upd (u2 a) 4 (u2 a 4 ||| ((1 : Int32) <<< (nI j &&& 31))))) := by
      rw [hT1.1.2.2.1] at h10
      have h10' : _ := h10
      exact ⟨fun z => by first | exact hw | exact absurd z h10', fun z => by first | exact hw | exact absurd h10' z | exact absurd (Classical.not_not.mp h10') z⟩
    have hW2 : WF (setH T j (if col = T.1 1 then 1 else 2)) := wf_set hW hj (by by_cases z : col = T.1 1 <;> simp [z])
    have hT2 : TP w a (setH T j (if col = T.1 1 then 1 else 2)) := tk_in hj16 hT1 hx.1 hx.2
    have hF2 : FR a S w := by rw [hw]; exact hF1.up0
    clear hw hx
    refine r_aload_n dX3_takeIn_40 0 rfl ?_
    refine r_iload_n dX3_takeIn_41 3 rfl ?_
    refine r_callVi (As := [_]) c_X3_openGate (by first | assumption | rfl) l_X3_80 rfl rfl rfl (Nat.le_of_ble_eq_true rfl) dX3_takeIn_42 (t_X3_openGate ha hT2 hW2) (fun r42 u42 q42 => ?_)
    obtain ⟨h3, hT3, hF3⟩ := q42
    cases h3
    refine r_iret rfl dX3_takeIn_45 ?_
    exact ⟨rfl, hT3, hF2.tr hF3⟩
end
section
/-! the class's Troop: a minute, beginning, copying -/
theorem or0_l {x y : Int32} (h : x ||| y = 0) : x = 0 := by
  refine b_ext fun i hi => ?_
  have := b_or x y i
  rw [h, b_0] at this
  rw [b_0]
  cases hx : bt x i
  · rfl
  · rw [hx] at this; simp at this
theorem or0_r {x y : Int32} (h : x ||| y = 0) : y = 0 := by
  rw [Int32.or_comm] at h
  exact or0_l h
theorem lp_X3_passMinute {G : mG} {d : Nat} {S0 : mS} {a : Nat} {T : mT} {pat away : Int32} {Q : Option Int32 → mS → Prop} (ha : kd a = 3) (hW : WF T) (hx : ∀ u, TP u a (wlkT T pat 16) → FR a S0 u → At G (d + 3) M_X3_passMinute Q 88 [(0, rv G a), (1, .int pat), (2, .int away)] [] u) : ∀ n k S, n + k = 16 → TP S a (wlkT T pat k) → FR a S0 S → At G (d + 3) M_X3_passMinute Q 14 [(0, rv G a), (1, .int pat), (2, .int away), (3, .int (nI k))] [] S := by
  obtain ⟨k1, k2, l1, l2, f1, f2⟩ := kdT ha
  intro n
  induction n with
  | zero =>
    intro k S hk hT hF
    obtain rfl : k = 16 := by omega
    refine r_iload_n dX3_passMinute_14 3 rfl ?_
    refine r_bipush dX3_passMinute_15 (v := 16) (by decide +kernel) ?_
    refine r_icmp_ge dX3_passMinute_17 (tgt := 88) (by decide) (fun h17 => ?_) (fun h17 => ?_)
    · --t
      exact r_sub [0, 1, 2] rfl (hx _ hT hF)
    · --f
      exact absurd (show (16 : Int32) ≤ nI 16 by decide) h17
  | succ n ih =>
    intro k S hk hT hF
    have hk16 : k < 16 := by omega
    have hk32 : k < 32 := by omega
    have hl1 : k < ln (a + 1) := by rw [l1]; exact hk16
    have hl2 : k < ln (a + 2) := by rw [l2]; exact hk16
    have hWk : WF (wlkT T pat k) := wf_wlk hW pat
    have eb3 : bt (S a 5) k = (T.2.1 k == 3) := by rw [hT.2.1.2.2.1, bt_hm _ _ hk16, wlk_hw]
    have eb4 : bt (S a 6) k = (T.2.1 k == 4) := by rw [hT.2.1.2.2.2, bt_hm _ _ hk16, wlk_hw]
    have e1 : S (a + 1) k = T.2.2.1 k := by rw [(hT.2.2 k hk16).1, wlk_fr]
    have e2 : up1 S (a + 1) (upd (S (a + 1)) k (S (a + 1) k + 1)) (a + 1) k = T.2.2.1 k + 1 := by rw [up1_s, upd, if_pos rfl, e1]
    refine r_iload_n dX3_passMinute_14 3 rfl ?_
    refine r_bipush dX3_passMinute_15 (v := 16) (by decide +kernel) ?_
    refine r_icmp_ge dX3_passMinute_17 (tgt := 88) (by decide) (fun h17 => ?_) (fun h17 => ?_)
    · --t
      exact absurd h17 (c16 hk16)
    · --f
      refine r_aload_n dX3_passMinute_20 0 rfl ?_
      refine r_getI (by first | assumption | rfl) f_X3_34 rfl rfl dX3_passMinute_21 ?_
      refine r_iload_n dX3_passMinute_24 3 rfl ?_
      refine r_callSiF (As := [_, _]) c_X3_isIn l_X3_59 rfl rfl rfl (Nat.le_of_ble_eq_true rfl) dX3_passMinute_25 (t_X3_isIn rfl hk32) ?_
      refine r_if_eq dX3_passMinute_28 (tgt := 39) (by decide) (fun h28 => ?_) (fun h28 => ?_)
      · --t
        refine r_aload_n dX3_passMinute_39 0 rfl ?_
        refine r_getI (by first | assumption | rfl) f_X3_37 rfl rfl dX3_passMinute_40 ?_
        refine r_iload_n dX3_passMinute_43 3 rfl ?_
        refine r_callSiF (As := [_, _]) c_X3_isIn l_X3_59 rfl rfl rfl (Nat.le_of_ble_eq_true rfl) dX3_passMinute_44 (t_X3_isIn rfl hk32) ?_
        refine r_if_eq dX3_passMinute_47 (tgt := 82) (by decide) (fun h47 => ?_) (fun h47 => ?_)
        · --t
          refine r_iinc (lo2 := [(0, _), (1, _), (2, _), (3, _)]) dX3_passMinute_82 3 rfl (w := 1) rfl (Nat.le_of_ble_eq_true rfl) [1, 2, 3, 0] rfl ?_
          refine r_goto dX3_passMinute_85 (tgt := 14) (by decide) ?_
          rw [nI_1]
          refine ih (k + 1) _ (by omega) ?_ ?_
          · first
              | (rw [eb3, bI_0, beq_eq_false_iff_ne, ne_eq, Classical.not_not] at h28; exact hT2.te (wlk_3 h28))
              | (rw [eb3, bI_0, beq_eq_false_iff_ne] at h28; rw [eb4, bI_0, beq_eq_false_iff_ne] at h47; exact hT.te (wlk_n h28 h47))
              | (rw [eb4, bI_0, beq_eq_false_iff_ne, ne_eq, Classical.not_not] at h47; rw [e2] at h67
                 have h1 := hT.fr (j := k) (S (a + 1) k + 1)
                 refine h1.te ?_
                 have h2 := wlk_4 (pat := pat) h47
                 rw [if_neg (Int32.not_lt.mpr h67)] at h2
                 rw [e1]
                 exact h2)
              | (rw [eb4, bI_0, beq_eq_false_iff_ne, ne_eq, Classical.not_not] at h47; rw [e2] at h67
                 have h1 := (hT.fr (j := k) (S (a + 1) k + 1)).struck (up1 S (a + 1) (upd (S (a + 1)) k (S (a + 1) k + 1)) a 7 ||| ((1 : Int32) <<< (nI k &&& 31)))
                 have h3 : up1 S (a + 1) (upd (S (a + 1)) k (S (a + 1) k + 1)) a 7 = (wlkT T pat k).1 5 := by rw [up1_n (by omega)]; exact hT.1.2.2.2.1
                 refine h1.te ?_
                 have h2 := wlk_4 (pat := pat) h47
                 rw [if_pos (Int32.not_le.mp h67)] at h2
                 rw [h3, e1]
                 exact h2)
          · first | exact hF.tr hF2 | exact hF.up1'.up0 | exact hF.up1' | exact hF
        · --f
          refine r_aload_n dX3_passMinute_50 0 rfl ?_
          refine r_getR (by first | assumption | rfl) f_X3_9 rfl rfl dX3_passMinute_51 (by first | assumption | rfl) ?_
          refine r_iload_n dX3_passMinute_54 3 rfl ?_
          refine r_dup2 dX3_passMinute_55 rfl rfl ?_
          refine r_iald (j := _) (by first | assumption | rfl) (by first | assumption | rfl) (by first | assumption | decide) dX3_passMinute_56 ?_
          refine r_iconst dX3_passMinute_57 (v := 1) rfl ?_
          refine r_iadd dX3_passMinute_58 ?_
          refine r_iast (j := _) (by first | assumption | rfl) (by first | assumption | rfl) (by first | assumption | decide) dX3_passMinute_59 ?_
          refine r_aload_n dX3_passMinute_60 0 rfl ?_
          refine r_getR (by first | assumption | rfl) f_X3_9 rfl rfl dX3_passMinute_61 (by first | assumption | rfl) ?_
          refine r_iload_n dX3_passMinute_64 3 rfl ?_
          refine r_iald (j := _) (by first | assumption | rfl) (by first | assumption | rfl) (by first | assumption | decide) dX3_passMinute_65 ?_
          refine r_iload_n dX3_passMinute_66 1 rfl ?_
          refine r_icmp_le dX3_passMinute_67 (tgt := 82) (by decide) (fun h67 => ?_) (fun h67 => ?_)
          · --t
            refine r_iinc (lo2 := [(0, _), (1, _), (2, _), (3, _)]) dX3_passMinute_82 3 rfl (w := 1) rfl (Nat.le_of_ble_eq_true rfl) [1, 2, 3, 0] rfl ?_
            refine r_goto dX3_passMinute_85 (tgt := 14) (by decide) ?_
            rw [nI_1]
            refine ih (k + 1) _ (by omega) ?_ ?_
            · first
                | (rw [eb3, bI_0, beq_eq_false_iff_ne, ne_eq, Classical.not_not] at h28; exact hT2.te (wlk_3 h28))
                | (rw [eb3, bI_0, beq_eq_false_iff_ne] at h28; rw [eb4, bI_0, beq_eq_false_iff_ne] at h47; exact hT.te (wlk_n h28 h47))
                | (rw [eb4, bI_0, beq_eq_false_iff_ne, ne_eq, Classical.not_not] at h47; rw [e2] at h67
                   have h1 := hT.fr (j := k) (S (a + 1) k + 1)
                   refine h1.te ?_
                   have h2 := wlk_4 (pat := pat) h47
                   rw [if_neg (Int32.not_lt.mpr h67)] at h2
                   rw [e1]
                   exact h2)
                | (rw [eb4, bI_0, beq_eq_false_iff_ne, ne_eq, Classical.not_not] at h47; rw [e2] at h67
                   have h1 := (hT.fr (j := k) (S (a + 1) k + 1)).struck (up1 S (a + 1) (upd (S (a + 1)) k (S (a + 1) k + 1)) a 7 ||| ((1 : Int32) <<< (nI k &&& 31)))
                   have h3 : up1 S (a + 1) (upd (S (a + 1)) k (S (a + 1) k + 1)) a 7 = (wlkT T pat k).1 5 := by rw [up1_n (by omega)]; exact hT.1.2.2.2.1
                   refine h1.te ?_
                   have h2 := wlk_4 (pat := pat) h47
                   rw [if_pos (Int32.not_le.mp h67)] at h2
                   rw [h3, e1]
                   exact h2)
            · first | exact hF.tr hF2 | exact hF.up1'.up0 | exact hF.up1' | exact hF
          · --f
            refine r_aload_n dX3_passMinute_70 0 rfl ?_
            refine r_dup dX3_passMinute_71 rfl ?_
            refine r_getI (by first | assumption | rfl) f_X3_40 rfl rfl dX3_passMinute_72 ?_
            refine r_iconst dX3_passMinute_75 (v := 1) rfl ?_
            refine r_iload_n dX3_passMinute_76 3 rfl ?_
            refine r_ishl dX3_passMinute_77 ?_
            refine r_ior dX3_passMinute_78 ?_
            refine r_putI (by first | assumption | rfl) f_X3_40 rfl rfl rfl rfl dX3_passMinute_79 ?_
            refine r_iinc (lo2 := [(0, _), (1, _), (2, _), (3, _)]) dX3_passMinute_82 3 rfl (w := 1) rfl (Nat.le_of_ble_eq_true rfl) [1, 2, 3, 0] rfl ?_
            refine r_goto dX3_passMinute_85 (tgt := 14) (by decide) ?_
            rw [nI_1]
            refine ih (k + 1) _ (by omega) ?_ ?_
            · first
                | (rw [eb3, bI_0, beq_eq_false_iff_ne, ne_eq, Classical.not_not] at h28; exact hT2.te (wlk_3 h28))
                | (rw [eb3, bI_0, beq_eq_false_iff_ne] at h28; rw [eb4, bI_0, beq_eq_false_iff_ne] at h47; exact hT.te (wlk_n h28 h47))
                | (rw [eb4, bI_0, beq_eq_false_iff_ne, ne_eq, Classical.not_not] at h47; rw [e2] at h67
                   have h1 := hT.fr (j := k) (S (a + 1) k + 1)
                   refine h1.te ?_
                   have h2 := wlk_4 (pat := pat) h47
                   rw [if_neg (Int32.not_lt.mpr h67)] at h2
                   rw [e1]
                   exact h2)
                | (rw [eb4, bI_0, beq_eq_false_iff_ne, ne_eq, Classical.not_not] at h47; rw [e2] at h67
                   have h1 := (hT.fr (j := k) (S (a + 1) k + 1)).struck (up1 S (a + 1) (upd (S (a + 1)) k (S (a + 1) k + 1)) a 7 ||| ((1 : Int32) <<< (nI k &&& 31)))
                   have h3 : up1 S (a + 1) (upd (S (a + 1)) k (S (a + 1) k + 1)) a 7 = (wlkT T pat k).1 5 := by rw [up1_n (by omega)]; exact hT.1.2.2.2.1
                   refine h1.te ?_
                   have h2 := wlk_4 (pat := pat) h47
                   rw [if_pos (Int32.not_le.mp h67)] at h2
                   rw [h3, e1]
                   exact h2)
            · first | exact hF.tr hF2 | exact hF.up1'.up0 | exact hF.up1' | exact hF
      · --f
        refine r_aload_n dX3_passMinute_31 0 rfl ?_
        refine r_iload_n dX3_passMinute_32 3 rfl ?_
        refine r_callVv (As := [_]) c_X3_walkOn (by first | assumption | rfl) l_X3_83 rfl rfl rfl (Nat.le_of_ble_eq_true rfl) dX3_passMinute_33 (t_X3_walkOn ha hk16 hT hWk) (fun u33 q33 => ?_)
        obtain ⟨-, hT2, hF2⟩ := q33
        refine r_goto dX3_passMinute_36 (tgt := 82) (by decide) ?_
        refine r_iinc (lo2 := [(0, _), (1, _), (2, _), (3, _)]) dX3_passMinute_82 3 rfl (w := 1) rfl (Nat.le_of_ble_eq_true rfl) [1, 2, 3, 0] rfl ?_
        refine r_goto dX3_passMinute_85 (tgt := 14) (by decide) ?_
        rw [nI_1]
        refine ih (k + 1) _ (by omega) ?_ ?_
        · first
            | (rw [eb3, bI_0, beq_eq_false_iff_ne, ne_eq, Classical.not_not] at h28; exact hT2.te (wlk_3 h28))
            | (rw [eb3, bI_0, beq_eq_false_iff_ne] at h28; rw [eb4, bI_0, beq_eq_false_iff_ne] at h47; exact hT.te (wlk_n h28 h47))
            | (rw [eb4, bI_0, beq_eq_false_iff_ne, ne_eq, Classical.not_not] at h47; rw [e2] at h67
               have h1 := hT.fr (j := k) (S (a + 1) k + 1)
               refine h1.te ?_
               have h2 := wlk_4 (pat := pat) h47
               rw [if_neg (Int32.not_lt.mpr h67)] at h2
               rw [e1]
               exact h2)
            | (rw [eb4, bI_0, beq_eq_false_iff_ne, ne_eq, Classical.not_not] at h47; rw [e2] at h67
               have h1 := (hT.fr (j := k) (S (a + 1) k + 1)).struck (up1 S (a + 1) (upd (S (a + 1)) k (S (a + 1) k + 1)) a 7 ||| ((1 : Int32) <<< (nI k &&& 31)))
               have h3 : up1 S (a + 1) (upd (S (a + 1)) k (S (a + 1) k + 1)) a 7 = (wlkT T pat k).1 5 := by rw [up1_n (by omega)]; exact hT.1.2.2.2.1
               refine h1.te ?_
               have h2 := wlk_4 (pat := pat) h47
               rw [if_pos (Int32.not_le.mp h67)] at h2
               rw [h3, e1]
               exact h2)
        · first | exact hF.tr hF2 | exact hF.up1'.up0 | exact hF.up1' | exact hF
theorem t_X3_passMinute {G : mG} {d : Nat} {S : mS} {a : Nat} {T : mT} {pat away : Int32} (ha : kd a = 3) (hT : TP S a T) (hW : WF T) : Call G (d + 3) M_X3_passMinute [rv G a, .int pat, .int away] S (fun v u => v = some (minT T pat away).1 ∧ TP u a (minT T pat away).2 ∧ FR a S u) := by
  refine call_of (lo := [(0, rv G a), (1, .int pat), (2, .int away)]) (by decide +kernel) (Nat.le_of_ble_eq_true rfl) rfl ?_
  have fin : ∀ u, TP u a (wlkT T pat 16) → FR a S u → At G (d + 3) M_X3_passMinute (fun v u => v = some (minT T pat away).1 ∧ TP u a (minT T pat away).2 ∧ FR a S u) 88 [(0, rv G a), (1, .int pat), (2, .int away)] [] u := by
    intro u hTu hFu
    have hWu : WF (wlkT T pat 16) := wf_wlk hW pat
    refine r_aload_n dX3_passMinute_88 0 rfl ?_
    refine r_iload_n dX3_passMinute_89 2 rfl ?_
    refine r_callVi (As := [_]) c_X3_openGate (by first | assumption | rfl) l_X3_80 rfl rfl rfl (Nat.le_of_ble_eq_true rfl) dX3_passMinute_90 (t_X3_openGate ha hTu hWu) (fun r90 u90 q90 => ?_)
    obtain ⟨h3, hT3, hF3⟩ := q90
    cases h3
    refine r_iret rfl dX3_passMinute_93 ?_
    exact ⟨rfl, hT3, hFu.tr hF3⟩
  refine r_aload_n dX3_passMinute_0 0 rfl ?_
  refine r_getI (by first | assumption | rfl) f_X3_34 rfl rfl dX3_passMinute_1 ?_
  refine r_aload_n dX3_passMinute_4 0 rfl ?_
  refine r_getI (by first | assumption | rfl) f_X3_37 rfl rfl dX3_passMinute_5 ?_
  refine r_ior dX3_passMinute_8 ?_
  refine r_if_eq dX3_passMinute_9 (tgt := 88) (by decide) (fun h9 => ?_) (fun h9 => ?_)
  · --t
    rw [hT.2.1.2.2.1, hT.2.1.2.2.2] at h9
    have h3 : hm T 3 = 0 := or0_l h9
    have h4 : hm T 4 = 0 := or0_r h9
    exact fin S (hT.te (wlk_no h3 h4 16 (Nat.le_refl _))) FR.rf
  · --f
    refine r_iconst dX3_passMinute_12 (v := 0) rfl ?_
    refine r_istore_n (lo2 := [(0, _), (1, _), (2, _), (3, _)]) dX3_passMinute_13 rfl (Nat.le_of_ble_eq_true rfl) [1, 2, 3, 0] rfl ?_
    exact lp_X3_passMinute (T := T) ha hW fin 16 0 S (by omega) (hT.te wlk_0) FR.rf

theorem lp_X3_begin {G : mG} {d : Nat} {S0 : mS} {a : Nat} {x : Int32} {Q : Option Int32 → mS → Prop} (ha : kd a = 3) (hx : ∀ u, TP u a (newT x) → FR a S0 u → Q none u) : ∀ n k S, n + k = 16 → (S a 0 = x ∧ S a 1 = x ∧ S a 2 = 0 ∧ S a 7 = 0 ∧ S a 8 = 0 ∧ S a 9 = 0) → (S a 3 = 0 ∧ S a 4 = 0 ∧ S a 5 = 0 ∧ S a 6 = 0) → (∀ i, i < k → S (a + 1) i = 0 ∧ S (a + 2) i = 0) → FR a S0 S → At G d M_X3_begin Q 52 [(0, rv G a), (1, .int x), (2, .int (nI k))] [] S := by
  obtain ⟨k1, k2, l1, l2, f1, f2⟩ := kdT ha
  intro n
  induction n with
  | zero =>
    intro k S hk h1 h2 h3 hF
    obtain rfl : k = 16 := by omega
    refine r_iload_n dX3_begin_52 2 rfl ?_
    refine r_bipush dX3_begin_53 (v := 16) (by decide +kernel) ?_
    refine r_icmp_ge dX3_begin_55 (tgt := 78) (by decide) (fun h55 => ?_) (fun h55 => ?_)
    · --t
      refine r_vret rfl dX3_begin_78 ?_
      refine hx _ ⟨h1, ?_, fun i hi => h3 i hi⟩ hF
      refine ⟨h2.1.trans ?_, h2.2.1.trans ?_, h2.2.2.1.trans ?_, h2.2.2.2.trans ?_⟩ <;> exact ((mkm_0 _).mpr (fun k hk => by simp [newT])).symm
    · --f
      exact absurd (show (16 : Int32) ≤ nI 16 by decide) h55
  | succ n ih =>
    intro k S hk h1 h2 h3 hF
    have hk16 : k < 16 := by omega
    have hl1 : k < ln (a + 1) := by rw [l1]; exact hk16
    have hl2 : k < ln (a + 2) := by rw [l2]; exact hk16
    refine r_iload_n dX3_begin_52 2 rfl ?_
    refine r_bipush dX3_begin_53 (v := 16) (by decide +kernel) ?_
    refine r_icmp_ge dX3_begin_55 (tgt := 78) (by decide) (fun h55 => ?_) (fun h55 => ?_)
    · --t
      exact absurd h55 (c16 hk16)
    · --f
      refine r_aload_n dX3_begin_58 0 rfl ?_
      refine r_getR (by first | assumption | rfl) f_X3_9 rfl rfl dX3_begin_59 (by first | assumption | rfl) ?_
      refine r_iload_n dX3_begin_62 2 rfl ?_
      refine r_iconst dX3_begin_63 (v := 0) rfl ?_
      refine r_iast (j := _) (by first | assumption | rfl) (by first | assumption | rfl) (by first | assumption | decide) dX3_begin_64 ?_
      refine r_aload_n dX3_begin_65 0 rfl ?_
      refine r_getR (by first | assumption | rfl) f_X3_15 rfl rfl dX3_begin_66 (by first | assumption | rfl) ?_
      refine r_iload_n dX3_begin_69 2 rfl ?_
      refine r_iconst dX3_begin_70 (v := 0) rfl ?_
      refine r_iast (j := _) (by first | assumption | rfl) (by first | assumption | rfl) (by first | assumption | decide) dX3_begin_71 ?_
      refine r_iinc (lo2 := [(0, _), (1, _), (2, _)]) dX3_begin_72 2 rfl (w := 1) rfl (Nat.le_of_ble_eq_true rfl) [1, 2, 0] rfl ?_
      refine r_goto dX3_begin_75 (tgt := 52) (by decide) ?_
      rw [nI_1]
      refine ih (k + 1) _ (by omega) ?_ ?_ (fun i hi => ?_) hF.up1'.up2
      · simp only [up1, ap1, ap2, reduceIte]; exact h1
      · simp only [up1, ap1, ap2, reduceIte]; exact h2
      · simp only [up1, upd, ap5, ap6, reduceIte]
        by_cases e : i = k
        · subst e; simp
        · simp only [e, reduceIte]; exact h3 i (by omega)
theorem t_X3_begin {G : mG} {d : Nat} {S : mS} {a : Nat} {x : Int32} (ha : kd a = 3) : Call G d M_X3_begin [rv G a, .int x] S (fun v u => v = none ∧ TP u a (newT x) ∧ FR a S u) := by
  refine call_of (lo := [(0, rv G a), (1, .int x)]) (by decide +kernel) (Nat.le_of_ble_eq_true rfl) rfl ?_
  refine r_aload_n dX3_begin_0 0 rfl ?_
  refine r_iload_n dX3_begin_1 1 rfl ?_
  refine r_putI (by first | assumption | rfl) f_X3_18 rfl rfl rfl rfl dX3_begin_2 ?_
  refine r_aload_n dX3_begin_5 0 rfl ?_
  refine r_iload_n dX3_begin_6 1 rfl ?_
  refine r_putI (by first | assumption | rfl) f_X3_22 rfl rfl rfl rfl dX3_begin_7 ?_
  refine r_aload_n dX3_begin_10 0 rfl ?_
  refine r_iconst dX3_begin_11 (v := 0) rfl ?_
  refine r_putI (by first | assumption | rfl) f_X3_25 rfl rfl rfl rfl dX3_begin_12 ?_
  refine r_aload_n dX3_begin_15 0 rfl ?_
  refine r_iconst dX3_begin_16 (v := 0) rfl ?_
  refine r_putI (by first | assumption | rfl) f_X3_28 rfl rfl rfl rfl dX3_begin_17 ?_
  refine r_aload_n dX3_begin_20 0 rfl ?_
  refine r_iconst dX3_begin_21 (v := 0) rfl ?_
  refine r_putI (by first | assumption | rfl) f_X3_31 rfl rfl rfl rfl dX3_begin_22 ?_
  refine r_aload_n dX3_begin_25 0 rfl ?_
  refine r_iconst dX3_begin_26 (v := 0) rfl ?_
  refine r_putI (by first | assumption | rfl) f_X3_34 rfl rfl rfl rfl dX3_begin_27 ?_
  refine r_aload_n dX3_begin_30 0 rfl ?_
  refine r_iconst dX3_begin_31 (v := 0) rfl ?_
  refine r_putI (by first | assumption | rfl) f_X3_37 rfl rfl rfl rfl dX3_begin_32 ?_
  refine r_aload_n dX3_begin_35 0 rfl ?_
  refine r_iconst dX3_begin_36 (v := 0) rfl ?_
  refine r_putI (by first | assumption | rfl) f_X3_40 rfl rfl rfl rfl dX3_begin_37 ?_
  refine r_aload_n dX3_begin_40 0 rfl ?_
  refine r_iconst dX3_begin_41 (v := 0) rfl ?_
  refine r_putI (by first | assumption | rfl) f_X3_43 rfl rfl rfl rfl dX3_begin_42 ?_
  refine r_aload_n dX3_begin_45 0 rfl ?_
  refine r_iconst dX3_begin_46 (v := 0) rfl ?_
  refine r_putI (by first | assumption | rfl) f_X3_46 rfl rfl rfl rfl dX3_begin_47 ?_
  refine r_iconst dX3_begin_50 (v := 0) rfl ?_
  refine r_istore_n (lo2 := [(0, _), (1, _), (2, _)]) dX3_begin_51 rfl (Nat.le_of_ble_eq_true rfl) [1, 2, 0] rfl ?_
  refine at_gen (fun w hw => ?_)
  refine lp_X3_begin (S0 := S) ha (fun u h1 h2 => ⟨rfl, h1, h2⟩) 16 0 w (by omega) ?_ ?_ (fun i hi => absurd hi (by omega)) ?_
  · rw [hw]; simp only [up1, upd, reduceIte, Nat.reduceEqDiff]; exact ⟨trivial, trivial, trivial, trivial, trivial, trivial⟩
  · rw [hw]; simp only [up1, upd, reduceIte, Nat.reduceEqDiff]; exact ⟨trivial, trivial, trivial, trivial⟩
  · rw [hw]; exact FR.rf.up0.up0.up0.up0.up0.up0.up0.up0.up0.up0
theorem kdT2 {a b : Nat} (ha : kd a = 3) (hb : kd b = 3) (h : b ≠ a) : b ≠ a + 1 ∧ b ≠ a + 2 ∧ b + 1 ≠ a ∧ b + 1 ≠ a + 1 ∧ b + 1 ≠ a + 2 ∧ b + 2 ≠ a ∧ b + 2 ≠ a + 1 ∧ b + 2 ≠ a + 2 := by
  obtain ⟨k1, k2, -⟩ := kdT ha
  obtain ⟨g1, g2, -⟩ := kdT hb
  refine ⟨?_, ?_, ?_, ?_, ?_, ?_, ?_, ?_⟩ <;> intro e
  · rw [e] at hb; omega
  · rw [e] at hb; omega
  · rw [e] at g1; omega
  · omega
  · have : b = a + 1 := by omega
    rw [this] at hb; omega
  · rw [e] at g2; omega
  · have : a = b + 1 := by omega
    rw [this] at ha; omega
  · omega
theorem cpy16 {f g : Nat → Int32} {k : Nat} (h : k < 16) : va_cpy f g 0 0 16 k = f k := by rw [pk_cpy_in (Nat.zero_le _) (by omega)]; simp
theorem t_X3_copyFrom {G : mG} {d : Nat} {S : mS} {a b : Nat} {T : mT} (ha : kd a = 3) (hb : kd b = 3) (hab : b ≠ a) (hT : TP S b T) : Call G (d + 4) M_X3_copyFrom [rv G a, rv G b] S (fun v u => v = none ∧ TP u a T ∧ FR a S u) := by
  refine call_of (lo := [(0, rv G a), (1, rv G b)]) (by decide +kernel) (Nat.le_of_ble_eq_true rfl) rfl ?_
  obtain ⟨k1, k2, l1, l2, f1, f2⟩ := kdT ha
  obtain ⟨g1, g2, m1, m2, n1, n2⟩ := kdT hb
  obtain ⟨z1, z2, z3, z4, z5, z6, z7, z8⟩ := kdT2 ha hb hab
  obtain ⟨⟨a1, a2, a3, a4, a5, a6⟩, ⟨b1, b2, b3, b4⟩, c⟩ := hT
  refine r_aload_n dX3_copyFrom_0 0 rfl ?_
  refine r_aload_n dX3_copyFrom_1 1 rfl ?_
  refine r_getI (by first | assumption | rfl) f_X3_18 rfl rfl dX3_copyFrom_2 ?_
  refine r_putI (by first | assumption | rfl) f_X3_18 rfl rfl rfl rfl dX3_copyFrom_5 ?_
  refine r_aload_n dX3_copyFrom_8 0 rfl ?_
  refine r_aload_n dX3_copyFrom_9 1 rfl ?_
  refine r_getI (by first | assumption | rfl) f_X3_22 rfl rfl dX3_copyFrom_10 ?_
  refine r_putI (by first | assumption | rfl) f_X3_22 rfl rfl rfl rfl dX3_copyFrom_13 ?_
  refine r_aload_n dX3_copyFrom_16 0 rfl ?_
  refine r_aload_n dX3_copyFrom_17 1 rfl ?_
  refine r_getI (by first | assumption | rfl) f_X3_25 rfl rfl dX3_copyFrom_18 ?_
  refine r_putI (by first | assumption | rfl) f_X3_25 rfl rfl rfl rfl dX3_copyFrom_21 ?_
  refine r_aload_n dX3_copyFrom_24 0 rfl ?_
  refine r_aload_n dX3_copyFrom_25 1 rfl ?_
  refine r_getI (by first | assumption | rfl) f_X3_28 rfl rfl dX3_copyFrom_26 ?_
  refine r_putI (by first | assumption | rfl) f_X3_28 rfl rfl rfl rfl dX3_copyFrom_29 ?_
  refine r_aload_n dX3_copyFrom_32 0 rfl ?_
  refine r_aload_n dX3_copyFrom_33 1 rfl ?_
  refine r_getI (by first | assumption | rfl) f_X3_31 rfl rfl dX3_copyFrom_34 ?_
  refine r_putI (by first | assumption | rfl) f_X3_31 rfl rfl rfl rfl dX3_copyFrom_37 ?_
  refine r_aload_n dX3_copyFrom_40 0 rfl ?_
  refine r_aload_n dX3_copyFrom_41 1 rfl ?_
  refine r_getI (by first | assumption | rfl) f_X3_34 rfl rfl dX3_copyFrom_42 ?_
  refine r_putI (by first | assumption | rfl) f_X3_34 rfl rfl rfl rfl dX3_copyFrom_45 ?_
  refine r_aload_n dX3_copyFrom_48 0 rfl ?_
  refine r_aload_n dX3_copyFrom_49 1 rfl ?_
  refine r_getI (by first | assumption | rfl) f_X3_37 rfl rfl dX3_copyFrom_50 ?_
  refine r_putI (by first | assumption | rfl) f_X3_37 rfl rfl rfl rfl dX3_copyFrom_53 ?_
  refine r_aload_n dX3_copyFrom_56 0 rfl ?_
  refine r_aload_n dX3_copyFrom_57 1 rfl ?_
  refine r_getI (by first | assumption | rfl) f_X3_40 rfl rfl dX3_copyFrom_58 ?_
  refine r_putI (by first | assumption | rfl) f_X3_40 rfl rfl rfl rfl dX3_copyFrom_61 ?_
  refine r_aload_n dX3_copyFrom_64 0 rfl ?_
  refine r_aload_n dX3_copyFrom_65 1 rfl ?_
  refine r_getI (by first | assumption | rfl) f_X3_43 rfl rfl dX3_copyFrom_66 ?_
  refine r_putI (by first | assumption | rfl) f_X3_43 rfl rfl rfl rfl dX3_copyFrom_69 ?_
  refine r_aload_n dX3_copyFrom_72 0 rfl ?_
  refine r_aload_n dX3_copyFrom_73 1 rfl ?_
  refine r_getI (by first | assumption | rfl) f_X3_46 rfl rfl dX3_copyFrom_74 ?_
  refine r_putI (by first | assumption | rfl) f_X3_46 rfl rfl rfl rfl dX3_copyFrom_77 ?_
  refine r_aload_n dX3_copyFrom_80 1 rfl ?_
  refine r_getR (by first | assumption | rfl) f_X3_9 rfl rfl dX3_copyFrom_81 (by first | assumption | rfl) ?_
  refine r_iconst dX3_copyFrom_84 (v := 0) rfl ?_
  refine r_aload_n dX3_copyFrom_85 0 rfl ?_
  refine r_getR (by first | assumption | rfl) f_X3_9 rfl rfl dX3_copyFrom_86 (by first | assumption | rfl) ?_
  refine r_iconst dX3_copyFrom_89 (v := 0) rfl ?_
  refine r_bipush dX3_copyFrom_90 (v := 16) (by decide +kernel) ?_
  refine r_copy (sp := 0) (dp := 0) (n := 16) (by first | assumption | rfl) (by first | assumption | rfl) rfl rfl rfl (by rw [m1]; decide) (by rw [l1]; decide) l_X3_49 rfl (by omega) dX3_copyFrom_92 ?_
  refine r_aload_n dX3_copyFrom_95 1 rfl ?_
  refine r_getR (by first | assumption | rfl) f_X3_15 rfl rfl dX3_copyFrom_96 (by first | assumption | rfl) ?_
  refine r_iconst dX3_copyFrom_99 (v := 0) rfl ?_
  refine r_aload_n dX3_copyFrom_100 0 rfl ?_
  refine r_getR (by first | assumption | rfl) f_X3_15 rfl rfl dX3_copyFrom_101 (by first | assumption | rfl) ?_
  refine r_iconst dX3_copyFrom_104 (v := 0) rfl ?_
  refine r_bipush dX3_copyFrom_105 (v := 16) (by decide +kernel) ?_
  refine r_copy (sp := 0) (dp := 0) (n := 16) (by first | assumption | rfl) (by first | assumption | rfl) rfl rfl rfl (by rw [m2]; decide) (by rw [l2]; decide) l_X3_49 rfl (by omega) dX3_copyFrom_107 ?_
  refine r_vret rfl dX3_copyFrom_110 ?_
  refine ⟨rfl, ⟨?_, ?_, fun k hk => ?_⟩, FR.rf.up0.up0.up0.up0.up0.up0.up0.up0.up0.up0.up1'.up2⟩
  · simp only [up1, upd, reduceIte, Nat.reduceEqDiff, ap1, ap2, hab]; exact ⟨a1, a2, a3, a4, a5, a6⟩
  · simp only [up1, upd, reduceIte, Nat.reduceEqDiff, ap1, ap2, hab]; exact ⟨b1, b2, b3, b4⟩
  · simp only [up1, ap3, ap4, ap5, ap6, reduceIte, z3, z4, z5, z6, z7, z8, cpy16 hk]; exact c k hk
end
section
/-! the class's State and History. N = (globals: 0 patience, 1 away, 2 minutes, 3 troops, 4 early comings; the troops) -/
abbrev mN : Type := (Nat → Int32) × (Nat → mT)
def cnt (N : mN) : Nat := (N.1 3).toNatClampNeg
def WN (N : mN) : Prop := (∃ c, N.1 3 = nI c ∧ c ≤ 5) ∧ ∀ t, t < cnt N → WF (N.2 t)
theorem WN.cn {N : mN} (h : WN N) : N.1 3 = nI (cnt N) ∧ cnt N ≤ 5 := by
  obtain ⟨⟨c, h1, h2⟩, -⟩ := h
  have : cnt N = c := by unfold cnt; rw [h1]; exact nI_clamp (by omega)
  rw [this]; exact ⟨h1, h2⟩
def SP (S : mS) (b : Nat) (N : mN) : Prop := (S (b + 1) 0 = N.1 0 ∧ S (b + 1) 1 = N.1 1 ∧ S b 2 = N.1 3 ∧ S b 3 = N.1 2 ∧ S b 4 = N.1 4) ∧ ∀ t, t < cnt N → TP S (b + 3 + 3 * t) (N.2 t)
def FS (b : Nat) (S u : mS) : Prop := ∀ c, (c < b ∨ b + 18 ≤ c) → u c = S c
theorem FS.rf {b : Nat} {S : mS} : FS b S S := fun _ _ => rfl
theorem FS.tr {b : Nat} {S u w : mS} (h : FS b S u) (g : FS b u w) : FS b S w := fun c hc => (g c hc).trans (h c hc)
theorem FS.up {b c : Nat} {S u : mS} {f : Nat → Int32} (h : FS b S u) (h1 : b ≤ c) (h2 : c < b + 18) : FS b S (up1 u c f) := fun x hx => (up1_n (by omega)).trans (h x hx)
theorem FS.fr {b t : Nat} {S u w : mS} (h : FS b S u) (ht : t < 5) (g : FR (b + 3 + 3 * t) u w) : FS b S w := fun x hx => (g x (by omega) (by omega) (by omega)).trans (h x hx)
theorem SP.off {S u : mS} {b : Nat} {N : mN} (h : SP S b N) (hc : cnt N ≤ 5) (g : ∀ c, b ≤ c → c < b + 18 → u c = S c) : SP u b N := by
  refine ⟨?_, fun t ht => ?_⟩
  · rw [g (b + 1) (by omega) (by omega), g b (by omega) (by omega)]; exact h.1
  · exact (h.2 t ht).off (fun x hx => g x (by omega) (by omega))
theorem kdS {b : Nat} (h : kd b = 2) : kd (b + 1) = 6 ∧ kd (b + 2) = 10 ∧ ln (b + 1) = 2 ∧ ln (b + 2) = 5 ∧ rf b 0 = b + 1 ∧ rf b 1 = b + 2 ∧ (∀ t, rf (b + 2) t = b + 3 + 3 * t) ∧ (∀ t, t < 5 → kd (b + 3 + 3 * t) = 3) := by
  have h2 := (by decide +kernel : ∀ b, b < 190 → kd b = 2 → (kd (b + 1) = 6 ∧ kd (b + 2) = 10 ∧ ln (b + 1) = 2 ∧ ln (b + 2) = 5) ∧ ∀ t, t < 5 → kd (b + 3 + 3 * t) = 3) b (kd_lt (by omega)) h
  refine ⟨h2.1.1, h2.1.2.1, h2.1.2.2.1, h2.1.2.2.2, ?_, ?_, ?_, h2.2⟩
  · unfold rf; rw [h]; rfl
  · unfold rf; rw [h]; rfl
  · intro t; unfold rf; rw [h2.1.2.1]; show b + 2 + 1 + 3 * t = b + 3 + 3 * t; omega
theorem kdS2 {a b : Nat} (ha : kd a = 2) (hb : kd b = 2) (h : a ≠ b) : a + 18 ≤ b ∨ b + 18 ≤ a := by
  have key := (by decide +kernel : ∀ b, b < 190 → kd b = 2 → b = 1 ∨ b = 148 ∨ b = 166 ∨ (21 ≤ b ∧ (b - 21) % 18 = 0 ∧ b ≤ 129))
  have h1 := key a (kd_lt (by omega)) ha
  have h2 := key b (kd_lt (by omega)) hb
  omega
theorem cpy2 {f g : Nat → Int32} {k : Nat} (h : k < 2) : va_cpy f g 0 0 2 k = f k := by rw [pk_cpy_in (Nat.zero_le _) (by omega)]; simp
section STATE
variable {G : mG} {d : Nat} {S0 : mS} {a b : Nat} {N : mN} {Q : Option Int32 → mS → Prop}
theorem lp_X2_copyFrom (ha : kd a = 2) (hb : kd b = 2) (hab : a ≠ b) (hW : WN N) (hP : SP S0 b N) (hx : ∀ u, SP u a N → FS a S0 u → Q none u) : ∀ n t S, n + t = cnt N → (S (a + 1) 0 = N.1 0 ∧ S (a + 1) 1 = N.1 1 ∧ S a 2 = N.1 3 ∧ S a 3 = N.1 2 ∧ S a 4 = N.1 4) → (∀ i, i < t → TP S (a + 3 + 3 * i) (N.2 i)) → FS a S0 S → At G (d + 5) M_X2_copyFrom Q 40 [(0, rv G a), (1, rv G b), (2, .int (nI t))] [] S := by
  obtain ⟨k1, k2, l1, l2, f1, f2, f3, k3⟩ := kdS ha
  obtain ⟨g1, g2, m1, m2, e1, e2, e3, g3⟩ := kdS hb
  obtain ⟨hc, hc5⟩ := hW.cn
  have hd := kdS2 ha hb hab
  intro n
  induction n with
  | zero =>
    intro t S ht h1 h2 hF
    obtain rfl : t = cnt N := by omega
    refine r_iload_n dX2_copyFrom_40 2 rfl ?_
    refine r_aload_n dX2_copyFrom_41 0 rfl ?_
    refine r_getI (by first | assumption | rfl) f_X2_28 rfl rfl dX2_copyFrom_42 ?_
    refine r_icmp_ge dX2_copyFrom_45 (tgt := 69) (by decide) (fun h45 => ?_) (fun h45 => ?_)
    · --t
      refine r_vret rfl dX2_copyFrom_69 ?_
      exact hx _ ⟨h1, h2⟩ hF
    · --f
      exact absurd (by rw [h1.2.2.1, hc]; exact Int32.le_refl _) h45
  | succ n ih =>
    intro t S ht h1 h2 hF
    have ht5 : t < 5 := by omega
    have hl : t < ln (a + 2) := by rw [l2]; exact ht5
    have hl' : t < ln (b + 2) := by rw [m2]; exact ht5
    have hta := k3 t ht5
    have htb := g3 t ht5
    have hTb : TP S (b + 3 + 3 * t) (N.2 t) := (hP.2 t (by omega)).off (fun x hx => hF x (by omega))
    refine r_iload_n dX2_copyFrom_40 2 rfl ?_
    refine r_aload_n dX2_copyFrom_41 0 rfl ?_
    refine r_getI (by first | assumption | rfl) f_X2_28 rfl rfl dX2_copyFrom_42 ?_
    refine r_icmp_ge dX2_copyFrom_45 (tgt := 69) (by decide) (fun h45 => ?_) (fun h45 => ?_)
    · --t
      exact absurd (by rw [h1.2.2.1, hc] at h45; exact h45) (nI_ge (show t < cnt N by omega) (by omega))
    · --f
      refine r_aload_n dX2_copyFrom_48 0 rfl ?_
      refine r_getR (by first | assumption | rfl) f_X2_17 rfl rfl dX2_copyFrom_49 (by first | assumption | rfl) ?_
      refine r_iload_n dX2_copyFrom_52 2 rfl ?_
      refine r_aald10 (j := _) (by first | assumption | rfl) (by first | assumption | rfl) (by first | assumption | decide) (f3 t) dX2_copyFrom_53 ?_
      refine r_aload_n dX2_copyFrom_54 1 rfl ?_
      refine r_getR (by first | assumption | rfl) f_X2_17 rfl rfl dX2_copyFrom_55 (by first | assumption | rfl) ?_
      refine r_iload_n dX2_copyFrom_58 2 rfl ?_
      refine r_aald10 (j := _) (by first | assumption | rfl) (by first | assumption | rfl) (by first | assumption | decide) (e3 t) dX2_copyFrom_59 ?_
      refine r_callVv (As := [_]) c_X3_copyFrom (by first | assumption | rfl) l_X2_38 rfl rfl rfl (Nat.le_of_ble_eq_true rfl) dX2_copyFrom_60 (t_X3_copyFrom hta htb (by omega) hTb) (fun u60 q60 => ?_)
      obtain ⟨-, hT2, hF2⟩ := q60
      refine r_iinc (lo2 := [(0, _), (1, _), (2, _)]) dX2_copyFrom_63 2 rfl (w := 1) rfl (Nat.le_of_ble_eq_true rfl) [1, 2, 0] rfl ?_
      refine r_goto dX2_copyFrom_66 (tgt := 40) (by decide) ?_
      rw [nI_1]
      refine ih (t + 1) _ (by omega) ?_ (fun i hi => ?_) (hF.fr ht5 hF2)
      · rw [hF2 (a + 1) (by omega) (by omega) (by omega), hF2 a (by omega) (by omega) (by omega)]; exact h1
      · by_cases e : i = t
        · subst e; exact hT2
        · exact (h2 i (by omega)).off (fun x hx => hF2 x (by omega) (by omega) (by omega))
theorem t_X2_copyFrom {S : mS} (ha : kd a = 2) (hb : kd b = 2) (hab : a ≠ b) (hW : WN N) (hP : SP S b N) : Call G (d + 5) M_X2_copyFrom [rv G a, rv G b] S (fun v u => v = none ∧ SP u a N ∧ FS a S u) := by
  refine call_of (lo := [(0, rv G a), (1, rv G b)]) (by decide +kernel) (Nat.le_of_ble_eq_true rfl) rfl ?_
  obtain ⟨k1, k2, l1, l2, f1, f2, f3, k3⟩ := kdS ha
  obtain ⟨g1, g2, m1, m2, e1, e2, e3, g3⟩ := kdS hb
  have hd := kdS2 ha hb hab
  refine r_aload_n dX2_copyFrom_0 1 rfl ?_
  refine r_getR (by first | assumption | rfl) f_X2_9 rfl rfl dX2_copyFrom_1 (by first | assumption | rfl) ?_
  refine r_iconst dX2_copyFrom_4 (v := 0) rfl ?_
  refine r_aload_n dX2_copyFrom_5 0 rfl ?_
  refine r_getR (by first | assumption | rfl) f_X2_9 rfl rfl dX2_copyFrom_6 (by first | assumption | rfl) ?_
  refine r_iconst dX2_copyFrom_9 (v := 0) rfl ?_
  refine r_iconst dX2_copyFrom_10 (v := 2) rfl ?_
  refine r_copy (sp := 0) (dp := 0) (n := 2) (by first | assumption | rfl) (by first | assumption | rfl) rfl rfl rfl (by rw [m1]; decide) (by rw [l1]; decide) l_X2_22 rfl (by omega) dX2_copyFrom_11 ?_
  refine r_aload_n dX2_copyFrom_14 0 rfl ?_
  refine r_aload_n dX2_copyFrom_15 1 rfl ?_
  refine r_getI (by first | assumption | rfl) f_X2_28 rfl rfl dX2_copyFrom_16 ?_
  refine r_putI (by first | assumption | rfl) f_X2_28 rfl rfl rfl rfl dX2_copyFrom_19 ?_
  refine r_aload_n dX2_copyFrom_22 0 rfl ?_
  refine r_aload_n dX2_copyFrom_23 1 rfl ?_
  refine r_getI (by first | assumption | rfl) f_X2_32 rfl rfl dX2_copyFrom_24 ?_
  refine r_putI (by first | assumption | rfl) f_X2_32 rfl rfl rfl rfl dX2_copyFrom_27 ?_
  refine r_aload_n dX2_copyFrom_30 0 rfl ?_
  refine r_aload_n dX2_copyFrom_31 1 rfl ?_
  refine r_getI (by first | assumption | rfl) f_X2_35 rfl rfl dX2_copyFrom_32 ?_
  refine r_putI (by first | assumption | rfl) f_X2_35 rfl rfl rfl rfl dX2_copyFrom_35 ?_
  refine r_iconst dX2_copyFrom_38 (v := 0) rfl ?_
  refine r_istore_n (lo2 := [(0, _), (1, _), (2, _)]) dX2_copyFrom_39 rfl (Nat.le_of_ble_eq_true rfl) [1, 2, 0] rfl ?_
  refine at_gen (fun w hw => ?_)
  refine lp_X2_copyFrom (S0 := S) ha hb hab hW hP (fun u h1 h2 => ⟨rfl, h1, h2⟩) (cnt N) 0 w (by omega) ?_ (fun i hi => absurd hi (by omega)) ?_
  · have n1 : (b = a) = False := by simp; omega
    have n2 : (b = a + 1) = False := by simp; omega
    rw [hw]; simp only [up1, upd, reduceIte, Nat.reduceEqDiff, ap1, ap3, n1, n2, cpy2 (show 0 < 2 by omega), cpy2 (show 1 < 2 by omega)]; exact hP.1
  · rw [hw]; exact (((FS.rf.up (by omega) (by omega)).up (by omega) (by omega)).up (by omega) (by omega)).up (by omega) (by omega)
def sumN (f : mT → Int32) (N : mN) : Nat → Int32
  | 0 => 0
  | n + 1 => sumN f N n + f (N.2 n)
theorem lp_X2_hikes {S : mS} (ha : kd a = 2) (hW : WN N) (hP : SP S a N) (hx : Q (some (sumN (fun T => T.1 3) N (cnt N))) S) : ∀ n t, n + t = cnt N → At G d M_X2_hikes Q 4 [(0, rv G a), (1, .int (sumN (fun T => T.1 3) N t)), (2, .int (nI t))] [] S := by
  obtain ⟨k1, k2, l1, l2, f1, f2, f3, k3⟩ := kdS ha
  obtain ⟨hc, hc5⟩ := hW.cn
  intro n
  induction n with
  | zero =>
    intro t ht
    obtain rfl : t = cnt N := by omega
    refine r_iload_n dX2_hikes_4 2 rfl ?_
    refine r_aload_n dX2_hikes_5 0 rfl ?_
    refine r_getI (by first | assumption | rfl) f_X2_28 rfl rfl dX2_hikes_6 ?_
    refine r_icmp_ge dX2_hikes_9 (tgt := 30) (by decide) (fun h9 => ?_) (fun h9 => ?_)
    · --t
      refine r_iload_n dX2_hikes_30 1 rfl ?_
      refine r_iret rfl dX2_hikes_31 ?_
      exact hx
    · --f
      exact absurd (by rw [hP.1.2.2.1, hc]; exact Int32.le_refl _) h9
  | succ n ih =>
    intro t ht
    have ht5 : t < 5 := by omega
    have hl : t < ln (a + 2) := by rw [l2]; exact ht5
    have hta := k3 t ht5
    refine r_iload_n dX2_hikes_4 2 rfl ?_
    refine r_aload_n dX2_hikes_5 0 rfl ?_
    refine r_getI (by first | assumption | rfl) f_X2_28 rfl rfl dX2_hikes_6 ?_
    refine r_icmp_ge dX2_hikes_9 (tgt := 30) (by decide) (fun h9 => ?_) (fun h9 => ?_)
    · --t
      exact absurd (by rw [hP.1.2.2.1, hc] at h9; exact h9) (nI_ge (show t < cnt N by omega) (by omega))
    · --f
      refine r_iload_n dX2_hikes_12 1 rfl ?_
      refine r_aload_n dX2_hikes_13 0 rfl ?_
      refine r_getR (by first | assumption | rfl) f_X2_17 rfl rfl dX2_hikes_14 (by first | assumption | rfl) ?_
      refine r_iload_n dX2_hikes_17 2 rfl ?_
      refine r_aald10 (j := _) (by first | assumption | rfl) (by first | assumption | rfl) (by first | assumption | decide) (f3 t) dX2_hikes_18 ?_
      refine r_getI (by first | assumption | rfl) f_X2_42 rfl rfl dX2_hikes_19 ?_
      refine r_iadd dX2_hikes_22 ?_
      refine r_istore_n (lo2 := [(0, _), (1, _), (2, _)]) dX2_hikes_23 rfl (Nat.le_of_ble_eq_true rfl) [1, 0, 2] rfl ?_
      refine r_iinc (lo2 := [(0, _), (1, _), (2, _)]) dX2_hikes_24 2 rfl (w := 1) rfl (Nat.le_of_ble_eq_true rfl) [1, 2, 0] rfl ?_
      refine r_goto dX2_hikes_27 (tgt := 4) (by decide) ?_
      rw [nI_1, (hP.2 t (by omega)).1.2.2.2.2.1]
      exact ih (t + 1) (by omega)
theorem t_X2_hikes {S : mS} (ha : kd a = 2) (hW : WN N) (hP : SP S a N) : Call G d M_X2_hikes [rv G a] S (fun v u => v = some (sumN (fun T => T.1 3) N (cnt N)) ∧ u = S) := by
  refine call_of (lo := [(0, rv G a)]) (by decide +kernel) (Nat.le_of_ble_eq_true rfl) rfl ?_
  refine r_iconst dX2_hikes_0 (v := 0) rfl ?_
  refine r_istore_n (lo2 := [(0, _), (1, _)]) dX2_hikes_1 rfl (Nat.le_of_ble_eq_true rfl) [1, 0] rfl ?_
  refine r_iconst dX2_hikes_2 (v := 0) rfl ?_
  refine r_istore_n (lo2 := [(0, _), (1, _), (2, _)]) dX2_hikes_3 rfl (Nat.le_of_ble_eq_true rfl) [1, 2, 0] rfl ?_
  exact lp_X2_hikes ha hW hP ⟨rfl, rfl⟩ (cnt N) 0 (by omega)
theorem lp_X2_scoutsOnHikes {S : mS} (ha : kd a = 2) (hW : WN N) (hP : SP S a N) (hx : Q (some (sumN (fun T => szF (hm T 3) 16) N (cnt N))) S) : ∀ n t, n + t = cnt N → At G (d + 1) M_X2_scoutsOnHikes Q 4 [(0, rv G a), (1, .int (sumN (fun T => szF (hm T 3) 16) N t)), (2, .int (nI t))] [] S := by
  obtain ⟨k1, k2, l1, l2, f1, f2, f3, k3⟩ := kdS ha
  obtain ⟨hc, hc5⟩ := hW.cn
  intro n
  induction n with
  | zero =>
    intro t ht
    obtain rfl : t = cnt N := by omega
    refine r_iload_n dX2_scoutsOnHikes_4 2 rfl ?_
    refine r_aload_n dX2_scoutsOnHikes_5 0 rfl ?_
    refine r_getI (by first | assumption | rfl) f_X2_28 rfl rfl dX2_scoutsOnHikes_6 ?_
    refine r_icmp_ge dX2_scoutsOnHikes_9 (tgt := 33) (by decide) (fun h9 => ?_) (fun h9 => ?_)
    · --t
      refine r_iload_n dX2_scoutsOnHikes_33 1 rfl ?_
      refine r_iret rfl dX2_scoutsOnHikes_34 ?_
      exact hx
    · --f
      exact absurd (by rw [hP.1.2.2.1, hc]; exact Int32.le_refl _) h9
  | succ n ih =>
    intro t ht
    have ht5 : t < 5 := by omega
    have hl : t < ln (a + 2) := by rw [l2]; exact ht5
    have hta := k3 t ht5
    refine r_iload_n dX2_scoutsOnHikes_4 2 rfl ?_
    refine r_aload_n dX2_scoutsOnHikes_5 0 rfl ?_
    refine r_getI (by first | assumption | rfl) f_X2_28 rfl rfl dX2_scoutsOnHikes_6 ?_
    refine r_icmp_ge dX2_scoutsOnHikes_9 (tgt := 33) (by decide) (fun h9 => ?_) (fun h9 => ?_)
    · --t
      exact absurd (by rw [hP.1.2.2.1, hc] at h9; exact h9) (nI_ge (show t < cnt N by omega) (by omega))
    · --f
      refine r_iload_n dX2_scoutsOnHikes_12 1 rfl ?_
      refine r_aload_n dX2_scoutsOnHikes_13 0 rfl ?_
      refine r_getR (by first | assumption | rfl) f_X2_17 rfl rfl dX2_scoutsOnHikes_14 (by first | assumption | rfl) ?_
      refine r_iload_n dX2_scoutsOnHikes_17 2 rfl ?_
      refine r_aald10 (j := _) (by first | assumption | rfl) (by first | assumption | rfl) (by first | assumption | decide) (f3 t) dX2_scoutsOnHikes_18 ?_
      refine r_getI (by first | assumption | rfl) f_X2_45 rfl rfl dX2_scoutsOnHikes_19 ?_
      refine r_callSiF (As := [_]) c_J6_bitCount_0f7a4 l_X2_48 rfl rfl rfl (Nat.le_of_ble_eq_true rfl) dX2_scoutsOnHikes_22 t_J6_bitCount_0f7a4 ?_
      refine r_iadd dX2_scoutsOnHikes_25 ?_
      refine r_istore_n (lo2 := [(0, _), (1, _), (2, _)]) dX2_scoutsOnHikes_26 rfl (Nat.le_of_ble_eq_true rfl) [1, 0, 2] rfl ?_
      refine r_iinc (lo2 := [(0, _), (1, _), (2, _)]) dX2_scoutsOnHikes_27 2 rfl (w := 1) rfl (Nat.le_of_ble_eq_true rfl) [1, 2, 0] rfl ?_
      refine r_goto dX2_scoutsOnHikes_30 (tgt := 4) (by decide) ?_
      rw [nI_1, (hP.2 t (by omega)).2.1.2.2.1, bc_ok (m := hm (N.2 t) 3) (mkm_hi _)]
      exact ih (t + 1) (by omega)
theorem t_X2_scoutsOnHikes {S : mS} (ha : kd a = 2) (hW : WN N) (hP : SP S a N) : Call G (d + 1) M_X2_scoutsOnHikes [rv G a] S (fun v u => v = some (sumN (fun T => szF (hm T 3) 16) N (cnt N)) ∧ u = S) := by
  refine call_of (lo := [(0, rv G a)]) (by decide +kernel) (Nat.le_of_ble_eq_true rfl) rfl ?_
  refine r_iconst dX2_scoutsOnHikes_0 (v := 0) rfl ?_
  refine r_istore_n (lo2 := [(0, _), (1, _)]) dX2_scoutsOnHikes_1 rfl (Nat.le_of_ble_eq_true rfl) [1, 0] rfl ?_
  refine r_iconst dX2_scoutsOnHikes_2 (v := 0) rfl ?_
  refine r_istore_n (lo2 := [(0, _), (1, _), (2, _)]) dX2_scoutsOnHikes_3 rfl (Nat.le_of_ble_eq_true rfl) [1, 2, 0] rfl ?_
  exact lp_X2_scoutsOnHikes ha hW hP ⟨rfl, rfl⟩ (cnt N) 0 (by omega)
theorem lp_X2_scoutsLost {S : mS} (ha : kd a = 2) (hW : WN N) (hP : SP S a N) (hx : Q (some (sumN (fun T => szF (hm T 4) 16) N (cnt N))) S) : ∀ n t, n + t = cnt N → At G (d + 1) M_X2_scoutsLost Q 4 [(0, rv G a), (1, .int (sumN (fun T => szF (hm T 4) 16) N t)), (2, .int (nI t))] [] S := by
  obtain ⟨k1, k2, l1, l2, f1, f2, f3, k3⟩ := kdS ha
  obtain ⟨hc, hc5⟩ := hW.cn
  intro n
  induction n with
  | zero =>
    intro t ht
    obtain rfl : t = cnt N := by omega
    refine r_iload_n dX2_scoutsLost_4 2 rfl ?_
    refine r_aload_n dX2_scoutsLost_5 0 rfl ?_
    refine r_getI (by first | assumption | rfl) f_X2_28 rfl rfl dX2_scoutsLost_6 ?_
    refine r_icmp_ge dX2_scoutsLost_9 (tgt := 33) (by decide) (fun h9 => ?_) (fun h9 => ?_)
    · --t
      refine r_iload_n dX2_scoutsLost_33 1 rfl ?_
      refine r_iret rfl dX2_scoutsLost_34 ?_
      exact hx
    · --f
      exact absurd (by rw [hP.1.2.2.1, hc]; exact Int32.le_refl _) h9
  | succ n ih =>
    intro t ht
    have ht5 : t < 5 := by omega
    have hl : t < ln (a + 2) := by rw [l2]; exact ht5
    have hta := k3 t ht5
    refine r_iload_n dX2_scoutsLost_4 2 rfl ?_
    refine r_aload_n dX2_scoutsLost_5 0 rfl ?_
    refine r_getI (by first | assumption | rfl) f_X2_28 rfl rfl dX2_scoutsLost_6 ?_
    refine r_icmp_ge dX2_scoutsLost_9 (tgt := 33) (by decide) (fun h9 => ?_) (fun h9 => ?_)
    · --t
      exact absurd (by rw [hP.1.2.2.1, hc] at h9; exact h9) (nI_ge (show t < cnt N by omega) (by omega))
    · --f
      refine r_iload_n dX2_scoutsLost_12 1 rfl ?_
      refine r_aload_n dX2_scoutsLost_13 0 rfl ?_
      refine r_getR (by first | assumption | rfl) f_X2_17 rfl rfl dX2_scoutsLost_14 (by first | assumption | rfl) ?_
      refine r_iload_n dX2_scoutsLost_17 2 rfl ?_
      refine r_aald10 (j := _) (by first | assumption | rfl) (by first | assumption | rfl) (by first | assumption | decide) (f3 t) dX2_scoutsLost_18 ?_
      refine r_getI (by first | assumption | rfl) f_X2_54 rfl rfl dX2_scoutsLost_19 ?_
      refine r_callSiF (As := [_]) c_J6_bitCount_0f7a4 l_X2_48 rfl rfl rfl (Nat.le_of_ble_eq_true rfl) dX2_scoutsLost_22 t_J6_bitCount_0f7a4 ?_
      refine r_iadd dX2_scoutsLost_25 ?_
      refine r_istore_n (lo2 := [(0, _), (1, _), (2, _)]) dX2_scoutsLost_26 rfl (Nat.le_of_ble_eq_true rfl) [1, 0, 2] rfl ?_
      refine r_iinc (lo2 := [(0, _), (1, _), (2, _)]) dX2_scoutsLost_27 2 rfl (w := 1) rfl (Nat.le_of_ble_eq_true rfl) [1, 2, 0] rfl ?_
      refine r_goto dX2_scoutsLost_30 (tgt := 4) (by decide) ?_
      rw [nI_1, (hP.2 t (by omega)).2.1.2.2.2, bc_ok (m := hm (N.2 t) 4) (mkm_hi _)]
      exact ih (t + 1) (by omega)
theorem t_X2_scoutsLost {S : mS} (ha : kd a = 2) (hW : WN N) (hP : SP S a N) : Call G (d + 1) M_X2_scoutsLost [rv G a] S (fun v u => v = some (sumN (fun T => szF (hm T 4) 16) N (cnt N)) ∧ u = S) := by
  refine call_of (lo := [(0, rv G a)]) (by decide +kernel) (Nat.le_of_ble_eq_true rfl) rfl ?_
  refine r_iconst dX2_scoutsLost_0 (v := 0) rfl ?_
  refine r_istore_n (lo2 := [(0, _), (1, _)]) dX2_scoutsLost_1 rfl (Nat.le_of_ble_eq_true rfl) [1, 0] rfl ?_
  refine r_iconst dX2_scoutsLost_2 (v := 0) rfl ?_
  refine r_istore_n (lo2 := [(0, _), (1, _), (2, _)]) dX2_scoutsLost_3 rfl (Nat.le_of_ble_eq_true rfl) [1, 2, 0] rfl ?_
  exact lp_X2_scoutsLost ha hW hP ⟨rfl, rfl⟩ (cnt N) 0 (by omega)
end STATE
end
section
/-! the class's History: cells 19 and 20, seven States from 21 on -/
def pl (m : Nat) : Nat := 21 + 18 * (m % 7)
theorem kdP {m : Nat} : kd (pl m) = 2 := (by decide +kernel : ∀ m, m < 7 → kd (21 + 18 * m) = 2) (m % 7) (Nat.mod_lt _ (by decide))
/-- n states are kept, h 0 is the oldest; the oldest lies at o -/
def HPo (S : mS) (o n : Nat) (h : Nat → mN) : Prop := (o < 7 ∧ S 19 1 = nI o) ∧ (n ≤ 6 ∧ S 19 2 = nI n) ∧ ∀ i, i < n → WN (h i) ∧ SP S (pl (o + i)) (h i)
def HP (S : mS) (n : Nat) (h : Nat → mN) : Prop := ∃ o, HPo S o n h
/-- and N is noted behind them -/
def HN (S : mS) (n : Nat) (h : Nat → mN) (N : mN) : Prop := ∃ o, HPo S o n h ∧ WN N ∧ SP S (pl (o + n)) N
theorem HN.hp {S : mS} {n : Nat} {h : Nat → mN} {N : mN} (g : HN S n h N) : HP S n h := by obtain ⟨o, g, -⟩ := g; exact ⟨o, g⟩
def psN (n : Nat) : Nat := if n < 6 then n + 1 else 6
def psH (n : Nat) (h : Nat → mN) (N : mN) : Nat → mN := if n < 6 then (fun i => if i = n then N else h i) else (fun i => if i < 5 then h (i + 1) else N)
/-- the cells of the history -/
def FH (S u : mS) : Prop := ∀ c, (c < 19 ∨ 147 ≤ c) → u c = S c
theorem FH.rf {S : mS} : FH S S := fun _ _ => rfl
theorem FH.tr {S u w : mS} (h : FH S u) (g : FH u w) : FH S w := fun c hc => (g c hc).trans (h c hc)
theorem HPo.off {S u : mS} {o n : Nat} {h : Nat → mN} (g : HPo S o n h) (k : ∀ c, 19 ≤ c → c < 147 → u c = S c) : HPo u o n h := by
  refine ⟨by rw [k 19 (by omega) (by omega)]; exact g.1, by rw [k 19 (by omega) (by omega)]; exact g.2.1, fun i hi => ⟨(g.2.2 i hi).1, (g.2.2 i hi).2.off (g.2.2 i hi).1.cn.2 (fun c h1 h2 => k c (by unfold pl at h1; omega) (by unfold pl at h2; omega))⟩⟩
theorem HP.off {S u : mS} {n : Nat} {h : Nat → mN} (g : HP S n h) (k : ∀ c, 19 ≤ c → c < 147 → u c = S c) : HP u n h := by obtain ⟨o, g⟩ := g; exact ⟨o, g.off k⟩
theorem HN.off {S u : mS} {n : Nat} {h : Nat → mN} {N : mN} (g : HN S n h N) (k : ∀ c, 19 ≤ c → c < 147 → u c = S c) : HN u n h N := by
  obtain ⟨o, g, w, g2⟩ := g
  exact ⟨o, g.off k, w, g2.off w.cn.2 (fun c h1 h2 => k c (by unfold pl at h1; omega) (by unfold pl at h2; omega))⟩
theorem nI_7 {x y : Int32} {a b : Nat} (hx : x = nI a) (hy : y = nI b) (ha : a < 100) (hb : b < 100) : (x + y) - (x + y) / 7 * 7 = nI ((a + b) % 7) := by
  rw [hx, hy, nI_add]; exact pk_rem (d := 7) (by omega) (by omega) (by omega)
section HIST
variable {G : mG} {d : Nat} {S : mS} {n : Nat} {h : Nat → mN} {N : mN}
theorem t_X0_note (hP : HP S n h) (hW : WN N) (hN : SP S 1 N) : Call G (d + 6) M_X0_note [rv G 19, rv G 1] S (fun v u => v = none ∧ HN u n h N ∧ FH S u) := by
  refine call_of (lo := [(0, rv G 19), (1, rv G 1)]) (by decide +kernel) (Nat.le_of_ble_eq_true rfl) rfl ?_
  obtain ⟨o, ⟨ho, eo⟩, ⟨hn, en⟩, hi⟩ := hP
  have hj : (o + n) % 7 < ln 20 := show (o + n) % 7 < 7 from Nat.mod_lt _ (by decide)
  have h1 : kd 1 = 2 := rfl
  refine r_aload_n dX0_note_0 0 rfl ?_
  refine r_getR (b := 20) (by first | assumption | rfl) f_X0_13 rfl rfl dX0_note_1 rfl ?_
  refine r_aload_n dX0_note_4 0 rfl ?_
  refine r_getI (by first | assumption | rfl) f_X0_18 rfl rfl dX0_note_5 ?_
  refine r_aload_n dX0_note_8 0 rfl ?_
  refine r_getI (by first | assumption | rfl) f_X0_22 rfl rfl dX0_note_9 ?_
  refine r_iadd dX0_note_12 ?_
  refine r_bipush dX0_note_13 (v := 7) (by decide +kernel) ?_
  refine r_irem dX0_note_15 (by decide) ?_
  refine r_aald9 (j := _) (by first | assumption | rfl) (nI_7 eo en (by omega) (by omega)) (by first | assumption | decide) (show rf 20 ((o + n) % 7) = pl (o + n) from rfl) dX0_note_16 ?_
  refine r_aload_n dX0_note_17 1 rfl ?_
  refine r_callVv (As := [_]) c_X2_copyFrom kdP l_X0_25 rfl rfl rfl (Nat.le_of_ble_eq_true rfl) dX0_note_18 (t_X2_copyFrom kdP h1 (by unfold pl; omega) hW hN) (fun u18 q18 => ?_)
  obtain ⟨-, hP2, hF2⟩ := q18
  refine r_vret rfl dX0_note_21 ?_
  refine ⟨rfl, ⟨o, ⟨⟨ho, ?_⟩, ⟨hn, ?_⟩, fun i hi2 => ⟨(hi i hi2).1, (hi i hi2).2.off (hi i hi2).1.cn.2 (fun c c1 c2 => hF2 c ?_)⟩⟩, hW, hP2⟩, fun c hc => hF2 c (by unfold pl; omega)⟩
  · rw [hF2 19 (by unfold pl; omega)]; exact eo
  · rw [hF2 19 (by unfold pl; omega)]; exact en
  · unfold pl at c1 c2 ⊢; omega
theorem t_X0_keepNoted (hP : HN S n h N) : Call G d M_X0_keepNoted [rv G 19] S (fun v u => v = none ∧ HP u (psN n) (psH n h N) ∧ FH S u) := by
  refine call_of (lo := [(0, rv G 19)]) (by decide +kernel) (Nat.le_of_ble_eq_true rfl) rfl ?_
  obtain ⟨o, ⟨⟨ho, eo⟩, ⟨hn, en⟩, hi⟩, hW, hN⟩ := hP
  have off : ∀ {f : Nat → Int32} {b : Nat} {N' : mN}, WN N' → SP S (pl b) N' → SP (up1 S 19 f) (pl b) N' := fun w z => z.off w.cn.2 (fun c c1 c2 => up1_n (by unfold pl at c1; omega))
  refine r_aload_n dX0_keepNoted_0 0 rfl ?_
  refine r_getI (by first | assumption | rfl) f_X0_22 rfl rfl dX0_keepNoted_1 ?_
  refine r_bipush dX0_keepNoted_4 (v := 6) (by decide +kernel) ?_
  refine r_icmp_ge dX0_keepNoted_6 (tgt := 22) (by decide) (fun h6 => ?_) (fun h6 => ?_)
  · --t
    refine r_aload_n dX0_keepNoted_22 0 rfl ?_
    refine r_aload_n dX0_keepNoted_23 0 rfl ?_
    refine r_getI (by first | assumption | rfl) f_X0_18 rfl rfl dX0_keepNoted_24 ?_
    refine r_iconst dX0_keepNoted_27 (v := 1) rfl ?_
    refine r_iadd dX0_keepNoted_28 ?_
    refine r_bipush dX0_keepNoted_29 (v := 7) (by decide +kernel) ?_
    refine r_irem dX0_keepNoted_31 (by decide) ?_
    refine r_putI (by first | assumption | rfl) f_X0_18 rfl rfl rfl rfl dX0_keepNoted_32 ?_
    refine r_vret rfl dX0_keepNoted_35 ?_
    rw [en, show (6 : Int32) = nI 6 from rfl, nI_leI (by omega) (by omega)] at h6
    refine ⟨rfl, ?_, fun c hc => up1_n (by omega)⟩
    first
      | (have h7 : n < 6 := by omega
         refine ⟨o, ⟨ho, by simp only [up1_s, upd, reduceIte, Nat.reduceEqDiff]; exact eo⟩, ⟨by unfold psN; rw [if_pos h7]; omega, by simp only [up1_s, upd, reduceIte]; rw [en, nI_1]; unfold psN; rw [if_pos h7]⟩, fun i hi2 => ?_⟩
         unfold psN at hi2
         unfold psH
         rw [if_pos h7] at hi2 ⊢
         by_cases e : i = n
         · subst e; simp only [reduceIte]; exact ⟨hW, off hW hN⟩
         · simp only [e, reduceIte]; exact ⟨(hi i (by omega)).1, off (hi i (by omega)).1 (hi i (by omega)).2⟩)
      | (have h7 : ¬ n < 6 := by omega
         obtain rfl : n = 6 := by omega
         refine ⟨(o + 1) % 7, ⟨Nat.mod_lt _ (by decide), by simp only [up1_s, upd, reduceIte]; exact nI_7 eo (b := 1) rfl (by omega) (by omega)⟩, ⟨by decide, by simp only [up1_s, upd, reduceIte, Nat.reduceEqDiff]; rw [en]; rfl⟩, fun i hi2 => ?_⟩
         unfold psN at hi2
         unfold psH
         rw [if_neg h7] at hi2 ⊢
         have e1 : pl ((o + 1) % 7 + i) = pl (o + (i + 1)) := by unfold pl; omega
         rw [e1]
         by_cases e : i < 5
         · simp only [e, reduceIte]; exact ⟨(hi (i + 1) (by omega)).1, off (hi (i + 1) (by omega)).1 (hi (i + 1) (by omega)).2⟩
         · obtain rfl : i = 5 := by omega
           simp only [e, reduceIte]; exact ⟨hW, off hW hN⟩)
  · --f
    refine r_aload_n dX0_keepNoted_9 0 rfl ?_
    refine r_dup dX0_keepNoted_10 rfl ?_
    refine r_getI (by first | assumption | rfl) f_X0_22 rfl rfl dX0_keepNoted_11 ?_
    refine r_iconst dX0_keepNoted_14 (v := 1) rfl ?_
    refine r_iadd dX0_keepNoted_15 ?_
    refine r_putI (by first | assumption | rfl) f_X0_22 rfl rfl rfl rfl dX0_keepNoted_16 ?_
    refine r_goto dX0_keepNoted_19 (tgt := 35) (by decide) ?_
    refine r_vret rfl dX0_keepNoted_35 ?_
    rw [en, show (6 : Int32) = nI 6 from rfl, nI_leI (by omega) (by omega)] at h6
    refine ⟨rfl, ?_, fun c hc => up1_n (by omega)⟩
    first
      | (have h7 : n < 6 := by omega
         refine ⟨o, ⟨ho, by simp only [up1_s, upd, reduceIte, Nat.reduceEqDiff]; exact eo⟩, ⟨by unfold psN; rw [if_pos h7]; omega, by simp only [up1_s, upd, reduceIte]; rw [en, nI_1]; unfold psN; rw [if_pos h7]⟩, fun i hi2 => ?_⟩
         unfold psN at hi2
         unfold psH
         rw [if_pos h7] at hi2 ⊢
         by_cases e : i = n
         · subst e; simp only [reduceIte]; exact ⟨hW, off hW hN⟩
         · simp only [e, reduceIte]; exact ⟨(hi i (by omega)).1, off (hi i (by omega)).1 (hi i (by omega)).2⟩)
      | (have h7 : ¬ n < 6 := by omega
         obtain rfl : n = 6 := by omega
         refine ⟨(o + 1) % 7, ⟨Nat.mod_lt _ (by decide), by simp only [up1_s, upd, reduceIte]; exact nI_7 eo (b := 1) rfl (by omega) (by omega)⟩, ⟨by decide, by simp only [up1_s, upd, reduceIte, Nat.reduceEqDiff]; rw [en]; rfl⟩, fun i hi2 => ?_⟩
         unfold psN at hi2
         unfold psH
         rw [if_neg h7] at hi2 ⊢
         have e1 : pl ((o + 1) % 7 + i) = pl (o + (i + 1)) := by unfold pl; omega
         rw [e1]
         by_cases e : i < 5
         · simp only [e, reduceIte]; exact ⟨(hi (i + 1) (by omega)).1, off (hi (i + 1) (by omega)).1 (hi (i + 1) (by omega)).2⟩
         · obtain rfl : i = 5 := by omega
           simp only [e, reduceIte]; exact ⟨hW, off hW hN⟩)
end HIST
end
section
/-! what the calls answer and make of N: both sides compute this -/
def isTr (N : mN) (t : Int32) : Bool := decide (0 ≤ t ∧ t < N.1 3)
def isSc (N : mN) (t k : Int32) : Bool := isTr N t && decide (0 ≤ k ∧ k < (N.2 t.toNatClampNeg).1 0)
def setTr (N : mN) (t : Nat) (T : mT) : mN := (N.1, fun i => if i = t then T else N.2 i)
def isSz (s : Int32) : Bool := decide (1 ≤ s ∧ s ≤ 16)
def addN (N : mN) (s : Int32) : mN := (upd N.1 3 (N.1 3 + 1), fun t => if t = cnt N then newT s else N.2 t)
def addO (N : mN) (s : Int32) : Int32 × mN := if isSz s = true then (if 5 ≤ N.1 3 then (-4, N) else (N.1 3, addN N s)) else (-2, N)
def rszO (N : mN) (t s : Int32) : Int32 × mN := if isTr N t = true then (if isSz s = true then ((N.2 t.toNatClampNeg).1 2, setTr N t.toNatClampNeg (rszT (N.2 t.toNatClampNeg) s)) else (-2, N)) else (-1, N)
def whyT (T : mT) (k : Nat) (c : Int32) : Int32 := if T.2.1 k = 3 then 1 else if T.2.1 k = 1 then 2 else if T.2.1 k = 2 then 3 else if c = T.1 1 then 0 else 4
def whyA (N : mN) (t k c : Int32) : Int32 := if isSc N t k = true then (if c < 0 ∨ 1 < c then -2 else whyT (N.2 t.toNatClampNeg) k.toNatClampNeg c) else -1
def comN (N : mN) (t k : Nat) (h : Int32) : Int32 × mN := ((opnN 3 (setH (N.2 t) k h) (N.1 1)).1, setTr N t (opnN 3 (setH (N.2 t) k h) (N.1 1)).2)
def eryN (N : mN) : mN := (upd N.1 4 (N.1 4 + 1), N.2)
def comO (N : mN) (t k c : Int32) : Int32 × mN :=
  if whyA N t k c < 0 then (whyA N t k c, N) else if whyA N t k c = 4 then comN (eryN N) t.toNatClampNeg k.toNatClampNeg 2 else if whyA N t k c = 0 then comN N t.toNatClampNeg k.toNatClampNeg 1 else (-5, N)
def losO (N : mN) (t k : Int32) : Int32 × mN := if isSc N t k = true then (if (N.2 t.toNatClampNeg).2.1 k.toNatClampNeg = 3 ∨ (N.2 t.toNatClampNeg).2.1 k.toNatClampNeg = 4 then (-5, N) else (szF (awM (setH (N.2 t.toNatClampNeg) k.toNatClampNeg 4)) 16, setTr N t.toNatClampNeg (setH (N.2 t.toNatClampNeg) k.toNatClampNeg 4))) else (-1, N)
def finO (N : mN) (t k : Int32) : Int32 × mN := if isSc N t k = true then (if (N.2 t.toNatClampNeg).2.1 k.toNatClampNeg = 4 then ((N.2 t.toNatClampNeg).2.2.1 k.toNatClampNeg, setTr N t.toNatClampNeg (setH (N.2 t.toNatClampNeg) k.toNatClampNeg 0)) else (-5, N)) else (-1, N)
/-- a minute: the troops below n are through -/
def trM (N : mN) (n : Nat) : mN := (N.1, fun t => if t < n then (minT (N.2 t) (N.1 0) (N.1 1)).2 else N.2 t)
def ansM (N : mN) (n : Nat) : Int32 := sumN (fun T => (minT T (N.1 0) (N.1 1)).1) N n
def itM : Nat → mN → Int32 × mN
  | 0, N => (0, N)
  | i + 1, N => (ansM N (cnt N) + (itM i (trM N (cnt N))).1, (itM i (trM N (cnt N))).2)
def addM (N : mN) (m : Int32) : mN := (upd N.1 2 (N.1 2 + m), N.2)
def pasO (N : mN) (m : Int32) : Int32 × mN := if m < 1 ∨ 99 < m then (-2, N) else if 9999 < N.1 2 + m then (-5, N) else ((itM m.toNatClampNeg N).1, addM (itM m.toNatClampNeg N).2 m)
def setO (N : mN) (s v : Int32) : Int32 × mN := if (s = 0 ∧ 0 ≤ v ∧ v ≤ 99) ∨ (s = 1 ∧ 1 ≤ v ∧ v ≤ 99) then (N.1 s.toNatClampNeg, (upd N.1 s.toNatClampNeg v, N.2)) else (-2, N)
def ofTA (N : mN) (t w : Int32) : Int32 := if isTr N t = true then
    (if w = 0 then (N.2 t.toNatClampNeg).1 0 else if w = 1 then (N.2 t.toNatClampNeg).1 1 else if w = 2 then (N.2 t.toNatClampNeg).1 2 else if w = 3 then szF (awM (N.2 t.toNatClampNeg)) 16
      else if w = 4 then (N.2 t.toNatClampNeg).1 3 else if w = 5 then mkm (fun k => decide (k < tsz (N.2 t.toNatClampNeg)) && ((N.2 t.toNatClampNeg).2.1 k == 0)) 16
      else if w = 6 then hm (N.2 t.toNatClampNeg) 1 else if w = 7 then hm (N.2 t.toNatClampNeg) 2 else if w = 8 then hm (N.2 t.toNatClampNeg) 3 else if w = 9 then hm (N.2 t.toNatClampNeg) 4
      else if w = 10 then (N.2 t.toNatClampNeg).1 5 else if w = 11 then (N.2 t.toNatClampNeg).1 4 else -2) else -1
def knwT (T : mT) (k : Int32) : Bool := decide (0 ≤ k ∧ k < T.1 0) || (decide (0 ≤ k ∧ k < 16) && (T.2.1 k.toNatClampNeg == 3))
def ofA (N : mN) (t k w : Int32) : Int32 := if isTr N t = true then (if knwT (N.2 t.toNatClampNeg) k = true then
    (if w = 0 then (N.2 t.toNatClampNeg).2.1 k.toNatClampNeg else if w = 1 then (N.2 t.toNatClampNeg).2.2.1 k.toNatClampNeg else if w = 2 then (N.2 t.toNatClampNeg).2.2.2 k.toNatClampNeg
      else if w = 3 then ((N.2 t.toNatClampNeg).1 5 >>> (k &&& 31)) &&& 1 else -2) else -1) else -1
def cntA (N : mN) (len n : Nat) (w : Int32) : Int32 := if w = 0 then N.1 2 else if w = 1 then N.1 3 else if w = 2 then sumN (fun T => T.1 3) N (cnt N) else if w = 3 then sumN (fun T => szF (hm T 3) 16) N (cnt N)
    else if w = 4 then sumN (fun T => szF (hm T 4) 16) N (cnt N) else if w = 5 then N.1 4 else if w = 6 then N.1 0 else if w = 7 then N.1 1 else if w = 8 then nI len else if w = 9 then nI n else -2
def waiA (N : mN) (t : Int32) : Int32 := if isTr N t = true then awM (N.2 t.toNatClampNeg) else -1
def opIn : Nat → Nat → mT → Int32 → Int32 → Int32
  | 0, _, _, _, _ => -6
  | f + 1, m, T, p, a => if 0 < (minT T p a).1 then nI m else opIn f (m + 1) (minT T p a).2 p a
def opIA (N : mN) (t : Int32) : Int32 := if isTr N t = true then opIn 200 1 (N.2 t.toNatClampNeg) (N.1 0) (N.1 1) else -1
def cnC (T : mT) (k : Nat) : Bool := decide (k < tsz T) && !(T.2.1 k == 1) && !(T.2.1 k == 2) && !(T.2.1 k == 3)
def cHs (T : mT) (a : Int32) : Nat → Int32 × mT
  | 0 => (0, T)
  | i + 1 => if cnC (cHs T a i).2 (i % 16) = true then ((cHs T a i).1 + (opnN 3 (setH (cHs T a i).2 (i % 16) 1) a).1, (opnN 3 (setH (cHs T a i).2 (i % 16) 1) a).2) else cHs T a i
def couA (N : mN) (t : Int32) : Int32 := if isTr N t = true then (cHs (N.2 t.toNatClampNeg) (N.1 1) 48).1 else -1
theorem tr_cases {N : mN} (hW : WN N) (t : Int32) : isTr N t = false ∨ ∃ T, isTr N t = true ∧ t = nI T ∧ T < cnt N ∧ T < 5 ∧ t.toNatClampNeg = T := by
  cases h : isTr N t
  · exact Or.inl rfl
  · right
    obtain ⟨hc, hc5⟩ := hW.cn
    obtain ⟨h1, h2⟩ := of_decide_eq_true h
    obtain ⟨j, hj, rfl⟩ := nI_of (Int32.not_lt.mpr h1)
    rw [hc, nI_ltI hj (by omega)] at h2
    exact ⟨j, rfl, rfl, h2, by omega, nI_clamp hj⟩
theorem sc_cases {N : mN} (hW : WN N) (t k : Int32) : isSc N t k = false ∨ ∃ T K, isSc N t k = true ∧ isTr N t = true ∧ t = nI T ∧ T < cnt N ∧ T < 5 ∧ t.toNatClampNeg = T ∧ k = nI K ∧ K < tsz (N.2 T) ∧ K < 16 ∧ k.toNatClampNeg = K := by
  cases h : isSc N t k
  · exact Or.inl rfl
  · right
    unfold isSc at h
    rw [Bool.and_eq_true] at h
    obtain ⟨h0, h⟩ := h
    rcases tr_cases hW t with z | ⟨T, -, rfl, hT, hT5, eT⟩
    · rw [h0] at z; cases z
    · obtain ⟨h1, h2⟩ := of_decide_eq_true h
      rw [eT] at h2
      obtain ⟨s, e1, e2, e3, e4⟩ := (hW.2 T hT).sz
      obtain ⟨j, hj, rfl⟩ := nI_of (Int32.not_lt.mpr h1)
      rw [e2, nI_ltI hj (by omega)] at h2
      exact ⟨T, j, rfl, h0, rfl, hT, hT5, eT, rfl, by omega, by omega, nI_clamp hj⟩
theorem WN.tr {N : mN} (h : WN N) {t : Nat} {T : mT} (hT : WF T) : WN (setTr N t T) := by
  refine ⟨h.1, fun i hi => ?_⟩
  show WF (if i = t then T else N.2 i)
  by_cases e : i = t
  · rw [if_pos e]; exact hT
  · rw [if_neg e]; exact h.2 i hi
theorem WN.glob {N : mN} (h : WN N) {g : Nat → Int32} (hg : g 3 = N.1 3) : WN (g, N.2) := by
  refine ⟨?_, fun i hi => h.2 i ?_⟩
  · obtain ⟨c, h1, h2⟩ := h.1
    exact ⟨c, by show g 3 = nI c; rw [hg]; exact h1, h2⟩
  · unfold cnt at hi ⊢; rw [← hg]; exact hi
theorem cnt_g {N : mN} {g : Nat → Int32} (hg : g 3 = N.1 3) : cnt (g, N.2) = cnt N := by unfold cnt; rw [← hg]
theorem sz_cases (s : Int32) : isSz s = false ∨ ∃ n, isSz s = true ∧ s = nI n ∧ 1 ≤ n ∧ n ≤ 16 := by
  cases h : isSz s
  · exact Or.inl rfl
  · right
    obtain ⟨h1, h2⟩ := of_decide_eq_true h
    have h0 : ¬ s < 0 := by
      intro z
      rw [Int32.lt_iff_toInt_lt] at z
      rw [Int32.le_iff_toInt_le] at h1
      have e1 : (1 : Int32).toInt = 1 := by decide
      have e0 : (0 : Int32).toInt = 0 := by decide
      omega
    obtain ⟨j, hj, rfl⟩ := nI_of h0
    rw [show (1 : Int32) = nI 1 from rfl, nI_leI (by omega) hj] at h1
    rw [show (16 : Int32) = nI 16 from rfl, nI_leI hj (by omega)] at h2
    exact ⟨j, rfl, rfl, h1, h2⟩
theorem wn_add {N : mN} (hW : WN N) (h : cnt N < 5) {n : Nat} (h1 : 1 ≤ n) (h2 : n ≤ 16) : WN (addN N (nI n)) ∧ cnt (addN N (nI n)) = cnt N + 1 := by
  obtain ⟨hc, hc5⟩ := hW.cn
  have e : (addN N (nI n)).1 3 = nI (cnt N + 1) := by show upd N.1 3 (N.1 3 + 1) 3 = _; rw [upd, if_pos rfl, hc, nI_1]
  have e2 : cnt (addN N (nI n)) = cnt N + 1 := by unfold cnt at e ⊢; rw [e]; exact nI_clamp (by unfold cnt at h; omega)
  refine ⟨⟨⟨cnt N + 1, e, by omega⟩, fun t ht => ?_⟩, e2⟩
  rw [e2] at ht
  show WF (if t = cnt N then newT (nI n) else N.2 t)
  by_cases z : t = cnt N
  · rw [if_pos z]; exact wf_new h1 h2
  · rw [if_neg z]; exact hW.2 t (by omega)
theorem wn_trM {N : mN} (hW : WN N) (n : Nat) : WN (trM N n) := by
  refine ⟨hW.1, fun t ht => ?_⟩
  show WF (if t < n then _ else N.2 t)
  by_cases z : t < n
  · rw [if_pos z]; exact wf_min (hW.2 t ht) _ _
  · rw [if_neg z]; exact hW.2 t ht
theorem wn_itM : ∀ n (N : mN), WN N → WN (itM n N).2 ∧ cnt (itM n N).2 = cnt N ∧ (itM n N).2.1 = N.1 := by
  intro n
  induction n with
  | zero => intro N h; exact ⟨h, rfl, rfl⟩
  | succ n ih =>
    intro N h
    obtain ⟨a, b, c⟩ := ih (trM N (cnt N)) (wn_trM h _)
    exact ⟨a, b.trans rfl, c.trans rfl⟩
theorem WN.add0 {N : mN} (hW : WN N) (s : Int32) : WN (addO N s).2 := by
  unfold addO
  rcases sz_cases s with h | ⟨n, h, rfl, h1, h2⟩
  · rw [h]; exact hW
  · rw [h, if_pos rfl]
    obtain ⟨hc, hc5⟩ := hW.cn
    by_cases h5 : 5 ≤ N.1 3
    · rw [if_pos h5]; exact hW
    · rw [if_neg h5]
      refine (wn_add hW ?_ h1 h2).1
      rw [hc, show (5 : Int32) = nI 5 from rfl, nI_leI (by omega) (by omega)] at h5
      omega
theorem SP.tr {S u : mS} {N : mN} {t : Nat} {T : mT} (h : SP S 1 N) (ht : t < cnt N) (hc : cnt N ≤ 5) (hT : TP u (4 + 3 * t) T) (hF : FR (4 + 3 * t) S u) : SP u 1 (setTr N t T) := by
  refine ⟨?_, fun i hi => ?_⟩
  · rw [hF (1 + 1) (by omega) (by omega) (by omega), hF 1 (by omega) (by omega) (by omega)]; exact h.1
  · show TP u (1 + 3 + 3 * i) (if i = t then T else N.2 i)
    by_cases e : i = t
    · subst e; rw [if_pos rfl]; exact hT
    · rw [if_neg e]; exact (h.2 i hi).off (fun x hx => hF x (by omega) (by omega) (by omega))
theorem fs_fr {S u : mS} {t : Nat} (h : FR (4 + 3 * t) S u) (ht : t < 5) : FS 1 S u := fun c hc => h c (by omega) (by omega) (by omega)
theorem kd4 {t : Nat} (h : t < 5) : kd (4 + 3 * t) = 3 := (by decide +kernel : ∀ t, t < 5 → kd (4 + 3 * t) = 3) t h
theorem rf3 (t : Nat) : rf 3 t = 4 + 3 * t := rfl
end
section
/-! the class's own methods over its State at cell 1 -/
theorem tab_split (x : Int32) (lw n : Nat) (h : lw + n < 1000) : (x.toInt < (lw : Int) ∨ (lw : Int) + n ≤ x.toInt) ∨ ∃ j, j < n ∧ x = nI (lw + j) := by
  by_cases h1 : x.toInt < (lw : Int)
  · exact Or.inl (Or.inl h1)
  · by_cases h2 : (lw : Int) + n ≤ x.toInt
    · exact Or.inl (Or.inr h2)
    · right
      refine ⟨(x.toInt - lw).toNat, by omega, ?_⟩
      apply Int32.toInt_inj.mp
      rw [nI_toInt (by omega)]
      omega
theorem tab_out {x lw hi : Int} {n : Nat} (h : x < lw ∨ lw + n ≤ x) (hn : hi < lw + n) : x < lw ∨ hi < x := by omega
theorem i1 : (1 : Int32).toInt = 1 := by decide
theorem tab_no {x y : Int32} {lw n : Int} (h : x.toInt < lw ∨ lw + n ≤ x.toInt) (h1 : lw ≤ y.toInt) (h2 : y.toInt < lw + n) : ¬ x = y := by rintro rfl; omega
theorem bI_not {b : Bool} (h : b = false) : bI b = 0 := by rw [h]; rfl
theorem bI_yes {b : Bool} (h : b = true) : bI b = 1 := by rw [h]; rfl
section GATES
variable {G : mG} {d : Nat} {S : mS} {N : mN} {t k c s w : Int32}
theorem t_X4_isSize : Call G d M_X4_isSize [.int s] S (fun v u => v = some (bI (isSz s)) ∧ u = S) := by
  refine call_of (lo := [(0, .int s)]) (by decide +kernel) (Nat.le_of_ble_eq_true rfl) rfl ?_
  refine r_iload_n dX4_isSize_0 0 rfl ?_
  refine r_iconst dX4_isSize_1 (v := 1) rfl ?_
  refine r_icmp_lt dX4_isSize_2 (tgt := 15) (by decide) (fun h2 => ?_) (fun h2 => ?_)
  · --t
    refine r_iconst dX4_isSize_15 (v := 0) rfl ?_
    refine r_zret rfl (by first | rfl | decide) dX4_isSize_16 ?_
    exact ⟨by first | (congr 1; simp_all [bI, isSz]; done) | (congr 1; simp_all [bI, isSz, Int32.le_iff_toInt_le, Int32.lt_iff_toInt_lt, i16, i1]; omega), rfl⟩
  · --f
    refine r_iload_n dX4_isSize_5 0 rfl ?_
    refine r_bipush dX4_isSize_6 (v := 16) (by decide +kernel) ?_
    refine r_icmp_gt dX4_isSize_8 (tgt := 15) (by decide) (fun h8 => ?_) (fun h8 => ?_)
    · --t
      refine r_iconst dX4_isSize_15 (v := 0) rfl ?_
      refine r_zret rfl (by first | rfl | decide) dX4_isSize_16 ?_
      exact ⟨by first | (congr 1; simp_all [bI, isSz]; done) | (congr 1; simp_all [bI, isSz, Int32.le_iff_toInt_le, Int32.lt_iff_toInt_lt, i16, i1]; omega), rfl⟩
    · --f
      refine r_iconst dX4_isSize_11 (v := 1) rfl ?_
      refine r_goto dX4_isSize_12 (tgt := 16) (by decide) ?_
      refine r_zret rfl (by first | rfl | decide) dX4_isSize_16 ?_
      exact ⟨by first | (congr 1; simp_all [bI, isSz]; done) | (congr 1; simp_all [bI, isSz, Int32.le_iff_toInt_le, Int32.lt_iff_toInt_lt, i16, i1]; omega), rfl⟩
theorem t_X4_isTroop (hP : SP S 1 N) : Call G d M_X4_isTroop [rv G 0, .int t] S (fun v u => v = some (bI (isTr N t)) ∧ u = S) := by
  refine call_of (lo := [(0, rv G 0), (1, .int t)]) (by decide +kernel) (Nat.le_of_ble_eq_true rfl) rfl ?_
  have e := hP.1.2.2.1
  refine r_iload_n dX4_isTroop_0 1 rfl ?_
  refine r_if_lt dX4_isTroop_1 (tgt := 19) (by decide) (fun h1 => ?_) (fun h1 => ?_)
  · --t
    refine r_iconst dX4_isTroop_19 (v := 0) rfl ?_
    refine r_zret rfl (by first | rfl | decide) dX4_isTroop_20 ?_
    exact ⟨by first | (congr 1; simp_all [bI, isTr]; done) | (congr 1; simp_all [bI, isTr, Int32.le_iff_toInt_le, Int32.lt_iff_toInt_lt]; omega), rfl⟩
  · --f
    refine r_iload_n dX4_isTroop_4 1 rfl ?_
    refine r_aload_n dX4_isTroop_5 0 rfl ?_
    refine r_getR (b := 1) (by first | assumption | rfl) f_X4_10 rfl rfl dX4_isTroop_6 rfl ?_
    refine r_getI (by first | assumption | rfl) f_X4_99 rfl rfl dX4_isTroop_9 ?_
    refine r_icmp_ge dX4_isTroop_12 (tgt := 19) (by decide) (fun h12 => ?_) (fun h12 => ?_)
    · --t
      refine r_iconst dX4_isTroop_19 (v := 0) rfl ?_
      refine r_zret rfl (by first | rfl | decide) dX4_isTroop_20 ?_
      exact ⟨by first | (congr 1; simp_all [bI, isTr]; done) | (congr 1; simp_all [bI, isTr, Int32.le_iff_toInt_le, Int32.lt_iff_toInt_lt]; omega), rfl⟩
    · --f
      refine r_iconst dX4_isTroop_15 (v := 1) rfl ?_
      refine r_goto dX4_isTroop_16 (tgt := 20) (by decide) ?_
      refine r_zret rfl (by first | rfl | decide) dX4_isTroop_20 ?_
      exact ⟨by first | (congr 1; simp_all [bI, isTr]; done) | (congr 1; simp_all [bI, isTr, Int32.le_iff_toInt_le, Int32.lt_iff_toInt_lt]; omega), rfl⟩
theorem t_X4_isScout (hW : WN N) (hP : SP S 1 N) : Call G (d + 1) M_X4_isScout [rv G 0, .int t, .int k] S (fun v u => v = some (bI (isSc N t k)) ∧ u = S) := by
  refine call_of (lo := [(0, rv G 0), (1, .int t), (2, .int k)]) (by decide +kernel) (Nat.le_of_ble_eq_true rfl) rfl ?_
  rcases tr_cases hW t with h | ⟨T, h, rfl, hT, hT5, eT⟩
  ·
    refine r_aload_n dX4_isScout_0 0 rfl ?_
    refine r_iload_n dX4_isScout_1 1 rfl ?_
    refine r_callViF (As := [_]) c_X4_isTroop (by first | assumption | rfl) l_X4_106 rfl rfl rfl (Nat.le_of_ble_eq_true rfl) dX4_isScout_2 (t_X4_isTroop hP) ?_
    refine r_if_eq dX4_isScout_5 (tgt := 28) (by decide) (fun h5 => ?_) (fun h5 => ?_)
    · --t
      refine r_iconst dX4_isScout_28 (v := 0) rfl ?_
      refine r_zret rfl (by first | rfl | decide) dX4_isScout_29 ?_
      exact ⟨by unfold isSc; rw [h]; rfl, rfl⟩
    · --f
      exact absurd (bI_not h) h5
  · have ha := kd4 hT5
    have e := (hP.2 T hT).1.1
    have e2 : S (4 + 3 * T) 0 = (N.2 T).1 0 := e
    refine r_aload_n dX4_isScout_0 0 rfl ?_
    refine r_iload_n dX4_isScout_1 1 rfl ?_
    refine r_callViF (As := [_]) c_X4_isTroop (by first | assumption | rfl) l_X4_106 rfl rfl rfl (Nat.le_of_ble_eq_true rfl) dX4_isScout_2 (t_X4_isTroop hP) ?_
    refine r_if_eq dX4_isScout_5 (tgt := 28) (by decide) (fun h5 => ?_) (fun h5 => ?_)
    · --t
      exact absurd (bI_yes h) (by rw [h5]; decide)
    · --f
      refine r_aload_n dX4_isScout_8 0 rfl ?_
      refine r_getR (b := 1) (by first | assumption | rfl) f_X4_10 rfl rfl dX4_isScout_9 rfl ?_
      refine r_getR (b := 3) (by first | assumption | rfl) f_X4_75 rfl rfl dX4_isScout_12 rfl ?_
      refine r_iload_n dX4_isScout_15 1 rfl ?_
      refine r_aald10 (j := _) (by first | assumption | rfl) (by first | assumption | rfl) (by first | assumption | decide) (rf3 _) dX4_isScout_16 ?_
      refine r_iload_n dX4_isScout_17 2 rfl ?_
      refine r_callViF (As := [_]) c_X3_hasScout (by first | assumption | rfl) l_X4_234 rfl rfl rfl (Nat.le_of_ble_eq_true rfl) dX4_isScout_18 (t_X3_hasScout ha) ?_
      refine r_if_eq dX4_isScout_21 (tgt := 28) (by decide) (fun h21 => ?_) (fun h21 => ?_)
      · --t
        refine r_iconst dX4_isScout_28 (v := 0) rfl ?_
        refine r_zret rfl (by first | rfl | decide) dX4_isScout_29 ?_
        exact ⟨by unfold isSc; rw [h, eT]; simp_all [bI], rfl⟩
      · --f
        refine r_iconst dX4_isScout_24 (v := 1) rfl ?_
        refine r_goto dX4_isScout_25 (tgt := 29) (by decide) ?_
        refine r_zret rfl (by first | rfl | decide) dX4_isScout_29 ?_
        exact ⟨by unfold isSc; rw [h, eT]; simp_all [bI], rfl⟩
theorem t_X4_why (hW : WN N) (hP : SP S 1 N) : Call G (d + 2) M_X4_why [rv G 0, .int t, .int k, .int c] S (fun v u => v = some (whyA N t k c) ∧ u = S) := by
  refine call_of (lo := [(0, rv G 0), (1, .int t), (2, .int k), (3, .int c)]) (by decide +kernel) (Nat.le_of_ble_eq_true rfl) rfl ?_
  rcases sc_cases hW t k with h | ⟨T, K, h, -, rfl, hT, hT5, eT, rfl, hK, hK16, eK⟩
  ·
    refine r_aload_n dX4_why_0 0 rfl ?_
    refine r_iload_n dX4_why_1 1 rfl ?_
    refine r_iload_n dX4_why_2 2 rfl ?_
    refine r_callViF (As := [_, _]) c_X4_isScout (by first | assumption | rfl) l_X4_71 rfl rfl rfl (Nat.le_of_ble_eq_true rfl) dX4_why_3 (t_X4_isScout hW hP) ?_
    refine r_if_ne dX4_why_6 (tgt := 11) (by decide) (fun h6 => ?_) (fun h6 => ?_)
    · --t
      exact absurd (bI_not h) h6
    · --f
      refine r_iconst dX4_why_9 (v := -1) rfl ?_
      refine r_iret rfl dX4_why_10 ?_
      exact ⟨by unfold whyA; rw [h]; rfl, rfl⟩
  · have ha := kd4 hT5
    have hTT : TP S (4 + 3 * T) (N.2 T) := hP.2 T hT
    have hWT := hW.2 T hT
    have e2 : S (4 + 3 * T) 2 = (N.2 T).1 1 := hTT.1.2.2.1
    refine r_aload_n dX4_why_0 0 rfl ?_
    refine r_iload_n dX4_why_1 1 rfl ?_
    refine r_iload_n dX4_why_2 2 rfl ?_
    refine r_callViF (As := [_, _]) c_X4_isScout (by first | assumption | rfl) l_X4_71 rfl rfl rfl (Nat.le_of_ble_eq_true rfl) dX4_why_3 (t_X4_isScout hW hP) ?_
    refine r_if_ne dX4_why_6 (tgt := 11) (by decide) (fun h6 => ?_) (fun h6 => ?_)
    · --t
      refine r_iload_n dX4_why_11 3 rfl ?_
      refine r_if_lt dX4_why_12 (tgt := 20) (by decide) (fun h12 => ?_) (fun h12 => ?_)
      · --t
        refine r_bipush dX4_why_20 (v := -2) (by decide +kernel) ?_
        refine r_iret rfl dX4_why_22 ?_
        refine ⟨?_, rfl⟩
        unfold whyA
        rw [h, if_pos rfl, eT, eK]
        first
          | (rw [if_neg (by intro z; rcases z with z | z; exact h12 z; exact absurd h17 (Int32.not_le.mpr z))]; unfold whyT; first | (rw [hv40]; rfl) | (have n1 := tab_no hsw40 (y := 1) (by decide) (by decide); have n2 := tab_no hsw40 (y := 2) (by decide) (by decide); have n3 := tab_no hsw40 (y := 3) (by decide) (by decide); rw [e2] at h80; simp_all))
          | (rw [if_pos (by first | exact Or.inl h12 | exact Or.inr (Int32.not_le.mp h17))])
      · --f
        refine r_iload_n dX4_why_15 3 rfl ?_
        refine r_iconst dX4_why_16 (v := 1) rfl ?_
        refine r_icmp_le dX4_why_17 (tgt := 23) (by decide) (fun h17 => ?_) (fun h17 => ?_)
        · --t
          refine r_aload_n dX4_why_23 0 rfl ?_
          refine r_getR (b := 1) (by first | assumption | rfl) f_X4_10 rfl rfl dX4_why_24 rfl ?_
          refine r_getR (b := 3) (by first | assumption | rfl) f_X4_75 rfl rfl dX4_why_27 rfl ?_
          refine r_iload_n dX4_why_30 1 rfl ?_
          refine r_aald10 (j := _) (by first | assumption | rfl) (by first | assumption | rfl) (by first | assumption | decide) (rf3 _) dX4_why_31 ?_
          refine r_astore (lo2 := [(0, _), (1, _), (2, _), (3, _), (4, _)]) dX4_why_32 (Nat.le_of_ble_eq_true rfl) [1, 2, 3, 4, 0] rfl ?_
          refine r_aload dX4_why_34 4 rfl ?_
          refine r_iload_n dX4_why_36 2 rfl ?_
          refine r_callViF (As := [_]) c_X3_howIs (by first | assumption | rfl) l_X4_79 rfl rfl rfl (Nat.le_of_ble_eq_true rfl) dX4_why_37 (t_X3_howIs ha hK16 hTT hWT) ?_
          rcases tab_split ((N.2 T).2.1 K) 1 3 (by decide) with hsw40 | ⟨j40, hj40, hsw40⟩
          · --default
            refine r_tabOut (tgt := 74) dX4_why_40 (tab_out hsw40 (by decide)) (by decide) ?_
            refine r_iload_n dX4_why_74 3 rfl ?_
            refine r_aload dX4_why_75 4 rfl ?_
            refine r_getI (by first | assumption | rfl) f_X4_136 rfl rfl dX4_why_77 ?_
            refine r_icmp_ne dX4_why_80 (tgt := 87) (by decide) (fun h80 => ?_) (fun h80 => ?_)
            · --t
              refine r_iconst dX4_why_87 (v := 4) rfl ?_
              refine r_iret rfl dX4_why_88 ?_
              refine ⟨?_, rfl⟩
              unfold whyA
              rw [h, if_pos rfl, eT, eK]
              first
                | (rw [if_neg (by intro z; rcases z with z | z; exact h12 z; exact absurd h17 (Int32.not_le.mpr z))]; unfold whyT; first | (rw [hv40]; rfl) | (have n1 := tab_no hsw40 (y := 1) (by decide) (by decide); have n2 := tab_no hsw40 (y := 2) (by decide) (by decide); have n3 := tab_no hsw40 (y := 3) (by decide) (by decide); rw [e2] at h80; simp_all))
                | (rw [if_pos (by first | exact Or.inl h12 | exact Or.inr (Int32.not_le.mp h17))])
            · --f
              refine r_iconst dX4_why_83 (v := 0) rfl ?_
              refine r_goto dX4_why_84 (tgt := 88) (by decide) ?_
              refine r_iret rfl dX4_why_88 ?_
              refine ⟨?_, rfl⟩
              unfold whyA
              rw [h, if_pos rfl, eT, eK]
              first
                | (rw [if_neg (by intro z; rcases z with z | z; exact h12 z; exact absurd h17 (Int32.not_le.mpr z))]; unfold whyT; first | (rw [hv40]; rfl) | (have n1 := tab_no hsw40 (y := 1) (by decide) (by decide); have n2 := tab_no hsw40 (y := 2) (by decide) (by decide); have n3 := tab_no hsw40 (y := 3) (by decide) (by decide); rw [e2] at h80; simp_all))
                | (rw [if_pos (by first | exact Or.inl h12 | exact Or.inr (Int32.not_le.mp h17))])
          · --in
            match j40, hj40, hsw40 with
            | 0, _, hsw40 =>
              have hv40 : ((N.2 T).2.1 K) = 1 := hsw40
              clear hsw40
              rw [hv40]
              refine r_tabIn (off := 30) (tgt := 70) dX4_why_40 (by decide) (by decide) rfl (by decide) ?_
              refine r_iconst dX4_why_70 (v := 2) rfl ?_
              refine r_iret rfl dX4_why_71 ?_
              refine ⟨?_, rfl⟩
              unfold whyA
              rw [h, if_pos rfl, eT, eK]
              first
                | (rw [if_neg (by intro z; rcases z with z | z; exact h12 z; exact absurd h17 (Int32.not_le.mpr z))]; unfold whyT; first | (rw [hv40]; rfl) | (have n1 := tab_no hsw40 (y := 1) (by decide) (by decide); have n2 := tab_no hsw40 (y := 2) (by decide) (by decide); have n3 := tab_no hsw40 (y := 3) (by decide) (by decide); rw [e2] at h80; simp_all))
                | (rw [if_pos (by first | exact Or.inl h12 | exact Or.inr (Int32.not_le.mp h17))])
            | 1, _, hsw40 =>
              have hv40 : ((N.2 T).2.1 K) = 2 := hsw40
              clear hsw40
              rw [hv40]
              refine r_tabIn (off := 32) (tgt := 72) dX4_why_40 (by decide) (by decide) rfl (by decide) ?_
              refine r_iconst dX4_why_72 (v := 3) rfl ?_
              refine r_iret rfl dX4_why_73 ?_
              refine ⟨?_, rfl⟩
              unfold whyA
              rw [h, if_pos rfl, eT, eK]
              first
                | (rw [if_neg (by intro z; rcases z with z | z; exact h12 z; exact absurd h17 (Int32.not_le.mpr z))]; unfold whyT; first | (rw [hv40]; rfl) | (have n1 := tab_no hsw40 (y := 1) (by decide) (by decide); have n2 := tab_no hsw40 (y := 2) (by decide) (by decide); have n3 := tab_no hsw40 (y := 3) (by decide) (by decide); rw [e2] at h80; simp_all))
                | (rw [if_pos (by first | exact Or.inl h12 | exact Or.inr (Int32.not_le.mp h17))])
            | 2, _, hsw40 =>
              have hv40 : ((N.2 T).2.1 K) = 3 := hsw40
              clear hsw40
              rw [hv40]
              refine r_tabIn (off := 28) (tgt := 68) dX4_why_40 (by decide) (by decide) rfl (by decide) ?_
              refine r_iconst dX4_why_68 (v := 1) rfl ?_
              refine r_iret rfl dX4_why_69 ?_
              refine ⟨?_, rfl⟩
              unfold whyA
              rw [h, if_pos rfl, eT, eK]
              first
                | (rw [if_neg (by intro z; rcases z with z | z; exact h12 z; exact absurd h17 (Int32.not_le.mpr z))]; unfold whyT; first | (rw [hv40]; rfl) | (have n1 := tab_no hsw40 (y := 1) (by decide) (by decide); have n2 := tab_no hsw40 (y := 2) (by decide) (by decide); have n3 := tab_no hsw40 (y := 3) (by decide) (by decide); rw [e2] at h80; simp_all))
                | (rw [if_pos (by first | exact Or.inl h12 | exact Or.inr (Int32.not_le.mp h17))])
            | (j + 3), hj, _ => exact absurd hj (by omega)
        · --f
          refine r_bipush dX4_why_20 (v := -2) (by decide +kernel) ?_
          refine r_iret rfl dX4_why_22 ?_
          refine ⟨?_, rfl⟩
          unfold whyA
          rw [h, if_pos rfl, eT, eK]
          first
            | (rw [if_neg (by intro z; rcases z with z | z; exact h12 z; exact absurd h17 (Int32.not_le.mpr z))]; unfold whyT; first | (rw [hv40]; rfl) | (have n1 := tab_no hsw40 (y := 1) (by decide) (by decide); have n2 := tab_no hsw40 (y := 2) (by decide) (by decide); have n3 := tab_no hsw40 (y := 3) (by decide) (by decide); rw [e2] at h80; simp_all))
            | (rw [if_pos (by first | exact Or.inl h12 | exact Or.inr (Int32.not_le.mp h17))])
    · --f
      exact absurd (bI_yes h) (by rw [h6]; decide)
theorem t_X4_addTroop (hW : WN N) (hP : SP S 1 N) : Call G (d + 1) M_X4_addTroop [rv G 0, .int s] S (fun v u => v = some (addO N s).1 ∧ SP u 1 (addO N s).2 ∧ FS 1 S u) := by
  refine call_of (lo := [(0, rv G 0), (1, .int s)]) (by decide +kernel) (Nat.le_of_ble_eq_true rfl) rfl ?_
  obtain ⟨hc, hc5⟩ := hW.cn
  have ec := hP.1.2.2.1
  rcases sz_cases s with h | ⟨n, h, rfl, hn1, hn2⟩
  ·
    refine r_iload_n dX4_addTroop_0 1 rfl ?_
    refine r_callSiF (As := [_]) c_X4_isSize l_X4_95 rfl rfl rfl (Nat.le_of_ble_eq_true rfl) dX4_addTroop_1 (t_X4_isSize) ?_
    refine r_if_ne dX4_addTroop_4 (tgt := 10) (by decide) (fun h4 => ?_) (fun h4 => ?_)
    · --t
      exact absurd (bI_not h) h4
    · --f
      refine r_bipush dX4_addTroop_7 (v := -2) (by decide +kernel) ?_
      refine r_iret rfl dX4_addTroop_9 ?_
      unfold addO; rw [h]; exact ⟨rfl, hP, FS.rf⟩
  · have h5 : cnt N < 5 → ¬ 5 ≤ N.1 3 := fun z => by rw [hc]; exact nI_ge (b := 5) z (by decide)
    by_cases hlt : cnt N < 5
    · have hl : cnt N < ln 3 := hlt
      have ha := kd4 hlt
      refine r_iload_n dX4_addTroop_0 1 rfl ?_
      refine r_callSiF (As := [_]) c_X4_isSize l_X4_95 rfl rfl rfl (Nat.le_of_ble_eq_true rfl) dX4_addTroop_1 (t_X4_isSize) ?_
      refine r_if_ne dX4_addTroop_4 (tgt := 10) (by decide) (fun h4 => ?_) (fun h4 => ?_)
      · --t
        refine r_aload_n dX4_addTroop_10 0 rfl ?_
        refine r_getR (b := 1) (by first | assumption | rfl) f_X4_10 rfl rfl dX4_addTroop_11 rfl ?_
        refine r_getI (by first | assumption | rfl) f_X4_99 rfl rfl dX4_addTroop_14 ?_
        refine r_iconst dX4_addTroop_17 (v := 5) rfl ?_
        refine r_icmp_lt dX4_addTroop_18 (tgt := 24) (by decide) (fun h18 => ?_) (fun h18 => ?_)
        · --t
          refine r_aload_n dX4_addTroop_24 0 rfl ?_
          refine r_getR (b := 1) (by first | assumption | rfl) f_X4_10 rfl rfl dX4_addTroop_25 rfl ?_
          refine r_getI (by first | assumption | rfl) f_X4_99 rfl rfl dX4_addTroop_28 ?_
          refine r_istore_n (lo2 := [(0, _), (1, _), (2, _)]) dX4_addTroop_31 rfl (Nat.le_of_ble_eq_true rfl) [1, 2, 0] rfl ?_
          refine r_aload_n dX4_addTroop_32 0 rfl ?_
          refine r_getR (b := 1) (by first | assumption | rfl) f_X4_10 rfl rfl dX4_addTroop_33 rfl ?_
          refine r_getR (b := 3) (by first | assumption | rfl) f_X4_75 rfl rfl dX4_addTroop_36 rfl ?_
          refine r_iload_n dX4_addTroop_39 2 rfl ?_
          refine r_aald10 (j := (cnt N)) (by first | assumption | rfl) (by rw [ec, hc]) (by first | assumption | decide) (rf3 _) dX4_addTroop_40 ?_
          refine r_iload_n dX4_addTroop_41 1 rfl ?_
          refine r_callVv (As := [_]) c_X3_begin (by first | assumption | rfl) l_X4_103 rfl rfl rfl (Nat.le_of_ble_eq_true rfl) dX4_addTroop_42 (t_X3_begin ha) (fun u42 q42 => ?_)
          obtain ⟨-, hT2, hF2⟩ := q42
          refine r_aload_n dX4_addTroop_45 0 rfl ?_
          refine r_getR (b := 1) (by first | assumption | rfl) f_X4_10 rfl rfl dX4_addTroop_46 rfl ?_
          refine r_dup dX4_addTroop_49 rfl ?_
          refine r_getI (by first | assumption | rfl) f_X4_99 rfl rfl dX4_addTroop_50 ?_
          refine r_iconst dX4_addTroop_53 (v := 1) rfl ?_
          refine r_iadd dX4_addTroop_54 ?_
          refine r_putI (by first | assumption | rfl) f_X4_99 rfl rfl rfl rfl dX4_addTroop_55 ?_
          refine r_iload_n dX4_addTroop_58 2 rfl ?_
          refine r_iret rfl dX4_addTroop_59 ?_
          unfold addO
          rw [h, if_pos rfl, if_neg (h5 hlt)]
          have w1 : u42 1 = S 1 := hF2 1 (by omega) (by omega) (by omega)
          refine ⟨by rw [ec], ⟨?_, fun i hi => ?_⟩, fun x hx => ?_⟩
          · have e4 : up1 u42 1 (upd (u42 1) 2 (u42 1 2 + 1)) (1 + 1) = S 2 := (up1_n (by omega)).trans (hF2 2 (by omega) (by omega) (by omega))
            rw [e4, up1_s, w1]
            refine ⟨hP.1.1, hP.1.2.1, ?_, hP.1.2.2.2.1, hP.1.2.2.2.2⟩
            show upd (S 1) 2 (S 1 2 + 1) 2 = upd N.1 3 (N.1 3 + 1) 3
            simp only [upd, reduceIte, ec]
          · show TP _ (1 + 3 + 3 * i) (if i = cnt N then newT (nI n) else N.2 i)
            have hi2 : i < cnt N + 1 := by rw [← (wn_add hW hlt hn1 hn2).2]; exact hi
            have z : TP u42 (1 + 3 + 3 * i) (if i = cnt N then newT (nI n) else N.2 i) := by
              by_cases e : i = cnt N
              · subst e; rw [if_pos rfl]; exact hT2
              · rw [if_neg e]; exact (hP.2 i (by omega)).off (fun x hx => hF2 x (by omega) (by omega) (by omega))
            exact z.off (fun x hx => up1_n (by omega))
          · rw [up1_n (by omega)]; exact fs_fr hF2 hlt x hx
        · --f
          exact absurd (by rw [← ec]; exact Int32.not_lt.mp h18) (h5 hlt)
      · --f
        exact absurd (bI_yes h) (by rw [h4]; decide)
    · have hge : 5 ≤ N.1 3 := by rw [hc]; exact nI_le (a := 5) (by omega) (by omega)
      refine r_iload_n dX4_addTroop_0 1 rfl ?_
      refine r_callSiF (As := [_]) c_X4_isSize l_X4_95 rfl rfl rfl (Nat.le_of_ble_eq_true rfl) dX4_addTroop_1 (t_X4_isSize) ?_
      refine r_if_ne dX4_addTroop_4 (tgt := 10) (by decide) (fun h4 => ?_) (fun h4 => ?_)
      · --t
        refine r_aload_n dX4_addTroop_10 0 rfl ?_
        refine r_getR (b := 1) (by first | assumption | rfl) f_X4_10 rfl rfl dX4_addTroop_11 rfl ?_
        refine r_getI (by first | assumption | rfl) f_X4_99 rfl rfl dX4_addTroop_14 ?_
        refine r_iconst dX4_addTroop_17 (v := 5) rfl ?_
        refine r_icmp_lt dX4_addTroop_18 (tgt := 24) (by decide) (fun h18 => ?_) (fun h18 => ?_)
        · --t
          exact absurd (by rw [← ec] at hge; exact hge) (Int32.not_le.mpr h18)
        · --f
          refine r_bipush dX4_addTroop_21 (v := -4) (by decide +kernel) ?_
          refine r_iret rfl dX4_addTroop_23 ?_
          unfold addO; rw [h, if_pos rfl, if_pos hge]; exact ⟨rfl, hP, FS.rf⟩
      · --f
        exact absurd (bI_yes h) (by rw [h4]; decide)
theorem SP.nx {u : mS} {T : Nat} {x : Int32} (h : SP S 1 N) (hT : T < cnt N) (hc : cnt N ≤ 5) (hu : u = up1 S (4 + 3 * T) (upd (S (4 + 3 * T)) 1 x)) : SP u 1 (setTr N T (rszT (N.2 T) x)) ∧ FS 1 S u := by
  have hF : FR (4 + 3 * T) S u := by rw [hu]; exact FR.rf.up0
  refine ⟨h.tr hT hc ?_ hF, fs_fr hF (by omega)⟩
  have g : TP S (4 + 3 * T) (N.2 T) := h.2 T hT
  obtain ⟨⟨a1, a2, a3, a4, a5, a6⟩, ⟨b1, b2, b3, b4⟩, c⟩ := id g
  rw [hu]
  refine TP.sc g ?_ ?_ ?_ ?_ ?_ ?_ ?_ ?_ ?_ ?_ ?_ ?_ rfl <;> simp only [up1, upd, reduceIte, Nat.reduceEqDiff, ap3, ap4]
  · exact a1
  · rfl
  · exact a3
  · exact a4
  · exact a5
  · exact a6
  · exact b1
  · exact b2
  · exact b3
  · exact b4
theorem t_X4_changeSize (hW : WN N) (hP : SP S 1 N) : Call G (d + 1) M_X4_changeSize [rv G 0, .int t, .int s] S (fun v u => v = some (rszO N t s).1 ∧ SP u 1 (rszO N t s).2 ∧ FS 1 S u) := by
  refine call_of (lo := [(0, rv G 0), (1, .int t), (2, .int s)]) (by decide +kernel) (Nat.le_of_ble_eq_true rfl) rfl ?_
  obtain ⟨hc, hc5⟩ := hW.cn
  rcases tr_cases hW t with h | ⟨T, h, rfl, hT, hT5, eT⟩
  ·
    refine r_aload_n dX4_changeSize_0 0 rfl ?_
    refine r_iload_n dX4_changeSize_1 1 rfl ?_
    refine r_callViF (As := [_]) c_X4_isTroop (by first | assumption | rfl) l_X4_106 rfl rfl rfl (Nat.le_of_ble_eq_true rfl) dX4_changeSize_2 (t_X4_isTroop hP) ?_
    refine r_if_ne dX4_changeSize_5 (tgt := 10) (by decide) (fun h5 => ?_) (fun h5 => ?_)
    · --t
      exact absurd (bI_not h) h5
    · --f
      refine r_iconst dX4_changeSize_8 (v := -1) rfl ?_
      refine r_iret rfl dX4_changeSize_9 ?_
      unfold rszO; rw [h]; exact ⟨rfl, hP, FS.rf⟩
  · have ha := kd4 hT5
    have hl : T < ln 3 := hT5
    rcases sz_cases s with h2 | ⟨n, h2, rfl, hn1, hn2⟩
    ·
      refine r_aload_n dX4_changeSize_0 0 rfl ?_
      refine r_iload_n dX4_changeSize_1 1 rfl ?_
      refine r_callViF (As := [_]) c_X4_isTroop (by first | assumption | rfl) l_X4_106 rfl rfl rfl (Nat.le_of_ble_eq_true rfl) dX4_changeSize_2 (t_X4_isTroop hP) ?_
      refine r_if_ne dX4_changeSize_5 (tgt := 10) (by decide) (fun h5 => ?_) (fun h5 => ?_)
      · --t
        refine r_iload_n dX4_changeSize_10 2 rfl ?_
        refine r_callSiF (As := [_]) c_X4_isSize l_X4_95 rfl rfl rfl (Nat.le_of_ble_eq_true rfl) dX4_changeSize_11 (t_X4_isSize) ?_
        refine r_if_ne dX4_changeSize_14 (tgt := 20) (by decide) (fun h14 => ?_) (fun h14 => ?_)
        · --t
          exact absurd (bI_not h2) h14
        · --f
          refine r_bipush dX4_changeSize_17 (v := -2) (by decide +kernel) ?_
          refine r_iret rfl dX4_changeSize_19 ?_
          unfold rszO; rw [h, h2]; exact ⟨rfl, hP, FS.rf⟩
      · --f
        exact absurd (bI_yes h) (by rw [h5]; decide)
    · have hTT : TP S (4 + 3 * T) (N.2 T) := hP.2 T hT
      refine r_aload_n dX4_changeSize_0 0 rfl ?_
      refine r_iload_n dX4_changeSize_1 1 rfl ?_
      refine r_callViF (As := [_]) c_X4_isTroop (by first | assumption | rfl) l_X4_106 rfl rfl rfl (Nat.le_of_ble_eq_true rfl) dX4_changeSize_2 (t_X4_isTroop hP) ?_
      refine r_if_ne dX4_changeSize_5 (tgt := 10) (by decide) (fun h5 => ?_) (fun h5 => ?_)
      · --t
        refine r_iload_n dX4_changeSize_10 2 rfl ?_
        refine r_callSiF (As := [_]) c_X4_isSize l_X4_95 rfl rfl rfl (Nat.le_of_ble_eq_true rfl) dX4_changeSize_11 (t_X4_isSize) ?_
        refine r_if_ne dX4_changeSize_14 (tgt := 20) (by decide) (fun h14 => ?_) (fun h14 => ?_)
        · --t
          refine r_aload_n dX4_changeSize_20 0 rfl ?_
          refine r_getR (b := 1) (by first | assumption | rfl) f_X4_10 rfl rfl dX4_changeSize_21 rfl ?_
          refine r_getR (b := 3) (by first | assumption | rfl) f_X4_75 rfl rfl dX4_changeSize_24 rfl ?_
          refine r_iload_n dX4_changeSize_27 1 rfl ?_
          refine r_aald10 (j := _) (by first | assumption | rfl) (by first | assumption | rfl) (by first | assumption | decide) (rf3 _) dX4_changeSize_28 ?_
          refine r_astore_n (lo2 := [(0, _), (1, _), (2, _), (3, _)]) dX4_changeSize_29 rfl (Nat.le_of_ble_eq_true rfl) [1, 2, 3, 0] rfl ?_
          refine r_aload_n dX4_changeSize_30 3 rfl ?_
          refine r_getI (by first | assumption | rfl) f_X4_109 rfl rfl dX4_changeSize_31 ?_
          refine r_istore (lo2 := [(0, _), (1, _), (2, _), (3, _), (4, _)]) dX4_changeSize_34 (Nat.le_of_ble_eq_true rfl) [1, 2, 3, 4, 0] rfl ?_
          refine r_aload_n dX4_changeSize_36 3 rfl ?_
          refine r_iload_n dX4_changeSize_37 2 rfl ?_
          refine r_putI (by first | assumption | rfl) f_X4_109 rfl rfl rfl rfl dX4_changeSize_38 ?_
          refine r_iload dX4_changeSize_41 4 rfl ?_
          refine r_iret rfl dX4_changeSize_43 ?_
          unfold rszO; rw [h, h2, if_pos rfl, if_pos rfl, eT]
          obtain ⟨z1, z2⟩ := SP.nx hP hT hc5 rfl
          exact ⟨by rw [hTT.1.2.1], z1, z2⟩
        · --f
          exact absurd (bI_yes h2) (by rw [h14]; decide)
      · --f
        exact absurd (bI_yes h) (by rw [h5]; decide)
end GATES
end
section
/-! the class's own methods: coming, losing, minutes, and what is asked -/
theorem why_in {N : mN} (hW : WN N) {t k c : Int32} (h : whyA N t k c = 0 ∨ whyA N t k c = 4) : ∃ T K, t = nI T ∧ T < cnt N ∧ T < 5 ∧ t.toNatClampNeg = T ∧ k = nI K ∧ K < tsz (N.2 T) ∧ K < 16 ∧ k.toNatClampNeg = K ∧ (whyA N t k c = 0 ↔ c = (N.2 T).1 1) := by
  rcases sc_cases hW t k with z | ⟨T, K, z, -, rfl, hT, hT5, eT, rfl, hK, hK16, eK⟩
  · unfold whyA at h; rw [z, if_neg (by decide)] at h; exact absurd h (by decide)
  · refine ⟨T, K, rfl, hT, hT5, eT, rfl, hK, hK16, eK, ?_⟩
    unfold whyA at h ⊢
    rw [z, if_pos rfl] at h ⊢
    by_cases y : c < 0 ∨ 1 < c
    · rw [if_pos y] at h; exact absurd h (by decide)
    · rw [if_neg y, eT, eK] at h ⊢
      unfold whyT at h ⊢
      by_cases h3 : (N.2 T).2.1 K = 3
      · rw [if_pos h3] at h; exact absurd h (by decide)
      · by_cases h1 : (N.2 T).2.1 K = 1
        · rw [if_neg h3, if_pos h1] at h; exact absurd h (by decide)
        · by_cases h2 : (N.2 T).2.1 K = 2
          · rw [if_neg h3, if_neg h1, if_pos h2] at h; exact absurd h (by decide)
          · rw [if_neg h3, if_neg h1, if_neg h2]
            by_cases hc : c = (N.2 T).1 1
            · simp [hc]
            · simp [hc]
theorem SP.ery {S : mS} {N : mN} (h : SP S 1 N) : SP (up1 S 1 (upd (S 1) 4 (S 1 4 + 1))) 1 (eryN N) ∧ FS 1 S (up1 S 1 (upd (S 1) 4 (S 1 4 + 1))) := by
  refine ⟨⟨?_, fun t ht => ?_⟩, FS.rf.up (by omega) (by omega)⟩
  · rw [up1_n (show 1 + 1 ≠ 1 by omega), up1_s]
    refine ⟨h.1.1, h.1.2.1, h.1.2.2.1, h.1.2.2.2.1, ?_⟩
    show upd (S 1) 4 (S 1 4 + 1) 4 = upd N.1 4 (N.1 4 + 1) 4
    rw [upd, upd, if_pos rfl, if_pos rfl, h.1.2.2.2.2]
  · have e : cnt (eryN N) = cnt N := rfl
    rw [e] at ht
    exact (h.2 t ht).off (fun x hx => up1_n (by omega))
theorem wn_ery {N : mN} (h : WN N) : WN (eryN N) := h.glob rfl
section GATES
variable {G : mG} {d : Nat} {S : mS} {N : mN} {t k c s w : Int32}
theorem t_X4_letCome (hW : WN N) (hP : SP S 1 N) : Call G (d + 4) M_X4_letCome [rv G 0, .int t, .int k, .int c] S (fun v u => v = some (comO N t k c).1 ∧ SP u 1 (comO N t k c).2 ∧ FS 1 S u) := by
  refine call_of (lo := [(0, rv G 0), (1, .int t), (2, .int k), (3, .int c)]) (by decide +kernel) (Nat.le_of_ble_eq_true rfl) rfl ?_
  have hwhy := @t_X4_why G (d + 1) S N t k c hW hP
  unfold comO
  by_cases hn : whyA N t k c < 0
  · rw [if_pos hn]
    refine r_aload_n dX4_letCome_0 0 rfl ?_
    refine r_iload_n dX4_letCome_1 1 rfl ?_
    refine r_iload_n dX4_letCome_2 2 rfl ?_
    refine r_iload_n dX4_letCome_3 3 rfl ?_
    refine r_callViF (As := [_, _, _]) c_X4_why (by first | assumption | rfl) l_X4_112 rfl rfl rfl (Nat.le_of_ble_eq_true rfl) dX4_letCome_4 hwhy ?_
    refine r_istore (lo2 := [(0, _), (1, _), (2, _), (3, _), (4, _)]) dX4_letCome_7 (Nat.le_of_ble_eq_true rfl) [1, 2, 3, 4, 0] rfl ?_
    refine r_iload dX4_letCome_9 4 rfl ?_
    refine r_if_ge dX4_letCome_11 (tgt := 17) (by decide) (fun h11 => ?_) (fun h11 => ?_)
    · --t
      exact absurd hn (Int32.not_lt.mpr h11)
    · --f
      refine r_iload dX4_letCome_14 4 rfl ?_
      refine r_iret rfl dX4_letCome_16 ?_
      exact ⟨rfl, hP, FS.rf⟩
  · rw [if_neg hn]
    by_cases h4 : whyA N t k c = 4
    · obtain ⟨T, K, rfl, hT, hT5, eT, rfl, hK, hK16, eK, hcol⟩ := why_in hW (Or.inr h4)
      have hcol2 : ¬ c = (N.2 T).1 1 := fun z => by rw [hcol.mpr z] at h4; exact absurd h4 (by decide)
      rw [if_pos h4, eT, eK]
      obtain ⟨hP2, hF2⟩ := SP.ery hP
      have ha := kd4 hT5
      have hl : T < ln 3 := hT5
      have hWT := hW.2 T hT
      have e5 : up1 S 1 (upd (S 1) 4 (S 1 4 + 1)) 2 1 = N.1 1 := hP2.1.2.1
      have hTT : TP (up1 S 1 (upd (S 1) 4 (S 1 4 + 1))) (4 + 3 * T) (N.2 T) := hP2.2 T hT
      have htk := fun aw => @t_X3_takeIn G d (up1 S 1 (upd (S 1) 4 (S 1 4 + 1))) (4 + 3 * T) K (N.2 T) c aw ha hK hTT hWT
      rw [if_neg hcol2] at htk
      refine r_aload_n dX4_letCome_0 0 rfl ?_
      refine r_iload_n dX4_letCome_1 1 rfl ?_
      refine r_iload_n dX4_letCome_2 2 rfl ?_
      refine r_iload_n dX4_letCome_3 3 rfl ?_
      refine r_callViF (As := [_, _, _]) c_X4_why (by first | assumption | rfl) l_X4_112 rfl rfl rfl (Nat.le_of_ble_eq_true rfl) dX4_letCome_4 hwhy ?_
      refine r_istore (lo2 := [(0, _), (1, _), (2, _), (3, _), (4, _)]) dX4_letCome_7 (Nat.le_of_ble_eq_true rfl) [1, 2, 3, 4, 0] rfl ?_
      refine r_iload dX4_letCome_9 4 rfl ?_
      refine r_if_ge dX4_letCome_11 (tgt := 17) (by decide) (fun h11 => ?_) (fun h11 => ?_)
      · --t
        refine r_iload dX4_letCome_17 4 rfl ?_
        refine r_iconst dX4_letCome_19 (v := 4) rfl ?_
        refine r_icmp_ne dX4_letCome_20 (tgt := 39) (by decide) (fun h20 => ?_) (fun h20 => ?_)
        · --t
          exact absurd h4 h20
        · --f
          refine r_aload_n dX4_letCome_23 0 rfl ?_
          refine r_getR (b := 1) (by first | assumption | rfl) f_X4_10 rfl rfl dX4_letCome_24 rfl ?_
          refine r_dup dX4_letCome_27 rfl ?_
          refine r_getI (by first | assumption | rfl) f_X4_115 rfl rfl dX4_letCome_28 ?_
          refine r_iconst dX4_letCome_31 (v := 1) rfl ?_
          refine r_iadd dX4_letCome_32 ?_
          refine r_putI (by first | assumption | rfl) f_X4_115 rfl rfl rfl rfl dX4_letCome_33 ?_
          refine r_goto dX4_letCome_36 (tgt := 47) (by decide) ?_
          refine r_aload_n dX4_letCome_47 0 rfl ?_
          refine r_getR (b := 1) (by first | assumption | rfl) f_X4_10 rfl rfl dX4_letCome_48 rfl ?_
          refine r_getR (b := 3) (by first | assumption | rfl) f_X4_75 rfl rfl dX4_letCome_51 rfl ?_
          refine r_iload_n dX4_letCome_54 1 rfl ?_
          refine r_aald10 (j := _) (by first | assumption | rfl) (by first | assumption | rfl) (by first | assumption | decide) (rf3 _) dX4_letCome_55 ?_
          refine r_iload_n dX4_letCome_56 2 rfl ?_
          refine r_iload_n dX4_letCome_57 3 rfl ?_
          refine r_aload_n dX4_letCome_58 0 rfl ?_
          refine r_getR (b := 1) (by first | assumption | rfl) f_X4_10 rfl rfl dX4_letCome_59 rfl ?_
          refine r_getR (b := 2) (by first | assumption | rfl) f_X4_49 rfl rfl dX4_letCome_62 rfl ?_
          refine r_iconst dX4_letCome_65 (v := 1) rfl ?_
          refine r_iald (j := 1) (by first | assumption | rfl) (by first | assumption | rfl) (show 1 < ln 2 by decide) dX4_letCome_66 ?_
          refine r_callVi (As := [_, _, _]) c_X3_takeIn (by first | assumption | rfl) l_X4_118 rfl rfl rfl (Nat.le_of_ble_eq_true rfl) dX4_letCome_67 (htk _) (fun r67 u67 q67 => ?_)
          obtain ⟨h3, hT3, hF3⟩ := q67
          cases h3
          refine r_iret rfl dX4_letCome_70 ?_
          rw [e5] at hT3 ⊢
          exact ⟨rfl, hP2.tr hT (hW.cn.2) hT3 hF3, hF2.tr (fs_fr hF3 hT5)⟩
      · --f
        exact absurd h11 (by rw [h4]; decide)
    · rw [if_neg h4]
      by_cases h0 : whyA N t k c = 0
      · obtain ⟨T, K, rfl, hT, hT5, eT, rfl, hK, hK16, eK, hcol⟩ := why_in hW (Or.inl h0)
        rw [if_pos h0, eT, eK]
        have ha := kd4 hT5
        have hl : T < ln 3 := hT5
        have hWT := hW.2 T hT
        have e5 : S 2 1 = N.1 1 := hP.1.2.1
        have hTT : TP S (4 + 3 * T) (N.2 T) := hP.2 T hT
        have htk := fun aw => @t_X3_takeIn G d S (4 + 3 * T) K (N.2 T) c aw ha hK hTT hWT
        rw [if_pos (hcol.mp h0)] at htk
        refine r_aload_n dX4_letCome_0 0 rfl ?_
        refine r_iload_n dX4_letCome_1 1 rfl ?_
        refine r_iload_n dX4_letCome_2 2 rfl ?_
        refine r_iload_n dX4_letCome_3 3 rfl ?_
        refine r_callViF (As := [_, _, _]) c_X4_why (by first | assumption | rfl) l_X4_112 rfl rfl rfl (Nat.le_of_ble_eq_true rfl) dX4_letCome_4 hwhy ?_
        refine r_istore (lo2 := [(0, _), (1, _), (2, _), (3, _), (4, _)]) dX4_letCome_7 (Nat.le_of_ble_eq_true rfl) [1, 2, 3, 4, 0] rfl ?_
        refine r_iload dX4_letCome_9 4 rfl ?_
        refine r_if_ge dX4_letCome_11 (tgt := 17) (by decide) (fun h11 => ?_) (fun h11 => ?_)
        · --t
          refine r_iload dX4_letCome_17 4 rfl ?_
          refine r_iconst dX4_letCome_19 (v := 4) rfl ?_
          refine r_icmp_ne dX4_letCome_20 (tgt := 39) (by decide) (fun h20 => ?_) (fun h20 => ?_)
          · --t
            refine r_iload dX4_letCome_39 4 rfl ?_
            refine r_if_eq dX4_letCome_41 (tgt := 47) (by decide) (fun h41 => ?_) (fun h41 => ?_)
            · --t
              refine r_aload_n dX4_letCome_47 0 rfl ?_
              refine r_getR (b := 1) (by first | assumption | rfl) f_X4_10 rfl rfl dX4_letCome_48 rfl ?_
              refine r_getR (b := 3) (by first | assumption | rfl) f_X4_75 rfl rfl dX4_letCome_51 rfl ?_
              refine r_iload_n dX4_letCome_54 1 rfl ?_
              refine r_aald10 (j := _) (by first | assumption | rfl) (by first | assumption | rfl) (by first | assumption | decide) (rf3 _) dX4_letCome_55 ?_
              refine r_iload_n dX4_letCome_56 2 rfl ?_
              refine r_iload_n dX4_letCome_57 3 rfl ?_
              refine r_aload_n dX4_letCome_58 0 rfl ?_
              refine r_getR (b := 1) (by first | assumption | rfl) f_X4_10 rfl rfl dX4_letCome_59 rfl ?_
              refine r_getR (b := 2) (by first | assumption | rfl) f_X4_49 rfl rfl dX4_letCome_62 rfl ?_
              refine r_iconst dX4_letCome_65 (v := 1) rfl ?_
              refine r_iald (j := 1) (by first | assumption | rfl) (by first | assumption | rfl) (show 1 < ln 2 by decide) dX4_letCome_66 ?_
              refine r_callVi (As := [_, _, _]) c_X3_takeIn (by first | assumption | rfl) l_X4_118 rfl rfl rfl (Nat.le_of_ble_eq_true rfl) dX4_letCome_67 (htk _) (fun r67 u67 q67 => ?_)
              obtain ⟨h3, hT3, hF3⟩ := q67
              cases h3
              refine r_iret rfl dX4_letCome_70 ?_
              rw [e5] at hT3 ⊢
              exact ⟨rfl, hP.tr hT (hW.cn.2) hT3 hF3, fs_fr hF3 hT5⟩
            · --f
              exact absurd h0 h41
          · --f
            exact absurd h20 h4
        · --f
          exact absurd h11 (by rw [h0]; decide)
      · rw [if_neg h0]
        refine r_aload_n dX4_letCome_0 0 rfl ?_
        refine r_iload_n dX4_letCome_1 1 rfl ?_
        refine r_iload_n dX4_letCome_2 2 rfl ?_
        refine r_iload_n dX4_letCome_3 3 rfl ?_
        refine r_callViF (As := [_, _, _]) c_X4_why (by first | assumption | rfl) l_X4_112 rfl rfl rfl (Nat.le_of_ble_eq_true rfl) dX4_letCome_4 hwhy ?_
        refine r_istore (lo2 := [(0, _), (1, _), (2, _), (3, _), (4, _)]) dX4_letCome_7 (Nat.le_of_ble_eq_true rfl) [1, 2, 3, 4, 0] rfl ?_
        refine r_iload dX4_letCome_9 4 rfl ?_
        refine r_if_ge dX4_letCome_11 (tgt := 17) (by decide) (fun h11 => ?_) (fun h11 => ?_)
        · --t
          refine r_iload dX4_letCome_17 4 rfl ?_
          refine r_iconst dX4_letCome_19 (v := 4) rfl ?_
          refine r_icmp_ne dX4_letCome_20 (tgt := 39) (by decide) (fun h20 => ?_) (fun h20 => ?_)
          · --t
            refine r_iload dX4_letCome_39 4 rfl ?_
            refine r_if_eq dX4_letCome_41 (tgt := 47) (by decide) (fun h41 => ?_) (fun h41 => ?_)
            · --t
              exact absurd h41 h0
            · --f
              refine r_bipush dX4_letCome_44 (v := -5) (by decide +kernel) ?_
              refine r_iret rfl dX4_letCome_46 ?_
              exact ⟨rfl, hP, FS.rf⟩
          · --f
            exact absurd h20 h4
        · --f
          exact absurd (Int32.not_le.mp h11) hn
theorem t_X4_loseScout (hW : WN N) (hP : SP S 1 N) : Call G (d + 3) M_X4_loseScout [rv G 0, .int t, .int k] S (fun v u => v = some (losO N t k).1 ∧ SP u 1 (losO N t k).2 ∧ FS 1 S u) := by
  refine call_of (lo := [(0, rv G 0), (1, .int t), (2, .int k)]) (by decide +kernel) (Nat.le_of_ble_eq_true rfl) rfl ?_
  unfold losO
  rcases sc_cases hW t k with h | ⟨T, K, h, -, rfl, hT, hT5, eT, rfl, hK, hK16, eK⟩
  ·
    refine r_aload_n dX4_loseScout_0 0 rfl ?_
    refine r_iload_n dX4_loseScout_1 1 rfl ?_
    refine r_iload_n dX4_loseScout_2 2 rfl ?_
    refine r_callViF (As := [_, _]) c_X4_isScout (by first | assumption | rfl) l_X4_71 rfl rfl rfl (Nat.le_of_ble_eq_true rfl) dX4_loseScout_3 (t_X4_isScout hW hP) ?_
    refine r_if_ne dX4_loseScout_6 (tgt := 11) (by decide) (fun h6 => ?_) (fun h6 => ?_)
    · --t
      exact absurd (bI_not h) h6
    · --f
      refine r_iconst dX4_loseScout_9 (v := -1) rfl ?_
      refine r_iret rfl dX4_loseScout_10 ?_
      rw [h]; exact ⟨rfl, hP, FS.rf⟩
  · have ha := kd4 hT5
    have hl : T < ln 3 := hT5
    have hTT : TP S (4 + 3 * T) (N.2 T) := hP.2 T hT
    have hWT := hW.2 T hT
    have hWs : WF (setH (N.2 T) K 4) := wf_set hWT hK (by simp)
    rw [h, if_pos rfl, eT, eK]
    refine r_aload_n dX4_loseScout_0 0 rfl ?_
    refine r_iload_n dX4_loseScout_1 1 rfl ?_
    refine r_iload_n dX4_loseScout_2 2 rfl ?_
    refine r_callViF (As := [_, _]) c_X4_isScout (by first | assumption | rfl) l_X4_71 rfl rfl rfl (Nat.le_of_ble_eq_true rfl) dX4_loseScout_3 (t_X4_isScout hW hP) ?_
    refine r_if_ne dX4_loseScout_6 (tgt := 11) (by decide) (fun h6 => ?_) (fun h6 => ?_)
    · --t
      refine r_aload_n dX4_loseScout_11 0 rfl ?_
      refine r_getR (b := 1) (by first | assumption | rfl) f_X4_10 rfl rfl dX4_loseScout_12 rfl ?_
      refine r_getR (b := 3) (by first | assumption | rfl) f_X4_75 rfl rfl dX4_loseScout_15 rfl ?_
      refine r_iload_n dX4_loseScout_18 1 rfl ?_
      refine r_aald10 (j := _) (by first | assumption | rfl) (by first | assumption | rfl) (by first | assumption | decide) (rf3 _) dX4_loseScout_19 ?_
      refine r_astore_n (lo2 := [(0, _), (1, _), (2, _), (3, _)]) dX4_loseScout_20 rfl (Nat.le_of_ble_eq_true rfl) [1, 2, 3, 0] rfl ?_
      refine r_aload_n dX4_loseScout_21 3 rfl ?_
      refine r_iload_n dX4_loseScout_22 2 rfl ?_
      refine r_callViF (As := [_]) c_X3_howIs (by first | assumption | rfl) l_X4_79 rfl rfl rfl (Nat.le_of_ble_eq_true rfl) dX4_loseScout_23 (t_X3_howIs ha hK16 hTT hWT) ?_
      refine r_istore (lo2 := [(0, _), (1, _), (2, _), (3, _), (4, _)]) dX4_loseScout_26 (Nat.le_of_ble_eq_true rfl) [1, 2, 3, 4, 0] rfl ?_
      refine r_iload dX4_loseScout_28 4 rfl ?_
      refine r_iconst dX4_loseScout_30 (v := 3) rfl ?_
      refine r_icmp_eq dX4_loseScout_31 (tgt := 40) (by decide) (fun h31 => ?_) (fun h31 => ?_)
      · --t
        refine r_bipush dX4_loseScout_40 (v := -5) (by decide +kernel) ?_
        refine r_iret rfl dX4_loseScout_42 ?_
        rw [if_pos (by first | exact Or.inl h31 | exact Or.inr h37)]; exact ⟨rfl, hP, FS.rf⟩
      · --f
        refine r_iload dX4_loseScout_34 4 rfl ?_
        refine r_iconst dX4_loseScout_36 (v := 4) rfl ?_
        refine r_icmp_ne dX4_loseScout_37 (tgt := 43) (by decide) (fun h37 => ?_) (fun h37 => ?_)
        · --t
          refine r_aload_n dX4_loseScout_43 3 rfl ?_
          refine r_iload_n dX4_loseScout_44 2 rfl ?_
          refine r_callVv (As := [_]) c_X3_missScout (by first | assumption | rfl) l_X4_121 rfl rfl rfl (Nat.le_of_ble_eq_true rfl) dX4_loseScout_45 (t_X3_missScout ha hK16 hTT) (fun u45 q45 => ?_)
          obtain ⟨-, hT2, hF2⟩ := q45
          refine r_aload_n dX4_loseScout_48 3 rfl ?_
          refine r_callViF (As := []) c_X3_countDown (by first | assumption | rfl) l_X4_124 rfl rfl rfl (Nat.le_of_ble_eq_true rfl) dX4_loseScout_49 (t_X3_countDown ha hT2 hWs) ?_
          refine r_iret rfl dX4_loseScout_52 ?_
          rw [if_neg (by intro z; rcases z with z | z; exact h31 z; exact absurd z h37)]
          exact ⟨rfl, hP.tr hT hW.cn.2 hT2 hF2, fs_fr hF2 hT5⟩
        · --f
          refine r_bipush dX4_loseScout_40 (v := -5) (by decide +kernel) ?_
          refine r_iret rfl dX4_loseScout_42 ?_
          rw [if_pos (by first | exact Or.inl h31 | exact Or.inr h37)]; exact ⟨rfl, hP, FS.rf⟩
    · --f
      exact absurd (bI_yes h) (by rw [h6]; decide)
end GATES
end
section
/-! the class's own methods: minutes, and what is asked -/
theorem trM_0 (N : mN) : trM N 0 = N := by
  unfold trM
  show (N.1, fun t => if t < 0 then _ else N.2 t) = N
  simp
theorem SP.tM {S u : mS} {N : mN} {t : Nat} (h : SP S 1 (trM N t)) (ht : t < cnt N) (hc : cnt N ≤ 5) (hT : TP u (4 + 3 * t) (minT (N.2 t) (N.1 0) (N.1 1)).2) (hF : FR (4 + 3 * t) S u) : SP u 1 (trM N (t + 1)) := by
  refine ⟨?_, fun i hi => ?_⟩
  · rw [hF (1 + 1) (by omega) (by omega) (by omega), hF 1 (by omega) (by omega) (by omega)]; exact h.1
  · show TP u (1 + 3 + 3 * i) (if i < t + 1 then (minT (N.2 i) (N.1 0) (N.1 1)).2 else N.2 i)
    by_cases e : i = t
    · subst e; rw [if_pos (by omega)]; exact hT
    · have h2 : TP S (1 + 3 + 3 * i) (if i < t then (minT (N.2 i) (N.1 0) (N.1 1)).2 else N.2 i) := h.2 i hi
      have e2 : i < t + 1 ↔ i < t := by omega
      simp only [e2]
      exact h2.off (fun x hx => hF x (by omega) (by omega) (by omega))
section GATES
variable {G : mG} {d : Nat} {S0 : mS} {Q : Option Int32 → mS → Prop}
theorem lp_X4_pass1 {N : mN} {m i x : Int32} (hW : WN N) (hx : ∀ u, SP u 1 (trM N (cnt N)) → FS 1 S0 u → At G (d + 4) M_X4_passMinutes Q 96 [(0, rv G 0), (1, .int m), (2, .int (x + ansM N (cnt N))), (3, .int i)] [] u) : ∀ n t S, n + t = cnt N → SP S 1 (trM N t) → FS 1 S0 S → At G (d + 4) M_X4_passMinutes Q 44 [(0, rv G 0), (1, .int m), (2, .int (x + ansM N t)), (3, .int i), (4, .int (nI t))] [] S := by
  obtain ⟨hc, hc5⟩ := hW.cn
  intro n
  induction n with
  | zero =>
    intro t S ht hP hF
    obtain rfl : t = cnt N := by omega
    have ec : S 1 2 = nI (cnt N) := hP.1.2.2.1.trans hc
    refine r_iload dX4_passMinutes_44 4 rfl ?_
    refine r_aload_n dX4_passMinutes_46 0 rfl ?_
    refine r_getR (b := 1) (by first | assumption | rfl) f_X4_10 rfl rfl dX4_passMinutes_47 rfl ?_
    refine r_getI (by first | assumption | rfl) f_X4_99 rfl rfl dX4_passMinutes_50 ?_
    refine r_icmp_ge dX4_passMinutes_53 (tgt := 96) (by decide) (fun h53 => ?_) (fun h53 => ?_)
    · --t
      exact r_sub [0, 1, 2, 3] rfl (hx _ hP hF)
    · --f
      exact absurd (by rw [ec]; exact Int32.le_refl _) h53
  | succ n ih =>
    intro t S ht hP hF
    have htc : t < cnt N := by omega
    have ht5 : t < 5 := by omega
    have ec : S 1 2 = nI (cnt N) := hP.1.2.2.1.trans hc
    have hl : t < ln 3 := ht5
    have ha := kd4 ht5
    have e0 : S 2 0 = N.1 0 := hP.1.1
    have e1 : S 2 1 = N.1 1 := hP.1.2.1
    have hTT : TP S (4 + 3 * t) (N.2 t) := by
      have z : TP S (1 + 3 + 3 * t) (if t < t then (minT (N.2 t) (N.1 0) (N.1 1)).2 else N.2 t) := hP.2 t htc
      rw [if_neg (by omega)] at z
      exact z
    have hWT := hW.2 t htc
    refine r_iload dX4_passMinutes_44 4 rfl ?_
    refine r_aload_n dX4_passMinutes_46 0 rfl ?_
    refine r_getR (b := 1) (by first | assumption | rfl) f_X4_10 rfl rfl dX4_passMinutes_47 rfl ?_
    refine r_getI (by first | assumption | rfl) f_X4_99 rfl rfl dX4_passMinutes_50 ?_
    refine r_icmp_ge dX4_passMinutes_53 (tgt := 96) (by decide) (fun h53 => ?_) (fun h53 => ?_)
    · --t
      exact absurd (by rw [ec] at h53; exact h53) (nI_ge htc (by omega))
    · --f
      refine r_iload_n dX4_passMinutes_56 2 rfl ?_
      refine r_aload_n dX4_passMinutes_57 0 rfl ?_
      refine r_getR (b := 1) (by first | assumption | rfl) f_X4_10 rfl rfl dX4_passMinutes_58 rfl ?_
      refine r_getR (b := 3) (by first | assumption | rfl) f_X4_75 rfl rfl dX4_passMinutes_61 rfl ?_
      refine r_iload dX4_passMinutes_64 4 rfl ?_
      refine r_aald10 (j := _) (by first | assumption | rfl) (by first | assumption | rfl) (by first | assumption | decide) (rf3 _) dX4_passMinutes_66 ?_
      refine r_aload_n dX4_passMinutes_67 0 rfl ?_
      refine r_getR (b := 1) (by first | assumption | rfl) f_X4_10 rfl rfl dX4_passMinutes_68 rfl ?_
      refine r_getR (b := 2) (by first | assumption | rfl) f_X4_49 rfl rfl dX4_passMinutes_71 rfl ?_
      refine r_iconst dX4_passMinutes_74 (v := 0) rfl ?_
      refine r_iald (j := 0) (by first | assumption | rfl) (by first | assumption | rfl) (show 0 < ln 2 by decide) dX4_passMinutes_75 ?_
      refine r_aload_n dX4_passMinutes_76 0 rfl ?_
      refine r_getR (b := 1) (by first | assumption | rfl) f_X4_10 rfl rfl dX4_passMinutes_77 rfl ?_
      refine r_getR (b := 2) (by first | assumption | rfl) f_X4_49 rfl rfl dX4_passMinutes_80 rfl ?_
      refine r_iconst dX4_passMinutes_83 (v := 1) rfl ?_
      refine r_iald (j := 1) (by first | assumption | rfl) (by first | assumption | rfl) (show 1 < ln 2 by decide) dX4_passMinutes_84 ?_
      refine r_callVi (As := [_, _]) c_X3_passMinute (by first | assumption | rfl) l_X4_130 rfl rfl rfl (Nat.le_of_ble_eq_true rfl) dX4_passMinutes_85 (t_X3_passMinute ha hTT hWT) (fun r85 u85 q85 => ?_)
      obtain ⟨h3, hT3, hF3⟩ := q85
      cases h3
      rw [e0, e1] at hT3 ⊢
      refine r_iadd dX4_passMinutes_88 ?_
      refine r_istore_n (lo2 := [(0, _), (1, _), (2, _), (3, _), (4, _)]) dX4_passMinutes_89 rfl (Nat.le_of_ble_eq_true rfl) [1, 2, 0, 3, 4] rfl ?_
      refine r_iinc (lo2 := [(0, _), (1, _), (2, _), (3, _), (4, _)]) dX4_passMinutes_90 4 rfl (w := 1) rfl (Nat.le_of_ble_eq_true rfl) [1, 2, 3, 4, 0] rfl ?_
      refine r_goto dX4_passMinutes_93 (tgt := 44) (by decide) ?_
      rw [nI_1, Int32.add_assoc]
      exact ih (t + 1) _ (by omega) (hP.tM htc hc5 hT3 hF3) (hF.tr (fs_fr hF3 ht5))
theorem lp_X4_pass2 {m : Int32} {mm : Nat} (hm : m = nI mm) (hmm : mm < 1000) : ∀ n i (N : mN) x S, n + i = mm → WN N → SP S 1 N → FS 1 S0 S → (∀ u, SP u 1 (itM n N).2 → FS 1 S0 u → At G (d + 4) M_X4_passMinutes Q 102 [(0, rv G 0), (1, .int m), (2, .int (x + (itM n N).1))] [] u) → At G (d + 4) M_X4_passMinutes Q 36 [(0, rv G 0), (1, .int m), (2, .int x), (3, .int (nI i))] [] S := by
  subst hm
  intro n
  induction n with
  | zero =>
    intro i N x S hi hW hP hF hx
    obtain rfl : i = mm := by omega
    refine r_iload_n dX4_passMinutes_36 3 rfl ?_
    refine r_iload_n dX4_passMinutes_37 1 rfl ?_
    refine r_icmp_ge dX4_passMinutes_38 (tgt := 102) (by decide) (fun h38 => ?_) (fun h38 => ?_)
    · --t
      have z := hx S hP hF
      rw [show x + (itM 0 N).1 = x from Int32.add_zero x] at z
      exact r_sub [0, 1, 2] rfl z
    · --f
      exact absurd (Int32.le_refl _) h38
  | succ n ih =>
    intro i N x S hi hW hP hF hx
    have him : i < mm := by omega
    refine r_iload_n dX4_passMinutes_36 3 rfl ?_
    refine r_iload_n dX4_passMinutes_37 1 rfl ?_
    refine r_icmp_ge dX4_passMinutes_38 (tgt := 102) (by decide) (fun h38 => ?_) (fun h38 => ?_)
    · --t
      exact absurd h38 (nI_ge him (by omega))
    · --f
      refine r_iconst dX4_passMinutes_41 (v := 0) rfl ?_
      refine r_istore (lo2 := [(0, _), (1, _), (2, _), (3, _), (4, _)]) dX4_passMinutes_42 (Nat.le_of_ble_eq_true rfl) [1, 2, 3, 4, 0] rfl ?_
      have key := @lp_X4_pass1 G d S0 Q N (nI mm) (nI i) x hW (fun u hPu hFu => ?_) (cnt N) 0 S (by omega) (by rw [trM_0]; exact hP) hF
      · rw [show x + ansM N 0 = x from Int32.add_zero x] at key
        exact key
      · refine r_iinc (lo2 := [(0, _), (1, _), (2, _), (3, _)]) dX4_passMinutes_96 3 rfl (w := 1) rfl (Nat.le_of_ble_eq_true rfl) [1, 2, 3, 0] rfl ?_
        refine r_goto dX4_passMinutes_99 (tgt := 36) (by decide) ?_
        rw [nI_1]
        refine ih (i + 1) (trM N (cnt N)) _ u (by omega) (wn_trM hW _) hPu hFu (fun w hPw hFw => ?_)
        rw [Int32.add_assoc]
        exact hx w hPw hFw
variable {S : mS} {N : mN} {t k c s w : Int32}
theorem SP.adM {m : Int32} (h : SP S 1 N) : SP (up1 S 1 (upd (S 1) 3 (S 1 3 + m))) 1 (addM N m) ∧ FS 1 S (up1 S 1 (upd (S 1) 3 (S 1 3 + m))) := by
  refine ⟨⟨?_, fun t ht => ?_⟩, FS.rf.up (by omega) (by omega)⟩
  · rw [up1_n (show 1 + 1 ≠ 1 by omega), up1_s]
    refine ⟨h.1.1, h.1.2.1, h.1.2.2.1, ?_, h.1.2.2.2.2⟩
    show upd (S 1) 3 (S 1 3 + m) 3 = upd N.1 2 (N.1 2 + m) 2
    rw [upd, upd, if_pos rfl, if_pos rfl, h.1.2.2.2.1]
  · have e : cnt (addM N m) = cnt N := rfl
    rw [e] at ht
    exact (h.2 t ht).off (fun x hx => up1_n (by omega))
theorem i99 : (99 : Int32).toInt = 99 := by decide
theorem t_X4_passMinutes {m : Int32} (hW : WN N) (hP : SP S 1 N) : Call G (d + 4) M_X4_passMinutes [rv G 0, .int m] S (fun v u => v = some (pasO N m).1 ∧ SP u 1 (pasO N m).2 ∧ FS 1 S u) := by
  refine call_of (lo := [(0, rv G 0), (1, .int m)]) (by decide +kernel) (Nat.le_of_ble_eq_true rfl) rfl ?_
  have em : S 1 3 = N.1 2 := hP.1.2.2.2.1
  unfold pasO
  by_cases h1 : m < 1 ∨ 99 < m
  · rw [if_pos h1]
    refine r_iload_n dX4_passMinutes_0 1 rfl ?_
    refine r_iconst dX4_passMinutes_1 (v := 1) rfl ?_
    refine r_icmp_lt dX4_passMinutes_2 (tgt := 11) (by decide) (fun h2 => ?_) (fun h2 => ?_)
    · --t
      refine r_bipush dX4_passMinutes_11 (v := -2) (by decide +kernel) ?_
      refine r_iret rfl dX4_passMinutes_13 ?_
      exact ⟨rfl, hP, FS.rf⟩
    · --f
      refine r_iload_n dX4_passMinutes_5 1 rfl ?_
      refine r_bipush dX4_passMinutes_6 (v := 99) (by decide +kernel) ?_
      refine r_icmp_le dX4_passMinutes_8 (tgt := 14) (by decide) (fun h8 => ?_) (fun h8 => ?_)
      · --t
        exact (h1.elim h2 (Int32.not_lt.mpr h8)).elim
      · --f
        refine r_bipush dX4_passMinutes_11 (v := -2) (by decide +kernel) ?_
        refine r_iret rfl dX4_passMinutes_13 ?_
        exact ⟨rfl, hP, FS.rf⟩
  · rw [if_neg h1]
    obtain ⟨mm, hmm, rfl⟩ : ∃ j, j < 100 ∧ m = nI j := by
      have a1 : ¬ m < 1 := fun z => h1 (Or.inl z)
      have a2 : ¬ 99 < m := fun z => h1 (Or.inr z)
      have a0 : ¬ m < 0 := by
        intro z
        rw [Int32.lt_iff_toInt_lt] at z a1
        rw [i1] at a1
        have e0 : (0 : Int32).toInt = 0 := by decide
        omega
      obtain ⟨j, hj, rfl⟩ := nI_of a0
      rw [show (99 : Int32) = nI 99 from rfl, nI_ltI (by omega) hj] at a2
      exact ⟨j, by omega, rfl⟩
    by_cases h9 : 9999 < N.1 2 + nI mm
    · rw [if_pos h9]
      refine r_iload_n dX4_passMinutes_0 1 rfl ?_
      refine r_iconst dX4_passMinutes_1 (v := 1) rfl ?_
      refine r_icmp_lt dX4_passMinutes_2 (tgt := 11) (by decide) (fun h2 => ?_) (fun h2 => ?_)
      · --t
        exact absurd (Or.inl h2) h1
      · --f
        refine r_iload_n dX4_passMinutes_5 1 rfl ?_
        refine r_bipush dX4_passMinutes_6 (v := 99) (by decide +kernel) ?_
        refine r_icmp_le dX4_passMinutes_8 (tgt := 14) (by decide) (fun h8 => ?_) (fun h8 => ?_)
        · --t
          refine r_aload_n dX4_passMinutes_14 0 rfl ?_
          refine r_getR (b := 1) (by first | assumption | rfl) f_X4_10 rfl rfl dX4_passMinutes_15 rfl ?_
          refine r_getI (by first | assumption | rfl) f_X4_128 rfl rfl dX4_passMinutes_18 ?_
          refine r_iload_n dX4_passMinutes_21 1 rfl ?_
          refine r_iadd dX4_passMinutes_22 ?_
          refine r_sipush dX4_passMinutes_23 (v := 9999) (by decide +kernel) ?_
          refine r_icmp_le dX4_passMinutes_26 (tgt := 32) (by decide) (fun h26 => ?_) (fun h26 => ?_)
          · --t
            exact absurd (by rw [← em] at h9; exact h9) (Int32.not_lt.mpr h26)
          · --f
            refine r_bipush dX4_passMinutes_29 (v := -5) (by decide +kernel) ?_
            refine r_iret rfl dX4_passMinutes_31 ?_
            exact ⟨rfl, hP, FS.rf⟩
        · --f
          exact absurd (Or.inr (Int32.not_le.mp h8)) h1
    · rw [if_neg h9, nI_clamp (n := mm) (by omega)]
      refine r_iload_n dX4_passMinutes_0 1 rfl ?_
      refine r_iconst dX4_passMinutes_1 (v := 1) rfl ?_
      refine r_icmp_lt dX4_passMinutes_2 (tgt := 11) (by decide) (fun h2 => ?_) (fun h2 => ?_)
      · --t
        exact absurd (Or.inl h2) h1
      · --f
        refine r_iload_n dX4_passMinutes_5 1 rfl ?_
        refine r_bipush dX4_passMinutes_6 (v := 99) (by decide +kernel) ?_
        refine r_icmp_le dX4_passMinutes_8 (tgt := 14) (by decide) (fun h8 => ?_) (fun h8 => ?_)
        · --t
          refine r_aload_n dX4_passMinutes_14 0 rfl ?_
          refine r_getR (b := 1) (by first | assumption | rfl) f_X4_10 rfl rfl dX4_passMinutes_15 rfl ?_
          refine r_getI (by first | assumption | rfl) f_X4_128 rfl rfl dX4_passMinutes_18 ?_
          refine r_iload_n dX4_passMinutes_21 1 rfl ?_
          refine r_iadd dX4_passMinutes_22 ?_
          refine r_sipush dX4_passMinutes_23 (v := 9999) (by decide +kernel) ?_
          refine r_icmp_le dX4_passMinutes_26 (tgt := 32) (by decide) (fun h26 => ?_) (fun h26 => ?_)
          · --t
            refine r_iconst dX4_passMinutes_32 (v := 0) rfl ?_
            refine r_istore_n (lo2 := [(0, _), (1, _), (2, _)]) dX4_passMinutes_33 rfl (Nat.le_of_ble_eq_true rfl) [1, 2, 0] rfl ?_
            refine r_iconst dX4_passMinutes_34 (v := 0) rfl ?_
            refine r_istore_n (lo2 := [(0, _), (1, _), (2, _), (3, _)]) dX4_passMinutes_35 rfl (Nat.le_of_ble_eq_true rfl) [1, 2, 3, 0] rfl ?_
            refine lp_X4_pass2 (S0 := S) (mm := mm) rfl (by omega) mm 0 N 0 S (by omega) hW hP FS.rf (fun u hPu hFu => ?_)
            rw [show (0 : Int32) + (itM mm N).1 = (itM mm N).1 from Int32.zero_add _]
            obtain ⟨z1, z2⟩ := hPu.adM (m := nI mm)
            refine r_aload_n dX4_passMinutes_102 0 rfl ?_
            refine r_getR (b := 1) rfl f_X4_10 rfl rfl dX4_passMinutes_103 rfl ?_
            refine r_dup dX4_passMinutes_106 rfl ?_
            refine r_getI rfl f_X4_128 rfl rfl dX4_passMinutes_107 ?_
            refine r_iload_n dX4_passMinutes_110 1 rfl ?_
            refine r_iadd dX4_passMinutes_111 ?_
            refine r_putI rfl f_X4_128 rfl rfl rfl rfl dX4_passMinutes_112 ?_
            refine r_iload_n dX4_passMinutes_115 2 rfl ?_
            refine r_iret rfl dX4_passMinutes_116 ?_
            exact ⟨rfl, z1, hFu.tr z2⟩
          · --f
            exact absurd (by rw [em] at h26; exact Int32.not_le.mp h26) h9
        · --f
          exact absurd (Or.inr (Int32.not_le.mp h8)) h1
theorem t_X4_waitsFor (hW : WN N) (hP : SP S 1 N) : Call G (d + 2) M_X4_waitsFor [rv G 0, .int t] S (fun v u => v = some (waiA N t) ∧ u = S) := by
  refine call_of (lo := [(0, rv G 0), (1, .int t)]) (by decide +kernel) (Nat.le_of_ble_eq_true rfl) rfl ?_
  unfold waiA
  rcases tr_cases hW t with h | ⟨T, h, rfl, hT, hT5, eT⟩
  ·
    refine r_aload_n dX4_waitsFor_0 0 rfl ?_
    refine r_iload_n dX4_waitsFor_1 1 rfl ?_
    refine r_callViF (As := [_]) c_X4_isTroop (by first | assumption | rfl) l_X4_106 rfl rfl rfl (Nat.le_of_ble_eq_true rfl) dX4_waitsFor_2 (t_X4_isTroop hP) ?_
    refine r_if_ne dX4_waitsFor_5 (tgt := 10) (by decide) (fun h5 => ?_) (fun h5 => ?_)
    · --t
      exact absurd (bI_not h) h5
    · --f
      refine r_iconst dX4_waitsFor_8 (v := -1) rfl ?_
      refine r_iret rfl dX4_waitsFor_9 ?_
      rw [h]; exact ⟨rfl, rfl⟩
  · have ha := kd4 hT5
    have hl : T < ln 3 := hT5
    have hTT : TP S (4 + 3 * T) (N.2 T) := hP.2 T hT
    have hWT := hW.2 T hT
    refine r_aload_n dX4_waitsFor_0 0 rfl ?_
    refine r_iload_n dX4_waitsFor_1 1 rfl ?_
    refine r_callViF (As := [_]) c_X4_isTroop (by first | assumption | rfl) l_X4_106 rfl rfl rfl (Nat.le_of_ble_eq_true rfl) dX4_waitsFor_2 (t_X4_isTroop hP) ?_
    refine r_if_ne dX4_waitsFor_5 (tgt := 10) (by decide) (fun h5 => ?_) (fun h5 => ?_)
    · --t
      refine r_aload_n dX4_waitsFor_10 0 rfl ?_
      refine r_getR (b := 1) (by first | assumption | rfl) f_X4_10 rfl rfl dX4_waitsFor_11 rfl ?_
      refine r_getR (b := 3) (by first | assumption | rfl) f_X4_75 rfl rfl dX4_waitsFor_14 rfl ?_
      refine r_iload_n dX4_waitsFor_17 1 rfl ?_
      refine r_aald10 (j := _) (by first | assumption | rfl) (by first | assumption | rfl) (by first | assumption | decide) (rf3 _) dX4_waitsFor_18 ?_
      refine r_callViF (As := []) c_X3_waitedFor (by first | assumption | rfl) l_X4_183 rfl rfl rfl (Nat.le_of_ble_eq_true rfl) dX4_waitsFor_19 (t_X3_waitedFor ha hTT hWT) ?_
      refine r_iret rfl dX4_waitsFor_22 ?_
      rw [h, if_pos rfl, eT]; exact ⟨rfl, rfl⟩
    · --f
      exact absurd (bI_yes h) (by rw [h5]; decide)
end GATES
end
section
/-! the class's own methods: what is asked -/
theorem knw_eq {T : mT} (k : Int32) : (decide (0 ≤ k ∧ k < T.1 0) || (decide (0 ≤ k ∧ k < 16) && bt (hm T 3) k.toNatClampNeg)) = knwT T k := by
  unfold knwT
  by_cases h : 0 ≤ k ∧ k < 16
  · obtain ⟨j, hj, rfl⟩ := nI_of (Int32.not_lt.mpr h.1)
    have h2 := h.2
    rw [show (16 : Int32) = nI 16 from rfl, nI_ltI hj (by omega)] at h2
    rw [nI_clamp hj, bt_hm T 3 h2]
  · rw [decide_eq_false h]; rfl
theorem knw_in {T : mT} {k : Int32} (hW : WF T) (h : knwT T k = true) : ∃ K, k = nI K ∧ K < 16 ∧ k.toNatClampNeg = K := by
  unfold knwT at h
  rw [Bool.or_eq_true, Bool.and_eq_true] at h
  obtain ⟨s, e1, e2, e3, e4⟩ := hW.sz
  rcases h with h | ⟨h, -⟩
  · obtain ⟨h1, h2⟩ := of_decide_eq_true h
    obtain ⟨j, hj, rfl⟩ := nI_of (Int32.not_lt.mpr h1)
    rw [e2, nI_ltI hj (by omega)] at h2
    exact ⟨j, rfl, by omega, nI_clamp hj⟩
  · obtain ⟨h1, h2⟩ := of_decide_eq_true h
    obtain ⟨j, hj, rfl⟩ := nI_of (Int32.not_lt.mpr h1)
    rw [show (16 : Int32) = nI 16 from rfl, nI_ltI hj (by omega)] at h2
    exact ⟨j, rfl, h2, nI_clamp hj⟩
section GATES
variable {G : mG} {d : Nat} {S : mS} {N : mN} {t k c s w : Int32}
theorem t_X4_ofTroop (hW : WN N) (hP : SP S 1 N) : Call G (d + 3) M_X4_ofTroop [rv G 0, .int t, .int w] S (fun v u => v = some (ofTA N t w) ∧ u = S) := by
  refine call_of (lo := [(0, rv G 0), (1, .int t), (2, .int w)]) (by decide +kernel) (Nat.le_of_ble_eq_true rfl) rfl ?_
  unfold ofTA
  rcases tr_cases hW t with h | ⟨T, h, rfl, hT, hT5, eT⟩
  ·
    refine r_aload_n dX4_ofTroop_0 0 rfl ?_
    refine r_iload_n dX4_ofTroop_1 1 rfl ?_
    refine r_callViF (As := [_]) c_X4_isTroop (by first | assumption | rfl) l_X4_106 rfl rfl rfl (Nat.le_of_ble_eq_true rfl) dX4_ofTroop_2 (t_X4_isTroop hP) ?_
    refine r_if_ne dX4_ofTroop_5 (tgt := 10) (by decide) (fun h5 => ?_) (fun h5 => ?_)
    · --t
      exact absurd (bI_not h) h5
    · --f
      refine r_iconst dX4_ofTroop_8 (v := -1) rfl ?_
      refine r_iret rfl dX4_ofTroop_9 ?_
      rw [h]; exact ⟨rfl, rfl⟩
  · have ha := kd4 hT5
    have hl : T < ln 3 := hT5
    have hTT : TP S (4 + 3 * T) (N.2 T) := hP.2 T hT
    have hWT := hW.2 T hT
    obtain ⟨⟨a1, a2, a3, a4, a5, a6⟩, ⟨b1, b2, b3, b4⟩, -⟩ := id hTT
    rw [h, if_pos rfl, eT]
    refine r_aload_n dX4_ofTroop_0 0 rfl ?_
    refine r_iload_n dX4_ofTroop_1 1 rfl ?_
    refine r_callViF (As := [_]) c_X4_isTroop (by first | assumption | rfl) l_X4_106 rfl rfl rfl (Nat.le_of_ble_eq_true rfl) dX4_ofTroop_2 (t_X4_isTroop hP) ?_
    refine r_if_ne dX4_ofTroop_5 (tgt := 10) (by decide) (fun h5 => ?_) (fun h5 => ?_)
    · --t
      refine r_aload_n dX4_ofTroop_10 0 rfl ?_
      refine r_getR (b := 1) (by first | assumption | rfl) f_X4_10 rfl rfl dX4_ofTroop_11 rfl ?_
      refine r_getR (b := 3) (by first | assumption | rfl) f_X4_75 rfl rfl dX4_ofTroop_14 rfl ?_
      refine r_iload_n dX4_ofTroop_17 1 rfl ?_
      refine r_aald10 (j := _) (by first | assumption | rfl) (by first | assumption | rfl) (by first | assumption | decide) (rf3 _) dX4_ofTroop_18 ?_
      refine r_astore_n (lo2 := [(0, _), (1, _), (2, _), (3, _)]) dX4_ofTroop_19 rfl (Nat.le_of_ble_eq_true rfl) [1, 2, 3, 0] rfl ?_
      refine r_iload_n dX4_ofTroop_20 2 rfl ?_
      rcases tab_split w 0 12 (by decide) with hsw21 | ⟨j21, hj21, hsw21⟩
      · --default
        refine r_tabOut (tgt := 144) dX4_ofTroop_21 (tab_out hsw21 (by decide)) (by decide) ?_
        refine r_bipush dX4_ofTroop_144 (v := -2) (by decide +kernel) ?_
        refine r_iret rfl dX4_ofTroop_146 ?_
        rw [if_neg (tab_no hsw21 (y := 0) (by decide) (by decide)), if_neg (tab_no hsw21 (y := 1) (by decide) (by decide)), if_neg (tab_no hsw21 (y := 2) (by decide) (by decide)), if_neg (tab_no hsw21 (y := 3) (by decide) (by decide)), if_neg (tab_no hsw21 (y := 4) (by decide) (by decide)), if_neg (tab_no hsw21 (y := 5) (by decide) (by decide)), if_neg (tab_no hsw21 (y := 6) (by decide) (by decide)), if_neg (tab_no hsw21 (y := 7) (by decide) (by decide)), if_neg (tab_no hsw21 (y := 8) (by decide) (by decide)), if_neg (tab_no hsw21 (y := 9) (by decide) (by decide)), if_neg (tab_no hsw21 (y := 10) (by decide) (by decide)), if_neg (tab_no hsw21 (y := 11) (by decide) (by decide))]; exact ⟨rfl, rfl⟩
      · --in
        match j21, hj21, hsw21 with
        | 0, _, hsw21 =>
          have hv21 : w = 0 := hsw21
          clear hsw21
          subst hv21
          refine r_tabIn (off := 63) (tgt := 84) dX4_ofTroop_21 (by decide) (by decide) rfl (by decide) ?_
          refine r_aload_n dX4_ofTroop_84 3 rfl ?_
          refine r_getI (by first | assumption | rfl) f_X4_133 rfl rfl dX4_ofTroop_85 ?_
          refine r_iret rfl dX4_ofTroop_88 ?_
          exact ⟨by first | rfl | (rw [a1]; rfl) | (rw [a2]; rfl) | (rw [a3]; rfl) | (rw [a4]; rfl) | (rw [a5]; rfl) | (rw [a6]; rfl) | (rw [b1]; rfl) | (rw [b2]; rfl) | (rw [b3]; rfl) | (rw [b4]; rfl), rfl⟩
        | 1, _, hsw21 =>
          have hv21 : w = 1 := hsw21
          clear hsw21
          subst hv21
          refine r_tabIn (off := 68) (tgt := 89) dX4_ofTroop_21 (by decide) (by decide) rfl (by decide) ?_
          refine r_aload_n dX4_ofTroop_89 3 rfl ?_
          refine r_getI (by first | assumption | rfl) f_X4_136 rfl rfl dX4_ofTroop_90 ?_
          refine r_iret rfl dX4_ofTroop_93 ?_
          exact ⟨by first | rfl | (rw [a1]; rfl) | (rw [a2]; rfl) | (rw [a3]; rfl) | (rw [a4]; rfl) | (rw [a5]; rfl) | (rw [a6]; rfl) | (rw [b1]; rfl) | (rw [b2]; rfl) | (rw [b3]; rfl) | (rw [b4]; rfl), rfl⟩
        | 2, _, hsw21 =>
          have hv21 : w = 2 := hsw21
          clear hsw21
          subst hv21
          refine r_tabIn (off := 73) (tgt := 94) dX4_ofTroop_21 (by decide) (by decide) rfl (by decide) ?_
          refine r_aload_n dX4_ofTroop_94 3 rfl ?_
          refine r_getI (by first | assumption | rfl) f_X4_109 rfl rfl dX4_ofTroop_95 ?_
          refine r_iret rfl dX4_ofTroop_98 ?_
          exact ⟨by first | rfl | (rw [a1]; rfl) | (rw [a2]; rfl) | (rw [a3]; rfl) | (rw [a4]; rfl) | (rw [a5]; rfl) | (rw [a6]; rfl) | (rw [b1]; rfl) | (rw [b2]; rfl) | (rw [b3]; rfl) | (rw [b4]; rfl), rfl⟩
        | 3, _, hsw21 =>
          have hv21 : w = 3 := hsw21
          clear hsw21
          subst hv21
          refine r_tabIn (off := 78) (tgt := 99) dX4_ofTroop_21 (by decide) (by decide) rfl (by decide) ?_
          refine r_aload_n dX4_ofTroop_99 3 rfl ?_
          refine r_callViF (As := []) c_X3_countDown (by first | assumption | rfl) l_X4_124 rfl rfl rfl (Nat.le_of_ble_eq_true rfl) dX4_ofTroop_100 (t_X3_countDown ha hTT hWT) ?_
          refine r_iret rfl dX4_ofTroop_103 ?_
          exact ⟨by first | rfl | (rw [a1]; rfl) | (rw [a2]; rfl) | (rw [a3]; rfl) | (rw [a4]; rfl) | (rw [a5]; rfl) | (rw [a6]; rfl) | (rw [b1]; rfl) | (rw [b2]; rfl) | (rw [b3]; rfl) | (rw [b4]; rfl), rfl⟩
        | 4, _, hsw21 =>
          have hv21 : w = 4 := hsw21
          clear hsw21
          subst hv21
          refine r_tabIn (off := 83) (tgt := 104) dX4_ofTroop_21 (by decide) (by decide) rfl (by decide) ?_
          refine r_aload_n dX4_ofTroop_104 3 rfl ?_
          refine r_getI (by first | assumption | rfl) f_X4_139 rfl rfl dX4_ofTroop_105 ?_
          refine r_iret rfl dX4_ofTroop_108 ?_
          exact ⟨by first | rfl | (rw [a1]; rfl) | (rw [a2]; rfl) | (rw [a3]; rfl) | (rw [a4]; rfl) | (rw [a5]; rfl) | (rw [a6]; rfl) | (rw [b1]; rfl) | (rw [b2]; rfl) | (rw [b3]; rfl) | (rw [b4]; rfl), rfl⟩
        | 5, _, hsw21 =>
          have hv21 : w = 5 := hsw21
          clear hsw21
          subst hv21
          refine r_tabIn (off := 88) (tgt := 109) dX4_ofTroop_21 (by decide) (by decide) rfl (by decide) ?_
          refine r_aload_n dX4_ofTroop_109 3 rfl ?_
          refine r_callViF (As := []) c_X3_atHome (by first | assumption | rfl) l_X4_142 rfl rfl rfl (Nat.le_of_ble_eq_true rfl) dX4_ofTroop_110 (t_X3_atHome ha hTT hWT) ?_
          refine r_iret rfl dX4_ofTroop_113 ?_
          exact ⟨by first | rfl | (rw [a1]; rfl) | (rw [a2]; rfl) | (rw [a3]; rfl) | (rw [a4]; rfl) | (rw [a5]; rfl) | (rw [a6]; rfl) | (rw [b1]; rfl) | (rw [b2]; rfl) | (rw [b3]; rfl) | (rw [b4]; rfl), rfl⟩
        | 6, _, hsw21 =>
          have hv21 : w = 6 := hsw21
          clear hsw21
          subst hv21
          refine r_tabIn (off := 93) (tgt := 114) dX4_ofTroop_21 (by decide) (by decide) rfl (by decide) ?_
          refine r_aload_n dX4_ofTroop_114 3 rfl ?_
          refine r_getI (by first | assumption | rfl) f_X4_145 rfl rfl dX4_ofTroop_115 ?_
          refine r_iret rfl dX4_ofTroop_118 ?_
          exact ⟨by first | rfl | (rw [a1]; rfl) | (rw [a2]; rfl) | (rw [a3]; rfl) | (rw [a4]; rfl) | (rw [a5]; rfl) | (rw [a6]; rfl) | (rw [b1]; rfl) | (rw [b2]; rfl) | (rw [b3]; rfl) | (rw [b4]; rfl), rfl⟩
        | 7, _, hsw21 =>
          have hv21 : w = 7 := hsw21
          clear hsw21
          subst hv21
          refine r_tabIn (off := 98) (tgt := 119) dX4_ofTroop_21 (by decide) (by decide) rfl (by decide) ?_
          refine r_aload_n dX4_ofTroop_119 3 rfl ?_
          refine r_getI (by first | assumption | rfl) f_X4_148 rfl rfl dX4_ofTroop_120 ?_
          refine r_iret rfl dX4_ofTroop_123 ?_
          exact ⟨by first | rfl | (rw [a1]; rfl) | (rw [a2]; rfl) | (rw [a3]; rfl) | (rw [a4]; rfl) | (rw [a5]; rfl) | (rw [a6]; rfl) | (rw [b1]; rfl) | (rw [b2]; rfl) | (rw [b3]; rfl) | (rw [b4]; rfl), rfl⟩
        | 8, _, hsw21 =>
          have hv21 : w = 8 := hsw21
          clear hsw21
          subst hv21
          refine r_tabIn (off := 103) (tgt := 124) dX4_ofTroop_21 (by decide) (by decide) rfl (by decide) ?_
          refine r_aload_n dX4_ofTroop_124 3 rfl ?_
          refine r_getI (by first | assumption | rfl) f_X4_151 rfl rfl dX4_ofTroop_125 ?_
          refine r_iret rfl dX4_ofTroop_128 ?_
          exact ⟨by first | rfl | (rw [a1]; rfl) | (rw [a2]; rfl) | (rw [a3]; rfl) | (rw [a4]; rfl) | (rw [a5]; rfl) | (rw [a6]; rfl) | (rw [b1]; rfl) | (rw [b2]; rfl) | (rw [b3]; rfl) | (rw [b4]; rfl), rfl⟩
        | 9, _, hsw21 =>
          have hv21 : w = 9 := hsw21
          clear hsw21
          subst hv21
          refine r_tabIn (off := 108) (tgt := 129) dX4_ofTroop_21 (by decide) (by decide) rfl (by decide) ?_
          refine r_aload_n dX4_ofTroop_129 3 rfl ?_
          refine r_getI (by first | assumption | rfl) f_X4_154 rfl rfl dX4_ofTroop_130 ?_
          refine r_iret rfl dX4_ofTroop_133 ?_
          exact ⟨by first | rfl | (rw [a1]; rfl) | (rw [a2]; rfl) | (rw [a3]; rfl) | (rw [a4]; rfl) | (rw [a5]; rfl) | (rw [a6]; rfl) | (rw [b1]; rfl) | (rw [b2]; rfl) | (rw [b3]; rfl) | (rw [b4]; rfl), rfl⟩
        | 10, _, hsw21 =>
          have hv21 : w = 10 := hsw21
          clear hsw21
          subst hv21
          refine r_tabIn (off := 113) (tgt := 134) dX4_ofTroop_21 (by decide) (by decide) rfl (by decide) ?_
          refine r_aload_n dX4_ofTroop_134 3 rfl ?_
          refine r_getI (by first | assumption | rfl) f_X4_157 rfl rfl dX4_ofTroop_135 ?_
          refine r_iret rfl dX4_ofTroop_138 ?_
          exact ⟨by first | rfl | (rw [a1]; rfl) | (rw [a2]; rfl) | (rw [a3]; rfl) | (rw [a4]; rfl) | (rw [a5]; rfl) | (rw [a6]; rfl) | (rw [b1]; rfl) | (rw [b2]; rfl) | (rw [b3]; rfl) | (rw [b4]; rfl), rfl⟩
        | 11, _, hsw21 =>
          have hv21 : w = 11 := hsw21
          clear hsw21
          subst hv21
          refine r_tabIn (off := 118) (tgt := 139) dX4_ofTroop_21 (by decide) (by decide) rfl (by decide) ?_
          refine r_aload_n dX4_ofTroop_139 3 rfl ?_
          refine r_getI (by first | assumption | rfl) f_X4_160 rfl rfl dX4_ofTroop_140 ?_
          refine r_iret rfl dX4_ofTroop_143 ?_
          exact ⟨by first | rfl | (rw [a1]; rfl) | (rw [a2]; rfl) | (rw [a3]; rfl) | (rw [a4]; rfl) | (rw [a5]; rfl) | (rw [a6]; rfl) | (rw [b1]; rfl) | (rw [b2]; rfl) | (rw [b3]; rfl) | (rw [b4]; rfl), rfl⟩
        | (j + 12), hj, _ => exact absurd hj (by omega)
    · --f
      exact absurd (bI_yes h) (by rw [h5]; decide)
theorem t_X4_of (hW : WN N) (hP : SP S 1 N) : Call G (d + 3) M_X4_of [rv G 0, .int t, .int k, .int w] S (fun v u => v = some (ofA N t k w) ∧ u = S) := by
  refine call_of (lo := [(0, rv G 0), (1, .int t), (2, .int k), (3, .int w)]) (by decide +kernel) (Nat.le_of_ble_eq_true rfl) rfl ?_
  unfold ofA
  rcases tr_cases hW t with h | ⟨T, h, rfl, hT, hT5, eT⟩
  ·
    refine r_aload_n dX4_of_0 0 rfl ?_
    refine r_iload_n dX4_of_1 1 rfl ?_
    refine r_callViF (As := [_]) c_X4_isTroop (by first | assumption | rfl) l_X4_106 rfl rfl rfl (Nat.le_of_ble_eq_true rfl) dX4_of_2 (t_X4_isTroop hP) ?_
    refine r_if_ne dX4_of_5 (tgt := 10) (by decide) (fun h5 => ?_) (fun h5 => ?_)
    · --t
      exact absurd (bI_not h) h5
    · --f
      refine r_iconst dX4_of_8 (v := -1) rfl ?_
      refine r_iret rfl dX4_of_9 ?_
      rw [h]; exact ⟨rfl, rfl⟩
  · have ha := kd4 hT5
    have hl : T < ln 3 := hT5
    obtain ⟨k1, k2, l1, l2, f1, f2⟩ := kdT ha
    have hTT : TP S (4 + 3 * T) (N.2 T) := hP.2 T hT
    have hWT := hW.2 T hT
    have hkn := @t_X3_knows G (d + 1) S (4 + 3 * T) k ha
    rw [hTT.1.1, hTT.2.1.2.2.1, knw_eq] at hkn
    rw [h, if_pos rfl, eT]
    cases hk : knwT (N.2 T) k
    · rw [hk] at hkn
      refine r_aload_n dX4_of_0 0 rfl ?_
      refine r_iload_n dX4_of_1 1 rfl ?_
      refine r_callViF (As := [_]) c_X4_isTroop (by first | assumption | rfl) l_X4_106 rfl rfl rfl (Nat.le_of_ble_eq_true rfl) dX4_of_2 (t_X4_isTroop hP) ?_
      refine r_if_ne dX4_of_5 (tgt := 10) (by decide) (fun h5 => ?_) (fun h5 => ?_)
      · --t
        refine r_aload_n dX4_of_10 0 rfl ?_
        refine r_getR (b := 1) (by first | assumption | rfl) f_X4_10 rfl rfl dX4_of_11 rfl ?_
        refine r_getR (b := 3) (by first | assumption | rfl) f_X4_75 rfl rfl dX4_of_14 rfl ?_
        refine r_iload_n dX4_of_17 1 rfl ?_
        refine r_aald10 (j := _) (by first | assumption | rfl) (by first | assumption | rfl) (by first | assumption | decide) (rf3 _) dX4_of_18 ?_
        refine r_astore (lo2 := [(0, _), (1, _), (2, _), (3, _), (4, _)]) dX4_of_19 (Nat.le_of_ble_eq_true rfl) [1, 2, 3, 4, 0] rfl ?_
        refine r_aload dX4_of_21 4 rfl ?_
        refine r_iload_n dX4_of_23 2 rfl ?_
        refine r_callViF (As := [_]) c_X3_knows (by first | assumption | rfl) l_X4_163 rfl rfl rfl (Nat.le_of_ble_eq_true rfl) dX4_of_24 hkn ?_
        refine r_if_ne dX4_of_27 (tgt := 32) (by decide) (fun h27 => ?_) (fun h27 => ?_)
        · --t
          exact absurd rfl h27
        · --f
          refine r_iconst dX4_of_30 (v := -1) rfl ?_
          refine r_iret rfl dX4_of_31 ?_
          exact ⟨rfl, rfl⟩
      · --f
        exact absurd (bI_yes h) (by rw [h5]; decide)
    · obtain ⟨K, rfl, hK, eK⟩ := knw_in hWT hk
      rw [hk] at hkn
      rw [if_pos rfl, eK]
      have hl1 : K < ln (4 + 3 * T + 1) := by rw [l1]; exact hK
      have hl2 : K < ln (4 + 3 * T + 2) := by rw [l2]; exact hK
      refine r_aload_n dX4_of_0 0 rfl ?_
      refine r_iload_n dX4_of_1 1 rfl ?_
      refine r_callViF (As := [_]) c_X4_isTroop (by first | assumption | rfl) l_X4_106 rfl rfl rfl (Nat.le_of_ble_eq_true rfl) dX4_of_2 (t_X4_isTroop hP) ?_
      refine r_if_ne dX4_of_5 (tgt := 10) (by decide) (fun h5 => ?_) (fun h5 => ?_)
      · --t
        refine r_aload_n dX4_of_10 0 rfl ?_
        refine r_getR (b := 1) (by first | assumption | rfl) f_X4_10 rfl rfl dX4_of_11 rfl ?_
        refine r_getR (b := 3) (by first | assumption | rfl) f_X4_75 rfl rfl dX4_of_14 rfl ?_
        refine r_iload_n dX4_of_17 1 rfl ?_
        refine r_aald10 (j := _) (by first | assumption | rfl) (by first | assumption | rfl) (by first | assumption | decide) (rf3 _) dX4_of_18 ?_
        refine r_astore (lo2 := [(0, _), (1, _), (2, _), (3, _), (4, _)]) dX4_of_19 (Nat.le_of_ble_eq_true rfl) [1, 2, 3, 4, 0] rfl ?_
        refine r_aload dX4_of_21 4 rfl ?_
        refine r_iload_n dX4_of_23 2 rfl ?_
        refine r_callViF (As := [_]) c_X3_knows (by first | assumption | rfl) l_X4_163 rfl rfl rfl (Nat.le_of_ble_eq_true rfl) dX4_of_24 hkn ?_
        refine r_if_ne dX4_of_27 (tgt := 32) (by decide) (fun h27 => ?_) (fun h27 => ?_)
        · --t
          refine r_iload_n dX4_of_32 3 rfl ?_
          rcases tab_split w 0 4 (by decide) with hsw33 | ⟨j33, hj33, hsw33⟩
          · --default
            refine r_tabOut (tgt := 97) dX4_of_33 (tab_out hsw33 (by decide)) (by decide) ?_
            refine r_bipush dX4_of_97 (v := -2) (by decide +kernel) ?_
            refine r_iret rfl dX4_of_99 ?_
            rw [if_neg (tab_no hsw33 (y := 0) (by decide) (by decide)), if_neg (tab_no hsw33 (y := 1) (by decide) (by decide)), if_neg (tab_no hsw33 (y := 2) (by decide) (by decide)), if_neg (tab_no hsw33 (y := 3) (by decide) (by decide))]; exact ⟨rfl, rfl⟩
          · --in
            match j33, hj33, hsw33 with
            | 0, _, hsw33 =>
              have hv33 : w = 0 := hsw33
              clear hsw33
              subst hv33
              refine r_tabIn (off := 31) (tgt := 64) dX4_of_33 (by decide) (by decide) rfl (by decide) ?_
              refine r_aload dX4_of_64 4 rfl ?_
              refine r_iload_n dX4_of_66 2 rfl ?_
              refine r_callViF (As := [_]) c_X3_howIs (by first | assumption | rfl) l_X4_79 rfl rfl rfl (Nat.le_of_ble_eq_true rfl) dX4_of_67 (t_X3_howIs ha hK hTT hWT) ?_
              refine r_iret rfl dX4_of_70 ?_
              exact ⟨by first | rfl | (rw [(hTT.2.2 K hK).1]; rfl) | (rw [(hTT.2.2 K hK).2]; rfl) | (rw [hTT.1.2.2.2.1]; rfl), rfl⟩
            | 1, _, hsw33 =>
              have hv33 : w = 1 := hsw33
              clear hsw33
              subst hv33
              refine r_tabIn (off := 38) (tgt := 71) dX4_of_33 (by decide) (by decide) rfl (by decide) ?_
              refine r_aload dX4_of_71 4 rfl ?_
              refine r_getR (by first | assumption | rfl) f_X4_82 rfl rfl dX4_of_73 (by first | assumption | rfl) ?_
              refine r_iload_n dX4_of_76 2 rfl ?_
              refine r_iald (j := _) (by first | assumption | rfl) (by first | assumption | rfl) (by first | assumption | decide) dX4_of_77 ?_
              refine r_iret rfl dX4_of_78 ?_
              exact ⟨by first | rfl | (rw [(hTT.2.2 K hK).1]; rfl) | (rw [(hTT.2.2 K hK).2]; rfl) | (rw [hTT.1.2.2.2.1]; rfl), rfl⟩
            | 2, _, hsw33 =>
              have hv33 : w = 2 := hsw33
              clear hsw33
              subst hv33
              refine r_tabIn (off := 46) (tgt := 79) dX4_of_33 (by decide) (by decide) rfl (by decide) ?_
              refine r_aload dX4_of_79 4 rfl ?_
              refine r_getR (by first | assumption | rfl) f_X4_166 rfl rfl dX4_of_81 (by first | assumption | rfl) ?_
              refine r_iload_n dX4_of_84 2 rfl ?_
              refine r_iald (j := _) (by first | assumption | rfl) (by first | assumption | rfl) (by first | assumption | decide) dX4_of_85 ?_
              refine r_iret rfl dX4_of_86 ?_
              exact ⟨by first | rfl | (rw [(hTT.2.2 K hK).1]; rfl) | (rw [(hTT.2.2 K hK).2]; rfl) | (rw [hTT.1.2.2.2.1]; rfl), rfl⟩
            | 3, _, hsw33 =>
              have hv33 : w = 3 := hsw33
              clear hsw33
              subst hv33
              refine r_tabIn (off := 54) (tgt := 87) dX4_of_33 (by decide) (by decide) rfl (by decide) ?_
              refine r_aload dX4_of_87 4 rfl ?_
              refine r_getI (by first | assumption | rfl) f_X4_157 rfl rfl dX4_of_89 ?_
              refine r_iload_n dX4_of_92 2 rfl ?_
              refine r_ishr dX4_of_93 ?_
              refine r_iconst dX4_of_94 (v := 1) rfl ?_
              refine r_iand dX4_of_95 ?_
              refine r_iret rfl dX4_of_96 ?_
              exact ⟨by first | rfl | (rw [(hTT.2.2 K hK).1]; rfl) | (rw [(hTT.2.2 K hK).2]; rfl) | (rw [hTT.1.2.2.2.1]; rfl), rfl⟩
            | (j + 4), hj, _ => exact absurd hj (by omega)
        · --f
          exact absurd h27 (by decide)
      · --f
        exact absurd (bI_yes h) (by rw [h5]; decide)
theorem t_X4_count {n len : Nat} (hW : WN N) (hP : SP S 1 N) (hn : S 19 2 = nI n) (hl : S 185 1 = nI len) : Call G (d + 2) M_X4_count [rv G 0, .int w] S (fun v u => v = some (cntA N len n w) ∧ u = S) := by
  refine call_of (lo := [(0, rv G 0), (1, .int w)]) (by decide +kernel) (Nat.le_of_ble_eq_true rfl) rfl ?_
  obtain ⟨a1, a2, a3, a4, a5⟩ := id hP.1
  have h1 : kd 1 = 2 := rfl
  unfold cntA
  refine r_iload_n dX4_count_0 1 rfl ?_
  rcases tab_split w 0 10 (by decide) with hsw1 | ⟨j1, hj1, hsw1⟩
  · --default
    refine r_tabOut (tgt := 140) dX4_count_1 (tab_out hsw1 (by decide)) (by decide) ?_
    refine r_bipush dX4_count_140 (v := -2) (by decide +kernel) ?_
    refine r_iret rfl dX4_count_142 ?_
    rw [if_neg (tab_no hsw1 (y := 0) (by decide) (by decide)), if_neg (tab_no hsw1 (y := 1) (by decide) (by decide)), if_neg (tab_no hsw1 (y := 2) (by decide) (by decide)), if_neg (tab_no hsw1 (y := 3) (by decide) (by decide)), if_neg (tab_no hsw1 (y := 4) (by decide) (by decide)), if_neg (tab_no hsw1 (y := 5) (by decide) (by decide)), if_neg (tab_no hsw1 (y := 6) (by decide) (by decide)), if_neg (tab_no hsw1 (y := 7) (by decide) (by decide)), if_neg (tab_no hsw1 (y := 8) (by decide) (by decide)), if_neg (tab_no hsw1 (y := 9) (by decide) (by decide))]; exact ⟨rfl, rfl⟩
  · --in
    match j1, hj1, hsw1 with
    | 0, _, hsw1 =>
      have hv1 : w = 0 := hsw1
      clear hsw1
      subst hv1
      refine r_tabIn (off := 55) (tgt := 56) dX4_count_1 (by decide) (by decide) rfl (by decide) ?_
      refine r_aload_n dX4_count_56 0 rfl ?_
      refine r_getR (b := 1) (by first | assumption | rfl) f_X4_10 rfl rfl dX4_count_57 rfl ?_
      refine r_getI (by first | assumption | rfl) f_X4_128 rfl rfl dX4_count_60 ?_
      refine r_iret rfl dX4_count_63 ?_
      exact ⟨by first | rfl | (rw [hn]; rfl) | (rw [hl]; rfl) | exact congrArg some a1 | exact congrArg some a2 | exact congrArg some a3 | exact congrArg some a4 | exact congrArg some a5, rfl⟩
    | 1, _, hsw1 =>
      have hv1 : w = 1 := hsw1
      clear hsw1
      subst hv1
      refine r_tabIn (off := 63) (tgt := 64) dX4_count_1 (by decide) (by decide) rfl (by decide) ?_
      refine r_aload_n dX4_count_64 0 rfl ?_
      refine r_getR (b := 1) (by first | assumption | rfl) f_X4_10 rfl rfl dX4_count_65 rfl ?_
      refine r_getI (by first | assumption | rfl) f_X4_99 rfl rfl dX4_count_68 ?_
      refine r_iret rfl dX4_count_71 ?_
      exact ⟨by first | rfl | (rw [hn]; rfl) | (rw [hl]; rfl) | exact congrArg some a1 | exact congrArg some a2 | exact congrArg some a3 | exact congrArg some a4 | exact congrArg some a5, rfl⟩
    | 2, _, hsw1 =>
      have hv1 : w = 2 := hsw1
      clear hsw1
      subst hv1
      refine r_tabIn (off := 71) (tgt := 72) dX4_count_1 (by decide) (by decide) rfl (by decide) ?_
      refine r_aload_n dX4_count_72 0 rfl ?_
      refine r_getR (b := 1) (by first | assumption | rfl) f_X4_10 rfl rfl dX4_count_73 rfl ?_
      refine r_callViF (As := []) c_X2_hikes (by first | assumption | rfl) l_X4_169 rfl rfl rfl (Nat.le_of_ble_eq_true rfl) dX4_count_76 (t_X2_hikes h1 hW hP) ?_
      refine r_iret rfl dX4_count_79 ?_
      exact ⟨by first | rfl | (rw [hn]; rfl) | (rw [hl]; rfl) | exact congrArg some a1 | exact congrArg some a2 | exact congrArg some a3 | exact congrArg some a4 | exact congrArg some a5, rfl⟩
    | 3, _, hsw1 =>
      have hv1 : w = 3 := hsw1
      clear hsw1
      subst hv1
      refine r_tabIn (off := 79) (tgt := 80) dX4_count_1 (by decide) (by decide) rfl (by decide) ?_
      refine r_aload_n dX4_count_80 0 rfl ?_
      refine r_getR (b := 1) (by first | assumption | rfl) f_X4_10 rfl rfl dX4_count_81 rfl ?_
      refine r_callViF (As := []) c_X2_scoutsOnHikes (by first | assumption | rfl) l_X4_171 rfl rfl rfl (Nat.le_of_ble_eq_true rfl) dX4_count_84 (t_X2_scoutsOnHikes h1 hW hP) ?_
      refine r_iret rfl dX4_count_87 ?_
      exact ⟨by first | rfl | (rw [hn]; rfl) | (rw [hl]; rfl) | exact congrArg some a1 | exact congrArg some a2 | exact congrArg some a3 | exact congrArg some a4 | exact congrArg some a5, rfl⟩
    | 4, _, hsw1 =>
      have hv1 : w = 4 := hsw1
      clear hsw1
      subst hv1
      refine r_tabIn (off := 87) (tgt := 88) dX4_count_1 (by decide) (by decide) rfl (by decide) ?_
      refine r_aload_n dX4_count_88 0 rfl ?_
      refine r_getR (b := 1) (by first | assumption | rfl) f_X4_10 rfl rfl dX4_count_89 rfl ?_
      refine r_callViF (As := []) c_X2_scoutsLost (by first | assumption | rfl) l_X4_174 rfl rfl rfl (Nat.le_of_ble_eq_true rfl) dX4_count_92 (t_X2_scoutsLost h1 hW hP) ?_
      refine r_iret rfl dX4_count_95 ?_
      exact ⟨by first | rfl | (rw [hn]; rfl) | (rw [hl]; rfl) | exact congrArg some a1 | exact congrArg some a2 | exact congrArg some a3 | exact congrArg some a4 | exact congrArg some a5, rfl⟩
    | 5, _, hsw1 =>
      have hv1 : w = 5 := hsw1
      clear hsw1
      subst hv1
      refine r_tabIn (off := 95) (tgt := 96) dX4_count_1 (by decide) (by decide) rfl (by decide) ?_
      refine r_aload_n dX4_count_96 0 rfl ?_
      refine r_getR (b := 1) (by first | assumption | rfl) f_X4_10 rfl rfl dX4_count_97 rfl ?_
      refine r_getI (by first | assumption | rfl) f_X4_115 rfl rfl dX4_count_100 ?_
      refine r_iret rfl dX4_count_103 ?_
      exact ⟨by first | rfl | (rw [hn]; rfl) | (rw [hl]; rfl) | exact congrArg some a1 | exact congrArg some a2 | exact congrArg some a3 | exact congrArg some a4 | exact congrArg some a5, rfl⟩
    | 6, _, hsw1 =>
      have hv1 : w = 6 := hsw1
      clear hsw1
      subst hv1
      refine r_tabIn (off := 103) (tgt := 104) dX4_count_1 (by decide) (by decide) rfl (by decide) ?_
      refine r_aload_n dX4_count_104 0 rfl ?_
      refine r_getR (b := 1) (by first | assumption | rfl) f_X4_10 rfl rfl dX4_count_105 rfl ?_
      refine r_getR (b := 2) (by first | assumption | rfl) f_X4_49 rfl rfl dX4_count_108 rfl ?_
      refine r_iconst dX4_count_111 (v := 0) rfl ?_
      refine r_iald (j := 0) (by first | assumption | rfl) (by first | assumption | rfl) (show 0 < ln 2 by decide) dX4_count_112 ?_
      refine r_iret rfl dX4_count_113 ?_
      exact ⟨by first | rfl | (rw [hn]; rfl) | (rw [hl]; rfl) | exact congrArg some a1 | exact congrArg some a2 | exact congrArg some a3 | exact congrArg some a4 | exact congrArg some a5, rfl⟩
    | 7, _, hsw1 =>
      have hv1 : w = 7 := hsw1
      clear hsw1
      subst hv1
      refine r_tabIn (off := 113) (tgt := 114) dX4_count_1 (by decide) (by decide) rfl (by decide) ?_
      refine r_aload_n dX4_count_114 0 rfl ?_
      refine r_getR (b := 1) (by first | assumption | rfl) f_X4_10 rfl rfl dX4_count_115 rfl ?_
      refine r_getR (b := 2) (by first | assumption | rfl) f_X4_49 rfl rfl dX4_count_118 rfl ?_
      refine r_iconst dX4_count_121 (v := 1) rfl ?_
      refine r_iald (j := 1) (by first | assumption | rfl) (by first | assumption | rfl) (show 1 < ln 2 by decide) dX4_count_122 ?_
      refine r_iret rfl dX4_count_123 ?_
      exact ⟨by first | rfl | (rw [hn]; rfl) | (rw [hl]; rfl) | exact congrArg some a1 | exact congrArg some a2 | exact congrArg some a3 | exact congrArg some a4 | exact congrArg some a5, rfl⟩
    | 8, _, hsw1 =>
      have hv1 : w = 8 := hsw1
      clear hsw1
      subst hv1
      refine r_tabIn (off := 123) (tgt := 124) dX4_count_1 (by decide) (by decide) rfl (by decide) ?_
      refine r_aload_n dX4_count_124 0 rfl ?_
      refine r_getR (b := 185) (by first | assumption | rfl) f_X4_34 rfl rfl dX4_count_125 rfl ?_
      refine r_getI (by first | assumption | rfl) f_X4_177 rfl rfl dX4_count_128 ?_
      refine r_iret rfl dX4_count_131 ?_
      exact ⟨by first | rfl | (rw [hn]; rfl) | (rw [hl]; rfl) | exact congrArg some a1 | exact congrArg some a2 | exact congrArg some a3 | exact congrArg some a4 | exact congrArg some a5, rfl⟩
    | 9, _, hsw1 =>
      have hv1 : w = 9 := hsw1
      clear hsw1
      subst hv1
      refine r_tabIn (off := 131) (tgt := 132) dX4_count_1 (by decide) (by decide) rfl (by decide) ?_
      refine r_aload_n dX4_count_132 0 rfl ?_
      refine r_getR (b := 19) (by first | assumption | rfl) f_X4_19 rfl rfl dX4_count_133 rfl ?_
      refine r_getI (by first | assumption | rfl) f_X4_180 rfl rfl dX4_count_136 ?_
      refine r_iret rfl dX4_count_139 ?_
      exact ⟨by first | rfl | (rw [hn]; rfl) | (rw [hl]; rfl) | exact congrArg some a1 | exact congrArg some a2 | exact congrArg some a3 | exact congrArg some a4 | exact congrArg some a5, rfl⟩
    | (j + 10), hj, _ => exact absurd hj (by omega)
end GATES
end
section
/-! the class's public changes -/
theorem wn_rsz {N : mN} (hW : WN N) (t s : Int32) : WN (rszO N t s).2 := by
  unfold rszO
  rcases tr_cases hW t with h | ⟨T, h, rfl, hT, hT5, eT⟩
  · rw [h]; exact hW
  · rw [h, if_pos rfl, eT]
    rcases sz_cases s with h2 | ⟨n, h2, rfl, hn1, hn2⟩
    · rw [h2]; exact hW
    · rw [h2, if_pos rfl]; exact hW.tr (wf_rsz (hW.2 T hT) hn1 hn2)
theorem wn_comN {N : mN} (hW : WN N) {T K : Nat} {h : Int32} (hT : T < cnt N) (hK : K < tsz (N.2 T)) (hh : h = 1 ∨ h = 2) : WN (comN N T K h).2 :=
  hW.tr (wf_opn _ 3 _ (wf_set (hW.2 T hT) hK (by rcases hh with z | z <;> simp [z])))
theorem wn_com {N : mN} (hW : WN N) (t k c : Int32) : WN (comO N t k c).2 := by
  unfold comO
  by_cases h : whyA N t k c < 0
  · rw [if_pos h]; exact hW
  · rw [if_neg h]
    by_cases h4 : whyA N t k c = 4
    · obtain ⟨T, K, rfl, hT, hT5, eT, rfl, hK, hK16, eK, -⟩ := why_in hW (Or.inr h4)
      rw [if_pos h4, eT, eK]
      exact wn_comN (wn_ery hW) hT hK (Or.inr rfl)
    · rw [if_neg h4]
      by_cases h0 : whyA N t k c = 0
      · obtain ⟨T, K, rfl, hT, hT5, eT, rfl, hK, hK16, eK, -⟩ := why_in hW (Or.inl h0)
        rw [if_pos h0, eT, eK]
        exact wn_comN hW hT hK (Or.inl rfl)
      · rw [if_neg h0]; exact hW
theorem wn_los {N : mN} (hW : WN N) (t k : Int32) : WN (losO N t k).2 := by
  unfold losO
  rcases sc_cases hW t k with h | ⟨T, K, h, -, rfl, hT, hT5, eT, rfl, hK, hK16, eK⟩
  · rw [h]; exact hW
  · rw [h, if_pos rfl, eT, eK]
    split
    · exact hW
    · exact hW.tr (wf_set (hW.2 T hT) hK (by simp))
theorem wn_fin {N : mN} (hW : WN N) (t k : Int32) : WN (finO N t k).2 := by
  unfold finO
  rcases sc_cases hW t k with h | ⟨T, K, h, -, rfl, hT, hT5, eT, rfl, hK, hK16, eK⟩
  · rw [h]; exact hW
  · rw [h, if_pos rfl, eT, eK]
    split
    · exact hW.tr (wf_set (hW.2 T hT) hK (by simp))
    · exact hW
theorem wn_pas {N : mN} (hW : WN N) (m : Int32) : WN (pasO N m).2 := by
  unfold pasO
  split
  · exact hW
  · split
    · exact hW
    · exact (wn_itM m.toNatClampNeg N hW).1.glob (by simp [upd])
theorem wn_set {N : mN} (hW : WN N) (s v : Int32) : WN (setO N s v).2 := by
  unfold setO
  split
  · rename_i h
    refine hW.glob ?_
    rcases h with ⟨rfl, -⟩ | ⟨rfl, -⟩ <;> rfl
  · exact hW
theorem HP.fs {S u : mS} {n : Nat} {h : Nat → mN} (g : HP S n h) (k : FS 1 S u) : HP u n h := g.off (fun c c1 c2 => k c (by omega))
theorem HN.fs {S u : mS} {n : Nat} {h : Nat → mN} {N : mN} (g : HN S n h N) (k : FS 1 S u) : HN u n h N := g.off (fun c c1 c2 => k c (by omega))
def rcN (x : Int32) (n : Nat) : Nat := if x < 0 then n else psN n
def rcH (x : Int32) (n : Nat) (h : Nat → mN) (N : mN) : Nat → mN := if x < 0 then h else psH n h N
/-- between the calls: the cells of the current state and of the history alone may have changed -/
def FC (S u : mS) : Prop := ∀ c, (c < 1 ∨ 147 ≤ c) → u c = S c
section PUB
variable {G : mG} {d : Nat} {S : mS} {N : mN} {n : Nat} {h : Nat → mN} {t k c s v x : Int32}
theorem t_X4_recorded (hP : HN S n h N) : Call G (d + 1) M_X4_recorded [rv G 0, .int x] S (fun v u => v = some x ∧ HP u (rcN x n) (rcH x n h N) ∧ FH S u) := by
  refine call_of (lo := [(0, rv G 0), (1, .int x)]) (by decide +kernel) (Nat.le_of_ble_eq_true rfl) rfl ?_
  unfold rcN rcH
  by_cases hx : x < 0
  · rw [if_pos hx, if_pos hx]
    refine r_iload_n dX4_recorded_0 1 rfl ?_
    refine r_if_lt dX4_recorded_1 (tgt := 11) (by decide) (fun h1 => ?_) (fun h1 => ?_)
    · --t
      refine r_iload_n dX4_recorded_11 1 rfl ?_
      refine r_iret rfl dX4_recorded_12 ?_
      exact ⟨rfl, hP.hp, FH.rf⟩
    · --f
      exact absurd hx h1
  · rw [if_neg hx, if_neg hx]
    refine r_iload_n dX4_recorded_0 1 rfl ?_
    refine r_if_lt dX4_recorded_1 (tgt := 11) (by decide) (fun h1 => ?_) (fun h1 => ?_)
    · --t
      exact absurd h1 hx
    · --f
      refine r_aload_n dX4_recorded_4 0 rfl ?_
      refine r_getR (b := 19) (by first | assumption | rfl) f_X4_19 rfl rfl dX4_recorded_5 rfl ?_
      refine r_callVv (As := []) c_X0_keepNoted (by first | assumption | rfl) l_X4_92 rfl rfl rfl (Nat.le_of_ble_eq_true rfl) dX4_recorded_8 (t_X0_keepNoted hP) (fun u8 q8 => ?_)
      obtain ⟨-, hP2, hF2⟩ := q8
      refine r_iload_n dX4_recorded_11 1 rfl ?_
      refine r_iret rfl dX4_recorded_12 ?_
      exact ⟨rfl, hP2, hF2⟩
theorem SP.fh {S u : mS} {N : mN} (h : SP S 1 N) (hc : cnt N ≤ 5) (g : FH S u) : SP u 1 N := h.off hc (fun c c1 c2 => g c (by omega))
theorem t_X4_troop (hW : WN N) (hS : SP S 1 N) (hH : HP S n h) : Call G (d + 7) M_X4_troop [rv G 0, .int s] S (fun v u => v = some (addO N s).1 ∧ SP u 1 (addO N s).2 ∧ HP u (rcN (addO N s).1 n) (rcH (addO N s).1 n h N) ∧ FC S u) := by
  refine call_of (lo := [(0, rv G 0), (1, .int s)]) (by decide +kernel) (Nat.le_of_ble_eq_true rfl) rfl ?_
  refine r_aload_n dX4_troop_0 0 rfl ?_
  refine r_getR (b := 19) (by first | assumption | rfl) f_X4_19 rfl rfl dX4_troop_1 rfl ?_
  refine r_aload_n dX4_troop_4 0 rfl ?_
  refine r_getR (b := 1) (by first | assumption | rfl) f_X4_10 rfl rfl dX4_troop_5 rfl ?_
  refine r_callVv (As := [_]) c_X0_note (by first | assumption | rfl) l_X4_45 rfl rfl rfl (Nat.le_of_ble_eq_true rfl) dX4_troop_8 (t_X0_note hH hW hS) (fun u8 q8 => ?_)
  obtain ⟨-, g1, f1⟩ := q8
  refine r_aload_n dX4_troop_11 0 rfl ?_
  refine r_aload_n dX4_troop_12 0 rfl ?_
  refine r_iload_n dX4_troop_13 1 rfl ?_
  refine r_callVi (As := [_]) c_X4_addTroop (by first | assumption | rfl) l_X4_57 rfl rfl rfl (Nat.le_of_ble_eq_true rfl) dX4_troop_14 (t_X4_addTroop hW (hS.fh hW.cn.2 f1)) (fun r14 u14 q14 => ?_)
  obtain ⟨e2, g2, f2⟩ := q14
  cases e2
  refine r_callVi (As := [_]) c_X4_recorded (by first | assumption | rfl) l_X4_53 rfl rfl rfl (Nat.le_of_ble_eq_true rfl) dX4_troop_17 (t_X4_recorded (g1.fs f2)) (fun r17 u17 q17 => ?_)
  obtain ⟨e3, g3, f3⟩ := q17
  cases e3
  refine r_iret rfl dX4_troop_20 ?_
  exact ⟨rfl, g2.fh (hW.add0 s).cn.2 f3, g3, fun b hb => (f3 b (by omega)).trans ((f2 b (by omega)).trans (f1 b (by omega)))⟩
theorem t_X4_resize (hW : WN N) (hS : SP S 1 N) (hH : HP S n h) : Call G (d + 7) M_X4_resize [rv G 0, .int t, .int s] S (fun v u => v = some (rszO N t s).1 ∧ SP u 1 (rszO N t s).2 ∧ HP u (rcN (rszO N t s).1 n) (rcH (rszO N t s).1 n h N) ∧ FC S u) := by
  refine call_of (lo := [(0, rv G 0), (1, .int t), (2, .int s)]) (by decide +kernel) (Nat.le_of_ble_eq_true rfl) rfl ?_
  refine r_aload_n dX4_resize_0 0 rfl ?_
  refine r_getR (b := 19) (by first | assumption | rfl) f_X4_19 rfl rfl dX4_resize_1 rfl ?_
  refine r_aload_n dX4_resize_4 0 rfl ?_
  refine r_getR (b := 1) (by first | assumption | rfl) f_X4_10 rfl rfl dX4_resize_5 rfl ?_
  refine r_callVv (As := [_]) c_X0_note (by first | assumption | rfl) l_X4_45 rfl rfl rfl (Nat.le_of_ble_eq_true rfl) dX4_resize_8 (t_X0_note hH hW hS) (fun u8 q8 => ?_)
  obtain ⟨-, g1, f1⟩ := q8
  refine r_aload_n dX4_resize_11 0 rfl ?_
  refine r_aload_n dX4_resize_12 0 rfl ?_
  refine r_iload_n dX4_resize_13 1 rfl ?_
  refine r_iload_n dX4_resize_14 2 rfl ?_
  refine r_callVi (As := [_, _]) c_X4_changeSize (by first | assumption | rfl) l_X4_60 rfl rfl rfl (Nat.le_of_ble_eq_true rfl) dX4_resize_15 (t_X4_changeSize hW (hS.fh hW.cn.2 f1)) (fun r15 u15 q15 => ?_)
  obtain ⟨e2, g2, f2⟩ := q15
  cases e2
  refine r_callVi (As := [_]) c_X4_recorded (by first | assumption | rfl) l_X4_53 rfl rfl rfl (Nat.le_of_ble_eq_true rfl) dX4_resize_18 (t_X4_recorded (g1.fs f2)) (fun r18 u18 q18 => ?_)
  obtain ⟨e3, g3, f3⟩ := q18
  cases e3
  refine r_iret rfl dX4_resize_21 ?_
  exact ⟨rfl, g2.fh (wn_rsz hW t s).cn.2 f3, g3, fun b hb => (f3 b (by omega)).trans ((f2 b (by omega)).trans (f1 b (by omega)))⟩
theorem t_X4_come (hW : WN N) (hS : SP S 1 N) (hH : HP S n h) : Call G (d + 7) M_X4_come [rv G 0, .int t, .int k, .int c] S (fun v u => v = some (comO N t k c).1 ∧ SP u 1 (comO N t k c).2 ∧ HP u (rcN (comO N t k c).1 n) (rcH (comO N t k c).1 n h N) ∧ FC S u) := by
  refine call_of (lo := [(0, rv G 0), (1, .int t), (2, .int k), (3, .int c)]) (by decide +kernel) (Nat.le_of_ble_eq_true rfl) rfl ?_
  refine r_aload_n dX4_come_0 0 rfl ?_
  refine r_getR (b := 19) (by first | assumption | rfl) f_X4_19 rfl rfl dX4_come_1 rfl ?_
  refine r_aload_n dX4_come_4 0 rfl ?_
  refine r_getR (b := 1) (by first | assumption | rfl) f_X4_10 rfl rfl dX4_come_5 rfl ?_
  refine r_callVv (As := [_]) c_X0_note (by first | assumption | rfl) l_X4_45 rfl rfl rfl (Nat.le_of_ble_eq_true rfl) dX4_come_8 (t_X0_note hH hW hS) (fun u8 q8 => ?_)
  obtain ⟨-, g1, f1⟩ := q8
  refine r_aload_n dX4_come_11 0 rfl ?_
  refine r_aload_n dX4_come_12 0 rfl ?_
  refine r_iload_n dX4_come_13 1 rfl ?_
  refine r_iload_n dX4_come_14 2 rfl ?_
  refine r_iload_n dX4_come_15 3 rfl ?_
  refine r_callVi (As := [_, _, _]) c_X4_letCome (by first | assumption | rfl) l_X4_64 rfl rfl rfl (Nat.le_of_ble_eq_true rfl) dX4_come_16 (t_X4_letCome hW (hS.fh hW.cn.2 f1)) (fun r16 u16 q16 => ?_)
  obtain ⟨e2, g2, f2⟩ := q16
  cases e2
  refine r_callVi (As := [_]) c_X4_recorded (by first | assumption | rfl) l_X4_53 rfl rfl rfl (Nat.le_of_ble_eq_true rfl) dX4_come_19 (t_X4_recorded (g1.fs f2)) (fun r19 u19 q19 => ?_)
  obtain ⟨e3, g3, f3⟩ := q19
  cases e3
  refine r_iret rfl dX4_come_22 ?_
  exact ⟨rfl, g2.fh (wn_com hW t k c).cn.2 f3, g3, fun b hb => (f3 b (by omega)).trans ((f2 b (by omega)).trans (f1 b (by omega)))⟩
theorem t_X4_lose (hW : WN N) (hS : SP S 1 N) (hH : HP S n h) : Call G (d + 7) M_X4_lose [rv G 0, .int t, .int k] S (fun v u => v = some (losO N t k).1 ∧ SP u 1 (losO N t k).2 ∧ HP u (rcN (losO N t k).1 n) (rcH (losO N t k).1 n h N) ∧ FC S u) := by
  refine call_of (lo := [(0, rv G 0), (1, .int t), (2, .int k)]) (by decide +kernel) (Nat.le_of_ble_eq_true rfl) rfl ?_
  refine r_aload_n dX4_lose_0 0 rfl ?_
  refine r_getR (b := 19) (by first | assumption | rfl) f_X4_19 rfl rfl dX4_lose_1 rfl ?_
  refine r_aload_n dX4_lose_4 0 rfl ?_
  refine r_getR (b := 1) (by first | assumption | rfl) f_X4_10 rfl rfl dX4_lose_5 rfl ?_
  refine r_callVv (As := [_]) c_X0_note (by first | assumption | rfl) l_X4_45 rfl rfl rfl (Nat.le_of_ble_eq_true rfl) dX4_lose_8 (t_X0_note hH hW hS) (fun u8 q8 => ?_)
  obtain ⟨-, g1, f1⟩ := q8
  refine r_aload_n dX4_lose_11 0 rfl ?_
  refine r_aload_n dX4_lose_12 0 rfl ?_
  refine r_iload_n dX4_lose_13 1 rfl ?_
  refine r_iload_n dX4_lose_14 2 rfl ?_
  refine r_callVi (As := [_, _]) c_X4_loseScout (by first | assumption | rfl) l_X4_68 rfl rfl rfl (Nat.le_of_ble_eq_true rfl) dX4_lose_15 (t_X4_loseScout hW (hS.fh hW.cn.2 f1)) (fun r15 u15 q15 => ?_)
  obtain ⟨e2, g2, f2⟩ := q15
  cases e2
  refine r_callVi (As := [_]) c_X4_recorded (by first | assumption | rfl) l_X4_53 rfl rfl rfl (Nat.le_of_ble_eq_true rfl) dX4_lose_18 (t_X4_recorded (g1.fs f2)) (fun r18 u18 q18 => ?_)
  obtain ⟨e3, g3, f3⟩ := q18
  cases e3
  refine r_iret rfl dX4_lose_21 ?_
  exact ⟨rfl, g2.fh (wn_los hW t k).cn.2 f3, g3, fun b hb => (f3 b (by omega)).trans ((f2 b (by omega)).trans (f1 b (by omega)))⟩
theorem t_X4_pass (hW : WN N) (hS : SP S 1 N) (hH : HP S n h) : Call G (d + 7) M_X4_pass [rv G 0, .int t] S (fun v u => v = some (pasO N t).1 ∧ SP u 1 (pasO N t).2 ∧ HP u (rcN (pasO N t).1 n) (rcH (pasO N t).1 n h N) ∧ FC S u) := by
  refine call_of (lo := [(0, rv G 0), (1, .int t)]) (by decide +kernel) (Nat.le_of_ble_eq_true rfl) rfl ?_
  refine r_aload_n dX4_pass_0 0 rfl ?_
  refine r_getR (b := 19) (by first | assumption | rfl) f_X4_19 rfl rfl dX4_pass_1 rfl ?_
  refine r_aload_n dX4_pass_4 0 rfl ?_
  refine r_getR (b := 1) (by first | assumption | rfl) f_X4_10 rfl rfl dX4_pass_5 rfl ?_
  refine r_callVv (As := [_]) c_X0_note (by first | assumption | rfl) l_X4_45 rfl rfl rfl (Nat.le_of_ble_eq_true rfl) dX4_pass_8 (t_X0_note hH hW hS) (fun u8 q8 => ?_)
  obtain ⟨-, g1, f1⟩ := q8
  refine r_aload_n dX4_pass_11 0 rfl ?_
  refine r_aload_n dX4_pass_12 0 rfl ?_
  refine r_iload_n dX4_pass_13 1 rfl ?_
  refine r_callVi (As := [_]) c_X4_passMinutes (by first | assumption | rfl) l_X4_89 rfl rfl rfl (Nat.le_of_ble_eq_true rfl) dX4_pass_14 (t_X4_passMinutes hW (hS.fh hW.cn.2 f1)) (fun r14 u14 q14 => ?_)
  obtain ⟨e2, g2, f2⟩ := q14
  cases e2
  refine r_callVi (As := [_]) c_X4_recorded (by first | assumption | rfl) l_X4_53 rfl rfl rfl (Nat.le_of_ble_eq_true rfl) dX4_pass_17 (t_X4_recorded (g1.fs f2)) (fun r17 u17 q17 => ?_)
  obtain ⟨e3, g3, f3⟩ := q17
  cases e3
  refine r_iret rfl dX4_pass_20 ?_
  exact ⟨rfl, g2.fh (wn_pas hW t).cn.2 f3, g3, fun b hb => (f3 b (by omega)).trans ((f2 b (by omega)).trans (f1 b (by omega)))⟩
theorem t_X4_find (hW : WN N) (hS : SP S 1 N) (hH : HP S n h) : Call G (d + 7) M_X4_find [rv G 0, .int t, .int k] S (fun v u => v = some (finO N t k).1 ∧ SP u 1 (finO N t k).2 ∧ HP u (rcN (finO N t k).1 n) (rcH (finO N t k).1 n h N) ∧ FC S u) := by
  refine call_of (lo := [(0, rv G 0), (1, .int t), (2, .int k)]) (by decide +kernel) (Nat.le_of_ble_eq_true rfl) rfl ?_
  unfold finO
  rcases sc_cases hW t k with g | ⟨T, K, g, -, rfl, hT, hT5, eT, rfl, hK, hK16, eK⟩
  · rw [g, if_neg (show ¬ false = true by decide)]
    refine r_aload_n dX4_find_0 0 rfl ?_
    refine r_iload_n dX4_find_1 1 rfl ?_
    refine r_iload_n dX4_find_2 2 rfl ?_
    refine r_callViF (As := [_, _]) c_X4_isScout (by first | assumption | rfl) l_X4_71 rfl rfl rfl (Nat.le_of_ble_eq_true rfl) dX4_find_3 (t_X4_isScout hW hS) ?_
    refine r_if_ne dX4_find_6 (tgt := 11) (by decide) (fun h6 => ?_) (fun h6 => ?_)
    · --t
      exact absurd (bI_not g) h6
    · --f
      refine r_iconst dX4_find_9 (v := -1) rfl ?_
      refine r_iret rfl dX4_find_10 ?_
      exact ⟨rfl, hS, hH, fun _ _ => rfl⟩
  · have ha := kd4 hT5
    obtain ⟨k1, k2, l1, l2, f1', f2'⟩ := kdT ha
    have hl : T < ln 3 := hT5
    have hl1 : K < ln (4 + 3 * T + 1) := by rw [l1]; exact hK16
    have hTT : TP S (4 + 3 * T) (N.2 T) := hS.2 T hT
    have hWT := hW.2 T hT
    rw [g, if_pos rfl, eT, eK]
    by_cases h4 : (N.2 T).2.1 K = 4
    · rw [if_pos h4]
      refine r_aload_n dX4_find_0 0 rfl ?_
      refine r_iload_n dX4_find_1 1 rfl ?_
      refine r_iload_n dX4_find_2 2 rfl ?_
      refine r_callViF (As := [_, _]) c_X4_isScout (by first | assumption | rfl) l_X4_71 rfl rfl rfl (Nat.le_of_ble_eq_true rfl) dX4_find_3 (t_X4_isScout hW hS) ?_
      refine r_if_ne dX4_find_6 (tgt := 11) (by decide) (fun h6 => ?_) (fun h6 => ?_)
      · --t
        refine r_aload_n dX4_find_11 0 rfl ?_
        refine r_getR (b := 1) (by first | assumption | rfl) f_X4_10 rfl rfl dX4_find_12 rfl ?_
        refine r_getR (b := 3) (by first | assumption | rfl) f_X4_75 rfl rfl dX4_find_15 rfl ?_
        refine r_iload_n dX4_find_18 1 rfl ?_
        refine r_aald10 (j := _) (by first | assumption | rfl) (by first | assumption | rfl) (by first | assumption | decide) (rf3 _) dX4_find_19 ?_
        refine r_astore_n (lo2 := [(0, _), (1, _), (2, _), (3, _)]) dX4_find_20 rfl (Nat.le_of_ble_eq_true rfl) [1, 2, 3, 0] rfl ?_
        refine r_aload_n dX4_find_21 3 rfl ?_
        refine r_iload_n dX4_find_22 2 rfl ?_
        refine r_callViF (As := [_]) c_X3_howIs (by first | assumption | rfl) l_X4_79 rfl rfl rfl (Nat.le_of_ble_eq_true rfl) dX4_find_23 (t_X3_howIs ha hK16 hTT hWT) ?_
        refine r_iconst dX4_find_26 (v := 4) rfl ?_
        refine r_icmp_eq dX4_find_27 (tgt := 33) (by decide) (fun h27 => ?_) (fun h27 => ?_)
        · --t
          refine r_aload_n dX4_find_33 0 rfl ?_
          refine r_getR (b := 19) (by first | assumption | rfl) f_X4_19 rfl rfl dX4_find_34 rfl ?_
          refine r_aload_n dX4_find_37 0 rfl ?_
          refine r_getR (b := 1) (by first | assumption | rfl) f_X4_10 rfl rfl dX4_find_38 rfl ?_
          refine r_callVv (As := [_]) c_X0_note (by first | assumption | rfl) l_X4_45 rfl rfl rfl (Nat.le_of_ble_eq_true rfl) dX4_find_41 (t_X0_note hH hW hS) (fun u41 q41 => ?_)
          obtain ⟨-, g1, f1⟩ := q41
          have hS1 := hS.fh hW.cn.2 f1
          have hTT1 : TP u41 (4 + 3 * T) (N.2 T) := hS1.2 T hT
          refine r_aload_n dX4_find_44 3 rfl ?_
          refine r_getR (by first | assumption | rfl) f_X4_82 rfl rfl dX4_find_45 (by first | assumption | rfl) ?_
          refine r_iload_n dX4_find_48 2 rfl ?_
          refine r_iald (j := _) (by first | assumption | rfl) (by first | assumption | rfl) (by first | assumption | decide) dX4_find_49 ?_
          refine r_istore (lo2 := [(0, _), (1, _), (2, _), (3, _), (4, _)]) dX4_find_50 (Nat.le_of_ble_eq_true rfl) [1, 2, 3, 4, 0] rfl ?_
          refine r_aload_n dX4_find_52 3 rfl ?_
          refine r_iload_n dX4_find_53 2 rfl ?_
          refine r_callVv (As := [_]) c_X3_bringHome (by first | assumption | rfl) l_X4_85 rfl rfl rfl (Nat.le_of_ble_eq_true rfl) dX4_find_54 (t_X3_bringHome ha hK16 hTT1) (fun u54 q54 => ?_)
          obtain ⟨-, g2, f2⟩ := q54
          refine r_aload_n dX4_find_57 0 rfl ?_
          refine r_iload dX4_find_58 4 rfl ?_
          refine r_callVi (As := [_]) c_X4_recorded (by first | assumption | rfl) l_X4_53 rfl rfl rfl (Nat.le_of_ble_eq_true rfl) dX4_find_60 (t_X4_recorded (g1.fs (fs_fr f2 hT5))) (fun r60 u60 q60 => ?_)
          obtain ⟨e3, g3, f3⟩ := q60
          cases e3
          refine r_iret rfl dX4_find_63 ?_
          have e1 : u41 (4 + 3 * T + 1) K = (N.2 T).2.2.1 K := (hTT1.2.2 K hK16).1
          rw [e1] at g3 ⊢
          have z := hS1.tr hT hW.cn.2 g2 f2
          exact ⟨rfl, z.fh hW.cn.2 f3, g3, fun b hb => (f3 b (by omega)).trans ((fs_fr f2 hT5 b (by omega)).trans (f1 b (by omega)))⟩
        · --f
          exact absurd h4 h27
      · --f
        exact absurd (bI_yes g) (by rw [h6]; decide)
    · rw [if_neg h4]
      refine r_aload_n dX4_find_0 0 rfl ?_
      refine r_iload_n dX4_find_1 1 rfl ?_
      refine r_iload_n dX4_find_2 2 rfl ?_
      refine r_callViF (As := [_, _]) c_X4_isScout (by first | assumption | rfl) l_X4_71 rfl rfl rfl (Nat.le_of_ble_eq_true rfl) dX4_find_3 (t_X4_isScout hW hS) ?_
      refine r_if_ne dX4_find_6 (tgt := 11) (by decide) (fun h6 => ?_) (fun h6 => ?_)
      · --t
        refine r_aload_n dX4_find_11 0 rfl ?_
        refine r_getR (b := 1) (by first | assumption | rfl) f_X4_10 rfl rfl dX4_find_12 rfl ?_
        refine r_getR (b := 3) (by first | assumption | rfl) f_X4_75 rfl rfl dX4_find_15 rfl ?_
        refine r_iload_n dX4_find_18 1 rfl ?_
        refine r_aald10 (j := _) (by first | assumption | rfl) (by first | assumption | rfl) (by first | assumption | decide) (rf3 _) dX4_find_19 ?_
        refine r_astore_n (lo2 := [(0, _), (1, _), (2, _), (3, _)]) dX4_find_20 rfl (Nat.le_of_ble_eq_true rfl) [1, 2, 3, 0] rfl ?_
        refine r_aload_n dX4_find_21 3 rfl ?_
        refine r_iload_n dX4_find_22 2 rfl ?_
        refine r_callViF (As := [_]) c_X3_howIs (by first | assumption | rfl) l_X4_79 rfl rfl rfl (Nat.le_of_ble_eq_true rfl) dX4_find_23 (t_X3_howIs ha hK16 hTT hWT) ?_
        refine r_iconst dX4_find_26 (v := 4) rfl ?_
        refine r_icmp_eq dX4_find_27 (tgt := 33) (by decide) (fun h27 => ?_) (fun h27 => ?_)
        · --t
          exact absurd h27 h4
        · --f
          refine r_bipush dX4_find_30 (v := -5) (by decide +kernel) ?_
          refine r_iret rfl dX4_find_32 ?_
          exact ⟨rfl, hS, hH, fun _ _ => rfl⟩
      · --f
        exact absurd (bI_yes g) (by rw [h6]; decide)
end PUB
end
section
/-! the class's public methods: set -/
theorem le1_of {s : Int32} (h : s < 2) : s ≤ 1 := by
  rw [Int32.lt_iff_toInt_lt] at h
  rw [Int32.le_iff_toInt_le]
  have e1 : (1 : Int32).toInt = 1 := by decide
  have e2 : (2 : Int32).toInt = 2 := by decide
  omega
section PUB
variable {G : mG} {d : Nat} {S : mS} {N : mN} {n : Nat} {h : Nat → mN} {t k c s v x : Int32}
theorem SP.stn {S : mS} {N : mN} (hS : SP S 1 N) {i : Nat} (hi : i < 2) {y : Int32} : SP (up1 S 2 (upd (S 2) i y)) 1 (upd N.1 i y, N.2) := by
  refine ⟨?_, fun t ht => ?_⟩
  · rw [up1_s, up1_n (show 1 ≠ 2 by omega)]
    refine ⟨?_, ?_, hS.1.2.2.1.trans ?_, hS.1.2.2.2.1.trans ?_, hS.1.2.2.2.2.trans ?_⟩
    · show upd (S 2) i y 0 = upd N.1 i y 0
      have e := hS.1.1
      simp only [upd]; split
      · rfl
      · exact e
    · show upd (S 2) i y 1 = upd N.1 i y 1
      have e := hS.1.2.1
      simp only [upd]; split
      · rfl
      · exact e
    · simp only [upd]; rw [if_neg (by omega)]
    · simp only [upd]; rw [if_neg (by omega)]
    · simp only [upd]; rw [if_neg (by omega)]
  · have e : cnt (upd N.1 i y, N.2) = cnt N := cnt_g (by simp only [upd]; rw [if_neg (by omega)])
    rw [e] at ht
    exact (hS.2 t ht).off (fun x hx => up1_n (by omega))
theorem t_X4_set (hW : WN N) (hS : SP S 1 N) (hH : HP S n h) : Call G (d + 7) M_X4_set [rv G 0, .int s, .int v] S (fun r u => r = some (setO N s v).1 ∧ SP u 1 (setO N s v).2 ∧ HP u (rcN (setO N s v).1 n) (rcH (setO N s v).1 n h N) ∧ FC S u) := by
  refine call_of (lo := [(0, rv G 0), (1, .int s), (2, .int v)]) (by decide +kernel) (Nat.le_of_ble_eq_true rfl) rfl ?_
  unfold setO
  by_cases hc : (s = 0 ∧ 0 ≤ v ∧ v ≤ 99) ∨ (s = 1 ∧ 1 ≤ v ∧ v ≤ 99)
  · rw [if_pos hc]
    obtain ⟨i, hi, rfl, ei⟩ : ∃ i, i < 2 ∧ s = nI i ∧ s.toNatClampNeg = i := by
      rcases hc with ⟨rfl, -⟩ | ⟨rfl, -⟩
      · exact ⟨0, by omega, rfl, rfl⟩
      · exact ⟨1, by omega, rfl, rfl⟩
    have hl : i < ln 2 := hi
    have hs0 : ¬ nI i < 0 := nI_pos (by omega)
    have hs2 : nI i < 2 := nI_lt (b := 2) hi (by decide)
    rw [ei]
    have hv99 : v ≤ 99 := by rcases hc with ⟨-, -, z⟩ | ⟨-, -, z⟩ <;> exact z
    have hW2 : WN (upd N.1 i v, N.2) := hW.glob (by simp only [upd]; rw [if_neg (by omega)])
    have hlow : (nI i = 1 → 1 ≤ v) ∧ (¬ nI i = 1 → 0 ≤ v) := by
      rcases hc with ⟨z, y, -⟩ | ⟨z, y, -⟩
      · rw [z]; exact ⟨fun y => absurd y (by decide), fun _ => y⟩
      · exact ⟨fun _ => y, fun y => absurd z y⟩
    refine r_iload_n dX4_set_0 1 rfl ?_
    refine r_if_lt dX4_set_1 (tgt := 9) (by decide) (fun h1 => ?_) (fun h1 => ?_)
    · --t
      exact absurd h1 hs0
    · --f
      refine r_iload_n dX4_set_4 1 rfl ?_
      refine r_iconst dX4_set_5 (v := 2) rfl ?_
      refine r_icmp_lt dX4_set_6 (tgt := 12) (by decide) (fun h6 => ?_) (fun h6 => ?_)
      · --t
        refine r_iload_n dX4_set_12 1 rfl ?_
        refine r_iconst dX4_set_13 (v := 1) rfl ?_
        refine r_icmp_ne dX4_set_14 (tgt := 21) (by decide) (fun h14 => ?_) (fun h14 => ?_)
        · --t
          refine r_iconst dX4_set_21 (v := 0) rfl ?_
          refine r_istore_n (lo2 := [(0, _), (1, _), (2, _), (3, _)]) dX4_set_22 rfl (Nat.le_of_ble_eq_true rfl) [1, 2, 3, 0] rfl ?_
          refine r_iload_n dX4_set_23 2 rfl ?_
          refine r_iload_n dX4_set_24 3 rfl ?_
          refine r_icmp_lt dX4_set_25 (tgt := 34) (by decide) (fun h25 => ?_) (fun h25 => ?_)
          · --t
            exact (by first | exact absurd (hlow.1 h14) (Int32.not_le.mpr h25) | exact absurd (hlow.2 h14) (Int32.not_le.mpr h25))
          · --f
            refine r_iload_n dX4_set_28 2 rfl ?_
            refine r_bipush dX4_set_29 (v := 99) (by decide +kernel) ?_
            refine r_icmp_le dX4_set_31 (tgt := 37) (by decide) (fun h31 => ?_) (fun h31 => ?_)
            · --t
              refine r_aload_n dX4_set_37 0 rfl ?_
              refine r_getR (b := 19) (by first | assumption | rfl) f_X4_19 rfl rfl dX4_set_38 rfl ?_
              refine r_aload_n dX4_set_41 0 rfl ?_
              refine r_getR (b := 1) (by first | assumption | rfl) f_X4_10 rfl rfl dX4_set_42 rfl ?_
              refine r_callVv (As := [_]) c_X0_note (by first | assumption | rfl) l_X4_45 rfl rfl rfl (Nat.le_of_ble_eq_true rfl) dX4_set_45 (t_X0_note hH hW hS) (fun u45 q45 => ?_)
              obtain ⟨-, g1, f1⟩ := q45
              have hS1 := hS.fh hW.cn.2 f1
              refine r_aload_n dX4_set_48 0 rfl ?_
              refine r_getR (b := 1) (by first | assumption | rfl) f_X4_10 rfl rfl dX4_set_49 rfl ?_
              refine r_getR (b := 2) (by first | assumption | rfl) f_X4_49 rfl rfl dX4_set_52 rfl ?_
              refine r_iload_n dX4_set_55 1 rfl ?_
              refine r_iald (j := i) (by first | assumption | rfl) (by first | assumption | rfl) (by first | assumption | decide) dX4_set_56 ?_
              refine r_istore (lo2 := [(0, _), (1, _), (2, _), (3, _), (4, _)]) dX4_set_57 (Nat.le_of_ble_eq_true rfl) [1, 2, 3, 4, 0] rfl ?_
              refine r_aload_n dX4_set_59 0 rfl ?_
              refine r_getR (b := 1) (by first | assumption | rfl) f_X4_10 rfl rfl dX4_set_60 rfl ?_
              refine r_getR (b := 2) (by first | assumption | rfl) f_X4_49 rfl rfl dX4_set_63 rfl ?_
              refine r_iload_n dX4_set_66 1 rfl ?_
              refine r_iload_n dX4_set_67 2 rfl ?_
              refine r_iast (j := i) (by first | assumption | rfl) (by first | assumption | rfl) (by first | assumption | decide) dX4_set_68 ?_
              refine r_aload_n dX4_set_69 0 rfl ?_
              refine r_iload dX4_set_70 4 rfl ?_
              refine r_callVi (As := [_]) c_X4_recorded (by first | assumption | rfl) l_X4_53 rfl rfl rfl (Nat.le_of_ble_eq_true rfl) dX4_set_72 (t_X4_recorded (N := N) (g1.off (fun c c1 c2 => up1_n (by omega)))) (fun r72 u72 q72 => ?_)
              obtain ⟨e3, g3, f3⟩ := q72
              cases e3
              refine r_iret rfl dX4_set_75 ?_
              have e1 : u45 2 i = N.1 i := by
                have z0 : u45 2 0 = N.1 0 := hS1.1.1
                have z1 : u45 2 1 = N.1 1 := hS1.1.2.1
                rcases (by omega : i = 0 ∨ i = 1) with rfl | rfl
                · exact z0
                · exact z1
              rw [e1] at g3 ⊢
              exact ⟨rfl, (hS1.stn hi).fh hW2.cn.2 f3, g3, fun b hb => (f3 b (by omega)).trans ((up1_n (by omega)).trans (f1 b (by omega)))⟩
            · --f
              exact absurd hv99 h31
        · --f
          refine r_iconst dX4_set_17 (v := 1) rfl ?_
          refine r_goto dX4_set_18 (tgt := 22) (by decide) ?_
          refine r_istore_n (lo2 := [(0, _), (1, _), (2, _), (3, _)]) dX4_set_22 rfl (Nat.le_of_ble_eq_true rfl) [1, 2, 3, 0] rfl ?_
          refine r_iload_n dX4_set_23 2 rfl ?_
          refine r_iload_n dX4_set_24 3 rfl ?_
          refine r_icmp_lt dX4_set_25 (tgt := 34) (by decide) (fun h25 => ?_) (fun h25 => ?_)
          · --t
            exact (by first | exact absurd (hlow.1 h14) (Int32.not_le.mpr h25) | exact absurd (hlow.2 h14) (Int32.not_le.mpr h25))
          · --f
            refine r_iload_n dX4_set_28 2 rfl ?_
            refine r_bipush dX4_set_29 (v := 99) (by decide +kernel) ?_
            refine r_icmp_le dX4_set_31 (tgt := 37) (by decide) (fun h31 => ?_) (fun h31 => ?_)
            · --t
              refine r_aload_n dX4_set_37 0 rfl ?_
              refine r_getR (b := 19) (by first | assumption | rfl) f_X4_19 rfl rfl dX4_set_38 rfl ?_
              refine r_aload_n dX4_set_41 0 rfl ?_
              refine r_getR (b := 1) (by first | assumption | rfl) f_X4_10 rfl rfl dX4_set_42 rfl ?_
              refine r_callVv (As := [_]) c_X0_note (by first | assumption | rfl) l_X4_45 rfl rfl rfl (Nat.le_of_ble_eq_true rfl) dX4_set_45 (t_X0_note hH hW hS) (fun u45 q45 => ?_)
              obtain ⟨-, g1, f1⟩ := q45
              have hS1 := hS.fh hW.cn.2 f1
              refine r_aload_n dX4_set_48 0 rfl ?_
              refine r_getR (b := 1) (by first | assumption | rfl) f_X4_10 rfl rfl dX4_set_49 rfl ?_
              refine r_getR (b := 2) (by first | assumption | rfl) f_X4_49 rfl rfl dX4_set_52 rfl ?_
              refine r_iload_n dX4_set_55 1 rfl ?_
              refine r_iald (j := i) (by first | assumption | rfl) (by first | assumption | rfl) (by first | assumption | decide) dX4_set_56 ?_
              refine r_istore (lo2 := [(0, _), (1, _), (2, _), (3, _), (4, _)]) dX4_set_57 (Nat.le_of_ble_eq_true rfl) [1, 2, 3, 4, 0] rfl ?_
              refine r_aload_n dX4_set_59 0 rfl ?_
              refine r_getR (b := 1) (by first | assumption | rfl) f_X4_10 rfl rfl dX4_set_60 rfl ?_
              refine r_getR (b := 2) (by first | assumption | rfl) f_X4_49 rfl rfl dX4_set_63 rfl ?_
              refine r_iload_n dX4_set_66 1 rfl ?_
              refine r_iload_n dX4_set_67 2 rfl ?_
              refine r_iast (j := i) (by first | assumption | rfl) (by first | assumption | rfl) (by first | assumption | decide) dX4_set_68 ?_
              refine r_aload_n dX4_set_69 0 rfl ?_
              refine r_iload dX4_set_70 4 rfl ?_
              refine r_callVi (As := [_]) c_X4_recorded (by first | assumption | rfl) l_X4_53 rfl rfl rfl (Nat.le_of_ble_eq_true rfl) dX4_set_72 (t_X4_recorded (N := N) (g1.off (fun c c1 c2 => up1_n (by omega)))) (fun r72 u72 q72 => ?_)
              obtain ⟨e3, g3, f3⟩ := q72
              cases e3
              refine r_iret rfl dX4_set_75 ?_
              have e1 : u45 2 i = N.1 i := by
                have z0 : u45 2 0 = N.1 0 := hS1.1.1
                have z1 : u45 2 1 = N.1 1 := hS1.1.2.1
                rcases (by omega : i = 0 ∨ i = 1) with rfl | rfl
                · exact z0
                · exact z1
              rw [e1] at g3 ⊢
              exact ⟨rfl, (hS1.stn hi).fh hW2.cn.2 f3, g3, fun b hb => (f3 b (by omega)).trans ((up1_n (by omega)).trans (f1 b (by omega)))⟩
            · --f
              exact absurd hv99 h31
      · --f
        exact absurd hs2 h6
  · rw [if_neg hc]
    have big : s < 0 ∨ ¬ s < 2 ∨ (s = 1 ∧ (v < 1 ∨ ¬ v ≤ 99)) ∨ (¬ s = 1 ∧ (v < 0 ∨ ¬ v ≤ 99)) := by
      by_cases a1 : s < 0
      · exact Or.inl a1
      · by_cases a2 : s < 2
        · right; right
          by_cases a3 : s = 1
          · left
            refine ⟨a3, ?_⟩
            by_cases a4 : v < 1
            · exact Or.inl a4
            · exact Or.inr (fun z => hc (Or.inr ⟨a3, Int32.not_lt.mp a4, z⟩))
          · right
            refine ⟨a3, ?_⟩
            have a0 : s = 0 := by
              obtain ⟨j, hj, rfl⟩ := nI_of a1
              rw [show (2 : Int32) = nI 2 from rfl, nI_ltI hj (by omega)] at a2
              rw [show (1 : Int32) = nI 1 from rfl, nI_eq hj (by omega)] at a3
              rw [show j = 0 by omega]; rfl
            by_cases a4 : v < 0
            · exact Or.inl a4
            · exact Or.inr (fun z => hc (Or.inl ⟨a0, Int32.not_lt.mp a4, z⟩))
        · exact Or.inr (Or.inl a2)
    refine r_iload_n dX4_set_0 1 rfl ?_
    refine r_if_lt dX4_set_1 (tgt := 9) (by decide) (fun h1 => ?_) (fun h1 => ?_)
    · --t
      refine r_bipush dX4_set_9 (v := -2) (by decide +kernel) ?_
      refine r_iret rfl dX4_set_11 ?_
      exact ⟨rfl, hS, hH, fun _ _ => rfl⟩
    · --f
      refine r_iload_n dX4_set_4 1 rfl ?_
      refine r_iconst dX4_set_5 (v := 2) rfl ?_
      refine r_icmp_lt dX4_set_6 (tgt := 12) (by decide) (fun h6 => ?_) (fun h6 => ?_)
      · --t
        refine r_iload_n dX4_set_12 1 rfl ?_
        refine r_iconst dX4_set_13 (v := 1) rfl ?_
        refine r_icmp_ne dX4_set_14 (tgt := 21) (by decide) (fun h14 => ?_) (fun h14 => ?_)
        · --t
          refine r_iconst dX4_set_21 (v := 0) rfl ?_
          refine r_istore_n (lo2 := [(0, _), (1, _), (2, _), (3, _)]) dX4_set_22 rfl (Nat.le_of_ble_eq_true rfl) [1, 2, 3, 0] rfl ?_
          refine r_iload_n dX4_set_23 2 rfl ?_
          refine r_iload_n dX4_set_24 3 rfl ?_
          refine r_icmp_lt dX4_set_25 (tgt := 34) (by decide) (fun h25 => ?_) (fun h25 => ?_)
          · --t
            refine r_bipush dX4_set_34 (v := -2) (by decide +kernel) ?_
            refine r_iret rfl dX4_set_36 ?_
            exact ⟨rfl, hS, hH, fun _ _ => rfl⟩
          · --f
            refine r_iload_n dX4_set_28 2 rfl ?_
            refine r_bipush dX4_set_29 (v := 99) (by decide +kernel) ?_
            refine r_icmp_le dX4_set_31 (tgt := 37) (by decide) (fun h31 => ?_) (fun h31 => ?_)
            · --t
              rcases big with z | z | ⟨z, y⟩ | ⟨z, y⟩
              · exact absurd z h1
              · exact absurd h6 z
              · first | exact absurd z h14 | exact (y.elim h25 (fun w => w h31)).elim
              · first | exact absurd h14 z | exact (y.elim h25 (fun w => w h31)).elim
            · --f
              refine r_bipush dX4_set_34 (v := -2) (by decide +kernel) ?_
              refine r_iret rfl dX4_set_36 ?_
              exact ⟨rfl, hS, hH, fun _ _ => rfl⟩
        · --f
          refine r_iconst dX4_set_17 (v := 1) rfl ?_
          refine r_goto dX4_set_18 (tgt := 22) (by decide) ?_
          refine r_istore_n (lo2 := [(0, _), (1, _), (2, _), (3, _)]) dX4_set_22 rfl (Nat.le_of_ble_eq_true rfl) [1, 2, 3, 0] rfl ?_
          refine r_iload_n dX4_set_23 2 rfl ?_
          refine r_iload_n dX4_set_24 3 rfl ?_
          refine r_icmp_lt dX4_set_25 (tgt := 34) (by decide) (fun h25 => ?_) (fun h25 => ?_)
          · --t
            refine r_bipush dX4_set_34 (v := -2) (by decide +kernel) ?_
            refine r_iret rfl dX4_set_36 ?_
            exact ⟨rfl, hS, hH, fun _ _ => rfl⟩
          · --f
            refine r_iload_n dX4_set_28 2 rfl ?_
            refine r_bipush dX4_set_29 (v := 99) (by decide +kernel) ?_
            refine r_icmp_le dX4_set_31 (tgt := 37) (by decide) (fun h31 => ?_) (fun h31 => ?_)
            · --t
              rcases big with z | z | ⟨z, y⟩ | ⟨z, y⟩
              · exact absurd z h1
              · exact absurd h6 z
              · first | exact absurd z h14 | exact (y.elim h25 (fun w => w h31)).elim
              · first | exact absurd h14 z | exact (y.elim h25 (fun w => w h31)).elim
            · --f
              refine r_bipush dX4_set_34 (v := -2) (by decide +kernel) ?_
              refine r_iret rfl dX4_set_36 ?_
              exact ⟨rfl, hS, hH, fun _ _ => rfl⟩
      · --f
        refine r_bipush dX4_set_9 (v := -2) (by decide +kernel) ?_
        refine r_iret rfl dX4_set_11 ?_
        exact ⟨rfl, hS, hH, fun _ _ => rfl⟩
end PUB
end
section
/-! constructors: the same cells, as they come one by one. pr: which references stand already -/
abbrev mP : Type := Nat → Nat → Bool
def cFs (G : mG) (S : mS) (pr : mP) (a ci : Nat) : List Value := (List.range (fN ci)).map (fun k => if isI ci k then .int (S a k) else if pr a k then rv G (rf a k) else .null)
def cellQ (G : mG) (S : mS) (pr : mP) (a : Nat) : va_E := if kd a < 6 then .inr (kd a, cFs G S pr a (kd a)) else .inl (G.2.2.1 (kd a), ln a, if kd a < 9 then .inl (S a) else .inr (.inr (.inr (.inr (fun k => if pr a k then some (G.2.2.2 (rf a k)) else none)))))
def mB (G : mG) (S : mS) (pr : mP) (n : Nat) : va_W := (List.range n).map (fun a => (G.2.2.2 a, cellQ G S pr a))
theorem mB_at {G : mG} {S : mS} {pr : mP} {n a : Nat} (h : a < n) : (mB G S pr n)[a]? = some (G.2.2.2 a, cellQ G S pr a) := by simp [mB, h]
theorem mB_no {G : mG} {S : mS} {pr : mP} {n a : Nat} (h : ¬ a < n) : (mB G S pr n)[a]? = none := by simp [mB]; omega
theorem mB_push {G : mG} {S : mS} {pr : mP} {n : Nat} : mB G S pr n ++ [(G.2.2.2 n, cellQ G S pr n)] = mB G S pr (n + 1) := by unfold mB; rw [List.range_succ, List.map_append]; rfl
theorem cellQ_eq {G : mG} {S S' : mS} {pr pr' : mP} {b : Nat} (h : S' b = S b) (h2 : pr' b = pr b) : cellQ G S' pr' b = cellQ G S pr b := by unfold cellQ cFs; rw [h, h2]
theorem mB_set {G : mG} {S S' : mS} {pr pr' : mP} {n a : Nat} (h : a < n) (hS : ∀ b, b ≠ a → S' b = S b) (hp : ∀ b, b ≠ a → pr' b = pr b) : (mB G S pr n).set a (G.2.2.2 a, cellQ G S' pr' a) = mB G S' pr' n := by
  refine List.ext_getElem? fun k => ?_
  rw [List.getElem?_set]
  by_cases hk : k < n
  · rw [mB_at hk, mB_at hk]
    by_cases e : a = k
    · subst e; simp [mB, hk]
    · rw [if_neg e, cellQ_eq (hS k (fun z => e z.symm)) (hp k (fun z => e z.symm))]
  · rw [mB_no hk, mB_no hk, if_neg (by omega)]
theorem mB_all {G : mG} {S : mS} : mB G S (fun _ _ => true) 190 = mW G S := by
  unfold mB mW
  refine List.map_congr_left fun a _ => ?_
  unfold cellQ cellE cFs mFs
  simp
theorem cellQ_o {G : mG} {S : mS} {pr : mP} {a ci : Nat} (h : kd a = ci) (hc : ci < 6) : cellQ G S pr a = .inr (ci, cFs G S pr a ci) := by subst h; unfold cellQ; rw [if_pos hc]
theorem cellQ_i {G : mG} {S : mS} {pr : mP} {a t : Nat} (h : kd a = t) (h1 : ¬ t < 6) (h2 : t < 9) : cellQ G S pr a = .inl (G.2.2.1 t, ln a, .inl (S a)) := by subst h; unfold cellQ; rw [if_neg h1, if_pos h2]
theorem cellQ_r {G : mG} {S : mS} {pr : mP} {a t : Nat} (h : kd a = t) (h2 : ¬ t < 9) : cellQ G S pr a = .inl (G.2.2.1 t, ln a, .inr (.inr (.inr (.inr (fun k => if pr a k then some (G.2.2.2 (rf a k)) else none))))) := by subst h; unfold cellQ; rw [if_neg (by omega), if_neg h2]
/-- a reference set -/
def upP (pr : mP) (a k : Nat) : mP := fun b j => if b = a ∧ j = k then true else pr b j
theorem upP_n {pr : mP} {a k b : Nat} (h : b ≠ a) : upP pr a k b = pr b := by funext j; unfold upP; rw [if_neg (fun z => h z.1)]
theorem cFs_at {G : mG} {S : mS} {pr : mP} {a ci k : Nat} (h : k < fN ci) : (cFs G S pr a ci)[k]? = some (if isI ci k then .int (S a k) else if pr a k then rv G (rf a k) else .null) := by simp [cFs, h]
theorem cFs_len {G : mG} {S : mS} {pr : mP} {a ci : Nat} : (cFs G S pr a ci).length = fN ci := by simp [cFs]
theorem cFs_set {G : mG} {S : mS} {pr : mP} {a ci k : Nat} (hi : isI ci k = false) : (cFs G S pr a ci).set k (rv G (rf a k)) = cFs G S (upP pr a k) a ci := by
  refine List.ext_getElem? fun j => ?_
  rw [List.getElem?_set]
  by_cases hj : j < fN ci
  · rw [cFs_at hj, cFs_at hj]
    by_cases e : k = j
    · subst e; simp [cFs, hj, hi, upP]
    · have e2 : ¬ (j = k) := fun z => e z.symm
      rw [if_neg e]; simp [upP, e2]
  · have h1 : ∀ pr', (cFs G S pr' a ci)[j]? = none := fun pr' => by simp [cFs]; omega
    rw [h1, h1]
    by_cases e : k = j
    · subst e; rw [if_pos rfl, if_neg (by rw [cFs_len]; exact hj)]
    · rw [if_neg e]
theorem cFs_new {G : mG} {S : mS} {pr : mP} {a ci : Nat} (hc : ci < 6) (h0 : ∀ k, S a k = 0) (h1 : ∀ k, pr a k = false) : ∀ j, j < fN ci → defaultValue (fY ci j) = vp_V (cFs G S pr a ci) j := by
  intro j hj
  have e : vp_V (cFs G S pr a ci) j = if isI ci j then .int 0 else .null := by
    unfold vp_V
    rw [List.getD_eq_getElem?_getD, cFs_at hj, h0, h1]
    rfl
  rw [e]
  clear e
  revert j
  rcases (by omega : ci = 0 ∨ ci = 1 ∨ ci = 2 ∨ ci = 3 ∨ ci = 4 ∨ ci = 5) with rfl | rfl | rfl | rfl | rfl | rfl
  all_goals decide +kernel
def vAO (U : State) : Prop := va_AO "ScoutGates$State" U ∧ va_AO "ScoutGates$Troop" U
theorem vAO.moved {u U : State} (hvm : u.vm.Alike U.vm) (h : vAO u) : vAO U := ⟨h.1.moved hvm, h.2.moved hvm⟩
def mRb (d nc ns : Nat) : Room := { frames := d, cells := nc, slots := ns, locals := 30 * d }
/-- the world grows to n1 cells, so that R -/
def bPost (G : mG) (R : mS → mP → Prop) (n1 : Nat) (A : Nat → Prop) : Array Value → State → Outcome → State → Prop := va_Qv (fun u : mS × mP => R u.1 u.2) (fun u t => t.heap.size = G.2.2.2 n1 ∧ va_P G.2.1 mcl (mB G u.1 u.2 n1) t.heap ∧ va_K G.2.1 mcl (mTy G) t ∧ va_D A (mB G u.1 u.2 n1)) A
/-- the triple of a constructor of the cell a; nc cells of ns places come -/
def CallI (G : mG) (d nc ns : Nat) (M : mM) (a : Nat) (S : mS) (pr : mP) (n : Nat) (R : mS → mP → Prop) (n1 : Nat) : Prop :=
  Met G.1 M.1 (mWs M) (mRb d nc ns) (va_Pc [rv G a] (fun U => U.heap.size = G.2.2.2 n ∧ va_P G.2.1 mcl (mB G S pr n) U.heap ∧ va_K G.2.1 mcl (mTy G) U ∧ vAO U ∧ va_D (fun _ => True) (mB G S pr n))) (bPost G R n1 (va_A (mB G S pr n) (G.2.2.2 n))) nc ns (va_A (mB G S pr n) (G.2.2.2 n))
def adG (G : mG) : Prop := ∀ a, G.2.2.2 (a + 1) = G.2.2.2 a + 1
def Bt (G : mG) (d nc ns : Nat) (M : mM) (R : mS → mP → Prop) (n1 : Nat) (pc : Nat) (lo : List (Nat × Value)) (st : List Value) (S : mS) (pr : mP) (n kc ks : Nat) : Prop :=
  ∀ (p : Program) (e : Env) (s : State) (m : MethodId) (args : Array Value) (below : List Frame) (meth : Method) (c : Code) (A : Nat → Prop) (H : Heap) (locs : List Loc) (ls : Array Slot),
    mCx G M A p s m args meth c → (meth.name = "<init>" ∧ vAO s) → lv_has ls M.2.2.1 lo → H.size = G.2.2.2 n → va_P G.2.1 mcl (mB G S pr n) H → va_D A (mB G S pr n) → va_S A s.heap H locs →
    W p G.1 e (mRb d nc ns) s m args below meth c H locs kc ks (MQ below (bPost G R n1 A) args s nc ns A) (F0 m pc ls st)
section INIT
variable {G : mG} {d nc ns : Nat} {M : mM} {S : mS} {pr : mP} {R : mS → mP → Prop} {n1 n kc ks pc : Nat} {lo : List (Nat × Value)} {st : List Value}
theorem calli_of {a : Nat} (hy : plainName M.1.cls = true) (hy2 : M.1.name = "<init>") (hn : 1 ≤ M.2.2.1) (hl : lv_args 0 [rv G a] = lo) (h : Bt G d nc ns M R n1 0 lo [] S pr n 0 0) : CallI G d nc ns M a S pr n R n1 := by
  refine Met.ofW (cc := M.2.1) (maxL := M.2.2.1) (ret := M.2.2.2) hy rfl ?_
  intro p e s m args below meth c s₁ B hml hv
  obtain ⟨rfl, hsz, hP, hK, hO, hD0⟩ := hv
  rw [lg_entry_eq]
  subst hl
  rw [← hsz]
  exact h p e s m _ below meth c _ s.heap [] _ ⟨B.exec, B.bytes, hml, B.returns, findClass_of_methodNamed B.named, atoms_spec (ws := mWs M) B.pre, B.notSynchronized, hK, fun q hq => Or.inr hq⟩ ⟨(name_of_methodNamed B.named B.method).1.trans hy2, hO⟩ (lv_entry _ hn) hsz hP hD0.self va_S.rf
theorem b_iconst {i : Int} {v : Int32} (hd : decode M.2.1 pc = .ok (.iconst i, 1)) (hv : Int32.ofInt i = v) (k : Bt G d nc ns M R n1 (pc + 1) lo (.int v :: st) S pr n kc ks) : Bt G d nc ns M R n1 pc lo st S pr n kc ks := by
  intro p e s m args below meth c A H locs ls C hN hl hz hP hD hS
  exact lv_iconst C.1 C.2.1 hd hv (k _ _ _ _ _ _ _ _ _ _ _ _ C hN hl hz hP hD hS)
theorem b_bipush {i : Int} {v : Int32} (hd : decode M.2.1 pc = .ok (.bipush i, 2)) (hv : (Int8.ofInt i).toInt32 = v) (k : Bt G d nc ns M R n1 (pc + 2) lo (.int v :: st) S pr n kc ks) : Bt G d nc ns M R n1 pc lo st S pr n kc ks := by
  intro p e s m args below meth c A H locs ls C hN hl hz hP hD hS
  exact lv_bipush C.1 C.2.1 hd hv (k _ _ _ _ _ _ _ _ _ _ _ _ C hN hl hz hP hD hS)
theorem b_sipush {i : Int} {v : Int32} (hd : decode M.2.1 pc = .ok (.sipush i, 3)) (hv : (Int16.ofInt i).toInt32 = v) (k : Bt G d nc ns M R n1 (pc + 3) lo (.int v :: st) S pr n kc ks) : Bt G d nc ns M R n1 pc lo st S pr n kc ks := by
  intro p e s m args below meth c A H locs ls C hN hl hz hP hD hS
  exact lv_sipush C.1 C.2.1 hd hv (k _ _ _ _ _ _ _ _ _ _ _ _ C hN hl hz hP hD hS)
theorem b_aload_n {i : Fin 4} {x : Nat} (hd : decode M.2.1 pc = .ok (.aload_n i, 1)) (j : Nat) (hg : lo[j]? = some ((i : Nat), rv G x)) (k : Bt G d nc ns M R n1 (pc + 1) lo (rv G x :: st) S pr n kc ks) : Bt G d nc ns M R n1 pc lo st S pr n kc ks := by
  intro p e s m args below meth c A H locs ls C hN hl hz hP hD hS
  exact lv_aload_n C.1 C.2.1 hd rfl (lv_at hl j hg) (k _ _ _ _ _ _ _ _ _ _ _ _ C hN hl hz hP hD hS)
theorem b_iload_n {i : Fin 4} {x : Int32} (hd : decode M.2.1 pc = .ok (.iload_n i, 1)) (j : Nat) (hg : lo[j]? = some ((i : Nat), .int x)) (k : Bt G d nc ns M R n1 (pc + 1) lo (.int x :: st) S pr n kc ks) : Bt G d nc ns M R n1 pc lo st S pr n kc ks := by
  intro p e s m args below meth c A H locs ls C hN hl hz hP hD hS
  exact lv_iload_n C.1 C.2.1 hd rfl (lv_at hl j hg) (k _ _ _ _ _ _ _ _ _ _ _ _ C hN hl hz hP hD hS)
theorem b_istore_n {i : Fin 4} {j : Nat} {x : Int32} {lo2 : List (Nat × Value)} (hd : decode M.2.1 pc = .ok (.istore_n i, 1)) (hi : (i : Nat) = j) (hn : j < M.2.2.1) (ps : List Nat) (hs : lv_pick ((j, .int x) :: lo.filter (fun q => !(q.1 == j) && !(q.1 + 1 == j && q.2.category == 2))) ps = lo2) (k : Bt G d nc ns M R n1 (pc + 1) lo2 st S pr n kc ks) : Bt G d nc ns M R n1 pc lo (.int x :: st) S pr n kc ks := by
  intro p e s m args below meth c A H locs ls C hN hl hz hP hD hS
  exact lv_istore_n C.1 C.2.1 hd hi hl hn rfl (fun ls' hl => k _ _ _ _ _ _ _ _ _ _ _ _ C hN (lv_sub hl ps hs) hz hP hD hS)
theorem b_iinc {i : Nat} {t : Int} {x w : Int32} {lo2 : List (Nat × Value)} (hd : decode M.2.1 pc = .ok (.iinc i t, 3)) (j : Nat) (hg : lo[j]? = some (i, .int x)) (hw : Int32.ofInt t = w) (hn : i < M.2.2.1) (ps : List Nat) (hs : lv_pick ((i, .int (x + w)) :: lo.filter (fun q => !(q.1 == i) && !(q.1 + 1 == i && q.2.category == 2))) ps = lo2) (k : Bt G d nc ns M R n1 (pc + 3) lo2 st S pr n kc ks) : Bt G d nc ns M R n1 pc lo st S pr n kc ks := by
  intro p e s m args below meth c A H locs ls C hN hl hz hP hD hS
  subst hw
  exact lv_iinc C.1 C.2.1 hd hl (k := j) hg rfl hn rfl (fun ls' hl => k _ _ _ _ _ _ _ _ _ _ _ _ C hN (lv_sub hl ps hs) hz hP hD hS)
theorem b_goto {off : Int} {tgt : Nat} (hd : decode M.2.1 pc = .ok (.goto off, 3)) (ht : (pc : Int) + off = (tgt : Int)) (k : Bt G d nc ns M R n1 tgt lo st S pr n kc ks) : Bt G d nc ns M R n1 pc lo st S pr n kc ks := by
  intro p e s m args below meth c A H locs ls C hN hl hz hP hD hS
  exact lv_goto C.1 C.2.1 hd ht (k _ _ _ _ _ _ _ _ _ _ _ _ C hN hl hz hP hD hS)
theorem b_icmp_ge {x y : Int32} {off : Int} {tgt : Nat} (hd : decode M.2.1 pc = .ok (.if_icmp .ge off, 3)) (ht : (pc : Int) + off = (tgt : Int)) (kt : y ≤ x → Bt G d nc ns M R n1 tgt lo st S pr n kc ks) (kf : ¬ (y ≤ x) → Bt G d nc ns M R n1 (pc + 3) lo st S pr n kc ks) : Bt G d nc ns M R n1 pc lo (.int y :: .int x :: st) S pr n kc ks := by
  intro p e s m args below meth c A H locs ls C hN hl hz hP hD hS
  exact lv_icmp_ge C.1 C.2.1 hd ht (fun z => kt z _ _ _ _ _ _ _ _ _ _ _ _ C hN hl hz hP hD hS) (fun z => kf z _ _ _ _ _ _ _ _ _ _ _ _ C hN hl hz hP hD hS)
theorem b_dup {v : Value} (hd : decode M.2.1 pc = .ok (.dup, 1)) (hc : v.category = 1) (k : Bt G d nc ns M R n1 (pc + 1) lo (v :: v :: st) S pr n kc ks) : Bt G d nc ns M R n1 pc lo (v :: st) S pr n kc ks := by
  intro p e s m args below meth c A H locs ls C hN hl hz hP hD hS
  exact lv_dup C.1 C.2.1 hd hc (k _ _ _ _ _ _ _ _ _ _ _ _ C hN hl hz hP hD hS)
theorem b_vret (hr : M.2.2.2 = none) (hd : decode M.2.1 pc = .ok (.return_, 1)) (hq : R S pr) : Bt G d nc ns M R n pc lo [] S pr n nc ns := by
  intro p e s m args below meth c A H locs ls C hN hl hz hP hD hS
  refine W.vret C.1 C.2.1 (C.2.2.2.1.trans hr) (fun t ht hW => ?_) hS.2.2 hd C.2.2.2.2.2.2.1
  exact ⟨⟨(S, pr), rfl, hq, by rw [ht]; exact hz, by rw [ht]; exact hP, va_K.moved hW.alike C.2.2.2.2.2.2.2.1, hD⟩, hS.F ht⟩
theorem b_getR {i ci f a b : Nat} (hk : kd a = ci) (hf : FL M.1.cls i ci f) (hi : isI ci f = false) (hs : fT ci f = (fR ci, (fT ci f).2)) (hd : decode M.2.1 pc = .ok (.getfield i, 3)) (ha : a < n) (hp : pr a f = true) (hb : rf a f = b) (k : Bt G d nc ns M R n1 (pc + 3) lo (rv G b :: st) S pr n kc ks) : Bt G d nc ns M R n1 pc lo (rv G a :: st) S pr n kc ks := by
  intro p e s m args below meth c A H locs ls C hN hl hz hP hD hS
  subst hb
  exact va_get (D := G.2.1) (ci := ci) (C := fR ci) (T := fT ci) (N := fN ci) C.1 C.2.1 C.2.2.2.2.2.1 (fun w hw => List.mem_cons_of_mem _ (cls_in ci hf.1.1 w hw)) C.2.2.2.2.1 C.2.2.2.2.2.2.2.1 hP a (by rw [mB_at ha, cellQ_o hk hf.1.1]) (cls_at ci hf.1.1) f hf.1.2 (C.2.2.2.2.2.1 _ (List.mem_cons_of_mem _ hf.2)) (fun x hx => by rw [hs] at hx; exact hx) (by rw [cFs_at hf.1.2, hi, hp]; rfl) hd (k _ _ _ _ _ _ _ _ _ _ _ _ C hN hl hz hP hD hS)
end INIT
end
section
/-! constructors: what makes and fills cells -/
def clR (own : String) (i ci : Nat) : Prop := (ci < 6 ∧ Cond.classLink own i (fR ci) ∈ gtbl) ∧ Cond.instantiable (fR ci) (fN ci) ∈ gtbl ∧ Cond.initialized (fR ci) ∈ gtbl
def arC (t : Nat) : FieldType := match t with | 6 => .int | 7 => .char | 8 => .boolean | 9 => .object "ScoutGates$State" | _ => .object "ScoutGates$Troop"
theorem mTy_at {G : mG} {t : Nat} (h : 6 ≤ t) (h2 : t < 11) : (mTy G)[t - 6]? = some (G.2.2.1 t, arC t) := by
  rcases (by omega : t = 6 ∨ t = 7 ∨ t = 8 ∨ t = 9 ∨ t = 10) with rfl | rfl | rfl | rfl | rfl <;> rfl
theorem va_S.grow {A : Nat → Prop} {H0 H H1 : Heap} {locs : List Loc} {h : Nat} (hS : va_S A H0 H locs) (hh : H.size = h) (z : H1.size = h + 1) (o : ∀ q, q < h → H1[q]? = H[q]?) : va_S A H0 H1 locs := by
  subst hh
  exact ⟨Nat.le_trans hS.1 (by omega), fun x h1 h2 => (o x (Nat.lt_of_lt_of_le h1 hS.1)).trans (hS.2.1 x h1 h2), hS.2.2⟩
theorem va_P.grow {D : va_G} {cl : List vw_C} {ws : va_W} {H H1 : Heap} {h : Nat} {e : va_E} (hP : va_P D cl ws H) (hh : H.size = h) (o : ∀ q, q < h → H1[q]? = H[q]?) (he : va_at D cl (h, e) H1) : va_P D cl (ws ++ [(h, e)]) H1 := by
  subst hh
  refine (hP.kept (fun k x hx => o x.1 ((hP k x hx).lt))).app (fun k x hx => ?_)
  have hz : k < 1 := (List.getElem?_eq_some_iff.mp hx).1
  rw [show k = 0 by omega] at hx
  cases hx
  exact he
section INITB
variable {G : mG} {d nc ns : Nat} {M : mM} {S : mS} {pr : mP} {R : mS → mP → Prop} {n1 n kc ks pc : Nat} {lo : List (Nat × Value)} {st : List Value}
theorem b_new {i ci : Nat} (hG : adG G) (hcl : clR M.1.cls i ci) (hk : kd n = ci) (h0 : ∀ k, S n k = 0) (h1 : ∀ k, pr n k = false) (hc : kc + 1 ≤ nc) (hs : ks + fN ci ≤ ns) (hd : decode M.2.1 pc = .ok (.new i, 3)) (k : Bt G d nc ns M R n1 (pc + 3) lo (rv G n :: st) S pr (n + 1) (kc + 1) (ks + fN ci)) : Bt G d nc ns M R n1 pc lo st S pr n kc ks := by
  intro p e s m args below meth c A H locs ls C hN hl hz hP hD hS
  have hci := hcl.1.1
  have hK := C.2.2.2.2.2.2.2.1
  have hKn := hK.1 ci _ (cls_at ci hci)
  have hts := C.2.2.2.2.2.1
  refine W.newcK (h := G.2.2.2 n) C.1 C.2.1 C.2.2.2.2.1 (hts _ (List.mem_cons_of_mem _ hcl.1.2)) (hts _ (List.mem_cons_of_mem _ hcl.2.1)) (hts _ (List.mem_cons_of_mem _ hcl.2.2)) rfl hd hc hs hKn.2.1 hz fun H1 kC hkC e1 z1 o1 => ?_
  have hP1 : va_P G.2.1 mcl (mB G S pr n ++ [(G.2.2.2 n, .inr (ci, cFs G S pr n ci))]) H1 := hP.grow hz o1 ⟨_, cls_at ci hci, (u_born (fY ci) hts (fun w hw => List.mem_cons_of_mem _ (cls_in ci hci w hw)) hKn hkC e1 (cls_ty ci hci)).to (cFs_new hci h0 h1)⟩
  have hD1 : va_D A (mB G S pr n ++ [(G.2.2.2 n, .inr (ci, cFs G S pr n ci))]) := hD.push hP hz.symm (C.2.2.2.2.2.2.2.2 _ (by rw [← hz]; exact hS.1))
  rw [← cellQ_o hk hci, mB_push] at hP1 hD1
  exact k _ _ _ _ _ _ _ _ _ _ _ _ C hN hl (z1.trans (hG n).symm) hP1 hD1 (hS.grow hz z1 o1)
theorem b_newa {atype : ArrayType} {t N : Nat} {x : Int32} (hG : adG G) (hk : kd n = t) (ht : 6 ≤ t ∧ t < 9) (hty : newarray.typeOf atype = arC t) (hl1 : ln n = N) (hx : x = nI N) (hN1 : N < 10000) (h0 : ∀ k, S n k = 0) (har : Cond.arrayClass (newarray.typeOf atype) ∈ gtbl) (hc : kc + 1 ≤ nc) (hs : ks + N ≤ ns) (hd : decode M.2.1 pc = .ok (.newarray atype, 2)) (k : Bt G d nc ns M R n1 (pc + 2) lo (rv G n :: st) S pr (n + 1) (kc + 1) (ks + N)) : Bt G d nc ns M R n1 pc lo (.int x :: st) S pr n kc ks := by
  intro p e s m args below meth c A H locs ls C hN hl hz hP hD hS
  have hK := C.2.2.2.2.2.2.2.1
  have hts := C.2.2.2.2.2.1
  have hK2 := (hK.2 (t - 6) _ (mTy_at ht.1 (by omega))).2
  refine va_newaK (h := G.2.2.2 n) (N := N) C.1 C.2.1 (hts _ (List.mem_cons_of_mem _ har)) rfl hd rfl (by rw [hx]; exact nI_pos (by omega)) (by rw [hx]; exact nI_clamp (by omega)) ?_ hc hs hz fun H1 cA e1 z1 o1 hAr hNm => ?_
  · have : componentBytes (newarray.typeOf atype) ≤ 8 := by cases atype <;> decide
    have := Nat.mul_le_mul (Nat.le_of_lt hN1) this
    omega
  · have hcA : G.2.2.1 t = cA := by
      rw [hty] at hNm
      rcases (by omega : t = 6 ∨ t = 7 ∨ t = 8) with rfl | rfl | rfl <;> exact Option.some.inj (hK2.symm.trans hNm)
    have he : defaultValue (newarray.typeOf atype) = .int 0 := by
      rw [hty]; rcases (by omega : t = 6 ∨ t = 7 ∨ t = 8) with rfl | rfl | rfl <;> rfl
    have hP1 : va_P G.2.1 mcl (mB G S pr n ++ [(G.2.2.2 n, cellQ G S pr n)]) H1 := hP.grow hz o1 (by
      rw [cellQ_i hk (by omega) ht.2, hl1, hcA]
      show H1[G.2.2.2 n]? = some (arrV cA N (fun j => .int (S n j)))
      rw [e1, he]
      congr 2
      funext j
      rw [h0])
    have hD1 : va_D A (mB G S pr n ++ [(G.2.2.2 n, cellQ G S pr n)]) := hD.push hP hz.symm (C.2.2.2.2.2.2.2.2 _ (by rw [← hz]; exact hS.1))
    rw [mB_push] at hP1 hD1
    exact k _ _ _ _ _ _ _ _ _ _ _ _ C hN hl (z1.trans (hG n).symm) hP1 hD1 (hS.grow hz z1 o1)
theorem b_newq {i t N : Nat} {x : Int32} {Cn : String} (hG : adG G) (hk : kd n = t) (ht : 9 ≤ t ∧ t < 11) (hty : arC t = .object Cn) (hl1 : ln n = N) (hx : x = nI N) (hN1 : N < 10000) (h1 : ∀ k, pr n k = false) (hcl : Cond.classLink M.1.cls i Cn ∈ gtbl) (har : ∀ U, vAO U → va_AO Cn U) (hc : kc + 1 ≤ nc) (hs : ks + N ≤ ns) (hd : decode M.2.1 pc = .ok (.anewarray i, 3)) (k : Bt G d nc ns M R n1 (pc + 3) lo (rv G n :: st) S pr (n + 1) (kc + 1) (ks + N)) : Bt G d nc ns M R n1 pc lo (.int x :: st) S pr n kc ks := by
  intro p e s m args below meth c A H locs ls C hN hl hz hP hD hS
  have hK := C.2.2.2.2.2.2.2.1
  have hts := C.2.2.2.2.2.1
  have hK2 := (hK.2 (t - 6) _ (mTy_at (by omega) ht.2)).2
  have hxN : x.toNatClampNeg = N := by rw [hx]; exact nI_clamp (by omega)
  refine W.anew C.1 C.2.1 C.2.2.2.2.1 (hts _ (List.mem_cons_of_mem _ hcl)) (va_AO.use (har s hN.2)) rfl hd rfl (by rw [hx]; exact nI_pos (by omega)) (by rw [hxN]; omega) hc (by rw [hxN]; exact hs) fun cA kA comp f1 f2 f3 f4 => ?_
  rw [hxN]
  generalize hH1 : H.push ({ cls := cA, slots := Array.replicate N .null, vm := .none } : Cell) = H1
  have z1 : H1.size = H.size + 1 := by rw [← hH1, Array.size_push]
  have e1 : H1[H.size]? = some (arrV cA N (fun _ => .null)) := by rw [← hH1, Array.getElem?_push_size, ← arrV_new]
  have o1 : ∀ q : Nat, q < H.size → H1[q]? = H[q]? := fun q hq => by rw [← hH1, Array.getElem?_push, if_neg (Nat.ne_of_lt hq)]
  rw [hz] at z1 e1 o1 ⊢
  have hcA : G.2.2.1 t = cA := by
    rw [hty] at hK2
    obtain ⟨kA2, comp2, -, -, -, g4⟩ := hK2
    exact Option.some.inj (g4.symm.trans f1)
  have hP1 : va_P G.2.1 mcl (mB G S pr n ++ [(G.2.2.2 n, cellQ G S pr n)]) H1 := hP.grow hz o1 (by
    rw [cellQ_r hk (by omega), hl1, hcA]
    show H1[G.2.2.2 n]? = some (arrV cA N (fun j => va_rf (if pr n j then some (G.2.2.2 (rf n j)) else none)))
    rw [e1]
    congr 2
    funext j
    rw [h1]
    rfl)
  have hD1 : va_D A (mB G S pr n ++ [(G.2.2.2 n, cellQ G S pr n)]) := hD.push hP hz.symm (C.2.2.2.2.2.2.2.2 _ (by rw [← hz]; exact hS.1))
  rw [mB_push] at hP1 hD1
  exact k _ _ _ _ _ _ _ _ _ _ _ _ C hN hl (z1.trans (hG n).symm) hP1 hD1 (hS.grow hz z1 o1)
theorem b_putR {i ci f a b : Nat} {Cn : FieldType} (hk : kd a = ci) (hf : FL M.1.cls i ci f) (hi : isI ci f = false) (hs : fT ci f = (fR ci, (fT ci f).2)) (hfin : (fT ci f).2.2.2 = true) (hown : fR ci = M.1.cls) (hty : fY ci f = Cn) (hn : narrow Cn (rv G b) = rv G b) (hfit : fits Cn (rv G b) = true) (hb : rf a f = b) (ha : a < n) (hd : decode M.2.1 pc = .ok (.putfield i, 3)) (k : Bt G d nc ns M R n1 (pc + 3) lo st S (upP pr a f) n kc ks) : Bt G d nc ns M R n1 pc lo (rv G b :: rv G a :: st) S pr n kc ks := by
  intro p e s m args below meth c A H locs ls C hN hl hz hP hD hS
  subst hb
  have hts := C.2.2.2.2.2.1
  have hK := C.2.2.2.2.2.2.2.1
  have hin : ∀ w ∈ u_ws (fR ci) (fT ci) (fN ci), w ∈ mWs M := fun w hw => List.mem_cons_of_mem _ (cls_in ci hf.1.1 w hw)
  have he : (mB G S pr n)[a]? = some (G.2.2.2 a, .inr (ci, cFs G S pr a ci)) := by rw [mB_at ha, cellQ_o hk hf.1.1]
  have hap := va_apart (own := M.1.cls) hts hin (fY ci) (cls_ty ci hf.1.1) (cls_nm ci hf.1.1) hK (cls_at ci hf.1.1)
  obtain ⟨r, h1, cell, q1, q2, q3, q4⟩ := hP a _ he
  obtain rfl : r = (fR ci, fT ci, fN ci) := Option.some.inj (h1.symm.trans (cls_at ci hf.1.1))
  obtain ⟨hSl, hfc, kC, hkC, hkind⟩ := hK.1 ci _ (cls_at ci hf.1.1)
  obtain ⟨cf, kf, fi, fd, hfi, hsl⟩ := hSl f hf.1.2
  have hlay := hts _ (hin _ (u_in_lay hf.1.2))
  unfold u_lay at hlay
  rw [if_pos hfin] at hlay
  have hst := (u_facts hfc hkC (u_lays hts hin hf.1.2) hfi).1
  have hcf : m.cls = cf := by
    obtain ⟨_, _, c', _, _, _, -, -, hf', -, -, -, hown2, -⟩ := Cond.laysFinal_spec hlay
    have e1 : c' = cf := by have := hfi.symm.trans hf'; simp at this; exact this.1.symm
    rw [hs] at hown2
    rw [show (fR ci, (fT ci f).2).1 = M.1.cls from hown] at hown2
    rw [← e1]; exact Option.some.inj (C.2.2.2.2.1.symm.trans hown2)
  have h6 := u_fits hfc hkC hkind (Or.inr hlay) hfi (show parseFieldDescriptor (fT ci f).2.2.1 = some Cn by rw [cls_ty ci hf.1.1 f hf.1.2, hty]) hn hfit
  refine W.putFinK C.1 C.2.1 C.2.2.2.2.1 (hts _ (List.mem_cons_of_mem _ hf.2)) (by have z : s.fieldFound? (fT ci f).1 (fT ci f).2.1 (fT ci f).2.2.1 = some (cf, kf, fi, fd) := hfi; rw [show (fT ci f).1 = fR ci from congrArg Prod.fst hs] at z; exact z) hst hcf hN.1 (by rw [q2]; exact h6) q1 q3 (by rw [hsl]; exact k2_hasslot (q4 f hf.1.2)) rfl rfl hd fun H1 e1 e2 e3 => ?_
  rw [hsl] at e1 ⊢
  have hP1 := hP.set (e := .inr (ci, (cFs G S pr a ci).set f (rv G (rf a f)))) hD he ⟨_, cls_at ci hf.1.1, t_OB.to (V := updV (vp_V (cFs G S pr a ci)) f (rv G (rf a f))) ⟨_, e1, q2, q3, t_set q4 hap hf.1.2 (rv G (rf a f))⟩ (fun j _ => vp_updV_set (by rw [cFs_len]; exact hf.1.2) (rv G (rf a f)) j)⟩ e3
  have hD1 := hD.set (e := .inr (ci, (cFs G S pr a ci).set f (rv G (rf a f)))) he
  rw [cFs_set hi, ← cellQ_o hk hf.1.1, mB_set ha (fun _ _ => rfl) (fun b hb => upP_n hb)] at hP1 hD1
  exact k _ _ _ _ _ _ _ _ _ _ _ _ C hN hl (e2.trans hz) hP1 hD1 (hS.put e2 e3 (hD.2 a _ he))
theorem b_iast {a j : Nat} {x y : Int32} (hk : kd a = 6) (hx : x = nI j) (hj : j < ln a) (ha : a < n) (hd : decode M.2.1 pc = .ok (.iastore, 1)) (k : Bt G d nc ns M R n1 (pc + 1) lo st (up1 S a (upd (S a) j y)) pr n kc ks) : Bt G d nc ns M R n1 pc lo (.int y :: .int x :: rv G a :: st) S pr n kc ks := by
  intro p e s m args below meth c A H locs ls C hN hl hz hP hD hS
  have he : (mB G S pr n)[a]? = some (G.2.2.2 a, .inl (G.2.2.1 6, ln a, .inl (S a))) := by rw [mB_at ha, cellQ_i hk (by decide) (by decide)]
  have ej : x.toNatClampNeg = j := by rw [hx]; exact nI_clamp (by have := ln_small a; omega)
  refine W.iast C.1 C.2.1 (hP a _ he) ((C.2.2.2.2.2.2.2.1.2 0 _ rfl).1 (ln a) (fun j => .int (S a j))) (fun q => by cases q) (by show ¬ (x < 0 ∨ (arrV _ _ _).slots.size ≤ _); rw [arrV_size]; exact in_of hx hj (ln_small a)) rfl rfl hd fun H1 e1 z oq => ?_
  have hP1 : va_P G.2.1 mcl ((mB G S pr n).set a (G.2.2.2 a, .inl (G.2.2.1 6, ln a, .inl (upd (S a) j y)))) H1 := hP.set hD he (by
    show H1[G.2.2.2 a]? = some (vp_cell _ _)
    rw [e1]
    rw [vp_cell_i, vp_cell_i, arrV_store, ej]
    congr 2
    funext q
    by_cases hq : q = j
    · subst hq
      simp [updV, upd]
    · simp [updV, upd, hq]) oq
  have hD1 := hD.set (e := .inl (G.2.2.1 6, ln a, .inl (upd (S a) j y))) he
  have e2 : (Sum.inl (G.2.2.1 6, ln a, Sum.inl (upd (S a) j y)) : va_E) = cellQ G (up1 S a (upd (S a) j y)) pr a := by rw [cellQ_i hk (by decide) (by decide), up1_s]
  rw [e2, mB_set ha (fun b hb => up1_n hb) (fun _ _ => rfl)] at hP1 hD1
  exact k _ _ _ _ _ _ _ _ _ _ _ _ C hN hl (z.trans hz) hP1 hD1 (hS.put z oq (hD.2 a _ he))
theorem b_aast {a j b t ci : Nat} {x : Int32} (hk : kd a = t) (ht : 9 ≤ t ∧ t < 11) (hty : arC t = .object (fR ci)) (hkb : kd b = ci) (hci : ci < 6) (hb : rf a j = b) (hbn : b < n) (hx : x = nI j) (hj : j < ln a) (ha : a < n) (hd : decode M.2.1 pc = .ok (.aastore, 1)) (k : Bt G d nc ns M R n1 (pc + 1) lo st S (upP pr a j) n kc ks) : Bt G d nc ns M R n1 pc lo (rv G b :: .int x :: rv G a :: st) S pr n kc ks := by
  intro p e s m args below meth c A H locs ls C hN hl hz hP hD hS
  have he : (mB G S pr n)[a]? = some (G.2.2.2 a, .inl (G.2.2.1 t, ln a, .inr (.inr (.inr (.inr (fun k => if pr a k then some (G.2.2.2 (rf a k)) else none)))))) := by rw [mB_at ha, cellQ_r hk (by omega)]
  have hv : (mB G S pr n)[b]? = some (G.2.2.2 b, .inr (ci, cFs G S pr b ci)) := by rw [mB_at hbn, cellQ_o hkb hci]
  have ej : x.toNatClampNeg = j := by rw [hx]; exact nI_clamp (by have := ln_small a; omega)
  have hK := C.2.2.2.2.2.2.2.1
  have hi := in_of hx hj (ln_small a)
  have hlt : x.toNatClampNeg < ln a := Nat.not_le.mp fun q => hi (Or.inr q)
  have h0 : ¬ x < 0 := fun q => hi (Or.inl q)
  obtain ⟨r', hr', cellV, g1, g2, g3, -⟩ := hP b _ hv
  have hcls := (hK.1 ci _ (cls_at ci hci)).2
  have hK2 := (hK.2 (t - 6) _ (mTy_at (by omega) ht.2)).2
  rw [hty] at hK2
  obtain ⟨kA, comp, k1, k2, k3, -⟩ := hK2
  have hcomp : comp = G.2.1.1 ci := Option.some.inj (k3.symm.trans hcls.1)
  subst hcomp
  obtain ⟨kC, hkC, -⟩ := hcls.2
  refine W.aast C.1 C.2.1 (hP a _ he) (fun q h => by cases h) (fun h => by cases h) k1 k2 rfl hkC ⟨h0, by show _ < (arrV _ _ _).slots.size; rw [arrV_size]; exact hlt⟩ g1 (fun q h => by rw [g3] at h; cases h) (by rw [g2]; exact hkC) (by rw [g2]; exact va_assign hcls) rfl rfl hd fun H1 e1 z oq => ?_
  have hP1 : va_P G.2.1 mcl ((mB G S pr n).set a (G.2.2.2 a, .inl (G.2.2.1 t, ln a, .inr (.inr (.inr (.inr (fun k => if upP pr a j a k then some (G.2.2.2 (rf a k)) else none))))))) H1 := hP.set hD he (by
    show H1[G.2.2.2 a]? = some (vp_cell _ _)
    rw [e1]
    rw [vp_cell_q, vp_cell_q, arrV_store, ej]
    congr 2
    funext q
    by_cases hq : q = j
    · subst hq
      simp [updV, upP, va_rf, hb]
    · simp [updV, upP, hq]) oq
  have hD1 := hD.set (e := .inl (G.2.2.1 t, ln a, .inr (.inr (.inr (.inr (fun k => if upP pr a j a k then some (G.2.2.2 (rf a k)) else none)))))) he
  rw [← cellQ_r (S := S) hk (by omega), mB_set ha (fun _ _ => rfl) (fun b hb => upP_n hb)] at hP1 hD1
  exact k _ _ _ _ _ _ _ _ _ _ _ _ C hN hl (z.trans hz) hP1 hD1 (hS.put z oq (hD.2 a _ he))
theorem b_objInit {i a : Nat} (h1 : Cond.methodLink M.1.cls i objectInit ∈ gtbl) (h2 : Cond.instanceMethod objectInit ∈ gtbl) (h3 : Cond.code objectInit ⟨#[0xb1]⟩ 1 none ∈ gtbl) (hd1 : 1 ≤ d) (hr : (st.map fun v => v.category).sum ≤ 18) (hd : decode M.2.1 pc = .ok (.invokespecial i, 3)) (k : Bt G d nc ns M R n1 (pc + 3) lo st S pr n kc ks) : Bt G d nc ns M R n1 pc lo (rv G a :: st) S pr n kc ks := by
  intro p e s m args below meth c A H locs ls C hN hl hz hP hD hS
  have hts := C.2.2.2.2.2.1
  refine W.objInit C.1 C.2.1 C.2.2.2.2.1 (hts _ (List.mem_cons_of_mem _ h1)) (hts _ (List.mem_cons_of_mem _ h2)) (hts _ (List.mem_cons_of_mem _ h3)) rfl (by rw [C.2.2.1]; exact hl.1) rfl hd hd1 (by show 2 * 0 + _ + 12 ≤ 30 * d; omega) ?_
  exact k _ _ _ _ _ _ _ _ _ _ _ _ C hN hl hz hP hD hS
/-- what the tables say of a constructor -/
def CO (M' : mM) : Prop := CM M' 0 ∧ (M'.1.name = "<init>" ∧ M'.2.2.2 = none) ∧ Cond.instanceMethod M'.1 ∈ gtbl
theorem b_callI {M' : mM} {i a nc2 ns2 n2 : Nat} {R2 : mS → mP → Prop} (hc : CO M') (hl1 : ML M.1.cls i M') (hr : (st.map fun v => v.category).sum ≤ 8) (hkc : kc + nc2 ≤ nc) (hks : ks + ns2 ≤ ns) (hd : decode M.2.1 pc = .ok (.invokespecial i, 3)) (hcall : CallI G d nc2 ns2 M' a S pr n R2 n2) (k : ∀ S2 p2, R2 S2 p2 → Bt G (d + 1) nc ns M R n1 (pc + 3) lo st S2 p2 n2 (kc + nc2) (ks + ns2)) : Bt G (d + 1) nc ns M R n1 pc lo (rv G a :: st) S pr n kc ks := by
  intro p e s m args below meth c A H locs ls C hN hl hz hP hD hS
  have hK := C.2.2.2.2.2.2.2.1
  have hts := C.2.2.2.2.2.1
  have hF : ∀ q, va_A (mB G S pr n) (G.2.2.2 n) q → A q := by
    intro q h
    rcases h with ⟨k, e, h⟩ | h
    · exact hD.2 k (q, e) h
    · exact C.2.2.2.2.2.2.2.2 q (Nat.le_trans hS.1 (by rw [hz]; exact h))
  have e0 := hc.2.1.2
  have hM := hcall
  unfold CallI mWs at hM
  rw [e0] at hM
  have hg : GoodIn (mWs M) (Cond.code M'.1 M'.2.1 M'.2.2.1 none :: gtbl) := by
    have z := gi_ws (fun w hw => List.mem_cons_of_mem (Cond.code M.1 M.2.1 M.2.2.1 M.2.2.2) hw) hc.1
    unfold mWs at z
    rw [e0] at z
    exact z
  refine va_callv (A1 := va_A (mB G S pr n) (G.2.2.2 n)) (va_runI (R := mRb (d + 1) nc ns) (As := []) (rest := st) ⟨C.1, C.2.1, C.2.2.1, C.2.2.2.2.1, hts⟩ hM (cwI 0 hts hg rfl rfl rfl (hts _ (List.mem_cons_of_mem _ hc.1.1.2.1)) (hts _ (List.mem_cons_of_mem _ hl1)) (hts _ (List.mem_cons_of_mem _ hc.2.2)) hc.2.1.1 hc.1.2 ⟨Nat.le_refl _, by have := hc.1.1.2.2; show 8 + (M'.2.2.1 + 11) + 30 * d ≤ 30 * (d + 1); omega⟩) ⟨fun a U g mk q => by obtain ⟨q0, q1, qP, qK, qO, qD⟩ := q; exact ⟨q0, q1, qP, va_K.moved (u := U) (U := U.calling g mk a) (Vm.Alike.refl U.vm) qK, vAO.moved (u := U) (U := U.calling g mk a) (Vm.Alike.refl U.vm) qO, qD⟩, fun U hU hW => ⟨rfl, by rw [hU]; exact hz, by rw [hU]; exact hP, va_K.moved hW.alike hK, hN.2.moved hW.alike, hD.weaken (fun _ _ _ _ => trivial)⟩⟩ rfl rfl hl.1 rfl (lv_room hr) hd ⟨hkc, hks⟩) hS (fun q _ h => hF q h) hF (fun u t H1 locs1 ht hvm hw hB hz1 hk1 hS1 => ?_)
  obtain ⟨hs1, hP1, hK1, hD1⟩ := hB
  rw [ht] at hP1 hs1
  exact k u.1 u.2 hw _ _ _ _ _ _ _ _ _ _ _ _ C hN hl hs1 hP1 (hD1.weaken (fun _ _ _ h => hF _ h)) hS1
end INITB
end
section
/-! links of constructors -/
theorem o_inst : Cond.instanceMethod objectInit ∈ gtbl := mem_g 25 (by decide +kernel) rfl
theorem o_code : Cond.code objectInit ⟨#[0xb1]⟩ 1 none ∈ gtbl := mem_g 26 (by decide +kernel) rfl
theorem n_L_10 : clR RL 10 4 := ⟨⟨by decide, mem_g 19 (by decide +kernel) rfl⟩, mem_g 20 (by decide +kernel) rfl, mem_g 12 (by decide +kernel) rfl⟩
theorem o_X4 : Cond.methodLink RX4 1 objectInit ∈ gtbl := mem_g 24 (by decide +kernel) rfl
theorem n_X4_7 : clR RX4 7 2 := ⟨⟨by decide, mem_g 27 (by decide +kernel) rfl⟩, mem_g 28 (by decide +kernel) rfl, mem_g 13 (by decide +kernel) rfl⟩
theorem o_X2 : Cond.methodLink RX2 3 objectInit ∈ gtbl := mem_g 32 (by decide +kernel) rfl
theorem n_X2_15 : clR RX2 15 3 := ⟨⟨by decide, mem_g 33 (by decide +kernel) rfl⟩, mem_g 35 (by decide +kernel) rfl, mem_g 14 (by decide +kernel) rfl⟩
theorem o_X3 : Cond.methodLink RX3 3 objectInit ∈ gtbl := mem_g 39 (by decide +kernel) rfl
theorem a_int : Cond.arrayClass .int ∈ gtbl := mem_g 92 (by decide +kernel) rfl
theorem n_X4_16 : clR RX4 16 0 := ⟨⟨by decide, mem_g 114 (by decide +kernel) rfl⟩, mem_g 115 (by decide +kernel) rfl, mem_g 15 (by decide +kernel) rfl⟩
theorem o_X0 : Cond.methodLink RX0 3 objectInit ∈ gtbl := mem_g 119 (by decide +kernel) rfl
theorem n_X0_11 : clR RX0 11 2 := ⟨⟨by decide, mem_g 120 (by decide +kernel) rfl⟩, mem_g 28 (by decide +kernel) rfl, mem_g 13 (by decide +kernel) rfl⟩
theorem n_X4_31 : clR RX4 31 1 := ⟨⟨by decide, mem_g 134 (by decide +kernel) rfl⟩, mem_g 135 (by decide +kernel) rfl, mem_g 16 (by decide +kernel) rfl⟩
theorem o_X1 : Cond.methodLink RX1 3 objectInit ∈ gtbl := mem_g 139 (by decide +kernel) rfl
theorem a_boolean : Cond.arrayClass .boolean ∈ gtbl := mem_g 157 (by decide +kernel) rfl
theorem a_char : Cond.arrayClass .char ∈ gtbl := mem_g 158 (by decide +kernel) rfl
theorem n_X4_38 : clR RX4 38 3 := ⟨⟨by decide, mem_g 159 (by decide +kernel) rfl⟩, mem_g 35 (by decide +kernel) rfl, mem_g 14 (by decide +kernel) rfl⟩
theorem co_X0_init : CO M_X0_init := ⟨⟨⟨mem_g 118 (by decide +kernel) rfl, mem_g 15 (by decide +kernel) rfl, by decide⟩, by decide +kernel, by decide +kernel, by decide +kernel⟩, ⟨rfl, rfl⟩, mem_g 117 (by decide +kernel) rfl⟩
theorem co_X1_init : CO M_X1_init := ⟨⟨⟨mem_g 138 (by decide +kernel) rfl, mem_g 16 (by decide +kernel) rfl, by decide⟩, by decide +kernel, by decide +kernel, by decide +kernel⟩, ⟨rfl, rfl⟩, mem_g 137 (by decide +kernel) rfl⟩
theorem co_X2_init : CO M_X2_init := ⟨⟨⟨mem_g 31 (by decide +kernel) rfl, mem_g 13 (by decide +kernel) rfl, by decide⟩, by decide +kernel, by decide +kernel, by decide +kernel⟩, ⟨rfl, rfl⟩, mem_g 30 (by decide +kernel) rfl⟩
theorem co_X3_init : CO M_X3_init := ⟨⟨⟨mem_g 38 (by decide +kernel) rfl, mem_g 14 (by decide +kernel) rfl, by decide⟩, by decide +kernel, by decide +kernel, by decide +kernel⟩, ⟨rfl, rfl⟩, mem_g 37 (by decide +kernel) rfl⟩
theorem co_X4_init : CO M_X4_init := ⟨⟨⟨mem_g 23 (by decide +kernel) rfl, mem_g 12 (by decide +kernel) rfl, by decide⟩, by decide +kernel, by decide +kernel, by decide +kernel⟩, ⟨rfl, rfl⟩, mem_g 22 (by decide +kernel) rfl⟩
end
section
/-! the constructors: troops and states -/
def Fr (pr : mP) (n : Nat) : Prop := ∀ x, n ≤ x → ∀ k, pr x k = false
/-- the references that a cell has -/
def rel (a k : Nat) : Bool := if kd a < 6 then Nat.ble (k + 1) (fN (kd a)) && !(isI (kd a) k) else if kd a < 9 then false else Nat.ble (k + 1) (ln a)
def Dn (q : mP) (lo hi : Nat) : Prop := ∀ x, lo ≤ x → x < hi → ∀ k, rel x k = true → q x k = true
theorem Fr.up {pr : mP} {n a k : Nat} (h : Fr pr n) (ha : a < n) : Fr (upP pr a k) n := fun x hx j => by rw [upP_n (by omega)]; exact h x hx j
theorem Fr.mono {pr : mP} {n m : Nat} (h : Fr pr n) (hm : n ≤ m) : Fr pr m := fun x hx => h x (by omega)
theorem upP_s {pr : mP} {a k : Nat} : upP pr a k a k = true := by simp [upP]
theorem upP_k {pr : mP} {a k b j : Nat} (h : pr b j = true) : upP pr a k b j = true := by unfold upP; rw [h]; simp
theorem Dn.up {q : mP} {lo hi a k : Nat} (h : Dn q lo hi) : Dn (upP q a k) lo hi := fun x h1 h2 j hj => upP_k (h x h1 h2 j hj)
theorem Dn.app {q : mP} {a b c : Nat} (h : Dn q a b) (g : Dn q b c) : Dn q a c := fun x h1 h2 k hk => by
  by_cases e : x < b
  · exact h x h1 e k hk
  · exact g x (by omega) h2 k hk
theorem Dn.num {q : mP} {a t : Nat} (hk : kd a = t) (h : 6 ≤ t ∧ t < 9) : Dn q a (a + 1) := fun x h1 h2 k hr => by
  obtain rfl : x = a := by omega
  unfold rel at hr
  rw [if_neg (by omega), if_pos (by omega)] at hr
  exact absurd hr (by decide)
theorem Dn.frame {q r : mP} {a b : Nat} (h : Dn q a b) (g : ∀ x, a ≤ x → x < b → r x = q x) : Dn r a b := fun x h1 h2 k hk => by rw [g x h1 h2]; exact h x h1 h2 k hk
def tpOK (a : Nat) : Bool := (kd a == 3) && (kd (a + 1) == 6) && (kd (a + 2) == 6) && (ln (a + 1) == 16) && (ln (a + 2) == 16)
theorem tpOK.ok {a : Nat} (h : tpOK a = true) : kd a = 3 ∧ kd (a + 1) = 6 ∧ kd (a + 2) = 6 ∧ ln (a + 1) = 16 ∧ ln (a + 2) = 16 := by
  unfold tpOK at h
  simp only [Bool.and_eq_true, beq_iff_eq] at h
  exact ⟨h.1.1.1.1, h.1.1.1.2, h.1.1.2, h.1.2, h.2⟩
section CONS
variable {G : mG} {d : Nat} {S : mS} {pr : mP}
theorem i_X3 (hG : adG G) {a : Nat} (ht : tpOK a = true) (z : ∀ x, a ≤ x → ∀ k, S x k = 0) : CallI G (d + 1) 2 32 M_X3_init a S pr (a + 1) (fun u q => u = S ∧ q = upP (upP pr a 10) a 11) (a + 3) := by
  obtain ⟨hk, k1, k2, l1, l2⟩ := tpOK.ok ht
  refine calli_of (lo := [(0, rv G a)]) (by decide +kernel) rfl (Nat.le_of_ble_eq_true rfl) rfl ?_
  have r1 : rf a 10 = a + 1 := by unfold rf; rw [hk]; show a + 10 - 9 = a + 1; omega
  have r2 : rf a 11 = a + 1 + 1 := by unfold rf; rw [hk]; show a + 11 - 9 = a + 1 + 1; omega
  refine b_aload_n dX3_init_0 0 rfl ?_
  refine b_objInit o_X3 o_inst o_code (by omega) (by decide) dX3_init_1 ?_
  refine b_aload_n dX3_init_4 0 rfl ?_
  refine b_bipush dX3_init_5 (v := 16) (by decide +kernel) ?_
  refine b_newa (atype := .int) hG k1 (by decide) rfl l1 rfl (by decide) (z (a + 1) (by omega)) a_int (by omega) (by omega) dX3_init_7 ?_
  refine b_putR (b := (a + 1)) hk f_X3_9 rfl rfl rfl rfl rfl rfl rfl r1 (by omega) dX3_init_9 ?_
  refine b_aload_n dX3_init_12 0 rfl ?_
  refine b_bipush dX3_init_13 (v := 16) (by decide +kernel) ?_
  refine b_newa (atype := .int) hG (n := a + 1 + 1) k2 (by decide) rfl l2 rfl (by decide) (z (a + 2) (by omega)) a_int (by omega) (by omega) dX3_init_15 ?_
  refine b_putR (b := (a + 1 + 1)) hk f_X3_15 rfl rfl rfl rfl rfl rfl rfl r2 (by omega) dX3_init_17 ?_
  refine b_vret rfl dX3_init_20 ?_
  exact ⟨rfl, rfl⟩
theorem Dn.tp {q : mP} {a : Nat} (ht : tpOK a = true) : Dn (upP (upP q a 10) a 11) a (a + 3) := by
  obtain ⟨hk, k1, k2, l1, l2⟩ := tpOK.ok ht
  refine Dn.app (b := a + 1) ?_ (Dn.app (b := a + 2) (Dn.num k1 (by omega)) (Dn.num k2 (by omega)))
  intro x h1 h2 k hr
  obtain rfl : x = a := by omega
  unfold rel at hr
  rw [hk, if_pos (by omega)] at hr
  rw [Bool.and_eq_true] at hr
  have h3 : k < 12 := Nat.le_of_ble_eq_true hr.1
  have h4 : ¬ k < 10 := by
    intro z
    have : isI 3 k = true := Nat.ble_eq_true_of_le z
    rw [this] at hr
    exact absurd hr.2 (by decide)
  rcases (by omega : k = 10 ∨ k = 11) with rfl | rfl
  · exact upP_k upP_s
  · exact upP_s
/-- a State's own block -/
def stOK (b : Nat) : Bool := (kd b == 2) && (kd (b + 1) == 6) && (kd (b + 2) == 10) && (ln (b + 1) == 2) && (ln (b + 2) == 5) && (List.range 5).all (fun i => tpOK (b + 3 + 3 * i))
theorem stOK.ok {b : Nat} (h : stOK b = true) : kd b = 2 ∧ kd (b + 1) = 6 ∧ kd (b + 2) = 10 ∧ ln (b + 1) = 2 ∧ ln (b + 2) = 5 ∧ ∀ i, i < 5 → tpOK (b + 3 + 3 * i) = true := by
  unfold stOK at h
  simp only [Bool.and_eq_true, beq_iff_eq] at h
  exact ⟨h.1.1.1.1.1, h.1.1.1.1.2, h.1.1.1.2, h.1.1.2, h.1.2, fun i hi => List.all_eq_true.mp h.2 i (List.mem_range.mpr hi)⟩
def stS (S : mS) (b : Nat) : mS := up1 (up1 S (b + 1) (upd (S (b + 1)) 0 20)) (b + 1) (upd (up1 S (b + 1) (upd (S (b + 1)) 0 20) (b + 1)) 1 30)
theorem stS_n {S : mS} {b x : Nat} (h : x ≠ b + 1) : stS S b x = S x := (up1_n h).trans (up1_n h)
theorem stS_0 {S : mS} {b : Nat} : stS S b (b + 1) 0 = 20 ∧ stS S b (b + 1) 1 = 30 := by
  unfold stS
  constructor
  · rw [up1_s, upd, if_neg (by omega), up1_s, upd, if_pos rfl]
  · rw [up1_s, upd, if_pos rfl]
theorem b_eq {G : mG} {d nc ns n1 : Nat} {M : mM} {R : mS → mP → Prop} {pc : Nat} {lo : List (Nat × Value)} {st : List Value} {S : mS} {pr : mP} {n n' kc kc' ks ks' : Nat} (h1 : n = n') (h2 : kc = kc') (h3 : ks = ks') (k : Bt G d nc ns M R n1 pc lo st S pr n kc ks) : Bt G d nc ns M R n1 pc lo st S pr n' kc' ks' := by subst h1; subst h2; subst h3; exact k
theorem lp_X2 (hG : adG G) {b : Nat} (hb : stOK b = true) {pr0 : mP} {S : mS} (z : ∀ x, b + 3 ≤ x → ∀ k, S x k = 0) : ∀ r i pr, r + i = 5 → Fr pr (b + 3 + 3 * i) → Dn pr (b + 3) (b + 3 + 3 * i) → (∀ x, x < b → pr x = pr0 x) → pr b 0 = true → pr b 1 = true → (∀ k, k < i → pr (b + 2) k = true) →
    Bt G (d + 2) 17 227 M_X2_init (fun u q => u = S ∧ (∀ x, x < b → q x = pr0 x) ∧ Dn q b (b + 18) ∧ Fr q (b + 18)) (b + 18) 37 [(0, rv G b), (1, .int (nI i))] [] S pr (b + 3 + 3 * i) (2 + 3 * i) (7 + 44 * i) := by
  obtain ⟨k0, k1, k2, l1, l2, ht⟩ := stOK.ok hb
  intro r
  induction r with
  | zero =>
    intro i pr hi hF hD hp h0 h1 h2
    obtain rfl : i = 5 := by omega
    have hDn : Dn pr b (b + 18) := by
      refine Dn.app (b := b + 1) (fun x a1 a2 k hr => ?_) (Dn.app (b := b + 2) (Dn.num k1 (by omega)) (Dn.app (b := b + 3) (fun x a1 a2 k hr => ?_) hD))
      · obtain rfl : x = b := by omega
        unfold rel at hr
        rw [k0, if_pos (by omega), Bool.and_eq_true] at hr
        have h3 : k < 5 := Nat.le_of_ble_eq_true hr.1
        have h4 : ¬ 2 ≤ k := by
          intro z
          have : isI 2 k = true := Nat.ble_eq_true_of_le z
          rw [this] at hr
          exact absurd hr.2 (by decide)
        rcases (by omega : k = 0 ∨ k = 1) with rfl | rfl
        · exact h0
        · exact h1
      · obtain rfl : x = b + 2 := by omega
        unfold rel at hr
        rw [k2, if_neg (by omega), if_neg (by omega), l2] at hr
        exact h2 k (Nat.le_of_ble_eq_true hr)
    refine b_iload_n dX2_init_37 1 rfl ?_
    refine b_iconst dX2_init_38 (v := 5) rfl ?_
    refine b_icmp_ge dX2_init_39 (tgt := 61) (by decide) (fun h39 => ?_) (fun h39 => ?_)
    · --t
      refine b_vret rfl dX2_init_61 ?_
      exact ⟨rfl, hp, hDn, hF⟩
    · --f
      exact absurd (show (5 : Int32) ≤ nI 5 by decide) h39
  | succ r ih =>
    intro i pr hi hF hD hp h0 h1 h2
    have hi5 : i < 5 := by omega
    have hti := ht i hi5
    have hk3 := (tpOK.ok hti).1
    have e1 : rf b 1 = b + 2 := by unfold rf; rw [k0]; rfl
    have e2 : rf (b + 2) i = b + 3 + 3 * i := by unfold rf; rw [k2]; show b + 2 + 1 + 3 * i = _; omega
    refine b_iload_n dX2_init_37 1 rfl ?_
    refine b_iconst dX2_init_38 (v := 5) rfl ?_
    refine b_icmp_ge dX2_init_39 (tgt := 61) (by decide) (fun h39 => ?_) (fun h39 => ?_)
    · --t
      exact absurd h39 (nI_ge (b := 5) hi5 (by decide))
    · --f
      refine b_aload_n dX2_init_42 0 rfl ?_
      refine b_getR (b := (b + 2)) k0 f_X2_17 rfl rfl dX2_init_43 (by omega) h1 e1 ?_
      refine b_iload_n dX2_init_46 1 rfl ?_
      refine b_new hG n_X2_15 hk3 (z _ (by omega)) (hF _ (by omega)) (by omega) (by show 7 + 44 * i + 12 ≤ 227; omega) dX2_init_47 ?_
      refine b_dup dX2_init_50 rfl ?_
      refine b_callI co_X3_init l_X2_21 (Nat.le_of_ble_eq_true rfl) (by omega) (by show 7 + 44 * i + 12 + 32 ≤ 227; omega) dX2_init_51 (i_X3 hG hti (fun x hx => z x (by omega))) (fun S51 p51 q51 => ?_)
      obtain ⟨rfl, rfl⟩ := q51
      refine b_aast (b := b + 3 + 3 * i) (t := 10) (ci := 3) (j := i) k2 (by decide) rfl hk3 (by decide) e2 (by omega) rfl (by rw [l2]; exact hi5) (by omega) dX2_init_54 ?_
      refine b_iinc (lo2 := [(0, _), (1, _)]) dX2_init_55 1 rfl (w := 1) rfl (Nat.le_of_ble_eq_true rfl) [1, 0] rfl ?_
      refine b_goto dX2_init_58 (tgt := 37) (by decide) ?_
      rw [nI_1]
      have hF2 : Fr (upP (upP pr (b + 3 + 3 * i) 10) (b + 3 + 3 * i) 11) (b + 3 + 3 * i + 3) := ((hF.mono (by omega)).up (by omega)).up (by omega)
      refine b_eq (by omega) (by omega) (by show 7 + 44 * (i + 1) = 7 + 44 * i + 12 + 32; omega) (ih (i + 1) _ (by omega) ((Fr.up (n := b + 3 + 3 * (i + 1)) (hF2.mono (by omega)) (by omega))) ?_ (fun x hx => ?_) (upP_k (upP_k (upP_k h0))) (upP_k (upP_k (upP_k h1))) (fun k hk => ?_))
      · refine Dn.up (Dn.app (b := b + 3 + 3 * i) (hD.up.up) ?_)
        have := Dn.tp (q := pr) hti
        exact this
      · rw [upP_n (by omega), upP_n (by omega), upP_n (by omega)]; exact hp x hx
      · by_cases e : k = i
        · subst e; exact upP_s
        · exact upP_k (upP_k (upP_k (h2 k (by omega))))
theorem i_X2 (hG : adG G) {b : Nat} (hb : stOK b = true) (z : ∀ x, b ≤ x → ∀ k, S x k = 0) (hF : Fr pr b) : CallI G (d + 2) 17 227 M_X2_init b S pr (b + 1) (fun u q => u = stS S b ∧ (∀ x, x < b → q x = pr x) ∧ Dn q b (b + 18) ∧ Fr q (b + 18)) (b + 18) := by
  obtain ⟨k0, k1, k2, l1, l2, ht⟩ := stOK.ok hb
  refine calli_of (lo := [(0, rv G b)]) (by decide +kernel) rfl (Nat.le_of_ble_eq_true rfl) rfl ?_
  have e0 : rf b 0 = b + 1 := by unfold rf; rw [k0]; rfl
  have e1 : rf b 1 = b + 1 + 1 := by unfold rf; rw [k0]; rfl
  have l1a : 0 < ln (b + 1) := by omega
  have l1b : 1 < ln (b + 1) := by omega
  refine b_aload_n dX2_init_0 0 rfl ?_
  refine b_objInit o_X2 o_inst o_code (by omega) (by decide) dX2_init_1 ?_
  refine b_aload_n dX2_init_4 0 rfl ?_
  refine b_iconst dX2_init_5 (v := 2) rfl ?_
  refine b_newa (atype := .int) hG k1 (by decide) rfl l1 rfl (by decide) (z (b + 1) (by omega)) a_int (by omega) (by omega) dX2_init_6 ?_
  refine b_putR (b := (b + 1)) k0 f_X2_9 rfl rfl rfl rfl rfl rfl rfl e0 (by omega) dX2_init_8 ?_
  refine b_aload_n dX2_init_11 0 rfl ?_
  refine b_getR (b := (b + 1)) k0 f_X2_9 rfl rfl dX2_init_12 (by omega) upP_s e0 ?_
  refine b_iconst dX2_init_15 (v := 0) rfl ?_
  refine b_bipush dX2_init_16 (v := 20) (by decide +kernel) ?_
  refine b_iast (j := 0) k1 rfl l1a (by omega) dX2_init_18 ?_
  refine b_aload_n dX2_init_19 0 rfl ?_
  refine b_getR (b := (b + 1)) k0 f_X2_9 rfl rfl dX2_init_20 (by omega) upP_s e0 ?_
  refine b_iconst dX2_init_23 (v := 1) rfl ?_
  refine b_bipush dX2_init_24 (v := 30) (by decide +kernel) ?_
  refine b_iast (j := 1) k1 rfl l1b (by omega) dX2_init_26 ?_
  refine b_aload_n dX2_init_27 0 rfl ?_
  refine b_iconst dX2_init_28 (v := 5) rfl ?_
  refine b_newq hG (Cn := "ScoutGates$Troop") (n := b + 1 + 1) k2 (by decide) rfl l2 rfl (by decide) (fun k => by rw [upP_n (by omega)]; exact hF (b + 1 + 1) (by omega) k) (n_X2_15.1.2) (fun _ h => h.2) (by omega) (by omega) dX2_init_29 ?_
  refine b_putR (b := (b + 1 + 1)) k0 f_X2_17 rfl rfl rfl rfl rfl rfl rfl e1 (by omega) dX2_init_32 ?_
  refine b_iconst dX2_init_35 (v := 0) rfl ?_
  refine b_istore_n (lo2 := [(0, _), (1, _)]) dX2_init_36 rfl (Nat.le_of_ble_eq_true rfl) [1, 0] rfl ?_
  refine b_eq (n := b + 3 + 3 * 0) (kc := 2 + 3 * 0) (ks := 7 + 44 * 0) (by omega) (by omega) (by show 7 + 44 * 0 = 0 + 2 + 5; omega) ?_
  exact lp_X2 (S := stS S b) (pr0 := pr) hG hb (fun x hx k => by rw [stS_n (by omega)]; exact z x (by omega) k) 5 0 (upP (upP pr b 0) b 1) (by omega) ((Fr.up (n := b + 3 + 3 * 0) ((hF.mono (by omega)).up (by omega)) (by omega))) (fun x a1 a2 => absurd a2 (by omega)) (fun x hx => by rw [upP_n (by omega), upP_n (by omega)]) (upP_k upP_s) upP_s (fun k hk => absurd hk (by omega))
end CONS
end
section
/-! the constructors: history, pad, the class, the reference -/
def hsS (S : mS) (c : Nat) : Nat → mS
  | 0 => S
  | i + 1 => stS (hsS S c i) (c + 18 * i)
theorem hsS_n {S : mS} {c x : Nat} : ∀ i, (x < c ∨ c + 18 * i ≤ x) → hsS S c i x = S x := by
  intro i
  induction i with
  | zero => intro _; rfl
  | succ i ih => intro h; show stS (hsS S c i) (c + 18 * i) x = S x; rw [stS_n (by omega)]; exact ih (by omega)
theorem st_hs : ∀ i, i < 7 → stOK (21 + 18 * i) = true := by decide +kernel
theorem st_sl : ∀ i, i < 2 → stOK (148 + 18 * i) = true := by decide +kernel
section CONS
variable {G : mG} {d : Nat} {S : mS} {pr : mP}
theorem lp_X0 (hG : adG G) {pr0 : mP} {S : mS} (z : ∀ x, 21 ≤ x → ∀ k, S x k = 0) : ∀ r i pr, r + i = 7 → Fr pr (21 + 18 * i) → Dn pr 21 (21 + 18 * i) → (∀ x, x < 19 → pr x = pr0 x) → pr 19 0 = true → (∀ k, k < i → pr 20 k = true) →
    Bt G (d + 3) 127 1631 M_X0_init (fun u q => u = hsS S 21 7 ∧ (∀ x, x < 19 → q x = pr0 x) ∧ Dn q 19 147 ∧ Fr q 147) 147 15 [(0, rv G 19), (1, .int (nI i))] [] (hsS S 21 i) pr (21 + 18 * i) (1 + 18 * i) (7 + 232 * i) := by
  intro r
  induction r with
  | zero =>
    intro i pr hi hF hD hp h0 h2
    obtain rfl : i = 7 := by omega
    have hDn : Dn pr 19 147 := by
      refine Dn.app (b := 20) (fun x a1 a2 k hr => ?_) (Dn.app (b := 21) (fun x a1 a2 k hr => ?_) hD)
      · obtain rfl : x = 19 := by omega
        have h3 : k = 0 := by
          rcases Nat.eq_zero_or_pos k with e | e
          · exact e
          · exfalso
            have h4 : rel 19 k = (Nat.ble (k + 1) 3 && !(Nat.ble 1 k)) := rfl
            rw [h4, Nat.ble_eq_true_of_le e] at hr
            rw [Bool.and_eq_true] at hr
            exact absurd hr.2 (by decide)
        subst h3; exact h0
      · obtain rfl : x = 20 := by omega
        exact h2 k (Nat.le_of_ble_eq_true hr)
    refine b_iload_n dX0_init_15 1 rfl ?_
    refine b_bipush dX0_init_16 (v := 7) (by decide +kernel) ?_
    refine b_icmp_ge dX0_init_18 (tgt := 40) (by decide) (fun h18 => ?_) (fun h18 => ?_)
    · --t
      refine b_vret rfl dX0_init_40 ?_
      exact ⟨rfl, hp, hDn, hF⟩
    · --f
      exact absurd (show (7 : Int32) ≤ nI 7 by decide) h18
  | succ r ih =>
    intro i pr hi hF hD hp h0 h2
    have hi7 : i < 7 := by omega
    have hb := st_hs i hi7
    have hk3 := (stOK.ok hb).1
    have zi : ∀ x, 21 + 18 * i ≤ x → ∀ k, hsS S 21 i x k = 0 := fun x hx k => by rw [hsS_n i (by omega)]; exact z x (by omega) k
    have hl : i < ln 20 := hi7
    refine b_iload_n dX0_init_15 1 rfl ?_
    refine b_bipush dX0_init_16 (v := 7) (by decide +kernel) ?_
    refine b_icmp_ge dX0_init_18 (tgt := 40) (by decide) (fun h18 => ?_) (fun h18 => ?_)
    · --t
      exact absurd h18 (nI_ge (b := 7) hi7 (by decide))
    · --f
      refine b_aload_n dX0_init_21 0 rfl ?_
      refine b_getR (b := 20) rfl f_X0_13 rfl rfl dX0_init_22 (by omega) h0 rfl ?_
      refine b_iload_n dX0_init_25 1 rfl ?_
      refine b_new hG n_X0_11 hk3 (zi _ (by omega)) (hF _ (by omega)) (by omega) (by show 7 + 232 * i + 5 ≤ 1631; omega) dX0_init_26 ?_
      refine b_dup dX0_init_29 rfl ?_
      refine b_callI co_X2_init l_X0_17 (Nat.le_of_ble_eq_true rfl) (by omega) (by show 7 + 232 * i + 5 + 227 ≤ 1631; omega) dX0_init_30 (i_X2 hG hb zi hF) (fun S30 p30 q30 => ?_)
      obtain ⟨rfl, q1, q2, q3⟩ := q30
      refine b_aast (b := 21 + 18 * i) (t := 9) (ci := 2) (j := i) rfl (by decide) rfl hk3 (by decide) (show 20 + 1 + 18 * i = 21 + 18 * i by omega) (by omega) rfl hl (by omega) dX0_init_33 ?_
      refine b_iinc (lo2 := [(0, _), (1, _)]) dX0_init_34 1 rfl (w := 1) rfl (Nat.le_of_ble_eq_true rfl) [1, 0] rfl ?_
      refine b_goto dX0_init_37 (tgt := 15) (by decide) ?_
      rw [nI_1]
      have p0 : ∀ x, x < 21 → p30 x = pr x := fun x hx => q1 x (by omega)
      refine b_eq (by omega) (by omega) (by show 7 + 232 * (i + 1) = 7 + 232 * i + 5 + 227; omega) (ih (i + 1) _ (by omega) (Fr.up (n := 21 + 18 * (i + 1)) (q3.mono (by omega)) (by omega)) (Dn.up (Dn.app (b := 21 + 18 * i) (hD.frame (fun x a1 a2 => q1 x a2)) q2)) (fun x hx => ?_) (upP_k (by rw [p0 19 (by omega)]; exact h0)) (fun k hk => ?_))
      · rw [upP_n (by omega), p0 x (by omega)]; exact hp x hx
      · by_cases e : k = i
        · subst e; exact upP_s
        · exact upP_k (by rw [p0 20 (by omega)]; exact h2 k (by omega))
theorem i_X0 (hG : adG G) (z : ∀ x, 19 ≤ x → ∀ k, S x k = 0) (hF : Fr pr 19) : CallI G (d + 3) 127 1631 M_X0_init 19 S pr 20 (fun u q => u = hsS S 21 7 ∧ (∀ x, x < 19 → q x = pr x) ∧ Dn q 19 147 ∧ Fr q 147) 147 := by
  refine calli_of (lo := [(0, rv G 19)]) (by decide +kernel) rfl (Nat.le_of_ble_eq_true rfl) rfl ?_
  refine b_aload_n dX0_init_0 0 rfl ?_
  refine b_objInit o_X0 o_inst o_code (by omega) (by decide) dX0_init_1 ?_
  refine b_aload_n dX0_init_4 0 rfl ?_
  refine b_bipush dX0_init_5 (v := 7) (by decide +kernel) ?_
  refine b_newq hG (Cn := "ScoutGates$State") (n := 20) (t := 9) (N := 7) rfl (by decide) rfl rfl rfl (by decide) (fun k => hF 20 (by omega) k) (n_X0_11.1.2) (fun _ h => h.1) (by omega) (by omega) dX0_init_7 ?_
  refine b_putR (b := 20) rfl f_X0_13 rfl rfl rfl rfl rfl rfl rfl rfl (by omega) dX0_init_10 ?_
  refine b_iconst dX0_init_13 (v := 0) rfl ?_
  refine b_istore_n (lo2 := [(0, _), (1, _)]) dX0_init_14 rfl (Nat.le_of_ble_eq_true rfl) [1, 0] rfl ?_
  refine b_eq (n := 21 + 18 * 0) (kc := 1 + 18 * 0) (ks := 7 + 232 * 0) (by omega) (by omega) (by show 7 + 232 * 0 = 0 + 7; omega) ?_
  exact lp_X0 (S := S) (pr0 := pr) hG (fun x hx => z x (by omega)) 7 0 (upP pr 19 0) (by omega) (Fr.up (n := 21 + 18 * 0) (hF.mono (by omega)) (by omega)) (fun x a1 a2 => absurd a2 (by omega)) (fun x hx => upP_n (by omega)) upP_s (fun k hk => absurd hk (by omega))
theorem i_X1 (hG : adG G) (z : ∀ x, 185 ≤ x → ∀ k, S x k = 0) : CallI G (d + 1) 1 80 M_X1_init 185 S pr 186 (fun u q => u = S ∧ q = upP pr 185 0) 187 := by
  refine calli_of (lo := [(0, rv G 185)]) (by decide +kernel) rfl (Nat.le_of_ble_eq_true rfl) rfl ?_
  refine b_aload_n dX1_init_0 0 rfl ?_
  refine b_objInit o_X1 o_inst o_code (by omega) (by decide) dX1_init_1 ?_
  refine b_aload_n dX1_init_4 0 rfl ?_
  refine b_bipush dX1_init_5 (v := 80) (by decide +kernel) ?_
  refine b_newa (atype := .char) hG (n := 186) (t := 7) (N := 80) rfl (by decide) rfl rfl rfl (by decide) (z 186 (by omega)) a_char (by omega) (by omega) dX1_init_7 ?_
  refine b_putR (b := 186) rfl f_X1_9 rfl rfl rfl rfl rfl rfl rfl rfl (by omega) dX1_init_9 ?_
  refine b_vret rfl dX1_init_12 ?_
  exact ⟨rfl, rfl⟩
end CONS
end
section
/-! the constructors: the class, the reference -/
section CONS
variable {G : mG} {d : Nat} {S : mS} {pr : mP} {nc ns n1 : Nat} {R : mS → mP → Prop}
theorem lp_X4 (hG : adG G) {S : mS} (z : ∀ x, 148 ≤ x → ∀ k, S x k = 0) (hnc : nc = 189) (hns : ns = 2465)
    (hx : ∀ pr, Fr pr 184 → Dn pr 1 147 → Dn pr 148 184 → (∀ k, k < 3 → pr 0 k = true) → (∀ k, k < 2 → pr 147 k = true) → Bt G (d + 4) nc ns M_X4_init R n1 60 [(0, rv G 0), (1, .int 2)] [] (hsS S 148 2) pr 184 183 2332) :
    ∀ r i pr, r + i = 2 → Fr pr (148 + 18 * i) → Dn pr 1 147 → Dn pr 148 (148 + 18 * i) → (∀ k, k < 3 → pr 0 k = true) → (∀ k, k < i → pr 147 k = true) →
    Bt G (d + 4) nc ns M_X4_init R n1 36 [(0, rv G 0), (1, .int (nI i))] [] (hsS S 148 i) pr (148 + 18 * i) (147 + 18 * i) (1868 + 232 * i) := by
  subst hnc
  subst hns
  intro r
  induction r with
  | zero =>
    intro i pr hi hF hD1 hD hp h2
    obtain rfl : i = 2 := by omega
    refine b_iload_n dX4_init_36 1 rfl ?_
    refine b_iconst dX4_init_37 (v := 2) rfl ?_
    refine b_icmp_ge dX4_init_38 (tgt := 60) (by decide) (fun h38 => ?_) (fun h38 => ?_)
    · --t
      exact hx pr hF hD1 hD hp h2
    · --f
      exact absurd (show (2 : Int32) ≤ nI 2 by decide) h38
  | succ r ih =>
    intro i pr hi hF hD1 hD hp h2
    have hi2 : i < 2 := by omega
    have hb := st_sl i hi2
    have hk3 := (stOK.ok hb).1
    have zi : ∀ x, 148 + 18 * i ≤ x → ∀ k, hsS S 148 i x k = 0 := fun x hx k => by rw [hsS_n i (by omega)]; exact z x (by omega) k
    have hl : i < ln 147 := hi2
    refine b_iload_n dX4_init_36 1 rfl ?_
    refine b_iconst dX4_init_37 (v := 2) rfl ?_
    refine b_icmp_ge dX4_init_38 (tgt := 60) (by decide) (fun h38 => ?_) (fun h38 => ?_)
    · --t
      exact absurd h38 (nI_ge (b := 2) hi2 (by decide))
    · --f
      refine b_aload_n dX4_init_41 0 rfl ?_
      refine b_getR (b := 147) rfl f_X4_23 rfl rfl dX4_init_42 (by omega) (hp 2 (by omega)) rfl ?_
      refine b_iload_n dX4_init_45 1 rfl ?_
      refine b_new hG n_X4_7 hk3 (zi _ (by omega)) (hF _ (by omega)) (by omega) (by show 1868 + 232 * i + 5 ≤ 2465; omega) dX4_init_46 ?_
      refine b_dup dX4_init_49 rfl ?_
      refine b_callI co_X2_init l_X4_9 (Nat.le_of_ble_eq_true rfl) (by omega) (by show 1868 + 232 * i + 5 + 227 ≤ 2465; omega) dX4_init_50 (i_X2 hG hb zi hF) (fun S50 p50 q50 => ?_)
      obtain ⟨rfl, q1, q2, q3⟩ := q50
      refine b_aast (b := 148 + 18 * i) (t := 9) (ci := 2) (j := i) rfl (by decide) rfl hk3 (by decide) (show 147 + 1 + 18 * i = 148 + 18 * i by omega) (by omega) rfl hl (by omega) dX4_init_53 ?_
      refine b_iinc (lo2 := [(0, _), (1, _)]) dX4_init_54 1 rfl (w := 1) rfl (Nat.le_of_ble_eq_true rfl) [1, 0] rfl ?_
      refine b_goto dX4_init_57 (tgt := 36) (by decide) ?_
      rw [nI_1]
      have p0 : ∀ x, x < 148 → p50 x = pr x := fun x hx => q1 x (by omega)
      refine b_eq (by omega) (by omega) (by show 1868 + 232 * (i + 1) = 1868 + 232 * i + 5 + 227; omega) (ih (i + 1) _ (by omega) (Fr.up (n := 148 + 18 * (i + 1)) (q3.mono (by omega)) (by omega)) ((hD1.frame (fun x a1 a2 => p0 x (by omega))).up) (Dn.up (Dn.app (b := 148 + 18 * i) (hD.frame (fun x a1 a2 => q1 x a2)) q2)) (fun k hk => upP_k (by rw [p0 0 (by omega)]; exact hp k hk)) (fun k hk => ?_))
      by_cases e : k = i
      · subst e; exact upP_s
      · exact upP_k (by rw [p0 147 (by omega)]; exact h2 k (by omega))
def sX4 (S : mS) : mS := hsS (hsS (stS S 1) 21 7) 148 2
theorem sX4_n {S : mS} {x : Nat} (h : 184 ≤ x) : sX4 S x = S x := by
  unfold sX4
  rw [hsS_n 2 (by omega), hsS_n 7 (by omega), stS_n (by omega)]
theorem tl_X4 (hG : adG G) {S : mS} (z : ∀ x, 184 ≤ x → ∀ k, S x k = 0) (hF : Fr pr 184) (hD1 : Dn pr 1 147) (hD : Dn pr 148 184) (hp : ∀ k, k < 3 → pr 0 k = true) (h2 : ∀ k, k < 2 → pr 147 k = true) : Bt G (d + 4) 189 2465 M_X4_init (fun u q => u = S ∧ Dn q 0 190 ∧ Fr q 190) 190 60 [(0, rv G 0), (1, .int 2)] [] S pr 184 183 2332 := by
  have ht : tpOK 187 = true := by decide +kernel
  refine b_aload_n dX4_init_60 0 rfl ?_
  refine b_iconst dX4_init_61 (v := 2) rfl ?_
  refine b_newa (atype := .boolean) hG (n := 184) (t := 8) (N := 2) rfl (by decide) rfl rfl rfl (by decide) (z 184 (by omega)) a_boolean (by omega) (by omega) dX4_init_62 ?_
  refine b_putR (b := 184) rfl f_X4_27 rfl rfl rfl rfl rfl rfl rfl rfl (by omega) dX4_init_64 ?_
  refine b_aload_n dX4_init_67 0 rfl ?_
  refine b_new hG n_X4_31 (n := 185) (ci := 1) rfl (z 185 (by omega)) ((hF.up (by omega)) 185 (by omega)) (by omega) (by show 2332 + 2 + 7 ≤ 2465; omega) dX4_init_68 ?_
  refine b_dup dX4_init_71 rfl ?_
  refine b_callI co_X1_init l_X4_33 (Nat.le_of_ble_eq_true rfl) (by omega) (by show 2332 + 2 + 7 + 80 ≤ 2465; omega) dX4_init_72 (i_X1 hG (fun x hx => z x (by omega))) (fun S72 p72 q72 => ?_)
  obtain ⟨rfl, rfl⟩ := q72
  refine b_putR (b := 185) rfl f_X4_34 rfl rfl rfl rfl rfl rfl rfl rfl (by omega) dX4_init_75 ?_
  refine b_aload_n dX4_init_78 0 rfl ?_
  refine b_new hG n_X4_38 (n := 187) (ci := 3) rfl (z 187 (by omega)) (fun k => by rw [upP_n (by omega), upP_n (by omega), upP_n (by omega)]; exact hF 187 (by omega) k) (by omega) (by show 2332 + 2 + 7 + 80 + 12 ≤ 2465; omega) dX4_init_79 ?_
  refine b_dup dX4_init_82 rfl ?_
  refine b_callI co_X3_init l_X4_40 (Nat.le_of_ble_eq_true rfl) (by omega) (by show 2332 + 2 + 7 + 80 + 12 + 32 ≤ 2465; omega) dX4_init_83 (i_X3 (a := 187) hG ht (fun x hx => z x (by omega))) (fun S83 p83 q83 => ?_)
  obtain ⟨rfl, rfl⟩ := q83
  refine b_putR (b := 187) rfl f_X4_41 rfl rfl rfl rfl rfl rfl rfl rfl (by omega) dX4_init_86 ?_
  refine b_vret rfl dX4_init_89 ?_
  refine ⟨rfl, ?_, fun x hx k => ?_⟩
  · refine Dn.app (b := 1) (fun x c1 c2 k hr => ?_) (Dn.app (b := 147) hD1.up.up.up.up.up.up (Dn.app (b := 148) (fun x c1 c2 k hr => ?_) (Dn.app (b := 184) hD.up.up.up.up.up.up (Dn.app (b := 185) (Dn.num (t := 8) rfl (by omega)) (Dn.app (b := 186) (fun x c1 c2 k hr => ?_) (Dn.app (b := 187) (Dn.num (t := 7) rfl (by omega)) (Dn.up (Dn.tp ht))))))))
    · obtain rfl : x = 0 := by omega
      have h3 : rel 0 k = (Nat.ble (k + 1) 6 && !false) := rfl
      rw [h3, Bool.and_eq_true] at hr
      have h4 : k < 6 := Nat.le_of_ble_eq_true hr.1
      by_cases e : k < 3
      · exact upP_k (upP_k (upP_k (upP_k (upP_k (upP_k (hp k e))))))
      · rcases (by omega : k = 3 ∨ k = 4 ∨ k = 5) with rfl | rfl | rfl
        · exact upP_k (upP_k (upP_k (upP_k (upP_k upP_s))))
        · exact upP_k (upP_k (upP_k upP_s))
        · exact upP_s
    · obtain rfl : x = 147 := by omega
      have h3 : rel 147 k = Nat.ble (k + 1) 2 := rfl
      rw [h3] at hr
      exact upP_k (upP_k (upP_k (upP_k (upP_k (upP_k (h2 k (Nat.le_of_ble_eq_true hr)))))))
    · obtain rfl : x = 185 := by omega
      have h3 : rel 185 k = (Nat.ble (k + 1) 7 && !(Nat.ble 1 k)) := rfl
      have h4 : k = 0 := by
        rcases Nat.eq_zero_or_pos k with e | e
        · exact e
        · exfalso
          rw [h3, Nat.ble_eq_true_of_le e, Bool.and_eq_true] at hr
          exact absurd hr.2 (by decide)
      subst h4
      exact upP_k (upP_k (upP_k (upP_k upP_s)))
  · rw [upP_n (by omega), upP_n (by omega), upP_n (by omega), upP_n (by omega), upP_n (by omega), upP_n (by omega)]
    exact hF x (by omega) k
theorem i_X4 (hG : adG G) (z : ∀ x k, S x k = 0) (hF : Fr pr 0) : CallI G (d + 4) 189 2465 M_X4_init 0 S pr 1 (fun u q => u = sX4 S ∧ Dn q 0 190 ∧ Fr q 190) 190 := by
  refine calli_of (lo := [(0, rv G 0)]) (by decide +kernel) rfl (Nat.le_of_ble_eq_true rfl) rfl ?_
  have hb1 : stOK 1 = true := by decide +kernel
  have ht : tpOK 187 = true := by decide +kernel
  have z1 : ∀ x, 19 ≤ x → ∀ k, stS S 1 x k = 0 := fun x hx k => by rw [stS_n (by omega)]; exact z x k
  have z2 : ∀ x, 147 ≤ x → ∀ k, hsS (stS S 1) 21 7 x k = 0 := fun x hx k => by rw [hsS_n 7 (by omega)]; exact z1 x (by omega) k
  have z3 : ∀ x, 184 ≤ x → ∀ k, hsS (hsS (stS S 1) 21 7) 148 2 x k = 0 := fun x hx k => by rw [hsS_n 2 (by omega)]; exact z2 x (by omega) k
  refine b_aload_n dX4_init_0 0 rfl ?_
  refine b_objInit o_X4 o_inst o_code (by omega) (by decide) dX4_init_1 ?_
  refine b_aload_n dX4_init_4 0 rfl ?_
  refine b_new hG n_X4_7 (n := 1) (ci := 2) rfl (z 1) (hF 1 (by omega)) (by omega) (by show 0 + 5 ≤ 2465; omega) dX4_init_5 ?_
  refine b_dup dX4_init_8 rfl ?_
  refine b_callI co_X2_init l_X4_9 (Nat.le_of_ble_eq_true rfl) (by omega) (by show 0 + 5 + 227 ≤ 2465; omega) dX4_init_9 (i_X2 (b := 1) hG hb1 (fun x _ k => z x k) (hF.mono (by omega))) (fun S9 p9 q9 => ?_)
  obtain ⟨rfl, a1, a2, a3⟩ := q9
  refine b_putR (b := 1) rfl f_X4_10 rfl rfl rfl rfl rfl rfl rfl rfl (by omega) dX4_init_12 ?_
  refine b_aload_n dX4_init_15 0 rfl ?_
  refine b_new hG n_X4_16 (n := 19) (ci := 0) rfl (z1 19 (by omega)) ((a3.up (by omega)) 19 (by omega)) (by omega) (by show 0 + 5 + 227 + 3 ≤ 2465; omega) dX4_init_16 ?_
  refine b_dup dX4_init_19 rfl ?_
  refine b_callI co_X0_init l_X4_18 (Nat.le_of_ble_eq_true rfl) (by omega) (by show 0 + 5 + 227 + 3 + 1631 ≤ 2465; omega) dX4_init_20 (i_X0 hG z1 (a3.up (by omega))) (fun S20 p20 q20 => ?_)
  obtain ⟨rfl, b1, b2, b3⟩ := q20
  refine b_putR (b := 19) rfl f_X4_19 rfl rfl rfl rfl rfl rfl rfl rfl (by omega) dX4_init_23 ?_
  refine b_aload_n dX4_init_26 0 rfl ?_
  refine b_iconst dX4_init_27 (v := 2) rfl ?_
  refine b_newq hG (Cn := "ScoutGates$State") (n := 147) (t := 9) (N := 2) rfl (by decide) rfl rfl rfl (by decide) ((b3.up (by omega)) 147 (by omega)) (n_X4_7.1.2) (fun _ h => h.1) (by omega) (by show 0 + 5 + 227 + 3 + 1631 + 2 ≤ 2465; omega) dX4_init_28 ?_
  refine b_putR (b := 147) rfl f_X4_23 rfl rfl rfl rfl rfl rfl rfl rfl (by omega) dX4_init_31 ?_
  refine b_iconst dX4_init_34 (v := 0) rfl ?_
  refine b_istore_n (lo2 := [(0, _), (1, _)]) dX4_init_35 rfl (Nat.le_of_ble_eq_true rfl) [1, 0] rfl ?_
  refine b_eq (n := 148 + 18 * 0) (kc := 147 + 18 * 0) (ks := 1868 + 232 * 0) (by omega) (by omega) (by show 1868 + 232 * 0 = 0 + 5 + 227 + 3 + 1631 + 2; omega) ?_
  refine lp_X4 (S := hsS (stS S 1) 21 7) hG (fun x hx => z2 x (by omega)) rfl rfl (fun pr hF hD1 hD hp h2 => ?_) 2 0 (upP (upP p20 0 1) 0 2) (by omega) (Fr.up (n := 148 + 18 * 0) ((b3.mono (by omega)).up (by omega)) (by omega)) (Dn.up (Dn.up (Dn.app (b := 19) (a2.frame (fun x c1 c2 => (b1 x c2).trans (upP_n (by omega)))) b2))) (fun x c1 c2 => absurd c2 (by omega)) (fun k hk => ?_) (fun k hk => absurd hk (by omega))
  · exact tl_X4 hG z3 hF hD1 hD hp h2
  · rcases (by omega : k = 0 ∨ k = 1 ∨ k = 2) with rfl | rfl | rfl
    · exact upP_k (upP_k (by rw [b1 0 (by omega)]; exact upP_s))
    · exact upP_k upP_s
    · exact upP_s
end CONS
end
section
/-! the law: a layer over W whose world is the law's own int arrays and the class's cells -/
abbrev mX : Type := List (Nat × Nat × (Nat → Int32))
abbrev mZ : Type := mS × mX × Nat × Nat
def xE (G : mG) (x : Nat × Nat × (Nat → Int32)) : Nat × va_E := (x.1, .inl (G.2.2.1 6, x.2.1, .inl x.2.2))
def xW (G : mG) (X : mX) : va_W := X.map (xE G)
def zW (G : mG) (Z : mZ) : va_W := xW G Z.2.1 ++ mW G Z.1
def mRl (f w nc ns : Nat) : Room := { frames := f, cells := nc, slots := ns, locals := w }
def Lt (G : mG) (f w nc ns : Nat) (M : mM) (Q : Option Int32 → mS → Prop) (pc : Nat) (lo : List (Nat × Value)) (st : List Value) (Z : mZ) : Prop :=
  ∀ (p : Program) (e : Env) (s : State) (m : MethodId) (args : Array Value) (below : List Frame) (meth : Method) (c : Code) (A : Nat → Prop) (H : Heap) (locs : List Loc) (ls : Array Slot),
    mCx G M A p s m args meth c → lv_has ls M.2.2.1 lo → va_P G.2.1 mcl (zW G Z) H → va_D A (zW G Z) → (va_S A s.heap H locs ∧ Z.2.2.1 ≤ nc ∧ Z.2.2.2 ≤ ns) →
    W p G.1 e (mRl f w nc ns) s m args below meth c H locs Z.2.2.1 Z.2.2.2 (MQ below (mPost G M Q A) args s nc ns A) (F0 m pc ls st)
/-- the triple of a method of the law; nc cells of ns places may come -/
def CallL (G : mG) (f w nc ns : Nat) (M : mM) (av : List Value) (S : mS) (Q : Option Int32 → mS → Prop) : Prop := ∀ sz : Nat,
  Met G.1 M.1 (mWs M) (mRl f w nc ns) (va_Pc av (fun U => U.heap.size = sz ∧ va_P G.2.1 mcl (mW G S) U.heap ∧ va_K G.2.1 mcl (mTy G) U ∧ va_D (fun _ => True) (mW G S))) (mPost G M Q (va_A (mW G S) sz)) nc ns (va_A (mW G S) sz)
theorem callL_of {G : mG} {f w nc ns : Nat} {M : mM} {av : List Value} {S : mS} {Q : Option Int32 → mS → Prop} {lo : List (Nat × Value)} (hy : plainName M.1.cls = true) (hn : (lg_sl av).length ≤ M.2.2.1) (hl : lv_args 0 av = lo) (h : Lt G f w nc ns M Q 0 lo [] (S, [], 0, 0)) : CallL G f w nc ns M av S Q := by
  intro sz
  refine Met.ofW (cc := M.2.1) (maxL := M.2.2.1) (ret := M.2.2.2) hy rfl ?_
  intro p e s m args below meth c s₁ B hml hv
  obtain ⟨rfl, hsz, hP, hK, hD0⟩ := hv
  subst hsz
  rw [lg_entry_eq]
  subst hl
  exact h p e s m _ below meth c _ s.heap [] _ ⟨B.exec, B.bytes, hml, B.returns, findClass_of_methodNamed B.named, atoms_spec (ws := mWs M) B.pre, B.notSynchronized, hK, fun q hq => Or.inr hq⟩ (lv_entry av hn) hP hD0.self ⟨va_S.rf, Nat.zero_le _, Nat.zero_le _⟩
theorem zW_in {G : mG} {Z : mZ} {k : Nat} {q : Nat × va_E} (h : (mW G Z.1)[k]? = some q) : (zW G Z)[(xW G Z.2.1).length + k]? = some q := by
  unfold zW; rw [List.getElem?_append_right (by omega), show (xW G Z.2.1).length + k - (xW G Z.2.1).length = k by omega]; exact h
theorem zP {G : mG} {Z : mZ} {H : Heap} (h : va_P G.2.1 mcl (zW G Z) H) : va_P G.2.1 mcl (mW G Z.1) H := h.by (fun k => (xW G Z.2.1).length + k) (fun _ _ hk => zW_in hk)
theorem zD {G : mG} {Z : mZ} {A : Nat → Prop} (h : va_D A (zW G Z)) : va_D A (mW G Z.1) := h.by (fun k => (xW G Z.2.1).length + k) (fun _ _ hk => zW_in hk) (fun i j _ _ e => by omega)
theorem z_join {A : Nat → Prop} {G : mG} {Z : mZ} {u : mS} {H H1 : Heap} (hP : va_P G.2.1 mcl (zW G Z) H) (hD : va_D A (zW G Z)) (hk : ∀ q : Nat, q < H.size → ¬ va_A (mW G Z.1) H.size q → H1[q]? = H[q]?) (hF : ∀ q, va_A (mW G Z.1) H.size q → A q) (hP1 : va_P G.2.1 mcl (mW G u) H1) (hD1 : va_D (va_A (mW G Z.1) H.size) (mW G u)) (c1 c2 : Nat) : va_P G.2.1 mcl (zW G (u, Z.2.1, c1, c2)) H1 ∧ va_D A (zW G (u, Z.2.1, c1, c2)) := by
  have left : ∀ (k : Nat) (q : Nat × va_E), (xW G Z.2.1)[k]? = some q → (zW G Z)[k]? = some q := fun k q hq => by
    unfold zW; rw [List.getElem?_append_left (List.getElem?_eq_some_iff.mp hq).1]; exact hq
  have apart : ∀ (k : Nat) (q : Nat × va_E), (xW G Z.2.1)[k]? = some q → q.1 < H.size ∧ ¬ va_A (mW G Z.1) H.size q.1 := by
    intro k q hq
    have hk0 : k < (xW G Z.2.1).length := (List.getElem?_eq_some_iff.mp hq).1
    have hq2 := left k q hq
    have hl := (hP k q hq2).lt
    refine ⟨hl, fun h => ?_⟩
    rcases h with ⟨k2, e, h⟩ | h
    · have h2 := zW_in (G := G) (Z := Z) h
      have := hD.1 _ _ q (q.1, e) hq2 h2 rfl
      omega
    · omega
  refine ⟨va_P.app (fun k q hq => ?_) hP1, va_D.app (hD.by (fun k => k) left (fun i j _ _ e => e)) (hD1.weaken (fun k q _ h => hF q.1 h)) (fun i j x y hx hy hxy => ?_)⟩
  · obtain ⟨g1, g2⟩ := apart k q hq
    exact (hP k q (left k q hq)).kept (hk q.1 g1 g2)
  · exact (apart i x hx).2 (by rw [hxy]; exact hD1.2 j y hy)
/-- what the tables say of a method of the law -/
def CLm (M' : mM) (n : Nat) : Prop := (Cond.code M'.1 M'.2.1 M'.2.2.1 M'.2.2.2 ∈ gtbl ∧ Cond.initialized M'.1.cls ∈ gtbl) ∧ M'.1.cls ≠ "java/lang/invoke/MethodHandle" ∧ M'.1.cls ≠ "java/lang/invoke/VarHandle" ∧ (parseMethodDescriptor M'.1.desc).map (fun d => d.parameters.length) = some n ∧ Cond.static M'.1 ∈ gtbl
theorem gi_Lw {big : List Cond} (hb : ∀ w ∈ gtbl, w ∈ big) {M' : mM} {n : Nat} (h : CLm M' n) : GoodIn big (mWs M') := by
  intro w hw
  rcases List.mem_cons.mp hw with rfl | hw
  · exact gi_tbl hb h.1.1
  · exact gi_tbl hb hw
theorem gi_L {big : List Cond} (hb : ∀ w ∈ gtbl, w ∈ big) {M' : mM} {own : String} {i n : Nat} (h : CLm M' n) (hl : ML own i M') : GoodIn big (va_wsS own i M'.1 (mWs M')) := by
  intro w hw
  rcases List.mem_append.mp hw with hw | hw
  · simp only [List.mem_cons, List.not_mem_nil, or_false] at hw
    rcases hw with rfl | rfl | rfl
    · exact gi_tbl hb hl
    · exact gi_tbl hb h.2.2.2.2
    · exact gi_tbl hb h.1.2
  · exact gi_Lw hb h w hw

section ROWS
variable {G : mG} {f wd nc ns : Nat} {M : mM} {Q : Option Int32 → mS → Prop} {pc : Nat} {lo : List (Nat × Value)} {st : List Value} {S : mZ}
theorem z_iconst {n : Int} {v : Int32} (hd : decode M.2.1 pc = .ok (.iconst n, 1)) (hv : Int32.ofInt n = v) (k : Lt G f wd nc ns M Q (pc + 1) lo (.int v :: st) S) : Lt G f wd nc ns M Q pc lo (st) S := by
  intro p e s m args below meth c A H locs ls C hl hP hD hS
  exact lv_iconst C.1 C.2.1 hd hv (k _ _ _ _ _ _ _ _ _ _ _ _ C hl hP hD hS)
theorem z_bipush {n : Int} {v : Int32} (hd : decode M.2.1 pc = .ok (.bipush n, 2)) (hv : (Int8.ofInt n).toInt32 = v) (k : Lt G f wd nc ns M Q (pc + 2) lo (.int v :: st) S) : Lt G f wd nc ns M Q pc lo (st) S := by
  intro p e s m args below meth c A H locs ls C hl hP hD hS
  exact lv_bipush C.1 C.2.1 hd hv (k _ _ _ _ _ _ _ _ _ _ _ _ C hl hP hD hS)
theorem z_sipush {n : Int} {v : Int32} (hd : decode M.2.1 pc = .ok (.sipush n, 3)) (hv : (Int16.ofInt n).toInt32 = v) (k : Lt G f wd nc ns M Q (pc + 3) lo (.int v :: st) S) : Lt G f wd nc ns M Q pc lo (st) S := by
  intro p e s m args below meth c A H locs ls C hl hP hD hS
  exact lv_sipush C.1 C.2.1 hd hv (k _ _ _ _ _ _ _ _ _ _ _ _ C hl hP hD hS)
theorem z_iload_n {n : Fin 4} {x : Int32} (hd : decode M.2.1 pc = .ok (.iload_n n, 1)) (j : Nat) (hg : lo[j]? = some ((n : Nat), .int x)) (k : Lt G f wd nc ns M Q (pc + 1) lo (.int x :: st) S) : Lt G f wd nc ns M Q pc lo (st) S := by
  intro p e s m args below meth c A H locs ls C hl hP hD hS
  exact lv_iload_n C.1 C.2.1 hd rfl (lv_at hl j hg) (k _ _ _ _ _ _ _ _ _ _ _ _ C hl hP hD hS)
theorem z_iload {i : Nat} {x : Int32} (hd : decode M.2.1 pc = .ok (.iload i, 2)) (j : Nat) (hg : lo[j]? = some (i, .int x)) (k : Lt G f wd nc ns M Q (pc + 2) lo (.int x :: st) S) : Lt G f wd nc ns M Q pc lo (st) S := by
  intro p e s m args below meth c A H locs ls C hl hP hD hS
  exact lv_iload C.1 C.2.1 hd (lv_at hl j hg) (k _ _ _ _ _ _ _ _ _ _ _ _ C hl hP hD hS)
theorem z_aload_n {n : Fin 4} {x : Nat} (hd : decode M.2.1 pc = .ok (.aload_n n, 1)) (j : Nat) (hg : lo[j]? = some ((n : Nat), rv G x)) (k : Lt G f wd nc ns M Q (pc + 1) lo (rv G x :: st) S) : Lt G f wd nc ns M Q pc lo (st) S := by
  intro p e s m args below meth c A H locs ls C hl hP hD hS
  exact lv_aload_n C.1 C.2.1 hd rfl (lv_at hl j hg) (k _ _ _ _ _ _ _ _ _ _ _ _ C hl hP hD hS)
theorem z_aload {i : Nat} {x : Nat} (hd : decode M.2.1 pc = .ok (.aload i, 2)) (j : Nat) (hg : lo[j]? = some (i, rv G x)) (k : Lt G f wd nc ns M Q (pc + 2) lo (rv G x :: st) S) : Lt G f wd nc ns M Q pc lo (st) S := by
  intro p e s m args below meth c A H locs ls C hl hP hD hS
  exact lv_aload C.1 C.2.1 hd (lv_at hl j hg) (k _ _ _ _ _ _ _ _ _ _ _ _ C hl hP hD hS)
theorem z_istore_n {n : Fin 4} {i : Nat} {x : Int32} {lo2 : List (Nat × Value)} (hd : decode M.2.1 pc = .ok (.istore_n n, 1)) (hi : (n : Nat) = i) (hn : i < M.2.2.1) (ps : List Nat) (hs : lv_pick ((i, .int x) :: lo.filter (fun q => !(q.1 == i) && !(q.1 + 1 == i && q.2.category == 2))) ps = lo2) (k : Lt G f wd nc ns M Q (pc + 1) lo2 st S) : Lt G f wd nc ns M Q pc lo (.int x :: st) S := by
  intro p e s m args below meth c A H locs ls C hl hP hD hS
  exact lv_istore_n C.1 C.2.1 hd hi hl hn rfl (fun ls' hl => k _ _ _ _ _ _ _ _ _ _ _ _ C (lv_sub hl ps hs) hP hD hS)
theorem z_istore  {i : Nat} {x : Int32} {lo2 : List (Nat × Value)} (hd : decode M.2.1 pc = .ok (.istore i, 2)) (hn : i < M.2.2.1) (ps : List Nat) (hs : lv_pick ((i, .int x) :: lo.filter (fun q => !(q.1 == i) && !(q.1 + 1 == i && q.2.category == 2))) ps = lo2) (k : Lt G f wd nc ns M Q (pc + 2) lo2 st S) : Lt G f wd nc ns M Q pc lo (.int x :: st) S := by
  intro p e s m args below meth c A H locs ls C hl hP hD hS
  exact lv_istore C.1 C.2.1 hd hl hn rfl (fun ls' hl => k _ _ _ _ _ _ _ _ _ _ _ _ C (lv_sub hl ps hs) hP hD hS)
theorem z_astore_n {n : Fin 4} {i : Nat} {x : Nat} {lo2 : List (Nat × Value)} (hd : decode M.2.1 pc = .ok (.astore_n n, 1)) (hi : (n : Nat) = i) (hn : i < M.2.2.1) (ps : List Nat) (hs : lv_pick ((i, rv G x) :: lo.filter (fun q => !(q.1 == i) && !(q.1 + 1 == i && q.2.category == 2))) ps = lo2) (k : Lt G f wd nc ns M Q (pc + 1) lo2 st S) : Lt G f wd nc ns M Q pc lo (rv G x :: st) S := by
  intro p e s m args below meth c A H locs ls C hl hP hD hS
  exact lv_astore_n C.1 C.2.1 hd hi hl hn rfl (fun ls' hl => k _ _ _ _ _ _ _ _ _ _ _ _ C (lv_sub hl ps hs) hP hD hS)
theorem z_astore  {i : Nat} {x : Nat} {lo2 : List (Nat × Value)} (hd : decode M.2.1 pc = .ok (.astore i, 2)) (hn : i < M.2.2.1) (ps : List Nat) (hs : lv_pick ((i, rv G x) :: lo.filter (fun q => !(q.1 == i) && !(q.1 + 1 == i && q.2.category == 2))) ps = lo2) (k : Lt G f wd nc ns M Q (pc + 2) lo2 st S) : Lt G f wd nc ns M Q pc lo (rv G x :: st) S := by
  intro p e s m args below meth c A H locs ls C hl hP hD hS
  exact lv_astore C.1 C.2.1 hd hl hn rfl (fun ls' hl => k _ _ _ _ _ _ _ _ _ _ _ _ C (lv_sub hl ps hs) hP hD hS)
theorem z_iinc {i : Nat} {n : Int} {x w : Int32} {lo2 : List (Nat × Value)} (hd : decode M.2.1 pc = .ok (.iinc i n, 3)) (j : Nat) (hg : lo[j]? = some (i, .int x)) (hw : Int32.ofInt n = w) (hn : i < M.2.2.1) (ps : List Nat) (hs : lv_pick ((i, .int (x + w)) :: lo.filter (fun q => !(q.1 == i) && !(q.1 + 1 == i && q.2.category == 2))) ps = lo2) (k : Lt G f wd nc ns M Q (pc + 3) lo2 st S) : Lt G f wd nc ns M Q pc lo st S := by
  intro p e s m args below meth c A H locs ls C hl hP hD hS
  subst hw
  exact lv_iinc C.1 C.2.1 hd hl (k := j) hg rfl hn rfl (fun ls' hl => k _ _ _ _ _ _ _ _ _ _ _ _ C (lv_sub hl ps hs) hP hD hS)
theorem z_sub {lo2 : List (Nat × Value)} (ps : List Nat) (hs : lv_pick lo ps = lo2) (k : Lt G f wd nc ns M Q pc lo2 st S) : Lt G f wd nc ns M Q pc lo st S := by
  intro p e s m args below meth c A H locs ls C hl hP hD hS
  exact k _ _ _ _ _ _ _ _ _ _ _ _ C (lv_sub hl ps hs) hP hD hS
theorem z_iadd {x y : Int32} (hd : decode M.2.1 pc = .ok (.iadd, 1))  (k : Lt G f wd nc ns M Q (pc + 1) lo (.int (x + y) :: st) S) : Lt G f wd nc ns M Q pc lo (.int y :: .int x :: st) S := by
  intro p e s m args below meth c A H locs ls C hl hP hD hS
  exact lv_iadd C.1 C.2.1 hd  (k _ _ _ _ _ _ _ _ _ _ _ _ C hl hP hD hS)
theorem z_isub {x y : Int32} (hd : decode M.2.1 pc = .ok (.isub, 1))  (k : Lt G f wd nc ns M Q (pc + 1) lo (.int (x - y) :: st) S) : Lt G f wd nc ns M Q pc lo (.int y :: .int x :: st) S := by
  intro p e s m args below meth c A H locs ls C hl hP hD hS
  exact lv_isub C.1 C.2.1 hd  (k _ _ _ _ _ _ _ _ _ _ _ _ C hl hP hD hS)
theorem z_imul {x y : Int32} (hd : decode M.2.1 pc = .ok (.imul, 1))  (k : Lt G f wd nc ns M Q (pc + 1) lo (.int (x * y) :: st) S) : Lt G f wd nc ns M Q pc lo (.int y :: .int x :: st) S := by
  intro p e s m args below meth c A H locs ls C hl hP hD hS
  exact lv_imul C.1 C.2.1 hd  (k _ _ _ _ _ _ _ _ _ _ _ _ C hl hP hD hS)
theorem z_iand {x y : Int32} (hd : decode M.2.1 pc = .ok (.iand, 1))  (k : Lt G f wd nc ns M Q (pc + 1) lo (.int (x &&& y) :: st) S) : Lt G f wd nc ns M Q pc lo (.int y :: .int x :: st) S := by
  intro p e s m args below meth c A H locs ls C hl hP hD hS
  exact lv_iand C.1 C.2.1 hd  (k _ _ _ _ _ _ _ _ _ _ _ _ C hl hP hD hS)
theorem z_ior {x y : Int32} (hd : decode M.2.1 pc = .ok (.ior, 1))  (k : Lt G f wd nc ns M Q (pc + 1) lo (.int (x ||| y) :: st) S) : Lt G f wd nc ns M Q pc lo (.int y :: .int x :: st) S := by
  intro p e s m args below meth c A H locs ls C hl hP hD hS
  exact lv_ior C.1 C.2.1 hd  (k _ _ _ _ _ _ _ _ _ _ _ _ C hl hP hD hS)
theorem z_ixor {x y : Int32} (hd : decode M.2.1 pc = .ok (.ixor, 1))  (k : Lt G f wd nc ns M Q (pc + 1) lo (.int (x ^^^ y) :: st) S) : Lt G f wd nc ns M Q pc lo (.int y :: .int x :: st) S := by
  intro p e s m args below meth c A H locs ls C hl hP hD hS
  exact lv_ixor C.1 C.2.1 hd  (k _ _ _ _ _ _ _ _ _ _ _ _ C hl hP hD hS)
theorem z_ishl {x y : Int32} (hd : decode M.2.1 pc = .ok (.ishl, 1))  (k : Lt G f wd nc ns M Q (pc + 1) lo (.int (x <<< (y &&& 31)) :: st) S) : Lt G f wd nc ns M Q pc lo (.int y :: .int x :: st) S := by
  intro p e s m args below meth c A H locs ls C hl hP hD hS
  exact lv_ishl C.1 C.2.1 hd  (k _ _ _ _ _ _ _ _ _ _ _ _ C hl hP hD hS)
theorem z_ishr {x y : Int32} (hd : decode M.2.1 pc = .ok (.ishr, 1))  (k : Lt G f wd nc ns M Q (pc + 1) lo (.int (x >>> (y &&& 31)) :: st) S) : Lt G f wd nc ns M Q pc lo (.int y :: .int x :: st) S := by
  intro p e s m args below meth c A H locs ls C hl hP hD hS
  exact lv_ishr C.1 C.2.1 hd  (k _ _ _ _ _ _ _ _ _ _ _ _ C hl hP hD hS)
theorem z_irem {x y : Int32} (hd : decode M.2.1 pc = .ok (.irem, 1)) (hne : ¬ y = 0) (k : Lt G f wd nc ns M Q (pc + 1) lo (.int (x - x / y * y) :: st) S) : Lt G f wd nc ns M Q pc lo (.int y :: .int x :: st) S := by
  intro p e s m args below meth c A H locs ls C hl hP hD hS
  exact lv_irem C.1 C.2.1 hd hne (k _ _ _ _ _ _ _ _ _ _ _ _ C hl hP hD hS)
theorem z_dup {v : Value} (hd : decode M.2.1 pc = .ok (.dup, 1)) (hv : v.category = 1) (k : Lt G f wd nc ns M Q (pc + 1) lo (v :: v :: st) S) : Lt G f wd nc ns M Q pc lo (v :: st) S := by
  intro p e s m args below meth c A H locs ls C hl hP hD hS
  exact lv_dup C.1 C.2.1 hd hv (k _ _ _ _ _ _ _ _ _ _ _ _ C hl hP hD hS)
theorem z_pop {v : Value} (hd : decode M.2.1 pc = .ok (.pop, 1)) (hv : v.category = 1) (k : Lt G f wd nc ns M Q (pc + 1) lo (st) S) : Lt G f wd nc ns M Q pc lo (v :: st) S := by
  intro p e s m args below meth c A H locs ls C hl hP hD hS
  exact lv_pop C.1 C.2.1 hd hv (k _ _ _ _ _ _ _ _ _ _ _ _ C hl hP hD hS)
theorem z_dup2 {v w : Value} (hd : decode M.2.1 pc = .ok (.dup2, 1)) (hv : v.category = 1) (hw : w.category = 1) (k : Lt G f wd nc ns M Q (pc + 1) lo (v :: w :: v :: w :: st) S) : Lt G f wd nc ns M Q pc lo (v :: w :: st) S := by
  intro p e s m args below meth c A H locs ls C hl hP hD hS
  exact lv_dup2_11 C.1 C.2.1 hd hv hw (k _ _ _ _ _ _ _ _ _ _ _ _ C hl hP hD hS)
theorem z_if_eq {x : Int32} {off : Int} {tgt : Nat} (hd : decode M.2.1 pc = .ok (.ifCond .eq off, 3)) (ht : (pc : Int) + off = (tgt : Int)) (kt : x = 0 → Lt G f wd nc ns M Q tgt lo st S) (kf : ¬ (x = 0) → Lt G f wd nc ns M Q (pc + 3) lo st S) : Lt G f wd nc ns M Q pc lo (.int x :: st) S := by
  intro p e s m args below meth c A H locs ls C hl hP hD hS
  exact lv_if_eq C.1 C.2.1 hd ht (fun z => kt z _ _ _ _ _ _ _ _ _ _ _ _ C hl hP hD hS) (fun z => kf z _ _ _ _ _ _ _ _ _ _ _ _ C hl hP hD hS)
theorem z_icmp_eq {x y : Int32} {off : Int} {tgt : Nat} (hd : decode M.2.1 pc = .ok (.if_icmp .eq off, 3)) (ht : (pc : Int) + off = (tgt : Int)) (kt : x = y → Lt G f wd nc ns M Q tgt lo st S) (kf : ¬ (x = y) → Lt G f wd nc ns M Q (pc + 3) lo st S) : Lt G f wd nc ns M Q pc lo (.int y :: .int x :: st) S := by
  intro p e s m args below meth c A H locs ls C hl hP hD hS
  exact lv_icmp_eq C.1 C.2.1 hd ht (fun z => kt z _ _ _ _ _ _ _ _ _ _ _ _ C hl hP hD hS) (fun z => kf z _ _ _ _ _ _ _ _ _ _ _ _ C hl hP hD hS)
theorem z_if_ne {x : Int32} {off : Int} {tgt : Nat} (hd : decode M.2.1 pc = .ok (.ifCond .ne off, 3)) (ht : (pc : Int) + off = (tgt : Int)) (kt : x ≠ 0 → Lt G f wd nc ns M Q tgt lo st S) (kf : x = 0 → Lt G f wd nc ns M Q (pc + 3) lo st S) : Lt G f wd nc ns M Q pc lo (.int x :: st) S := by
  intro p e s m args below meth c A H locs ls C hl hP hD hS
  exact lv_if_ne C.1 C.2.1 hd ht (fun z => kt z _ _ _ _ _ _ _ _ _ _ _ _ C hl hP hD hS) (fun z => kf z _ _ _ _ _ _ _ _ _ _ _ _ C hl hP hD hS)
theorem z_icmp_ne {x y : Int32} {off : Int} {tgt : Nat} (hd : decode M.2.1 pc = .ok (.if_icmp .ne off, 3)) (ht : (pc : Int) + off = (tgt : Int)) (kt : x ≠ y → Lt G f wd nc ns M Q tgt lo st S) (kf : x = y → Lt G f wd nc ns M Q (pc + 3) lo st S) : Lt G f wd nc ns M Q pc lo (.int y :: .int x :: st) S := by
  intro p e s m args below meth c A H locs ls C hl hP hD hS
  exact lv_icmp_ne C.1 C.2.1 hd ht (fun z => kt z _ _ _ _ _ _ _ _ _ _ _ _ C hl hP hD hS) (fun z => kf z _ _ _ _ _ _ _ _ _ _ _ _ C hl hP hD hS)
theorem z_if_lt {x : Int32} {off : Int} {tgt : Nat} (hd : decode M.2.1 pc = .ok (.ifCond .lt off, 3)) (ht : (pc : Int) + off = (tgt : Int)) (kt : x < 0 → Lt G f wd nc ns M Q tgt lo st S) (kf : ¬ (x < 0) → Lt G f wd nc ns M Q (pc + 3) lo st S) : Lt G f wd nc ns M Q pc lo (.int x :: st) S := by
  intro p e s m args below meth c A H locs ls C hl hP hD hS
  exact lv_if_lt C.1 C.2.1 hd ht (fun z => kt z _ _ _ _ _ _ _ _ _ _ _ _ C hl hP hD hS) (fun z => kf z _ _ _ _ _ _ _ _ _ _ _ _ C hl hP hD hS)
theorem z_icmp_lt {x y : Int32} {off : Int} {tgt : Nat} (hd : decode M.2.1 pc = .ok (.if_icmp .lt off, 3)) (ht : (pc : Int) + off = (tgt : Int)) (kt : x < y → Lt G f wd nc ns M Q tgt lo st S) (kf : ¬ (x < y) → Lt G f wd nc ns M Q (pc + 3) lo st S) : Lt G f wd nc ns M Q pc lo (.int y :: .int x :: st) S := by
  intro p e s m args below meth c A H locs ls C hl hP hD hS
  exact lv_icmp_lt C.1 C.2.1 hd ht (fun z => kt z _ _ _ _ _ _ _ _ _ _ _ _ C hl hP hD hS) (fun z => kf z _ _ _ _ _ _ _ _ _ _ _ _ C hl hP hD hS)
theorem z_if_ge {x : Int32} {off : Int} {tgt : Nat} (hd : decode M.2.1 pc = .ok (.ifCond .ge off, 3)) (ht : (pc : Int) + off = (tgt : Int)) (kt : 0 ≤ x → Lt G f wd nc ns M Q tgt lo st S) (kf : ¬ (0 ≤ x) → Lt G f wd nc ns M Q (pc + 3) lo st S) : Lt G f wd nc ns M Q pc lo (.int x :: st) S := by
  intro p e s m args below meth c A H locs ls C hl hP hD hS
  exact lv_if_ge C.1 C.2.1 hd ht (fun z => kt z _ _ _ _ _ _ _ _ _ _ _ _ C hl hP hD hS) (fun z => kf z _ _ _ _ _ _ _ _ _ _ _ _ C hl hP hD hS)
theorem z_icmp_ge {x y : Int32} {off : Int} {tgt : Nat} (hd : decode M.2.1 pc = .ok (.if_icmp .ge off, 3)) (ht : (pc : Int) + off = (tgt : Int)) (kt : y ≤ x → Lt G f wd nc ns M Q tgt lo st S) (kf : ¬ (y ≤ x) → Lt G f wd nc ns M Q (pc + 3) lo st S) : Lt G f wd nc ns M Q pc lo (.int y :: .int x :: st) S := by
  intro p e s m args below meth c A H locs ls C hl hP hD hS
  exact lv_icmp_ge C.1 C.2.1 hd ht (fun z => kt z _ _ _ _ _ _ _ _ _ _ _ _ C hl hP hD hS) (fun z => kf z _ _ _ _ _ _ _ _ _ _ _ _ C hl hP hD hS)
theorem z_if_gt {x : Int32} {off : Int} {tgt : Nat} (hd : decode M.2.1 pc = .ok (.ifCond .gt off, 3)) (ht : (pc : Int) + off = (tgt : Int)) (kt : 0 < x → Lt G f wd nc ns M Q tgt lo st S) (kf : ¬ (0 < x) → Lt G f wd nc ns M Q (pc + 3) lo st S) : Lt G f wd nc ns M Q pc lo (.int x :: st) S := by
  intro p e s m args below meth c A H locs ls C hl hP hD hS
  exact lv_if_gt C.1 C.2.1 hd ht (fun z => kt z _ _ _ _ _ _ _ _ _ _ _ _ C hl hP hD hS) (fun z => kf z _ _ _ _ _ _ _ _ _ _ _ _ C hl hP hD hS)
theorem z_icmp_gt {x y : Int32} {off : Int} {tgt : Nat} (hd : decode M.2.1 pc = .ok (.if_icmp .gt off, 3)) (ht : (pc : Int) + off = (tgt : Int)) (kt : y < x → Lt G f wd nc ns M Q tgt lo st S) (kf : ¬ (y < x) → Lt G f wd nc ns M Q (pc + 3) lo st S) : Lt G f wd nc ns M Q pc lo (.int y :: .int x :: st) S := by
  intro p e s m args below meth c A H locs ls C hl hP hD hS
  exact lv_icmp_gt C.1 C.2.1 hd ht (fun z => kt z _ _ _ _ _ _ _ _ _ _ _ _ C hl hP hD hS) (fun z => kf z _ _ _ _ _ _ _ _ _ _ _ _ C hl hP hD hS)
theorem z_if_le {x : Int32} {off : Int} {tgt : Nat} (hd : decode M.2.1 pc = .ok (.ifCond .le off, 3)) (ht : (pc : Int) + off = (tgt : Int)) (kt : x ≤ 0 → Lt G f wd nc ns M Q tgt lo st S) (kf : ¬ (x ≤ 0) → Lt G f wd nc ns M Q (pc + 3) lo st S) : Lt G f wd nc ns M Q pc lo (.int x :: st) S := by
  intro p e s m args below meth c A H locs ls C hl hP hD hS
  exact lv_if_le C.1 C.2.1 hd ht (fun z => kt z _ _ _ _ _ _ _ _ _ _ _ _ C hl hP hD hS) (fun z => kf z _ _ _ _ _ _ _ _ _ _ _ _ C hl hP hD hS)
theorem z_icmp_le {x y : Int32} {off : Int} {tgt : Nat} (hd : decode M.2.1 pc = .ok (.if_icmp .le off, 3)) (ht : (pc : Int) + off = (tgt : Int)) (kt : x ≤ y → Lt G f wd nc ns M Q tgt lo st S) (kf : ¬ (x ≤ y) → Lt G f wd nc ns M Q (pc + 3) lo st S) : Lt G f wd nc ns M Q pc lo (.int y :: .int x :: st) S := by
  intro p e s m args below meth c A H locs ls C hl hP hD hS
  exact lv_icmp_le C.1 C.2.1 hd ht (fun z => kt z _ _ _ _ _ _ _ _ _ _ _ _ C hl hP hD hS) (fun z => kf z _ _ _ _ _ _ _ _ _ _ _ _ C hl hP hD hS)
theorem z_goto {off : Int} {tgt : Nat} (hd : decode M.2.1 pc = .ok (.goto off, 3)) (ht : (pc : Int) + off = (tgt : Int)) (k : Lt G f wd nc ns M Q tgt lo st S) : Lt G f wd nc ns M Q pc lo st S := by
  intro p e s m args below meth c A H locs ls C hl hP hD hS
  exact lv_goto C.1 C.2.1 hd ht (k _ _ _ _ _ _ _ _ _ _ _ _ C hl hP hD hS)
theorem z_ldcw {i : Nat} {v : Int32} (hk : KI M.1.cls i v) (hd : decode M.2.1 pc = .ok (.ldc_w i, 3)) (k : Lt G f wd nc ns M Q (pc + 3) lo (.int v :: st) S) : Lt G f wd nc ns M Q pc lo st S := by
  intro p e s m args below meth c A H locs ls C hl hP hD hS
  exact lv_ldcw C.1 C.2.1 C.2.2.2.2.1 (C.2.2.2.2.2.1 _ (List.mem_cons_of_mem _ hk)) hd (k _ _ _ _ _ _ _ _ _ _ _ _ C hl hP hD hS)
theorem z_aloadr_n {n : Fin 4} {x : Nat} (hd : decode M.2.1 pc = .ok (.aload_n n, 1)) (j : Nat) (hg : lo[j]? = some ((n : Nat), .ref x)) (k : Lt G f wd nc ns M Q (pc + 1) lo (.ref x :: st) S) : Lt G f wd nc ns M Q pc lo (st) S := by
  intro p e s m args below meth c A H locs ls C hl hP hD hS
  exact lv_aload_n C.1 C.2.1 hd rfl (lv_at hl j hg) (k _ _ _ _ _ _ _ _ _ _ _ _ C hl hP hD hS)
theorem z_aloadr {i : Nat} {x : Nat} (hd : decode M.2.1 pc = .ok (.aload i, 2)) (j : Nat) (hg : lo[j]? = some (i, .ref x)) (k : Lt G f wd nc ns M Q (pc + 2) lo (.ref x :: st) S) : Lt G f wd nc ns M Q pc lo (st) S := by
  intro p e s m args below meth c A H locs ls C hl hP hD hS
  exact lv_aload C.1 C.2.1 hd (lv_at hl j hg) (k _ _ _ _ _ _ _ _ _ _ _ _ C hl hP hD hS)
theorem z_astorer_n {n : Fin 4} {i : Nat} {x : Nat} {lo2 : List (Nat × Value)} (hd : decode M.2.1 pc = .ok (.astore_n n, 1)) (hi : (n : Nat) = i) (hn : i < M.2.2.1) (ps : List Nat) (hs : lv_pick ((i, .ref x) :: lo.filter (fun q => !(q.1 == i) && !(q.1 + 1 == i && q.2.category == 2))) ps = lo2) (k : Lt G f wd nc ns M Q (pc + 1) lo2 st S) : Lt G f wd nc ns M Q pc lo (.ref x :: st) S := by
  intro p e s m args below meth c A H locs ls C hl hP hD hS
  exact lv_astore_n C.1 C.2.1 hd hi hl hn rfl (fun ls' hl => k _ _ _ _ _ _ _ _ _ _ _ _ C (lv_sub hl ps hs) hP hD hS)
theorem z_astorer  {i : Nat} {x : Nat} {lo2 : List (Nat × Value)} (hd : decode M.2.1 pc = .ok (.astore i, 2)) (hn : i < M.2.2.1) (ps : List Nat) (hs : lv_pick ((i, .ref x) :: lo.filter (fun q => !(q.1 == i) && !(q.1 + 1 == i && q.2.category == 2))) ps = lo2) (k : Lt G f wd nc ns M Q (pc + 2) lo2 st S) : Lt G f wd nc ns M Q pc lo (.ref x :: st) S := by
  intro p e s m args below meth c A H locs ls C hl hP hD hS
  exact lv_astore C.1 C.2.1 hd hl hn rfl (fun ls' hl => k _ _ _ _ _ _ _ _ _ _ _ _ C (lv_sub hl ps hs) hP hD hS)
theorem z_idiv {x y : Int32} (hd : decode M.2.1 pc = .ok (.idiv, 1)) (hne : ¬ y = 0) (k : Lt G f wd nc ns M Q (pc + 1) lo (.int (x / y) :: st) S) : Lt G f wd nc ns M Q pc lo (.int y :: .int x :: st) S := by
  intro p e s m args below meth c A H locs ls C hl hP hD hS
  exact lv_idiv C.1 C.2.1 hd hne (k _ _ _ _ _ _ _ _ _ _ _ _ C hl hP hD hS)
theorem z_ldc {i : Nat} {v : Int32} (hk : KI M.1.cls i v) (hd : decode M.2.1 pc = .ok (.ldc i, 2)) (k : Lt G f wd nc ns M Q (pc + 2) lo (.int v :: st) S) : Lt G f wd nc ns M Q pc lo st S := by
  intro p e s m args below meth c A H locs ls C hl hP hD hS
  exact lv_ldc C.1 C.2.1 C.2.2.2.2.1 (C.2.2.2.2.2.1 _ (List.mem_cons_of_mem _ hk)) hd (k _ _ _ _ _ _ _ _ _ _ _ _ C hl hP hD hS)
theorem z_zret {v : Int32} {ty : FieldType} (hr : M.2.2.2 = some ty) (hn : narrow ty (.int v) = .int v) (hd : decode M.2.1 pc = .ok (.ireturn, 1)) (hq : Q (some v) S.1) : Lt G f wd nc ns M Q pc lo [.int v] S := by
  intro p e s m args below meth c A H locs ls C hl hP hD hS
  obtain ⟨hS, hc, hs⟩ := hS
  refine W.widen (k := nc) (n := ns) hc hs ?_
  refine W.zret (ty := ty) C.1 C.2.1 (C.2.2.2.1.trans hr) hn (fun t ht hW => ?_) hS.2.2 hd C.2.2.2.2.2.2.1
  unfold mPost
  rw [hr]
  exact ⟨⟨v, S.1, rfl, hq, by rw [ht]; exact zP hP, va_K.moved hW.alike C.2.2.2.2.2.2.2.1, zD hD⟩, hS.F ht⟩
theorem z_iald {q N j j0 : Nat} {f1 : Nat → Int32} {x : Int32} (hX : S.2.1[j0]? = some (q, N, f1)) (hx : x = nI j) (hj : j < N) (hN : N < 2 ^ 31) (hd : decode M.2.1 pc = .ok (.iaload, 1)) (k : Lt G f wd nc ns M Q (pc + 1) lo (.int (f1 j) :: st) S) : Lt G f wd nc ns M Q pc lo (.int x :: .ref q :: st) S := by
  intro p e s m args below meth c A H locs ls C hl hP hD hS
  have h0 : (zW G S)[j0]? = some (q, .inl (G.2.2.1 6, N, .inl f1)) := by
    have h1 : (xW G S.2.1)[j0]? = some (xE G (q, N, f1)) := by unfold xW; rw [List.getElem?_map, hX]; rfl
    unfold zW; rw [List.getElem?_append_left (List.getElem?_eq_some_iff.mp h1).1]; exact h1
  have e : x.toNatClampNeg = j := by rw [hx]; exact nI_clamp (by omega)
  refine va_iald (D := G.2.1) (tys := mTy G) C.1 C.2.1 C.2.2.2.2.2.2.2.1 hP j0 0 h0 rfl (in_of hx hj hN) hd ?_
  rw [e]
  exact k _ _ _ _ _ _ _ _ _ _ _ _ C hl hP hD hS
theorem z_iast {q N j j0 : Nat} {f1 : Nat → Int32} {x y : Int32} (hX : S.2.1[j0]? = some (q, N, f1)) (hx : x = nI j) (hj : j < N) (hN : N < 2 ^ 31) (hd : decode M.2.1 pc = .ok (.iastore, 1)) (k : Lt G f wd nc ns M Q (pc + 1) lo st (S.1, S.2.1.set j0 (q, N, upd f1 j y), S.2.2)) : Lt G f wd nc ns M Q pc lo (.int y :: .int x :: .ref q :: st) S := by
  intro p e s m args below meth c A H locs ls C hl hP hD hS
  have h1 : (xW G S.2.1)[j0]? = some (xE G (q, N, f1)) := by unfold xW; rw [List.getElem?_map, hX]; rfl
  have hlt := (List.getElem?_eq_some_iff.mp h1).1
  have h0 : (zW G S)[j0]? = some (q, .inl (G.2.2.1 6, N, .inl f1)) := by
    unfold zW; rw [List.getElem?_append_left hlt]; exact h1
  have e : x.toNatClampNeg = j := by rw [hx]; exact nI_clamp (by omega)
  obtain ⟨hS, hcs⟩ := hS
  refine va_iast (D := G.2.1) (tys := mTy G) C.1 C.2.1 C.2.2.2.2.2.2.2.1 hP hD hS j0 0 h0 rfl (in_of hx hj hN) hd (fun H1 locs1 hP hD hS => ?_)
  have e2 : (zW G S).set j0 (q, .inl (G.2.2.1 6, N, .inl (upd f1 x.toNatClampNeg y))) = zW G (S.1, S.2.1.set j0 (q, N, upd f1 j y), S.2.2) := by
    unfold zW xW
    rw [e, List.set_append_left _ _ (by unfold xW at hlt; exact hlt), List.map_set]
    rfl
  rw [e2] at hP hD
  exact k _ _ _ _ _ _ _ _ _ _ _ _ C hl hP hD ⟨hS, hcs⟩
theorem z_newa {N : Nat} {x : Int32} (hx : x = nI N) (hN1 : N < 10000) (har : Cond.arrayClass .int ∈ gtbl) (hc : S.2.2.1 + 1 ≤ nc) (hs : S.2.2.2 + N ≤ ns) (hd : decode M.2.1 pc = .ok (.newarray .int, 2)) (k : ∀ q, Lt G f wd nc ns M Q (pc + 2) lo (.ref q :: st) (S.1, S.2.1 ++ [(q, N, fun _ => 0)], S.2.2.1 + 1, S.2.2.2 + N)) : Lt G f wd nc ns M Q pc lo (.int x :: st) S := by
  intro p e s m args below meth c A H locs ls C hl hP hD hS
  obtain ⟨hS, hcs⟩ := hS
  have hK := C.2.2.2.2.2.2.2.1
  have hts := C.2.2.2.2.2.1
  have hK2 := (hK.2 0 _ (mTy_at (G := G) (t := 6) (by omega) (by omega))).2
  refine va_newaK (atype := .int) (h := H.size) (N := N) C.1 C.2.1 (hts _ (List.mem_cons_of_mem _ har)) rfl hd rfl (by rw [hx]; exact nI_pos (by omega)) (by rw [hx]; exact nI_clamp (by omega)) ?_ hc hs rfl fun H1 cA e1 z1 o1 hAr hNm => ?_
  · show N * 4 ≤ 536870912
    omega
  · have hcA : G.2.2.1 6 = cA := Option.some.inj (hK2.symm.trans hNm)
    have hP1 : va_P G.2.1 mcl (zW G S ++ [xE G (H.size, N, fun _ => 0)]) H1 := hP.grow rfl o1 (by
      rw [hcA]
      exact e1)
    have hD1 : va_D A (zW G S ++ [xE G (H.size, N, fun _ => 0)]) := hD.push hP rfl (C.2.2.2.2.2.2.2.2 _ hS.1)
    have e2 : zW G (S.1, S.2.1 ++ [(H.size, N, fun _ => 0)], S.2.2.1 + 1, S.2.2.2 + N) = (xW G S.2.1 ++ [xE G (H.size, N, fun _ => 0)]) ++ mW G S.1 := by
      unfold zW xW; rw [List.map_append]; rfl
    have hP2 := va_P.swap hP1
    have hD2 := va_D.swap hD1
    rw [← e2] at hP2 hD2
    exact k _ _ _ _ _ _ _ _ _ _ _ _ _ C hl hP2 hD2 ⟨hS.grow rfl z1 o1, hc, hs⟩
theorem z_callV {M' : mM} {As rest : List Value} {Qc : Option Int32 → mS → Prop} {ci a n i d : Nat} (hc : CV M' ci n) (hk : kd a = ci) (hl1 : ML M.1.cls i M') {ty : FieldType} (hr : M'.2.2.2 = some ty) (hst : st = As.reverse ++ rv G a :: rest) (hn : As.length = n) (hW : (rest.map fun v => v.category).sum ≤ 8) (hrm : d + 1 ≤ f ∧ 8 + (M'.2.2.1 + 11) + 30 * d ≤ wd) (hd : decode M.2.1 pc = .ok (.invokevirtual i, 3)) (hcall : Call G d M' (rv G a :: As) S.1 Qc) (k : ∀ r u, Qc (some r) u → Lt G f wd nc ns M Q (pc + 3) lo (.int r :: rest) (u, S.2)) : Lt G f wd nc ns M Q pc lo st S := by
  intro p e s m args below meth c A H locs ls C hl hP hD hS
  obtain ⟨hS, hcs⟩ := hS
  subst hst
  have hKK := C.2.2.2.2.2.2.2.1
  have hM := hcall H.size
  have hPm := zP hP
  have hDm := zD hD
  have hF := freeC (G := G) hDm hS C.2.2.2.2.2.2.2.2
  have e0 : mPost G M' Qc (va_A (mW G S.1) H.size) = va_Qi (fun r u => Qc (some r) u) (mBh G (va_A (mW G S.1) H.size)) (va_A (mW G S.1) H.size) := by unfold mPost; rw [hr]
  rw [e0] at hM
  have hbl := blindC (G := G) (av := rv G a :: As) (S' := S.1) (sz := H.size)
  refine va_calli (A1 := va_A (mW G S.1) H.size) (va_runV (R := mRl f wd nc ns) (As := As) (rest := rest) ⟨C.1, C.2.1, C.2.2.1, C.2.2.2.2.1, C.2.2.2.2.2.1⟩ hM (cwV n C.2.2.2.2.2.1 (gi_V (fun w hw => List.mem_cons_of_mem _ hw) hc hl1) rfl rfl rfl ⟨rfl, hc.1.2⟩ hrm) ⟨hbl, by rw [hc.2.1.2]; exact va_recv (D := G.2.1) hKK hPm (cls_at ci hc.2.1.1) (hasO hk hc.2.1.1), fun U hU hW => ⟨rfl, by rw [hU], by rw [hU]; exact hPm, va_K.moved hW.alike hKK, hDm.weaken (fun _ _ _ _ => trivial)⟩⟩ rfl hn hl.1 rfl (lv_room hW) hd hcs) hS (fun q _ h => hF q h) hF (fun r u t H1 locs1 ht hvm hw hB hz1 hk1 hS1 => ?_)
  obtain ⟨hP1, hK1, hD1⟩ := hB
  rw [ht] at hP1
  obtain ⟨hP2, hD2⟩ := z_join hP hD hk1 hF hP1 hD1 S.2.2.1 S.2.2.2
  exact k r u hw _ _ _ _ _ _ _ _ _ _ _ _ C hl hP2 hD2 ⟨hS1, hcs⟩
theorem z_callVF {M' : mM} {As rest : List Value} {x : Int32} {S2 : mS} {ci a n i d : Nat} (hc : CV M' ci n) (hk : kd a = ci) (hl1 : ML M.1.cls i M') {ty : FieldType} (hr : M'.2.2.2 = some ty) (hst : st = As.reverse ++ rv G a :: rest) (hn : As.length = n) (hW : (rest.map fun v => v.category).sum ≤ 8) (hrm : d + 1 ≤ f ∧ 8 + (M'.2.2.1 + 11) + 30 * d ≤ wd) (hd : decode M.2.1 pc = .ok (.invokevirtual i, 3)) (hcall : Call G d M' (rv G a :: As) S.1 (fun v u => v = some x ∧ u = S2)) (k : Lt G f wd nc ns M Q (pc + 3) lo (.int x :: rest) (S2, S.2)) : Lt G f wd nc ns M Q pc lo st S :=
  z_callV hc hk hl1 hr hst hn hW hrm hd hcall (fun r u h => by obtain ⟨h1, rfl⟩ := h; cases h1; exact k)
theorem z_callS {M' : mM} {As rest : List Value} {Qc : Option Int32 → mS → Prop} {n i d : Nat} (hc : CS M' n) (hl1 : ML M.1.cls i M') {ty : FieldType} (hr : M'.2.2.2 = some ty) (hst : st = As.reverse ++ rest) (hn : As.length = n) (hW : (rest.map fun v => v.category).sum ≤ 8) (hrm : d + 1 ≤ f ∧ 8 + (M'.2.2.1 + 11) + 30 * d ≤ wd) (hd : decode M.2.1 pc = .ok (.invokestatic i, 3)) (hcall : Call G d M' As S.1 Qc) (k : ∀ r u, Qc (some r) u → Lt G f wd nc ns M Q (pc + 3) lo (.int r :: rest) (u, S.2)) : Lt G f wd nc ns M Q pc lo st S := by
  intro p e s m args below meth c A H locs ls C hl hP hD hS
  obtain ⟨hS, hcs⟩ := hS
  subst hst
  have hKK := C.2.2.2.2.2.2.2.1
  have hM := hcall H.size
  have hPm := zP hP
  have hDm := zD hD
  have hF := freeC (G := G) hDm hS C.2.2.2.2.2.2.2.2
  have e0 : mPost G M' Qc (va_A (mW G S.1) H.size) = va_Qi (fun r u => Qc (some r) u) (mBh G (va_A (mW G S.1) H.size)) (va_A (mW G S.1) H.size) := by unfold mPost; rw [hr]
  rw [e0] at hM
  have hbl := blindC (G := G) (av := As) (S' := S.1) (sz := H.size)
  refine va_calli (A1 := va_A (mW G S.1) H.size) (va_runS (R := mRl f wd nc ns) (As := As) (rest := rest) ⟨C.1, C.2.1, C.2.2.1, C.2.2.2.2.1, C.2.2.2.2.2.1⟩ hM (va_cwS n C.2.2.2.2.2.1 (gi_S (fun w hw => List.mem_cons_of_mem _ hw) hc hl1) rfl rfl rfl hc.1.2 hrm) ⟨hbl, fun U hU hW => ⟨rfl, by rw [hU], by rw [hU]; exact hPm, va_K.moved hW.alike hKK, hDm.weaken (fun _ _ _ _ => trivial)⟩⟩ rfl hn hl.1 rfl (lv_room hW) hd hcs) hS (fun q _ h => hF q h) hF (fun r u t H1 locs1 ht hvm hw hB hz1 hk1 hS1 => ?_)
  obtain ⟨hP1, hK1, hD1⟩ := hB
  rw [ht] at hP1
  obtain ⟨hP2, hD2⟩ := z_join hP hD hk1 hF hP1 hD1 S.2.2.1 S.2.2.2
  exact k r u hw _ _ _ _ _ _ _ _ _ _ _ _ C hl hP2 hD2 ⟨hS1, hcs⟩
theorem z_callSF {M' : mM} {As rest : List Value} {x : Int32} {S2 : mS} {n i d : Nat} (hc : CS M' n) (hl1 : ML M.1.cls i M') {ty : FieldType} (hr : M'.2.2.2 = some ty) (hst : st = As.reverse ++ rest) (hn : As.length = n) (hW : (rest.map fun v => v.category).sum ≤ 8) (hrm : d + 1 ≤ f ∧ 8 + (M'.2.2.1 + 11) + 30 * d ≤ wd) (hd : decode M.2.1 pc = .ok (.invokestatic i, 3)) (hcall : Call G d M' As S.1 (fun v u => v = some x ∧ u = S2)) (k : Lt G f wd nc ns M Q (pc + 3) lo (.int x :: rest) (S2, S.2)) : Lt G f wd nc ns M Q pc lo st S :=
  z_callS hc hl1 hr hst hn hW hrm hd hcall (fun r u h => by obtain ⟨h1, rfl⟩ := h; cases h1; exact k)
theorem z_callL {M' : mM} {As rest : List Value} {Qc : Option Int32 → mS → Prop} {n i f2 w2 nc2 ns2 : Nat} (hc : CLm M' n) (hl1 : ML M.1.cls i M') {ty : FieldType} (hr : M'.2.2.2 = some ty) (hst : st = As.reverse ++ rest) (hn : As.length = n) (hW : (rest.map fun v => v.category).sum ≤ 8) (hrm : f2 + 1 ≤ f ∧ 8 + (M'.2.2.1 + 11) + w2 ≤ wd) (hkc : S.2.2.1 + nc2 ≤ nc ∧ S.2.2.2 + ns2 ≤ ns) (hd : decode M.2.1 pc = .ok (.invokestatic i, 3)) (hcall : CallL G f2 w2 nc2 ns2 M' As S.1 Qc) (k : ∀ r u, Qc (some r) u → Lt G f wd nc ns M Q (pc + 3) lo (.int r :: rest) (u, S.2.1, S.2.2.1 + nc2, S.2.2.2 + ns2)) : Lt G f wd nc ns M Q pc lo st S := by
  intro p e s m args below meth c A H locs ls C hl hP hD hS
  obtain ⟨hS, hcs⟩ := hS
  subst hst
  have hKK := C.2.2.2.2.2.2.2.1
  have hM := hcall H.size
  have hPm := zP hP
  have hDm := zD hD
  have hF := freeC (G := G) hDm hS C.2.2.2.2.2.2.2.2
  have e0 : mPost G M' Qc (va_A (mW G S.1) H.size) = va_Qi (fun r u => Qc (some r) u) (mBh G (va_A (mW G S.1) H.size)) (va_A (mW G S.1) H.size) := by unfold mPost; rw [hr]
  rw [e0] at hM
  have hbl := blindC (G := G) (av := As) (S' := S.1) (sz := H.size)
  refine va_calli (A1 := va_A (mW G S.1) H.size) (va_runS (R := mRl f wd nc ns) (As := As) (rest := rest) ⟨C.1, C.2.1, C.2.2.1, C.2.2.2.2.1, C.2.2.2.2.2.1⟩ hM (va_cwS n C.2.2.2.2.2.1 (gi_L (fun w hw => List.mem_cons_of_mem _ hw) hc hl1) rfl rfl rfl ⟨hc.2.1, hc.2.2.1, hc.2.2.2.1⟩ hrm) ⟨hbl, fun U hU hW => ⟨rfl, by rw [hU], by rw [hU]; exact hPm, va_K.moved hW.alike hKK, hDm.weaken (fun _ _ _ _ => trivial)⟩⟩ rfl hn hl.1 rfl (lv_room hW) hd hkc) hS (fun q _ h => hF q h) hF (fun r u t H1 locs1 ht hvm hw hB hz1 hk1 hS1 => ?_)
  obtain ⟨hP1, hK1, hD1⟩ := hB
  rw [ht] at hP1
  obtain ⟨hP2, hD2⟩ := z_join hP hD hk1 hF hP1 hD1 (S.2.2.1 + nc2) (S.2.2.2 + ns2)
  exact k r u hw _ _ _ _ _ _ _ _ _ _ _ _ C hl hP2 hD2 ⟨hS1, hkc⟩

end ROWS
theorem cl_L_cell : CLm M_L_cell 2 := ⟨⟨mem_g 340 (by decide +kernel) rfl, mem_g 11 (by decide +kernel) rfl⟩, by decide +kernel, by decide +kernel, by decide +kernel, mem_g 339 (by decide +kernel) rfl⟩
theorem cl_L_low : CLm M_L_low 2 := ⟨⟨mem_g 344 (by decide +kernel) rfl, mem_g 11 (by decide +kernel) rfl⟩, by decide +kernel, by decide +kernel, by decide +kernel, mem_g 343 (by decide +kernel) rfl⟩
theorem cl_L_size : CLm M_L_size 1 := ⟨⟨mem_g 356 (by decide +kernel) rfl, mem_g 11 (by decide +kernel) rfl⟩, by decide +kernel, by decide +kernel, by decide +kernel, mem_g 355 (by decide +kernel) rfl⟩
theorem cl_L_told : CLm M_L_told 1 := ⟨⟨mem_g 348 (by decide +kernel) rfl, mem_g 11 (by decide +kernel) rfl⟩, by decide +kernel, by decide +kernel, by decide +kernel, mem_g 347 (by decide +kernel) rfl⟩
theorem cl_L_comes : CLm M_L_comes 4 := ⟨⟨mem_g 362 (by decide +kernel) rfl, mem_g 11 (by decide +kernel) rfl⟩, by decide +kernel, by decide +kernel, by decide +kernel, mem_g 361 (by decide +kernel) rfl⟩
theorem cl_L_passes : CLm M_L_passes 1 := ⟨⟨mem_g 366 (by decide +kernel) rfl, mem_g 11 (by decide +kernel) rfl⟩, by decide +kernel, by decide +kernel, by decide +kernel, mem_g 365 (by decide +kernel) rfl⟩
theorem cl_L_act : CLm M_L_act 2 := ⟨⟨mem_g 359 (by decide +kernel) rfl, mem_g 11 (by decide +kernel) rfl⟩, by decide +kernel, by decide +kernel, by decide +kernel, mem_g 358 (by decide +kernel) rfl⟩
end
section
/-! the law: what holds of a troop on its runs -/
theorem beg_1 {T : mT} {a : Int32} {k : Nat} (h : T.2.1 k = 1) : (begT T a).2.1 k = 3 ∧ (begT T a).2.2.1 k = a ∧ (begT T a).2.2.2 k = T.2.2.2 k + 1 := by simp [begT, h]
theorem beg_3 {T : mT} {a : Int32} {k : Nat} (h : T.2.1 k = 3) : (begT T a).2.1 k = 3 ∧ (begT T a).2.2.1 k = T.2.2.1 k ∧ (begT T a).2.2.2 k = T.2.2.2 k := by simp [begT, h]
theorem beg_out {T : mT} {a : Int32} {k : Nat} (h1 : ¬ T.2.1 k = 1) (h3 : ¬ T.2.1 k = 3) (hn : ¬ k < (T.1 2).toNatClampNeg) : (begT T a).2.1 k = 0 ∧ (begT T a).2.2.1 k = 0 ∧ (begT T a).2.2.2 k = 0 := by simp [begT, h1, h3, hn]
theorem beg_2 {T : mT} {a : Int32} {k : Nat} (h : T.2.1 k = 2) (hn : k < (T.1 2).toNatClampNeg) : (begT T a).2.1 k = 1 ∧ (begT T a).2.2.1 k = T.2.2.1 k ∧ (begT T a).2.2.2 k = T.2.2.2 k := by simp [begT, h, hn, Nat.not_le.mpr hn]
theorem beg_o {T : mT} {a : Int32} {k : Nat} (h1 : ¬ T.2.1 k = 1) (h2 : ¬ T.2.1 k = 2) (h3 : ¬ T.2.1 k = 3) (hn : k < (T.1 2).toNatClampNeg) : (begT T a).2.1 k = T.2.1 k ∧ (begT T a).2.2.1 k = T.2.2.1 k ∧ (begT T a).2.2.2 k = T.2.2.2 k := by simp [begT, h1, h2, h3, hn, Nat.not_le.mpr hn]
theorem wk_3e {T : mT} {p : Int32} {k : Nat} (hk : k < 16) (h : T.2.1 k = 3) (hf : T.2.2.1 k - 1 ≤ 0) : (wlkT T p 16).2.1 k = 0 ∧ (wlkT T p 16).2.2.1 k = 0 ∧ (wlkT T p 16).2.2.2 k = (if k < tsz T then T.2.2.2 k else 0) := by
  by_cases h2 : k < tsz T
  · simp [wlkT, h, hf, hk, h2, Nat.not_le.mpr h2]
  · simp [wlkT, h, hf, hk, h2]
theorem wk_3 {T : mT} {p : Int32} {k : Nat} (hk : k < 16) (h : T.2.1 k = 3) (hf : ¬ T.2.2.1 k - 1 ≤ 0) : (wlkT T p 16).2.1 k = 3 ∧ (wlkT T p 16).2.2.1 k = T.2.2.1 k - 1 ∧ (wlkT T p 16).2.2.2 k = T.2.2.2 k := by simp [wlkT, h, hf, hk]
theorem wk_4 {T : mT} {p : Int32} {k : Nat} (hk : k < 16) (h : T.2.1 k = 4) : (wlkT T p 16).2.1 k = 4 ∧ (wlkT T p 16).2.2.1 k = T.2.2.1 k + 1 ∧ (wlkT T p 16).2.2.2 k = T.2.2.2 k := by simp [wlkT, h, hk]
theorem wk_o {T : mT} {p : Int32} {k : Nat} (hk : k < 16) (h3 : ¬ T.2.1 k = 3) (h4 : ¬ T.2.1 k = 4) : (wlkT T p 16).2.1 k = T.2.1 k ∧ (wlkT T p 16).2.2.1 k = T.2.2.1 k ∧ (wlkT T p 16).2.2.2 k = T.2.2.2 k := by simp [wlkT, h3, h4, hk]
theorem wk_g {T : mT} {p : Int32} {j : Nat} (hj : j ≠ 5) : (wlkT T p 16).1 j = T.1 j := by simp [wlkT, hj]
theorem wk_5 {T : mT} {p : Int32} : (wlkT T p 16).1 5 = T.1 5 ||| mkm (fun k => decide (T.2.1 k = 4) && decide (p < T.2.2.1 k + 1)) 16 := by simp [wlkT]
theorem wk_sz {T : mT} {p : Int32} : tsz (wlkT T p 16) = tsz T := by unfold tsz; rw [wk_g (by decide)]
def TI (T : mT) (b : Nat) : Prop := WF T ∧ (∀ k, k < 16 → (T.2.1 k = 3 → 1 ≤ T.2.2.1 k) ∧ (T.2.1 k = 0 ∨ T.2.1 k = 1 ∨ T.2.1 k = 2 → T.2.2.1 k = 0) ∧ ∃ j : Nat, j ≤ b ∧ T.2.2.2 k = nI j) ∧ (∀ i, i < 32 → bt (T.1 5) i = true → i < tsz T) ∧ ∃ x y : Nat, T.1 3 = nI x ∧ T.1 4 = nI y ∧ x ≤ y ∧ x ≤ b ∧ y ≤ 16 * b
theorem TI.mono {T : mT} {b c : Nat} (h : TI T b) (hb : b ≤ c) : TI T c := by
  obtain ⟨hW, hk, hs, x, y, e3, e4, h1, h2, h3⟩ := h
  refine ⟨hW, fun k hk16 => ?_, hs, x, y, e3, e4, h1, by omega, by omega⟩
  obtain ⟨p1, p2, j, hj, ej⟩ := hk k hk16
  exact ⟨p1, p2, j, by omega, ej⟩
theorem szF_j (m : Int32) : ∀ n, n ≤ 32 → ∃ j, j ≤ n ∧ szF m n = nI j ∧ ∀ i, i < n → bt m i = true → 1 ≤ j := by
  intro n
  induction n with
  | zero => intro _; exact ⟨0, Nat.le_refl _, rfl, fun i hi => absurd hi (by omega)⟩
  | succ n ih =>
    intro hn
    obtain ⟨j, h1, h2, h3⟩ := ih (by omega)
    rw [szF, h2, bt_and1 m (show n < 32 by omega)]
    cases hb : bt m n
    · refine ⟨j, by omega, by rw [bI_f, Int32.add_zero], fun i hi hbi => ?_⟩
      by_cases e : i = n
      · subst e; rw [hb] at hbi; cases hbi
      · exact h3 i (by omega) hbi
    · exact ⟨j + 1, by omega, by rw [bI_t, nI_1], fun i hi hbi => by omega⟩
theorem can_in {T : mT} (h : canO T = true) : awM T = 0 ∧ ∃ i, i < 16 ∧ bt (hm T 1) i = true := by
  unfold canO at h
  rw [Bool.and_eq_true, decide_eq_true_eq, Bool.not_eq_true', decide_eq_false_iff_not] at h
  refine ⟨h.1, Classical.byContradiction fun z => h.2 ((mkm_0 _).mpr fun k hk => ?_)⟩
  cases hb : (T.2.1 k == 1)
  · rfl
  · exact absurd ⟨k, hk, by rw [bt_hm T 1 hk]; exact hb⟩ z
theorem ti_beg {T : mT} {b : Nat} {a : Int32} (h : TI T b) (ha : 1 ≤ a) (hc : canO T = true) : TI (begT T a) (b + 1) ∧ ∃ y y' : Nat, T.1 4 = nI y ∧ (begT T a).1 4 = nI y' ∧ y ≤ y' ∧ y' ≤ 16 * (b + 1) := by
  obtain ⟨hW, hk, hs, x, y, e3, e4, hxy, hxb, hyb⟩ := h
  obtain ⟨j0, j1, j2, j3⟩ := szF_j (hm T 1) 16 (by omega)
  obtain ⟨-, i, hi, hbi⟩ := can_in hc
  have hj := j3 i hi hbi
  have e4' : (begT T a).1 4 = nI (y + j0) := by
    show T.1 4 + szF (hm T 1) 16 = _
    rw [e4, j2, nI_add]
  refine ⟨⟨wf_beg hW a, fun k hk16 => ?_, fun i hi h => ?_, x + 1, y + j0, ?_, e4', by omega, by omega, by omega⟩, y, y + j0, e4, e4', by omega, by omega⟩
  · obtain ⟨p1, p2, j, hj, ej⟩ := hk k hk16
    have hv := (hW.2.2 k hk16).1
    by_cases h1 : T.2.1 k = 1
    · obtain ⟨q1, q2, q3⟩ := beg_1 (a := a) h1
      rw [q1, q2, q3]
      exact ⟨fun _ => ha, fun z => absurd z (by decide), j + 1, by omega, by rw [ej, nI_1]⟩
    · by_cases h3 : T.2.1 k = 3
      · obtain ⟨q1, q2, q3⟩ := beg_3 (a := a) h3
        rw [q1, q2, q3]
        exact ⟨fun _ => p1 h3, fun z => absurd z (by decide), j, by omega, ej⟩
      · by_cases hn : k < (T.1 2).toNatClampNeg
        · by_cases h2 : T.2.1 k = 2
          · obtain ⟨q1, q2, q3⟩ := beg_2 (a := a) h2 hn
            rw [q1, q2, q3]
            exact ⟨fun z => absurd z (by decide), fun _ => p2 (by simp [h2]), j, by omega, ej⟩
          · obtain ⟨q1, q2, q3⟩ := beg_o (a := a) h1 h2 h3 hn
            rw [q1, q2, q3]
            exact ⟨p1, p2, j, by omega, ej⟩
        · obtain ⟨q1, q2, q3⟩ := beg_out (a := a) h1 h3 hn
          rw [q1, q2, q3]
          exact ⟨fun z => absurd z (by decide), fun _ => rfl, 0, by omega, rfl⟩
  · have z : (begT T a).1 5 = 0 := rfl
    rw [z, b_0] at h
    cases h
  · show T.1 3 + 1 = _
    rw [e3, nI_1]
theorem ti_wlk {T : mT} {b : Nat} {p : Int32} (h : TI T b) : TI (wlkT T p 16) b := by
  obtain ⟨hW, hk, hs, x, y, e3, e4, hxy, hxb, hyb⟩ := h
  refine ⟨wf_wlk hW p, fun k hk16 => ?_, fun i hi h => ?_, x, y, by rw [wk_g (by decide)]; exact e3, by rw [wk_g (by decide)]; exact e4, hxy, hxb, hyb⟩
  · obtain ⟨p1, p2, j, hj, ej⟩ := hk k hk16
    by_cases h3 : T.2.1 k = 3
    · by_cases hf : T.2.2.1 k - 1 ≤ 0
      · obtain ⟨q1, q2, q3⟩ := wk_3e (p := p) hk16 h3 hf
        rw [q1, q2, q3]
        refine ⟨fun z => absurd z (by decide), fun _ => rfl, ?_⟩
        split
        · exact ⟨j, hj, ej⟩
        · exact ⟨0, by omega, rfl⟩
      · obtain ⟨q1, q2, q3⟩ := wk_3 (p := p) hk16 h3 hf
        rw [q1, q2, q3]
        refine ⟨fun _ => ?_, fun z => absurd z (by decide), j, hj, ej⟩
        rw [Int32.not_le, Int32.lt_iff_toInt_lt] at hf
        rw [Int32.le_iff_toInt_le]
        have z0 : (0 : Int32).toInt = 0 := by decide
        have z1 : (1 : Int32).toInt = 1 := by decide
        omega
    · by_cases h4 : T.2.1 k = 4
      · obtain ⟨q1, q2, q3⟩ := wk_4 (p := p) hk16 h4
        rw [q1, q2, q3]
        exact ⟨fun z => absurd z (by decide), fun z => absurd z (by decide), j, hj, ej⟩
      · obtain ⟨q1, q2, q3⟩ := wk_o (p := p) hk16 h3 h4
        rw [q1, q2, q3]
        exact ⟨p1, p2, j, hj, ej⟩
  · rw [wk_sz]
    rw [wk_5, b_or, Bool.or_eq_true] at h
    rcases h with h | h
    · exact hs i hi h
    · rw [bt_mkm _ 16 (by omega) i hi, Bool.and_eq_true, Bool.and_eq_true, decide_eq_true_eq, decide_eq_true_eq] at h
      have h16 := h.1
      have h4 := h.2.1
      rcases Nat.lt_or_ge i (tsz T) with z | z
      · exact z
      · have := (hW.2.2 i h16).2.1 z
        rw [h4] at this
        exact absurd this (by decide)
theorem ti_set {T : mT} {b k : Nat} {x : Int32} (h : TI T b) (hk : k < tsz T) (hx : x = 0 ∨ x = 1 ∨ x = 2 ∨ x = 4) : TI (setH T k x) b := by
  obtain ⟨hW, hk2, hs, e⟩ := h
  refine ⟨wf_set hW hk hx, fun i hi => ?_, hs, e⟩
  obtain ⟨p1, p2, p3⟩ := hk2 i hi
  unfold setH
  dsimp only
  by_cases e : i = k
  · subst e
    simp only [upd, if_true]
    exact ⟨fun z => absurd z (by rcases hx with h | h | h | h <;> rw [h] <;> decide), fun _ => trivial, p3⟩
  · simp only [upd, if_neg e]
    exact ⟨p1, p2, p3⟩
theorem ti_rsz {T : mT} {b n : Nat} (h : TI T b) (h1 : 1 ≤ n) (h2 : n ≤ 16) : TI (rszT T (nI n)) b := by
  obtain ⟨hW, hk2, hs, x, y, e3, e4, z⟩ := h
  exact ⟨wf_rsz hW h1 h2, hk2, hs, x, y, e3, e4, z⟩
theorem ti_new {n b : Nat} (h1 : 1 ≤ n) (h2 : n ≤ 16) : TI (newT (nI n)) b :=
  ⟨wf_new h1 h2, fun k _ => ⟨fun z => absurd z (show ¬ ((0 : Int32) = 3) by decide), fun _ => rfl, 0, Nat.zero_le _, rfl⟩, fun i _ h => absurd h (by show ¬ bt 0 i = true; rw [b_0]; decide), 0, 0, rfl, rfl, Nat.le_refl _, Nat.zero_le _, Nat.zero_le _⟩
/-! openings, counted -/
def opK : Nat → mT → Int32 → Nat
  | 0, _, _ => 0
  | n + 1, T, a => if canO T = true then opK n (begT T a) a + 1 else 0
theorem opK_le : ∀ n T a, opK n T a ≤ n := by
  intro n
  induction n with
  | zero => intro T a; exact Nat.le_refl _
  | succ n ih =>
    intro T a
    unfold opK
    split
    · have := ih (begT T a) a; omega
    · omega
theorem op_t {n : Nat} {T : mT} {a : Int32} (h : canO T = true) : opnN (n + 1) T a = ((opnN n (begT T a) a).1 + 1, (opnN n (begT T a) a).2) ∧ opK (n + 1) T a = opK n (begT T a) a + 1 :=
  ⟨by show (if canO T = true then ((opnN n (begT T a) a).1 + 1, (opnN n (begT T a) a).2) else (0, T)) = _; rw [if_pos h], by show (if canO T = true then opK n (begT T a) a + 1 else 0) = _; rw [if_pos h]⟩
theorem op_f {n : Nat} {T : mT} {a : Int32} (h : ¬ canO T = true) : opnN (n + 1) T a = (0, T) ∧ opK (n + 1) T a = 0 :=
  ⟨by show (if canO T = true then ((opnN n (begT T a) a).1 + 1, (opnN n (begT T a) a).2) else (0, T)) = _; rw [if_neg h], by show (if canO T = true then opK n (begT T a) a + 1 else 0) = _; rw [if_neg h]⟩
theorem op_all : ∀ n (T : mT) (a : Int32), (opnN n T a).1 = nI (opK n T a) ∧ (opnN n T a).2.1 3 = T.1 3 + nI (opK n T a) ∧ (∀ c, c < 2 → T.1 1 = nI c → (opnN n T a).2.1 1 = nI ((c + opK n T a) % 2)) ∧ (∀ k, T.2.1 k = 3 → (opnN n T a).2.2.1 k = 3 ∧ (opnN n T a).2.2.2.1 k = T.2.2.1 k ∧ (opnN n T a).2.2.2.2 k = T.2.2.2 k) ∧ (T.1 0 = T.1 2 → T.1 5 = 0 → (opnN n T a).2.1 0 = T.1 2 ∧ (opnN n T a).2.1 5 = 0) := by
  intro n
  induction n with
  | zero => intro T a; exact ⟨rfl, (Int32.add_zero _).symm, fun c hc h => by show T.1 1 = _; rw [h]; congr 1; show c = (c + 0) % 2; omega, fun k h => ⟨h, rfl, rfl⟩, fun h1 h2 => ⟨h1, h2⟩⟩
  | succ n ih =>
    intro T a
    by_cases h : canO T = true
    · obtain ⟨e1, e2⟩ := op_t (n := n) (a := a) h
      rw [e1, e2]
      obtain ⟨i1, i2, i3, i4, i5⟩ := ih (begT T a) a
      refine ⟨by show (opnN n (begT T a) a).1 + 1 = _; rw [i1, nI_1], ?_, fun c hc hcc => ?_, fun k hk => ?_, fun h1 h2 => ?_⟩
      · show (opnN n (begT T a) a).2.1 3 = _
        rw [i2]
        show T.1 3 + 1 + nI (opK n (begT T a) a) = T.1 3 + nI (opK n (begT T a) a + 1)
        rw [← nI_1, Int32.add_assoc, Int32.add_comm 1]
      · have hb : (begT T a).1 1 = nI ((c + 1) % 2) := by
          show 1 - T.1 1 = _
          rw [hcc]
          rcases (by omega : c = 0 ∨ c = 1) with rfl | rfl <;> rfl
        have z := i3 ((c + 1) % 2) (by omega) hb
        show (opnN n (begT T a) a).2.1 1 = _
        rw [z]
        congr 1
        omega
      · obtain ⟨b1, b2, b3⟩ := beg_3 (a := a) hk
        obtain ⟨c1, c2, c3⟩ := i4 k b1
        exact ⟨c1, c2.trans b2, c3.trans b3⟩
      · exact i5 rfl rfl
    · obtain ⟨e1, e2⟩ := op_f (n := n) (a := a) h
      rw [e1, e2]
      exact ⟨rfl, (Int32.add_zero _).symm, fun c hc h => by show T.1 1 = _; rw [h]; congr 1; omega, fun k h => ⟨h, rfl, rfl⟩, fun h1 h2 => ⟨h1, h2⟩⟩
theorem op_ti : ∀ n (T : mT) (a : Int32) (b : Nat), b + n ≤ 1000 → TI T b → 1 ≤ a → TI (opnN n T a).2 (b + n) ∧ ∃ y y' : Nat, T.1 4 = nI y ∧ (opnN n T a).2.1 4 = nI y' ∧ y ≤ y' ∧ y' ≤ 16 * (b + n) := by
  intro n
  induction n with
  | zero =>
    intro T a b hb h ha
    refine ⟨h, ?_⟩
    obtain ⟨-, -, -, x, y, -, e4, -, -, hy⟩ := h
    exact ⟨y, y, e4, e4, Nat.le_refl _, hy⟩
  | succ n ih =>
    intro T a b hb h ha
    by_cases hc : canO T = true
    · obtain ⟨g1, y, y', g2, g3, g4, g5⟩ := ti_beg h ha hc
      obtain ⟨k1, z, z', k2, k3, k4, k5⟩ := ih (begT T a) a (b + 1) (by omega) g1 ha
      rw [(op_t (n := n) (a := a) hc).1]
      have ez : z = y' := by
        rw [g3] at k2
        exact ((nI_eq (by omega) (by omega)).mp k2).symm
      subst ez
      exact ⟨by rw [show b + (n + 1) = b + 1 + n by omega]; exact k1, y, z', g2, k3, by omega, by omega⟩
    · rw [(op_f (n := n) (a := a) hc).1]
      have h2 := h.mono (show b ≤ b + (n + 1) by omega)
      refine ⟨h2, ?_⟩
      obtain ⟨-, -, -, x, y, -, e4, -, -, hy⟩ := h2
      exact ⟨y, y, e4, e4, Nat.le_refl _, hy⟩
/-! the law: what holds of the gates on its runs -/
def knB (T : mT) (k : Nat) : Bool := decide (k < tsz T) || (T.2.1 k == 3)
theorem tr_ok {N : mN} (hW : WN N) {t : Nat} (ht : t < cnt N) : isTr N (nI t) = true := by
  obtain ⟨hc, hc5⟩ := hW.cn
  unfold isTr
  rw [hc, decide_eq_true_iff]
  exact ⟨nI_pos' (by omega), (nI_ltI (by omega) (by omega)).mpr ht⟩
theorem tr_no {N : mN} (hW : WN N) : isTr N (N.1 3) = false := by
  unfold isTr
  rw [decide_eq_false_iff_not]
  exact fun h => Int32.lt_irrefl h.2
theorem kn_ok {T : mT} (hW : WF T) {k : Nat} (hk : k < 16) : knwT T (nI k) = knB T k := by
  unfold knwT knB
  have h1 : decide (0 ≤ nI k ∧ nI k < T.1 0) = decide (k < tsz T) := decide_eq_decide.mpr (sz_lt hW hk)
  have h2 : decide (0 ≤ nI k ∧ nI k < 16) = true := decide_eq_true ⟨nI_pos' (by omega), nI_lt (b := 16) hk (by decide)⟩
  rw [nI_clamp (by omega), h1, h2, Bool.true_and]
theorem sc_ok {N : mN} (hW : WN N) {t k : Nat} (ht : t < cnt N) (hk : k < 16) : isSc N (nI t) (nI k) = decide (k < tsz (N.2 t)) := by
  unfold isSc
  have hc5 := hW.cn.2
  rw [tr_ok hW ht, nI_clamp (by omega), Bool.true_and]
  exact decide_eq_decide.mpr (sz_lt (hW.2 t ht) hk)
theorem of_no {N : mN} (hW : WN N) {t k : Nat} (ht : t < cnt N) (hk : k < 16) (h : knB (N.2 t) k = false) (w : Int32) : ofA N (nI t) (nI k) w = -1 := by
  have hc5 := hW.cn.2
  unfold ofA
  rw [if_pos (tr_ok hW ht), nI_clamp (by omega), kn_ok (hW.2 t ht) hk, h]
  rfl
theorem of_0 {N : mN} (hW : WN N) {t k : Nat} (ht : t < cnt N) (hk : k < 16) (h : knB (N.2 t) k = true) : ofA N (nI t) (nI k) 0 = (N.2 t).2.1 k := by
  have hc5 := hW.cn.2
  unfold ofA
  rw [if_pos (tr_ok hW ht), nI_clamp (show t < 2 ^ 31 by omega), kn_ok (hW.2 t ht) hk, if_pos h, nI_clamp (by omega)]
  rfl
theorem of_1 {N : mN} (hW : WN N) {t k : Nat} (ht : t < cnt N) (hk : k < 16) (h : knB (N.2 t) k = true) : ofA N (nI t) (nI k) 1 = (N.2 t).2.2.1 k := by
  have hc5 := hW.cn.2
  unfold ofA
  rw [if_pos (tr_ok hW ht), nI_clamp (show t < 2 ^ 31 by omega), kn_ok (hW.2 t ht) hk, if_pos h, nI_clamp (by omega)]
  rfl
theorem of_2 {N : mN} (hW : WN N) {t k : Nat} (ht : t < cnt N) (hk : k < 16) (h : knB (N.2 t) k = true) : ofA N (nI t) (nI k) 2 = (N.2 t).2.2.2 k := by
  have hc5 := hW.cn.2
  unfold ofA
  rw [if_pos (tr_ok hW ht), nI_clamp (show t < 2 ^ 31 by omega), kn_ok (hW.2 t ht) hk, if_pos h, nI_clamp (by omega)]
  rfl
theorem of_3 {N : mN} (hW : WN N) {t k : Nat} (ht : t < cnt N) (hk : k < 16) (h : knB (N.2 t) k = true) : ofA N (nI t) (nI k) 3 = bI (bt ((N.2 t).1 5) k) := by
  have hc5 := hW.cn.2
  unfold ofA
  rw [if_pos (tr_ok hW ht), nI_clamp (show t < 2 ^ 31 by omega), kn_ok (hW.2 t ht) hk, if_pos h, ← bt_and1 _ (show k < 32 by omega)]
  rfl
theorem oft {N : mN} (hW : WN N) {t : Nat} (ht : t < cnt N) : ofTA N (nI t) 0 = (N.2 t).1 0 ∧ ofTA N (nI t) 1 = (N.2 t).1 1 ∧ ofTA N (nI t) 2 = (N.2 t).1 2 ∧ ofTA N (nI t) 3 = szF (awM (N.2 t)) 16 ∧ ofTA N (nI t) 4 = (N.2 t).1 3 ∧ ofTA N (nI t) 5 = mkm (fun k => decide (k < tsz (N.2 t)) && ((N.2 t).2.1 k == 0)) 16 ∧ ofTA N (nI t) 6 = hm (N.2 t) 1 ∧ ofTA N (nI t) 7 = hm (N.2 t) 2 ∧ ofTA N (nI t) 8 = hm (N.2 t) 3 ∧ ofTA N (nI t) 9 = hm (N.2 t) 4 ∧ ofTA N (nI t) 10 = (N.2 t).1 5 ∧ ofTA N (nI t) 11 = (N.2 t).1 4 := by
  have hc5 := hW.cn.2
  refine ⟨?_, ?_, ?_, ?_, ?_, ?_, ?_, ?_, ?_, ?_, ?_, ?_⟩ <;> (unfold ofTA; rw [if_pos (tr_ok hW ht), nI_clamp (show t < 2 ^ 31 by omega)]; rfl)
def NI (N : mN) (b : Nat) : Prop := WN N ∧ (∀ t, t < cnt N → TI (N.2 t) b) ∧ (∃ m : Nat, m ≤ b ∧ N.1 2 = nI m) ∧ 1 ≤ N.1 1 ∧ 2 ≤ cnt N
/-- the class's cells say N, between the law's calls -/
def LI (S : mS) (N : mN) : Prop := SP S 1 N ∧ (∃ n h, HP S n h) ∧ S 185 1 = nI 0
end
section
/-! the law: the small methods, and what the class answers to the law -/
section ROWQ
variable {G : mG} {d : Nat} {M : mM} {Q : Option Int32 → mS → Prop} {pc : Nat} {lo : List (Nat × Value)} {st : List Value} {S : mS}
theorem r_ldc {i : Nat} {v : Int32} (hk : KI M.1.cls i v) (hd : decode M.2.1 pc = .ok (.ldc i, 2)) (k : At G d M Q (pc + 2) lo (.int v :: st) S) : At G d M Q pc lo st S := by
  intro p e s m args below meth c A H locs ls C hl hP hD hS
  exact lv_ldc C.1 C.2.1 C.2.2.2.2.1 (C.2.2.2.2.2.1 _ (List.mem_cons_of_mem _ hk)) hd (k _ _ _ _ _ _ _ _ _ _ _ _ C hl hP hD hS)
end ROWQ
section ROWZ
variable {G : mG} {f wd nc ns : Nat} {M : mM} {Q : Option Int32 → mS → Prop} {pc : Nat} {lo : List (Nat × Value)} {st : List Value} {S : mZ}
theorem z_drop (k : Lt G f wd nc ns M Q pc lo st (S.1, [], S.2.2)) : Lt G f wd nc ns M Q pc lo st S := by
  intro p e s m args below meth c A H locs ls C hl hP hD hS
  have hP1 : va_P G.2.1 mcl (zW G (S.1, [], S.2.2)) H := zP (Z := S) hP
  have hD1 : va_D A (zW G (S.1, [], S.2.2)) := zD (Z := S) hD
  exact k _ _ _ _ _ _ _ _ _ _ _ _ C hl hP1 hD1 hS
end ROWZ
def lowN (x : Int32) (n : Nat) : Nat := x.toBitVec.toNat % 2 ^ 31 % n
theorem lowN_lt {x : Int32} {n : Nat} (h : 0 < n) : lowN x n < n := Nat.mod_lt _ h
theorem t_L_low {G : mG} {d : Nat} {S : mS} {x : Int32} {n : Nat} (h0 : 0 < n) (h1 : n < 1000) : Call G d M_L_low [.int x, .int (nI n)] S (fun v u => v = some (nI (lowN x n)) ∧ u = S) := by
  refine call_of (lo := [(0, .int x), (1, .int (nI n))]) (by decide +kernel) (Nat.le_of_ble_eq_true rfl) rfl ?_
  have hn : ¬ nI n = 0 := nI_ne0 h0 (by omega)
  have e1 : x &&& 2147483647 = nI (x.toBitVec.toNat % 2 ^ 31) := pk_and x 31 (by decide +kernel)
  have hl : x.toBitVec.toNat % 2 ^ 31 < 2 ^ 31 := Nat.mod_lt _ (by decide)
  have e2 : (x &&& 2147483647) - (x &&& 2147483647) / nI n * nI n = nI (lowN x n) := by
    rw [e1]; exact pk_rem hl h0 (by omega)
  refine r_iload_n dL_low_0 0 rfl ?_
  refine r_ldc k_L_8 dL_low_1 ?_
  refine r_iand dL_low_3 ?_
  refine r_iload_n dL_low_4 1 rfl ?_
  refine r_irem dL_low_5 hn ?_
  refine r_iret rfl dL_low_6 ?_
  exact ⟨congrArg some e2, rfl⟩
theorem lp_L_size {G : mG} {d : Nat} {S : mS} {x : Int32} : ∀ n k, n + k = 16 → At G d M_L_size (fun v u => v = some (szF x 16) ∧ u = S) 4 [(0, .int x), (1, .int (szF x k)), (2, .int (nI k))] [] S := by
  intro n
  induction n with
  | zero =>
    intro k hk
    obtain rfl : k = 16 := by omega
    refine r_iload_n dL_size_4 2 rfl ?_
    refine r_bipush dL_size_5 (v := 16) (by decide +kernel) ?_
    refine r_icmp_ge dL_size_7 (tgt := 24) (by decide) (fun h7 => ?_) (fun h7 => ?_)
    · --t
      refine r_iload_n dL_size_24 1 rfl ?_
      refine r_iret rfl dL_size_25 ?_
      exact ⟨rfl, rfl⟩
    · --f
      exact absurd (show (16 : Int32) ≤ nI 16 by decide) h7
  | succ n ih =>
    intro k hk
    have hk16 : k < 16 := by omega
    refine r_iload_n dL_size_4 2 rfl ?_
    refine r_bipush dL_size_5 (v := 16) (by decide +kernel) ?_
    refine r_icmp_ge dL_size_7 (tgt := 24) (by decide) (fun h7 => ?_) (fun h7 => ?_)
    · --t
      exact absurd h7 (c16 hk16)
    · --f
      refine r_iload_n dL_size_10 1 rfl ?_
      refine r_iload_n dL_size_11 0 rfl ?_
      refine r_iload_n dL_size_12 2 rfl ?_
      refine r_ishr dL_size_13 ?_
      refine r_iconst dL_size_14 (v := 1) rfl ?_
      refine r_iand dL_size_15 ?_
      refine r_iadd dL_size_16 ?_
      refine r_istore_n (lo2 := [(0, _), (1, _), (2, _)]) dL_size_17 rfl (Nat.le_of_ble_eq_true rfl) [1, 0, 2] rfl ?_
      refine r_iinc (lo2 := [(0, _), (1, _), (2, _)]) dL_size_18 2 rfl (w := 1) rfl (Nat.le_of_ble_eq_true rfl) [1, 2, 0] rfl ?_
      refine r_goto dL_size_21 (tgt := 4) (by decide) ?_
      rw [nI_1]
      exact ih (k + 1) (by omega)
theorem t_L_size {G : mG} {d : Nat} {S : mS} {x : Int32} : Call G d M_L_size [.int x] S (fun v u => v = some (szF x 16) ∧ u = S) := by
  refine call_of (lo := [(0, .int x)]) (by decide +kernel) (Nat.le_of_ble_eq_true rfl) rfl ?_
  refine r_iconst dL_size_0 (v := 0) rfl ?_
  refine r_istore_n (lo2 := [(0, _), (1, _)]) dL_size_1 rfl (Nat.le_of_ble_eq_true rfl) [1, 0] rfl ?_
  refine r_iconst dL_size_2 (v := 0) rfl ?_
  refine r_istore_n (lo2 := [(0, _), (1, _), (2, _)]) dL_size_3 rfl (Nat.le_of_ble_eq_true rfl) [1, 2, 0] rfl ?_
  exact lp_L_size 16 0 (by omega)
section QUE
variable {G : mG} {S : mS} {N : mN} {t k : Nat}
theorem q_ofn (hW : WN N) (hS : LI S N) (ht : t < cnt N) (hk : k < 16) (h : knB (N.2 t) k = false) (w : Int32) : Call G 7 M_X4_of [rv G 0, .int (nI t), .int (nI k), .int w] S (fun v u => v = some (-1) ∧ u = S) := by
  have z := t_X4_of (G := G) (d := 4) (t := nI t) (k := nI k) (w := w) hW hS.1
  rw [of_no hW ht hk h] at z; exact z
theorem q_of0 (hW : WN N) (hS : LI S N) (ht : t < cnt N) (hk : k < 16) (h : knB (N.2 t) k = true) : Call G 7 M_X4_of [rv G 0, .int (nI t), .int (nI k), .int 0] S (fun v u => v = some ((N.2 t).2.1 k) ∧ u = S) := by
  have z := t_X4_of (G := G) (d := 4) (t := nI t) (k := nI k) (w := 0) hW hS.1
  rw [of_0 hW ht hk h] at z; exact z
theorem q_of1 (hW : WN N) (hS : LI S N) (ht : t < cnt N) (hk : k < 16) (h : knB (N.2 t) k = true) : Call G 7 M_X4_of [rv G 0, .int (nI t), .int (nI k), .int 1] S (fun v u => v = some ((N.2 t).2.2.1 k) ∧ u = S) := by
  have z := t_X4_of (G := G) (d := 4) (t := nI t) (k := nI k) (w := 1) hW hS.1
  rw [of_1 hW ht hk h] at z; exact z
theorem q_of2 (hW : WN N) (hS : LI S N) (ht : t < cnt N) (hk : k < 16) (h : knB (N.2 t) k = true) : Call G 7 M_X4_of [rv G 0, .int (nI t), .int (nI k), .int 2] S (fun v u => v = some ((N.2 t).2.2.2 k) ∧ u = S) := by
  have z := t_X4_of (G := G) (d := 4) (t := nI t) (k := nI k) (w := 2) hW hS.1
  rw [of_2 hW ht hk h] at z; exact z
theorem q_of3 (hW : WN N) (hS : LI S N) (ht : t < cnt N) (hk : k < 16) (h : knB (N.2 t) k = true) : Call G 7 M_X4_of [rv G 0, .int (nI t), .int (nI k), .int 3] S (fun v u => v = some (bI (bt ((N.2 t).1 5) k)) ∧ u = S) := by
  have z := t_X4_of (G := G) (d := 4) (t := nI t) (k := nI k) (w := 3) hW hS.1
  rw [of_3 hW ht hk h] at z; exact z
theorem q_t (hW : WN N) (hS : LI S N) {w x : Int32} (h : ofTA N (nI t) w = x) : Call G 7 M_X4_ofTroop [rv G 0, .int (nI t), .int w] S (fun v u => v = some x ∧ u = S) := by
  have z := t_X4_ofTroop (G := G) (d := 4) (t := nI t) (w := w) hW hS.1
  rw [h] at z; exact z
theorem q_wai (hW : WN N) (hS : LI S N) (ht : t < cnt N) : Call G 7 M_X4_waitsFor [rv G 0, .int (nI t)] S (fun v u => v = some (awM (N.2 t)) ∧ u = S) := by
  have z := t_X4_waitsFor (G := G) (d := 5) (t := nI t) hW hS.1
  have hc5 := hW.cn.2
  unfold waiA at z
  rw [if_pos (tr_ok hW ht), nI_clamp (by omega)] at z; exact z
theorem q_wain (hW : WN N) (hS : LI S N) : Call G 7 M_X4_waitsFor [rv G 0, .int (N.1 3)] S (fun v u => v = some (-1) ∧ u = S) := by
  have z := t_X4_waitsFor (G := G) (d := 5) (t := N.1 3) hW hS.1
  unfold waiA at z
  rw [tr_no hW] at z; exact z
theorem q_cnt (hW : WN N) (hS : LI S N) {w x : Int32} (h : ∀ n, cntA N 0 n w = x) : Call G 7 M_X4_count [rv G 0, .int w] S (fun v u => v = some x ∧ u = S) := by
  obtain ⟨h1, ⟨n, hh, h2⟩, h3⟩ := hS
  have en : S 19 2 = nI n := by obtain ⟨o, -, ⟨-, z⟩, -⟩ := h2; exact z
  have z := t_X4_count (G := G) (d := 5) (w := w) (n := n) (len := 0) hW h1 en h3
  rw [h n] at z; exact z
theorem q_why (hW : WN N) (hS : LI S N) {x y c : Int32} : Call G 7 M_X4_why [rv G 0, .int x, .int y, .int c] S (fun v u => v = some (whyA N x y c) ∧ u = S) := t_X4_why (d := 5) hW hS.1
theorem LI.step {u : mS} {N' : mN} {n : Nat} {h : Nat → mN} (hS : LI S N) (h1 : SP u 1 N') (h2 : HP u n h) (h3 : FC S u) : LI u N' := ⟨h1, ⟨n, h, h2⟩, by rw [h3 185 (by omega)]; exact hS.2.2⟩
theorem k_come (hW : WN N) (hS : LI S N) {x y c : Int32} : Call G 7 M_X4_come [rv G 0, .int x, .int y, .int c] S (fun v u => v = some (comO N x y c).1 ∧ LI u (comO N x y c).2) := by
  obtain ⟨n, h, hH⟩ := hS.2.1
  exact call_mono (t_X4_come (d := 0) hW hS.1 hH) (fun v u z => ⟨z.1, hS.step z.2.1 z.2.2.1 z.2.2.2⟩)
theorem k_lose (hW : WN N) (hS : LI S N) {x y : Int32} : Call G 7 M_X4_lose [rv G 0, .int x, .int y] S (fun v u => v = some (losO N x y).1 ∧ LI u (losO N x y).2) := by
  obtain ⟨n, h, hH⟩ := hS.2.1
  exact call_mono (t_X4_lose (d := 0) hW hS.1 hH) (fun v u z => ⟨z.1, hS.step z.2.1 z.2.2.1 z.2.2.2⟩)
theorem k_find (hW : WN N) (hS : LI S N) {x y : Int32} : Call G 7 M_X4_find [rv G 0, .int x, .int y] S (fun v u => v = some (finO N x y).1 ∧ LI u (finO N x y).2) := by
  obtain ⟨n, h, hH⟩ := hS.2.1
  exact call_mono (t_X4_find (d := 0) hW hS.1 hH) (fun v u z => ⟨z.1, hS.step z.2.1 z.2.2.1 z.2.2.2⟩)
theorem k_resize (hW : WN N) (hS : LI S N) {x y : Int32} : Call G 7 M_X4_resize [rv G 0, .int x, .int y] S (fun v u => v = some (rszO N x y).1 ∧ LI u (rszO N x y).2) := by
  obtain ⟨n, h, hH⟩ := hS.2.1
  exact call_mono (t_X4_resize (d := 0) hW hS.1 hH) (fun v u z => ⟨z.1, hS.step z.2.1 z.2.2.1 z.2.2.2⟩)
theorem k_set (hW : WN N) (hS : LI S N) {x y : Int32} : Call G 7 M_X4_set [rv G 0, .int x, .int y] S (fun v u => v = some (setO N x y).1 ∧ LI u (setO N x y).2) := by
  obtain ⟨n, h, hH⟩ := hS.2.1
  exact call_mono (t_X4_set (d := 0) hW hS.1 hH) (fun v u z => ⟨z.1, hS.step z.2.1 z.2.2.1 z.2.2.2⟩)
theorem k_troop (hW : WN N) (hS : LI S N) {x : Int32} : Call G 7 M_X4_troop [rv G 0, .int x] S (fun v u => v = some (addO N x).1 ∧ LI u (addO N x).2) := by
  obtain ⟨n, h, hH⟩ := hS.2.1
  exact call_mono (t_X4_troop (d := 0) hW hS.1 hH) (fun v u z => ⟨z.1, hS.step z.2.1 z.2.2.1 z.2.2.2⟩)
theorem k_pass (hW : WN N) (hS : LI S N) {x : Int32} : Call G 7 M_X4_pass [rv G 0, .int x] S (fun v u => v = some (pasO N x).1 ∧ LI u (pasO N x).2) := by
  obtain ⟨n, h, hH⟩ := hS.2.1
  exact call_mono (t_X4_pass (d := 0) hW hS.1 hH) (fun v u z => ⟨z.1, hS.step z.2.1 z.2.2.1 z.2.2.2⟩)
end QUE
end
section
/-! the law: told, what is told of each scout, and sums -/
theorem mk_s {p : Nat → Bool} {k : Nat} {v : Int32} (h : v = if p k = true then (1 : Int32) <<< (nI k &&& 31) else 0) : mkm p k ||| v = mkm p (k + 1) := by rw [h]; rfl
theorem mk_n {p : Nat → Bool} {k : Nat} (h : p k = false) : mkm p (k + 1) = mkm p k := by
  show mkm p k ||| (if p k = true then _ else 0) = _
  rw [h, if_neg (by decide), Int32.or_zero]
theorem bI_sh (b : Bool) {k : Nat} (hk : k < 16) : bI b <<< (nI k &&& 31) = if b = true then (1 : Int32) <<< (nI k &&& 31) else 0 := by
  cases b
  · rw [bI_f, if_neg (by decide)]
    refine b_ext fun i hi => ?_
    rw [b_shl k (by omega) 0 hi, b_0, b_0, Bool.and_false]
  · rw [bI_t, if_pos rfl]
theorem f_up {T : mT} {k v : Nat} {f : Nat → Int32} (hkn : knB T k = true) (hv : T.2.1 k = nI v) (hv5 : v < 5) (hf : ∀ h, h < 5 → f h = mkm (fun i => knB T i && (T.2.1 i == nI h)) k) : ∀ h, h < 5 → upd f v (f v ||| ((1 : Int32) <<< (nI k &&& 31))) h = mkm (fun i => knB T i && (T.2.1 i == nI h)) (k + 1) := by
  intro h h5
  unfold upd
  by_cases e : h = v
  · subst e
    rw [if_pos rfl, hf h h5]
    exact mk_s (by rw [hkn, hv]; simp)
  · rw [if_neg e, hf h h5]
    refine (mk_n ?_).symm
    have : ¬ nI v = nI h := fun z => e ((nI_eq (by omega) (by omega)).mp z).symm
    rw [hv, beq_eq_false_iff_ne.mpr this, Bool.and_false]
theorem f_no {T : mT} {k : Nat} {f : Nat → Int32} (hkn : knB T k = false) (hf : ∀ h, h < 5 → f h = mkm (fun i => knB T i && (T.2.1 i == nI h)) k) : ∀ h, h < 5 → f h = mkm (fun i => knB T i && (T.2.1 i == nI h)) (k + 1) := fun h h5 => by
  rw [hf h h5]
  exact (mk_n (by rw [hkn, Bool.false_and])).symm
theorem f_sets {T : mT} (hW : WF T) : mkm (fun i => knB T i && (T.2.1 i == nI 0)) 16 = mkm (fun k => decide (k < tsz T) && (T.2.1 k == 0)) 16 ∧ ∀ h, 1 ≤ h → h < 5 → mkm (fun i => knB T i && (T.2.1 i == nI h)) 16 = hm T (nI h) := by
  refine ⟨mkm_congr 16 fun k hk => ?_, fun h h1 h5 => mkm_congr 16 fun k hk => ?_⟩
  · unfold knB
    show ((decide (k < tsz T) || T.2.1 k == 3) && (T.2.1 k == 0)) = (decide (k < tsz T) && (T.2.1 k == 0))
    by_cases e : T.2.1 k = 0
    · rw [e]; simp
    · rw [beq_eq_false_iff_ne.mpr e]; simp
  · by_cases e : T.2.1 k = nI h
    · have hz := (hW.2.2 k hk).2.1
      have : knB T k = true := by
        unfold knB
        rw [Bool.or_eq_true, decide_eq_true_iff]
        rcases Nat.lt_or_ge k (tsz T) with z | z
        · exact Or.inl z
        · right
          rcases hz z with y | y
          · rw [e, show (0 : Int32) = nI 0 from rfl, nI_eq (by omega) (by omega)] at y
            omega
          · rw [y]; rfl
      rw [this, e]; simp
    · rw [beq_eq_false_iff_ne.mpr e]; simp
theorem aw_no {T : mT} {k : Nat} (h : (¬ k < tsz T) ∨ T.2.1 k = 1 ∨ bt (T.1 5) k = true) : awp T k = false := by
  unfold awp
  rcases h with h | h | h
  · rw [decide_eq_false h]; simp
  · rw [h]; simp
  · rw [h]; simp
theorem aw_yes {T : mT} {k : Nat} (h1 : k < tsz T) (h2 : ¬ T.2.1 k = 1) (h3 : bt (T.1 5) k = false) : awp T k = true := by
  unfold awp
  rw [decide_eq_true h1, beq_eq_false_iff_ne.mpr h2, h3]; rfl
theorem s_struck {T : mT} {b : Nat} (h : TI T b) : mkm (fun i => knB T i && bt (T.1 5) i) 16 = T.1 5 := by
  have hW := h.1
  obtain ⟨s, e1, e2, e3, e4⟩ := hW.sz
  refine (mkm_eq (fun i hi => ?_) (fun i h1 h2 => ?_)).symm
  · cases hb : bt (T.1 5) i
    · simp
    · have := h.2.2.1 i (by omega) hb
      unfold knB
      rw [decide_eq_true this]; rfl
  · cases hb : bt (T.1 5) i
    · rfl
    · have := h.2.2.1 i h2 hb
      omega
section TOLD
variable {G : mG} {S : mS} {N : mN} {t b q kc ks : Nat} {x1 x2 x3 : Int32} {Q : Option Int32 → mS → Prop}
theorem lp_told1 (hN : NI N b) (hS : LI S N) (ht : t < cnt N) (hx : ∀ f : Nat → Int32, (∀ h, h < 5 → f h = mkm (fun i => knB (N.2 t) i && ((N.2 t).2.1 i == nI h)) 16) → Lt G 8 240 5 25 M_L_told Q 214 [(0, rv G 0), (1, .int x1), (2, .int x2), (3, .int x3), (4, .int (nI t)), (5, .ref q), (6, .int ((N.2 t).1 5)), (7, .int (awM (N.2 t)))] [] (S, [(q, 5, f)], kc, ks)) : ∀ n k (f : Nat → Int32) m6 m7, n + k = 16 → (∀ h, h < 5 → f h = mkm (fun i => knB (N.2 t) i && ((N.2 t).2.1 i == nI h)) k) → m6 = mkm (fun i => knB (N.2 t) i && bt ((N.2 t).1 5) i) k → m7 = mkm (awp (N.2 t)) k → Lt G 8 240 5 25 M_L_told Q 33 [(0, rv G 0), (1, .int x1), (2, .int x2), (3, .int x3), (4, .int (nI t)), (5, .ref q), (6, .int m6), (7, .int m7), (8, .int (nI k))] [] (S, [(q, 5, f)], kc, ks) := by
  have hW := hN.1
  have hT := hN.2.1 t ht
  have hWT := hT.1
  obtain ⟨s, e1, e2, e3, e4⟩ := hWT.sz
  intro n
  induction n with
  | zero =>
    intro k f m6 m7 hk hf h6 h7
    obtain rfl : k = 16 := by omega
    obtain rfl : m6 = (N.2 t).1 5 := h6.trans (s_struck hT)
    obtain rfl : m7 = awM (N.2 t) := h7
    refine z_iload dL_told_33 8 rfl ?_
    refine z_bipush dL_told_35 (v := 16) (by decide +kernel) ?_
    refine z_icmp_ge dL_told_37 (tgt := 214) (by decide) (fun h37 => ?_) (fun h37 => by first | exact absurd (show (16 : Int32) ≤ nI 16 by decide) h37 | exact absurd h37 (show (16 : Int32) ≤ nI 16 by decide))
    exact z_sub [0, 1, 2, 3, 4, 5, 6, 7] rfl (hx f hf)
  | succ n ih =>
    intro k f m6 m7 hk hf h6 h7
    have hk16 : k < 16 := by omega
    have b37 : ¬ ((16 : Int32) ≤ nI k) := c16 hk16
    have cs := q_t (G := G) (t := t) hW hS (oft hW ht).1
    rw [e2] at cs
    cases hkn : knB (N.2 t) k
    · have c0 := q_ofn (G := G) hW hS ht hk16 hkn 0
      have hns : ¬ k < tsz (N.2 t) := fun z => by unfold knB at hkn; rw [decide_eq_true z] at hkn; cases hkn
      have b60 : nI s ≤ nI k := nI_le (by omega) (by omega)
      have h6' : m6 = mkm (fun i => knB (N.2 t) i && bt ((N.2 t).1 5) i) (k + 1) := by rw [h6]; exact (mk_n (by rw [hkn, Bool.false_and])).symm
      have h7' : m7 = mkm (awp (N.2 t)) (k + 1) := by rw [h7]; exact (mk_n (aw_no (Or.inl hns))).symm
      refine z_iload dL_told_33 8 rfl ?_
      refine z_bipush dL_told_35 (v := 16) (by decide +kernel) ?_
      refine z_icmp_ge dL_told_37 (tgt := 214) (by decide) (fun h37 => by first | exact absurd (b37) h37 | exact absurd h37 (b37)) (fun h37 => ?_)
      refine z_aload_n dL_told_40 0 rfl ?_
      refine z_iload dL_told_41 4 rfl ?_
      refine z_iload dL_told_43 8 rfl ?_
      refine z_iconst dL_told_45 (v := 0) rfl ?_
      refine z_callVF (d := 7) (As := [_, _, _]) c_X4_of rfl l_L_15 rfl rfl rfl (Nat.le_of_ble_eq_true rfl) ⟨Nat.le_of_ble_eq_true rfl, Nat.le_of_ble_eq_true rfl⟩ dL_told_46 c0 ?_
      refine z_istore (lo2 := [(0, _), (1, _), (2, _), (3, _), (4, _), (5, _), (6, _), (7, _), (8, _), (9, _)]) dL_told_49 (Nat.le_of_ble_eq_true rfl) [1, 2, 3, 4, 5, 6, 7, 8, 9, 0] rfl ?_
      refine z_iload dL_told_51 8 rfl ?_
      refine z_aload_n dL_told_53 0 rfl ?_
      refine z_iload dL_told_54 4 rfl ?_
      refine z_iconst dL_told_56 (v := 0) rfl ?_
      refine z_callVF (d := 7) (As := [_, _]) c_X4_ofTroop rfl l_L_19 rfl rfl rfl (Nat.le_of_ble_eq_true rfl) ⟨Nat.le_of_ble_eq_true rfl, Nat.le_of_ble_eq_true rfl⟩ dL_told_57 cs ?_
      refine z_icmp_ge dL_told_60 (tgt := 67) (by decide) (fun h60 => ?_) (fun h60 => by first | exact absurd (b60) h60 | exact absurd h60 (b60))
      refine z_iconst dL_told_67 (v := 0) rfl ?_
      refine z_istore (lo2 := [(0, _), (1, _), (2, _), (3, _), (4, _), (5, _), (6, _), (7, _), (8, _), (9, _), (10, _)]) dL_told_68 (Nat.le_of_ble_eq_true rfl) [1, 2, 3, 4, 5, 6, 7, 8, 9, 10, 0] rfl ?_
      refine z_iload dL_told_70 9 rfl ?_
      refine z_if_ge dL_told_72 (tgt := 83) (by decide) (fun h72 => by first | exact absurd (by decide) h72 | exact absurd h72 (by decide)) (fun h72 => ?_)
      refine z_iload dL_told_75 10 rfl ?_
      refine z_if_eq dL_told_77 (tgt := 96) (by decide) (fun h77 => ?_) (fun h77 => by first | exact absurd (rfl) h77 | exact absurd h77 (rfl))
      refine z_iload dL_told_96 9 rfl ?_
      refine z_if_ge dL_told_98 (tgt := 104) (by decide) (fun h98 => by first | exact absurd (by decide) h98 | exact absurd h98 (by decide)) (fun h98 => ?_)
      refine z_goto dL_told_101 (tgt := 208) (by decide) ?_
      refine z_iinc (lo2 := [(0, _), (1, _), (2, _), (3, _), (4, _), (5, _), (6, _), (7, _), (8, _), (9, _), (10, _)]) dL_told_208 8 rfl (w := 1) rfl (Nat.le_of_ble_eq_true rfl) [1, 2, 3, 4, 5, 6, 7, 8, 0, 9, 10] rfl ?_
      refine z_goto dL_told_211 (tgt := 33) (by decide) ?_
      rw [nI_1]
      exact z_sub [0, 1, 2, 3, 4, 5, 6, 7, 8] rfl (ih (k + 1) _ _ _ (by omega) (f_no hkn hf) (h6') (h7'))
    · have c0 := q_of0 (G := G) hW hS ht hk16 hkn
      have c1 := q_of1 (G := G) hW hS ht hk16 hkn
      have c3 := q_of3 (G := G) hW hS ht hk16 hkn
      obtain ⟨p1, p2, -⟩ := hT.2.1 k hk16
      have h6' : m6 ||| (bI (bt ((N.2 t).1 5) k) <<< (nI k &&& 31)) = mkm (fun i => knB (N.2 t) i && bt ((N.2 t).1 5) i) (k + 1) := by
        rw [h6]; exact mk_s (by rw [bI_sh _ hk16, hkn, Bool.true_and])
      by_cases hlt : k < tsz (N.2 t)
      · have b60 : ¬ nI s ≤ nI k := nI_ge (by omega) (by omega)
        have a0 : bI (bt ((N.2 t).1 5) k) ≠ 0 → m7 ||| 0 = mkm (awp (N.2 t)) (k + 1) := fun z => by
          rw [bI_n0] at z
          rw [h7, Int32.or_zero]; exact (mk_n (aw_no (Or.inr (Or.inr z)))).symm
        have a1 : ¬ (N.2 t).2.1 k = 1 → bI (bt ((N.2 t).1 5) k) = 0 → m7 ||| ((1 : Int32) <<< (nI k &&& 31)) = mkm (awp (N.2 t)) (k + 1) := fun y z => by
          rw [bI_0] at z
          rw [h7]; exact mk_s (by rw [aw_yes hlt y z]; rfl)
        rcases (hWT.2.2 k hk16).1 with hv | hv | hv | hv | hv
        ·
          rw [hv] at c0
          rw [p2 (by simp [hv])] at c1
          refine z_iload dL_told_33 8 rfl ?_
          refine z_bipush dL_told_35 (v := 16) (by decide +kernel) ?_
          refine z_icmp_ge dL_told_37 (tgt := 214) (by decide) (fun h37 => by first | exact absurd (b37) h37 | exact absurd h37 (b37)) (fun h37 => ?_)
          refine z_aload_n dL_told_40 0 rfl ?_
          refine z_iload dL_told_41 4 rfl ?_
          refine z_iload dL_told_43 8 rfl ?_
          refine z_iconst dL_told_45 (v := 0) rfl ?_
          refine z_callVF (d := 7) (As := [_, _, _]) c_X4_of rfl l_L_15 rfl rfl rfl (Nat.le_of_ble_eq_true rfl) ⟨Nat.le_of_ble_eq_true rfl, Nat.le_of_ble_eq_true rfl⟩ dL_told_46 c0 ?_
          refine z_istore (lo2 := [(0, _), (1, _), (2, _), (3, _), (4, _), (5, _), (6, _), (7, _), (8, _), (9, _)]) dL_told_49 (Nat.le_of_ble_eq_true rfl) [1, 2, 3, 4, 5, 6, 7, 8, 9, 0] rfl ?_
          refine z_iload dL_told_51 8 rfl ?_
          refine z_aload_n dL_told_53 0 rfl ?_
          refine z_iload dL_told_54 4 rfl ?_
          refine z_iconst dL_told_56 (v := 0) rfl ?_
          refine z_callVF (d := 7) (As := [_, _]) c_X4_ofTroop rfl l_L_19 rfl rfl rfl (Nat.le_of_ble_eq_true rfl) ⟨Nat.le_of_ble_eq_true rfl, Nat.le_of_ble_eq_true rfl⟩ dL_told_57 cs ?_
          refine z_icmp_ge dL_told_60 (tgt := 67) (by decide) (fun h60 => by first | exact absurd (b60) h60 | exact absurd h60 (b60)) (fun h60 => ?_)
          refine z_iconst dL_told_63 (v := 1) rfl ?_
          refine z_goto dL_told_64 (tgt := 68) (by decide) ?_
          refine z_istore (lo2 := [(0, _), (1, _), (2, _), (3, _), (4, _), (5, _), (6, _), (7, _), (8, _), (9, _), (10, _)]) dL_told_68 (Nat.le_of_ble_eq_true rfl) [1, 2, 3, 4, 5, 6, 7, 8, 9, 10, 0] rfl ?_
          refine z_iload dL_told_70 9 rfl ?_
          refine z_if_ge dL_told_72 (tgt := 83) (by decide) (fun h72 => ?_) (fun h72 => by first | exact absurd (by decide) h72 | exact absurd h72 (by decide))
          refine z_iload dL_told_83 10 rfl ?_
          refine z_if_ne dL_told_85 (tgt := 96) (by decide) (fun h85 => ?_) (fun h85 => by first | exact absurd (by decide) h85 | exact absurd h85 (by decide))
          refine z_iload dL_told_96 9 rfl ?_
          refine z_if_ge dL_told_98 (tgt := 104) (by decide) (fun h98 => ?_) (fun h98 => by first | exact absurd (by decide) h98 | exact absurd h98 (by decide))
          refine z_aloadr dL_told_104 5 rfl ?_
          refine z_iload dL_told_106 9 rfl ?_
          refine z_dup2 dL_told_108 rfl rfl ?_
          refine z_iald (j := 0) (j0 := 0) rfl rfl (by decide) (by decide) dL_told_109 ?_
          refine z_iconst dL_told_110 (v := 1) rfl ?_
          refine z_iload dL_told_111 8 rfl ?_
          refine z_ishl dL_told_113 ?_
          refine z_ior dL_told_114 ?_
          refine z_iast (j := 0) (j0 := 0) rfl rfl (by decide) (by decide) dL_told_115 ?_
          refine z_iload dL_told_116 6 rfl ?_
          refine z_aload_n dL_told_118 0 rfl ?_
          refine z_iload dL_told_119 4 rfl ?_
          refine z_iload dL_told_121 8 rfl ?_
          refine z_iconst dL_told_123 (v := 3) rfl ?_
          refine z_callVF (d := 7) (As := [_, _, _]) c_X4_of rfl l_L_15 rfl rfl rfl (Nat.le_of_ble_eq_true rfl) ⟨Nat.le_of_ble_eq_true rfl, Nat.le_of_ble_eq_true rfl⟩ dL_told_124 c3 ?_
          refine z_iload dL_told_127 8 rfl ?_
          refine z_ishl dL_told_129 ?_
          refine z_ior dL_told_130 ?_
          refine z_istore (lo2 := [(0, _), (1, _), (2, _), (3, _), (4, _), (5, _), (6, _), (7, _), (8, _), (9, _), (10, _)]) dL_told_131 (Nat.le_of_ble_eq_true rfl) [1, 2, 3, 4, 5, 6, 0, 7, 8, 9, 10] rfl ?_
          refine z_iload dL_told_133 7 rfl ?_
          refine z_iload dL_told_135 10 rfl ?_
          refine z_if_eq dL_told_137 (tgt := 165) (by decide) (fun h137 => by first | exact absurd (by decide) h137 | exact absurd h137 (by decide)) (fun h137 => ?_)
          refine z_iload dL_told_140 9 rfl ?_
          refine z_iconst dL_told_142 (v := 1) rfl ?_
          refine z_icmp_eq dL_told_143 (tgt := 165) (by decide) (fun h143 => by first | exact absurd (by decide) h143 | exact absurd h143 (by decide)) (fun h143 => ?_)
          refine z_aload_n dL_told_146 0 rfl ?_
          refine z_iload dL_told_147 4 rfl ?_
          refine z_iload dL_told_149 8 rfl ?_
          refine z_iconst dL_told_151 (v := 3) rfl ?_
          refine z_callVF (d := 7) (As := [_, _, _]) c_X4_of rfl l_L_15 rfl rfl rfl (Nat.le_of_ble_eq_true rfl) ⟨Nat.le_of_ble_eq_true rfl, Nat.le_of_ble_eq_true rfl⟩ dL_told_152 c3 ?_
          refine z_if_ne dL_told_155 (tgt := 165) (by decide) (fun h155 => ?_) (fun h155 => ?_)
          · --t
            refine z_iconst dL_told_165 (v := 0) rfl ?_
            refine z_ior dL_told_166 ?_
            refine z_istore (lo2 := [(0, _), (1, _), (2, _), (3, _), (4, _), (5, _), (6, _), (7, _), (8, _), (9, _), (10, _)]) dL_told_167 (Nat.le_of_ble_eq_true rfl) [1, 2, 3, 4, 5, 6, 7, 0, 8, 9, 10] rfl ?_
            refine z_iload dL_told_169 9 rfl ?_
            refine z_iconst dL_told_171 (v := 3) rfl ?_
            refine z_icmp_ge dL_told_172 (tgt := 187) (by decide) (fun h172 => by first | exact absurd (by decide) h172 | exact absurd h172 (by decide)) (fun h172 => ?_)
            refine z_aload_n dL_told_175 0 rfl ?_
            refine z_iload dL_told_176 4 rfl ?_
            refine z_iload dL_told_178 8 rfl ?_
            refine z_iconst dL_told_180 (v := 1) rfl ?_
            refine z_callVF (d := 7) (As := [_, _, _]) c_X4_of rfl l_L_15 rfl rfl rfl (Nat.le_of_ble_eq_true rfl) ⟨Nat.le_of_ble_eq_true rfl, Nat.le_of_ble_eq_true rfl⟩ dL_told_181 c1 ?_
            refine z_if_ne dL_told_184 (tgt := 206) (by decide) (fun h184 => by first | exact absurd (rfl) h184 | exact absurd h184 (rfl)) (fun h184 => ?_)
            refine z_iload dL_told_187 9 rfl ?_
            refine z_iconst dL_told_189 (v := 3) rfl ?_
            refine z_icmp_ne dL_told_190 (tgt := 208) (by decide) (fun h190 => ?_) (fun h190 => by first | exact absurd (by decide) h190 | exact absurd h190 (by decide))
            refine z_iinc (lo2 := [(0, _), (1, _), (2, _), (3, _), (4, _), (5, _), (6, _), (7, _), (8, _), (9, _), (10, _)]) dL_told_208 8 rfl (w := 1) rfl (Nat.le_of_ble_eq_true rfl) [1, 2, 3, 4, 5, 6, 7, 8, 0, 9, 10] rfl ?_
            refine z_goto dL_told_211 (tgt := 33) (by decide) ?_
            rw [nI_1]
            exact z_sub [0, 1, 2, 3, 4, 5, 6, 7, 8] rfl (ih (k + 1) _ _ _ (by omega) (f_up (v := 0) hkn hv (by omega) hf) (h6') ((by first | exact a0 h155 | exact a1 (by rw [hv]; decide) h155)))
          · --f
            refine z_iconst dL_told_158 (v := 1) rfl ?_
            refine z_iload dL_told_159 8 rfl ?_
            refine z_ishl dL_told_161 ?_
            refine z_goto dL_told_162 (tgt := 166) (by decide) ?_
            refine z_ior dL_told_166 ?_
            refine z_istore (lo2 := [(0, _), (1, _), (2, _), (3, _), (4, _), (5, _), (6, _), (7, _), (8, _), (9, _), (10, _)]) dL_told_167 (Nat.le_of_ble_eq_true rfl) [1, 2, 3, 4, 5, 6, 7, 0, 8, 9, 10] rfl ?_
            refine z_iload dL_told_169 9 rfl ?_
            refine z_iconst dL_told_171 (v := 3) rfl ?_
            refine z_icmp_ge dL_told_172 (tgt := 187) (by decide) (fun h172 => by first | exact absurd (by decide) h172 | exact absurd h172 (by decide)) (fun h172 => ?_)
            refine z_aload_n dL_told_175 0 rfl ?_
            refine z_iload dL_told_176 4 rfl ?_
            refine z_iload dL_told_178 8 rfl ?_
            refine z_iconst dL_told_180 (v := 1) rfl ?_
            refine z_callVF (d := 7) (As := [_, _, _]) c_X4_of rfl l_L_15 rfl rfl rfl (Nat.le_of_ble_eq_true rfl) ⟨Nat.le_of_ble_eq_true rfl, Nat.le_of_ble_eq_true rfl⟩ dL_told_181 c1 ?_
            refine z_if_ne dL_told_184 (tgt := 206) (by decide) (fun h184 => by first | exact absurd (rfl) h184 | exact absurd h184 (rfl)) (fun h184 => ?_)
            refine z_iload dL_told_187 9 rfl ?_
            refine z_iconst dL_told_189 (v := 3) rfl ?_
            refine z_icmp_ne dL_told_190 (tgt := 208) (by decide) (fun h190 => ?_) (fun h190 => by first | exact absurd (by decide) h190 | exact absurd h190 (by decide))
            refine z_iinc (lo2 := [(0, _), (1, _), (2, _), (3, _), (4, _), (5, _), (6, _), (7, _), (8, _), (9, _), (10, _)]) dL_told_208 8 rfl (w := 1) rfl (Nat.le_of_ble_eq_true rfl) [1, 2, 3, 4, 5, 6, 7, 8, 0, 9, 10] rfl ?_
            refine z_goto dL_told_211 (tgt := 33) (by decide) ?_
            rw [nI_1]
            exact z_sub [0, 1, 2, 3, 4, 5, 6, 7, 8] rfl (ih (k + 1) _ _ _ (by omega) (f_up (v := 0) hkn hv (by omega) hf) (h6') ((by first | exact a0 h155 | exact a1 (by rw [hv]; decide) h155)))
        ·
          rw [hv] at c0
          rw [p2 (by simp [hv])] at c1
          refine z_iload dL_told_33 8 rfl ?_
          refine z_bipush dL_told_35 (v := 16) (by decide +kernel) ?_
          refine z_icmp_ge dL_told_37 (tgt := 214) (by decide) (fun h37 => by first | exact absurd (b37) h37 | exact absurd h37 (b37)) (fun h37 => ?_)
          refine z_aload_n dL_told_40 0 rfl ?_
          refine z_iload dL_told_41 4 rfl ?_
          refine z_iload dL_told_43 8 rfl ?_
          refine z_iconst dL_told_45 (v := 0) rfl ?_
          refine z_callVF (d := 7) (As := [_, _, _]) c_X4_of rfl l_L_15 rfl rfl rfl (Nat.le_of_ble_eq_true rfl) ⟨Nat.le_of_ble_eq_true rfl, Nat.le_of_ble_eq_true rfl⟩ dL_told_46 c0 ?_
          refine z_istore (lo2 := [(0, _), (1, _), (2, _), (3, _), (4, _), (5, _), (6, _), (7, _), (8, _), (9, _)]) dL_told_49 (Nat.le_of_ble_eq_true rfl) [1, 2, 3, 4, 5, 6, 7, 8, 9, 0] rfl ?_
          refine z_iload dL_told_51 8 rfl ?_
          refine z_aload_n dL_told_53 0 rfl ?_
          refine z_iload dL_told_54 4 rfl ?_
          refine z_iconst dL_told_56 (v := 0) rfl ?_
          refine z_callVF (d := 7) (As := [_, _]) c_X4_ofTroop rfl l_L_19 rfl rfl rfl (Nat.le_of_ble_eq_true rfl) ⟨Nat.le_of_ble_eq_true rfl, Nat.le_of_ble_eq_true rfl⟩ dL_told_57 cs ?_
          refine z_icmp_ge dL_told_60 (tgt := 67) (by decide) (fun h60 => by first | exact absurd (b60) h60 | exact absurd h60 (b60)) (fun h60 => ?_)
          refine z_iconst dL_told_63 (v := 1) rfl ?_
          refine z_goto dL_told_64 (tgt := 68) (by decide) ?_
          refine z_istore (lo2 := [(0, _), (1, _), (2, _), (3, _), (4, _), (5, _), (6, _), (7, _), (8, _), (9, _), (10, _)]) dL_told_68 (Nat.le_of_ble_eq_true rfl) [1, 2, 3, 4, 5, 6, 7, 8, 9, 10, 0] rfl ?_
          refine z_iload dL_told_70 9 rfl ?_
          refine z_if_ge dL_told_72 (tgt := 83) (by decide) (fun h72 => ?_) (fun h72 => by first | exact absurd (by decide) h72 | exact absurd h72 (by decide))
          refine z_iload dL_told_83 10 rfl ?_
          refine z_if_ne dL_told_85 (tgt := 96) (by decide) (fun h85 => ?_) (fun h85 => by first | exact absurd (by decide) h85 | exact absurd h85 (by decide))
          refine z_iload dL_told_96 9 rfl ?_
          refine z_if_ge dL_told_98 (tgt := 104) (by decide) (fun h98 => ?_) (fun h98 => by first | exact absurd (by decide) h98 | exact absurd h98 (by decide))
          refine z_aloadr dL_told_104 5 rfl ?_
          refine z_iload dL_told_106 9 rfl ?_
          refine z_dup2 dL_told_108 rfl rfl ?_
          refine z_iald (j := 1) (j0 := 0) rfl rfl (by decide) (by decide) dL_told_109 ?_
          refine z_iconst dL_told_110 (v := 1) rfl ?_
          refine z_iload dL_told_111 8 rfl ?_
          refine z_ishl dL_told_113 ?_
          refine z_ior dL_told_114 ?_
          refine z_iast (j := 1) (j0 := 0) rfl rfl (by decide) (by decide) dL_told_115 ?_
          refine z_iload dL_told_116 6 rfl ?_
          refine z_aload_n dL_told_118 0 rfl ?_
          refine z_iload dL_told_119 4 rfl ?_
          refine z_iload dL_told_121 8 rfl ?_
          refine z_iconst dL_told_123 (v := 3) rfl ?_
          refine z_callVF (d := 7) (As := [_, _, _]) c_X4_of rfl l_L_15 rfl rfl rfl (Nat.le_of_ble_eq_true rfl) ⟨Nat.le_of_ble_eq_true rfl, Nat.le_of_ble_eq_true rfl⟩ dL_told_124 c3 ?_
          refine z_iload dL_told_127 8 rfl ?_
          refine z_ishl dL_told_129 ?_
          refine z_ior dL_told_130 ?_
          refine z_istore (lo2 := [(0, _), (1, _), (2, _), (3, _), (4, _), (5, _), (6, _), (7, _), (8, _), (9, _), (10, _)]) dL_told_131 (Nat.le_of_ble_eq_true rfl) [1, 2, 3, 4, 5, 6, 0, 7, 8, 9, 10] rfl ?_
          refine z_iload dL_told_133 7 rfl ?_
          refine z_iload dL_told_135 10 rfl ?_
          refine z_if_eq dL_told_137 (tgt := 165) (by decide) (fun h137 => by first | exact absurd (by decide) h137 | exact absurd h137 (by decide)) (fun h137 => ?_)
          refine z_iload dL_told_140 9 rfl ?_
          refine z_iconst dL_told_142 (v := 1) rfl ?_
          refine z_icmp_eq dL_told_143 (tgt := 165) (by decide) (fun h143 => ?_) (fun h143 => by first | exact absurd (rfl) h143 | exact absurd h143 (rfl))
          refine z_iconst dL_told_165 (v := 0) rfl ?_
          refine z_ior dL_told_166 ?_
          refine z_istore (lo2 := [(0, _), (1, _), (2, _), (3, _), (4, _), (5, _), (6, _), (7, _), (8, _), (9, _), (10, _)]) dL_told_167 (Nat.le_of_ble_eq_true rfl) [1, 2, 3, 4, 5, 6, 7, 0, 8, 9, 10] rfl ?_
          refine z_iload dL_told_169 9 rfl ?_
          refine z_iconst dL_told_171 (v := 3) rfl ?_
          refine z_icmp_ge dL_told_172 (tgt := 187) (by decide) (fun h172 => by first | exact absurd (by decide) h172 | exact absurd h172 (by decide)) (fun h172 => ?_)
          refine z_aload_n dL_told_175 0 rfl ?_
          refine z_iload dL_told_176 4 rfl ?_
          refine z_iload dL_told_178 8 rfl ?_
          refine z_iconst dL_told_180 (v := 1) rfl ?_
          refine z_callVF (d := 7) (As := [_, _, _]) c_X4_of rfl l_L_15 rfl rfl rfl (Nat.le_of_ble_eq_true rfl) ⟨Nat.le_of_ble_eq_true rfl, Nat.le_of_ble_eq_true rfl⟩ dL_told_181 c1 ?_
          refine z_if_ne dL_told_184 (tgt := 206) (by decide) (fun h184 => by first | exact absurd (rfl) h184 | exact absurd h184 (rfl)) (fun h184 => ?_)
          refine z_iload dL_told_187 9 rfl ?_
          refine z_iconst dL_told_189 (v := 3) rfl ?_
          refine z_icmp_ne dL_told_190 (tgt := 208) (by decide) (fun h190 => ?_) (fun h190 => by first | exact absurd (by decide) h190 | exact absurd h190 (by decide))
          refine z_iinc (lo2 := [(0, _), (1, _), (2, _), (3, _), (4, _), (5, _), (6, _), (7, _), (8, _), (9, _), (10, _)]) dL_told_208 8 rfl (w := 1) rfl (Nat.le_of_ble_eq_true rfl) [1, 2, 3, 4, 5, 6, 7, 8, 0, 9, 10] rfl ?_
          refine z_goto dL_told_211 (tgt := 33) (by decide) ?_
          rw [nI_1]
          exact z_sub [0, 1, 2, 3, 4, 5, 6, 7, 8] rfl (ih (k + 1) _ _ _ (by omega) (f_up (v := 1) hkn hv (by omega) hf) (h6') ((by rw [h7, Int32.or_zero]; exact (mk_n (aw_no (Or.inr (Or.inl hv)))).symm)))
        ·
          rw [hv] at c0
          rw [p2 (by simp [hv])] at c1
          refine z_iload dL_told_33 8 rfl ?_
          refine z_bipush dL_told_35 (v := 16) (by decide +kernel) ?_
          refine z_icmp_ge dL_told_37 (tgt := 214) (by decide) (fun h37 => by first | exact absurd (b37) h37 | exact absurd h37 (b37)) (fun h37 => ?_)
          refine z_aload_n dL_told_40 0 rfl ?_
          refine z_iload dL_told_41 4 rfl ?_
          refine z_iload dL_told_43 8 rfl ?_
          refine z_iconst dL_told_45 (v := 0) rfl ?_
          refine z_callVF (d := 7) (As := [_, _, _]) c_X4_of rfl l_L_15 rfl rfl rfl (Nat.le_of_ble_eq_true rfl) ⟨Nat.le_of_ble_eq_true rfl, Nat.le_of_ble_eq_true rfl⟩ dL_told_46 c0 ?_
          refine z_istore (lo2 := [(0, _), (1, _), (2, _), (3, _), (4, _), (5, _), (6, _), (7, _), (8, _), (9, _)]) dL_told_49 (Nat.le_of_ble_eq_true rfl) [1, 2, 3, 4, 5, 6, 7, 8, 9, 0] rfl ?_
          refine z_iload dL_told_51 8 rfl ?_
          refine z_aload_n dL_told_53 0 rfl ?_
          refine z_iload dL_told_54 4 rfl ?_
          refine z_iconst dL_told_56 (v := 0) rfl ?_
          refine z_callVF (d := 7) (As := [_, _]) c_X4_ofTroop rfl l_L_19 rfl rfl rfl (Nat.le_of_ble_eq_true rfl) ⟨Nat.le_of_ble_eq_true rfl, Nat.le_of_ble_eq_true rfl⟩ dL_told_57 cs ?_
          refine z_icmp_ge dL_told_60 (tgt := 67) (by decide) (fun h60 => by first | exact absurd (b60) h60 | exact absurd h60 (b60)) (fun h60 => ?_)
          refine z_iconst dL_told_63 (v := 1) rfl ?_
          refine z_goto dL_told_64 (tgt := 68) (by decide) ?_
          refine z_istore (lo2 := [(0, _), (1, _), (2, _), (3, _), (4, _), (5, _), (6, _), (7, _), (8, _), (9, _), (10, _)]) dL_told_68 (Nat.le_of_ble_eq_true rfl) [1, 2, 3, 4, 5, 6, 7, 8, 9, 10, 0] rfl ?_
          refine z_iload dL_told_70 9 rfl ?_
          refine z_if_ge dL_told_72 (tgt := 83) (by decide) (fun h72 => ?_) (fun h72 => by first | exact absurd (by decide) h72 | exact absurd h72 (by decide))
          refine z_iload dL_told_83 10 rfl ?_
          refine z_if_ne dL_told_85 (tgt := 96) (by decide) (fun h85 => ?_) (fun h85 => by first | exact absurd (by decide) h85 | exact absurd h85 (by decide))
          refine z_iload dL_told_96 9 rfl ?_
          refine z_if_ge dL_told_98 (tgt := 104) (by decide) (fun h98 => ?_) (fun h98 => by first | exact absurd (by decide) h98 | exact absurd h98 (by decide))
          refine z_aloadr dL_told_104 5 rfl ?_
          refine z_iload dL_told_106 9 rfl ?_
          refine z_dup2 dL_told_108 rfl rfl ?_
          refine z_iald (j := 2) (j0 := 0) rfl rfl (by decide) (by decide) dL_told_109 ?_
          refine z_iconst dL_told_110 (v := 1) rfl ?_
          refine z_iload dL_told_111 8 rfl ?_
          refine z_ishl dL_told_113 ?_
          refine z_ior dL_told_114 ?_
          refine z_iast (j := 2) (j0 := 0) rfl rfl (by decide) (by decide) dL_told_115 ?_
          refine z_iload dL_told_116 6 rfl ?_
          refine z_aload_n dL_told_118 0 rfl ?_
          refine z_iload dL_told_119 4 rfl ?_
          refine z_iload dL_told_121 8 rfl ?_
          refine z_iconst dL_told_123 (v := 3) rfl ?_
          refine z_callVF (d := 7) (As := [_, _, _]) c_X4_of rfl l_L_15 rfl rfl rfl (Nat.le_of_ble_eq_true rfl) ⟨Nat.le_of_ble_eq_true rfl, Nat.le_of_ble_eq_true rfl⟩ dL_told_124 c3 ?_
          refine z_iload dL_told_127 8 rfl ?_
          refine z_ishl dL_told_129 ?_
          refine z_ior dL_told_130 ?_
          refine z_istore (lo2 := [(0, _), (1, _), (2, _), (3, _), (4, _), (5, _), (6, _), (7, _), (8, _), (9, _), (10, _)]) dL_told_131 (Nat.le_of_ble_eq_true rfl) [1, 2, 3, 4, 5, 6, 0, 7, 8, 9, 10] rfl ?_
          refine z_iload dL_told_133 7 rfl ?_
          refine z_iload dL_told_135 10 rfl ?_
          refine z_if_eq dL_told_137 (tgt := 165) (by decide) (fun h137 => by first | exact absurd (by decide) h137 | exact absurd h137 (by decide)) (fun h137 => ?_)
          refine z_iload dL_told_140 9 rfl ?_
          refine z_iconst dL_told_142 (v := 1) rfl ?_
          refine z_icmp_eq dL_told_143 (tgt := 165) (by decide) (fun h143 => by first | exact absurd (by decide) h143 | exact absurd h143 (by decide)) (fun h143 => ?_)
          refine z_aload_n dL_told_146 0 rfl ?_
          refine z_iload dL_told_147 4 rfl ?_
          refine z_iload dL_told_149 8 rfl ?_
          refine z_iconst dL_told_151 (v := 3) rfl ?_
          refine z_callVF (d := 7) (As := [_, _, _]) c_X4_of rfl l_L_15 rfl rfl rfl (Nat.le_of_ble_eq_true rfl) ⟨Nat.le_of_ble_eq_true rfl, Nat.le_of_ble_eq_true rfl⟩ dL_told_152 c3 ?_
          refine z_if_ne dL_told_155 (tgt := 165) (by decide) (fun h155 => ?_) (fun h155 => ?_)
          · --t
            refine z_iconst dL_told_165 (v := 0) rfl ?_
            refine z_ior dL_told_166 ?_
            refine z_istore (lo2 := [(0, _), (1, _), (2, _), (3, _), (4, _), (5, _), (6, _), (7, _), (8, _), (9, _), (10, _)]) dL_told_167 (Nat.le_of_ble_eq_true rfl) [1, 2, 3, 4, 5, 6, 7, 0, 8, 9, 10] rfl ?_
            refine z_iload dL_told_169 9 rfl ?_
            refine z_iconst dL_told_171 (v := 3) rfl ?_
            refine z_icmp_ge dL_told_172 (tgt := 187) (by decide) (fun h172 => by first | exact absurd (by decide) h172 | exact absurd h172 (by decide)) (fun h172 => ?_)
            refine z_aload_n dL_told_175 0 rfl ?_
            refine z_iload dL_told_176 4 rfl ?_
            refine z_iload dL_told_178 8 rfl ?_
            refine z_iconst dL_told_180 (v := 1) rfl ?_
            refine z_callVF (d := 7) (As := [_, _, _]) c_X4_of rfl l_L_15 rfl rfl rfl (Nat.le_of_ble_eq_true rfl) ⟨Nat.le_of_ble_eq_true rfl, Nat.le_of_ble_eq_true rfl⟩ dL_told_181 c1 ?_
            refine z_if_ne dL_told_184 (tgt := 206) (by decide) (fun h184 => by first | exact absurd (rfl) h184 | exact absurd h184 (rfl)) (fun h184 => ?_)
            refine z_iload dL_told_187 9 rfl ?_
            refine z_iconst dL_told_189 (v := 3) rfl ?_
            refine z_icmp_ne dL_told_190 (tgt := 208) (by decide) (fun h190 => ?_) (fun h190 => by first | exact absurd (by decide) h190 | exact absurd h190 (by decide))
            refine z_iinc (lo2 := [(0, _), (1, _), (2, _), (3, _), (4, _), (5, _), (6, _), (7, _), (8, _), (9, _), (10, _)]) dL_told_208 8 rfl (w := 1) rfl (Nat.le_of_ble_eq_true rfl) [1, 2, 3, 4, 5, 6, 7, 8, 0, 9, 10] rfl ?_
            refine z_goto dL_told_211 (tgt := 33) (by decide) ?_
            rw [nI_1]
            exact z_sub [0, 1, 2, 3, 4, 5, 6, 7, 8] rfl (ih (k + 1) _ _ _ (by omega) (f_up (v := 2) hkn hv (by omega) hf) (h6') ((by first | exact a0 h155 | exact a1 (by rw [hv]; decide) h155)))
          · --f
            refine z_iconst dL_told_158 (v := 1) rfl ?_
            refine z_iload dL_told_159 8 rfl ?_
            refine z_ishl dL_told_161 ?_
            refine z_goto dL_told_162 (tgt := 166) (by decide) ?_
            refine z_ior dL_told_166 ?_
            refine z_istore (lo2 := [(0, _), (1, _), (2, _), (3, _), (4, _), (5, _), (6, _), (7, _), (8, _), (9, _), (10, _)]) dL_told_167 (Nat.le_of_ble_eq_true rfl) [1, 2, 3, 4, 5, 6, 7, 0, 8, 9, 10] rfl ?_
            refine z_iload dL_told_169 9 rfl ?_
            refine z_iconst dL_told_171 (v := 3) rfl ?_
            refine z_icmp_ge dL_told_172 (tgt := 187) (by decide) (fun h172 => by first | exact absurd (by decide) h172 | exact absurd h172 (by decide)) (fun h172 => ?_)
            refine z_aload_n dL_told_175 0 rfl ?_
            refine z_iload dL_told_176 4 rfl ?_
            refine z_iload dL_told_178 8 rfl ?_
            refine z_iconst dL_told_180 (v := 1) rfl ?_
            refine z_callVF (d := 7) (As := [_, _, _]) c_X4_of rfl l_L_15 rfl rfl rfl (Nat.le_of_ble_eq_true rfl) ⟨Nat.le_of_ble_eq_true rfl, Nat.le_of_ble_eq_true rfl⟩ dL_told_181 c1 ?_
            refine z_if_ne dL_told_184 (tgt := 206) (by decide) (fun h184 => by first | exact absurd (rfl) h184 | exact absurd h184 (rfl)) (fun h184 => ?_)
            refine z_iload dL_told_187 9 rfl ?_
            refine z_iconst dL_told_189 (v := 3) rfl ?_
            refine z_icmp_ne dL_told_190 (tgt := 208) (by decide) (fun h190 => ?_) (fun h190 => by first | exact absurd (by decide) h190 | exact absurd h190 (by decide))
            refine z_iinc (lo2 := [(0, _), (1, _), (2, _), (3, _), (4, _), (5, _), (6, _), (7, _), (8, _), (9, _), (10, _)]) dL_told_208 8 rfl (w := 1) rfl (Nat.le_of_ble_eq_true rfl) [1, 2, 3, 4, 5, 6, 7, 8, 0, 9, 10] rfl ?_
            refine z_goto dL_told_211 (tgt := 33) (by decide) ?_
            rw [nI_1]
            exact z_sub [0, 1, 2, 3, 4, 5, 6, 7, 8] rfl (ih (k + 1) _ _ _ (by omega) (f_up (v := 2) hkn hv (by omega) hf) (h6') ((by first | exact a0 h155 | exact a1 (by rw [hv]; decide) h155)))
        ·
          rw [hv] at c0
          refine z_iload dL_told_33 8 rfl ?_
          refine z_bipush dL_told_35 (v := 16) (by decide +kernel) ?_
          refine z_icmp_ge dL_told_37 (tgt := 214) (by decide) (fun h37 => by first | exact absurd (b37) h37 | exact absurd h37 (b37)) (fun h37 => ?_)
          refine z_aload_n dL_told_40 0 rfl ?_
          refine z_iload dL_told_41 4 rfl ?_
          refine z_iload dL_told_43 8 rfl ?_
          refine z_iconst dL_told_45 (v := 0) rfl ?_
          refine z_callVF (d := 7) (As := [_, _, _]) c_X4_of rfl l_L_15 rfl rfl rfl (Nat.le_of_ble_eq_true rfl) ⟨Nat.le_of_ble_eq_true rfl, Nat.le_of_ble_eq_true rfl⟩ dL_told_46 c0 ?_
          refine z_istore (lo2 := [(0, _), (1, _), (2, _), (3, _), (4, _), (5, _), (6, _), (7, _), (8, _), (9, _)]) dL_told_49 (Nat.le_of_ble_eq_true rfl) [1, 2, 3, 4, 5, 6, 7, 8, 9, 0] rfl ?_
          refine z_iload dL_told_51 8 rfl ?_
          refine z_aload_n dL_told_53 0 rfl ?_
          refine z_iload dL_told_54 4 rfl ?_
          refine z_iconst dL_told_56 (v := 0) rfl ?_
          refine z_callVF (d := 7) (As := [_, _]) c_X4_ofTroop rfl l_L_19 rfl rfl rfl (Nat.le_of_ble_eq_true rfl) ⟨Nat.le_of_ble_eq_true rfl, Nat.le_of_ble_eq_true rfl⟩ dL_told_57 cs ?_
          refine z_icmp_ge dL_told_60 (tgt := 67) (by decide) (fun h60 => by first | exact absurd (b60) h60 | exact absurd h60 (b60)) (fun h60 => ?_)
          refine z_iconst dL_told_63 (v := 1) rfl ?_
          refine z_goto dL_told_64 (tgt := 68) (by decide) ?_
          refine z_istore (lo2 := [(0, _), (1, _), (2, _), (3, _), (4, _), (5, _), (6, _), (7, _), (8, _), (9, _), (10, _)]) dL_told_68 (Nat.le_of_ble_eq_true rfl) [1, 2, 3, 4, 5, 6, 7, 8, 9, 10, 0] rfl ?_
          refine z_iload dL_told_70 9 rfl ?_
          refine z_if_ge dL_told_72 (tgt := 83) (by decide) (fun h72 => ?_) (fun h72 => by first | exact absurd (by decide) h72 | exact absurd h72 (by decide))
          refine z_iload dL_told_83 10 rfl ?_
          refine z_if_ne dL_told_85 (tgt := 96) (by decide) (fun h85 => ?_) (fun h85 => by first | exact absurd (by decide) h85 | exact absurd h85 (by decide))
          refine z_iload dL_told_96 9 rfl ?_
          refine z_if_ge dL_told_98 (tgt := 104) (by decide) (fun h98 => ?_) (fun h98 => by first | exact absurd (by decide) h98 | exact absurd h98 (by decide))
          refine z_aloadr dL_told_104 5 rfl ?_
          refine z_iload dL_told_106 9 rfl ?_
          refine z_dup2 dL_told_108 rfl rfl ?_
          refine z_iald (j := 3) (j0 := 0) rfl rfl (by decide) (by decide) dL_told_109 ?_
          refine z_iconst dL_told_110 (v := 1) rfl ?_
          refine z_iload dL_told_111 8 rfl ?_
          refine z_ishl dL_told_113 ?_
          refine z_ior dL_told_114 ?_
          refine z_iast (j := 3) (j0 := 0) rfl rfl (by decide) (by decide) dL_told_115 ?_
          refine z_iload dL_told_116 6 rfl ?_
          refine z_aload_n dL_told_118 0 rfl ?_
          refine z_iload dL_told_119 4 rfl ?_
          refine z_iload dL_told_121 8 rfl ?_
          refine z_iconst dL_told_123 (v := 3) rfl ?_
          refine z_callVF (d := 7) (As := [_, _, _]) c_X4_of rfl l_L_15 rfl rfl rfl (Nat.le_of_ble_eq_true rfl) ⟨Nat.le_of_ble_eq_true rfl, Nat.le_of_ble_eq_true rfl⟩ dL_told_124 c3 ?_
          refine z_iload dL_told_127 8 rfl ?_
          refine z_ishl dL_told_129 ?_
          refine z_ior dL_told_130 ?_
          refine z_istore (lo2 := [(0, _), (1, _), (2, _), (3, _), (4, _), (5, _), (6, _), (7, _), (8, _), (9, _), (10, _)]) dL_told_131 (Nat.le_of_ble_eq_true rfl) [1, 2, 3, 4, 5, 6, 0, 7, 8, 9, 10] rfl ?_
          refine z_iload dL_told_133 7 rfl ?_
          refine z_iload dL_told_135 10 rfl ?_
          refine z_if_eq dL_told_137 (tgt := 165) (by decide) (fun h137 => by first | exact absurd (by decide) h137 | exact absurd h137 (by decide)) (fun h137 => ?_)
          refine z_iload dL_told_140 9 rfl ?_
          refine z_iconst dL_told_142 (v := 1) rfl ?_
          refine z_icmp_eq dL_told_143 (tgt := 165) (by decide) (fun h143 => by first | exact absurd (by decide) h143 | exact absurd h143 (by decide)) (fun h143 => ?_)
          refine z_aload_n dL_told_146 0 rfl ?_
          refine z_iload dL_told_147 4 rfl ?_
          refine z_iload dL_told_149 8 rfl ?_
          refine z_iconst dL_told_151 (v := 3) rfl ?_
          refine z_callVF (d := 7) (As := [_, _, _]) c_X4_of rfl l_L_15 rfl rfl rfl (Nat.le_of_ble_eq_true rfl) ⟨Nat.le_of_ble_eq_true rfl, Nat.le_of_ble_eq_true rfl⟩ dL_told_152 c3 ?_
          refine z_if_ne dL_told_155 (tgt := 165) (by decide) (fun h155 => ?_) (fun h155 => ?_)
          · --t
            refine z_iconst dL_told_165 (v := 0) rfl ?_
            refine z_ior dL_told_166 ?_
            refine z_istore (lo2 := [(0, _), (1, _), (2, _), (3, _), (4, _), (5, _), (6, _), (7, _), (8, _), (9, _), (10, _)]) dL_told_167 (Nat.le_of_ble_eq_true rfl) [1, 2, 3, 4, 5, 6, 7, 0, 8, 9, 10] rfl ?_
            refine z_iload dL_told_169 9 rfl ?_
            refine z_iconst dL_told_171 (v := 3) rfl ?_
            refine z_icmp_ge dL_told_172 (tgt := 187) (by decide) (fun h172 => ?_) (fun h172 => by first | exact absurd (by decide) h172 | exact absurd h172 (by decide))
            refine z_iload dL_told_187 9 rfl ?_
            refine z_iconst dL_told_189 (v := 3) rfl ?_
            refine z_icmp_ne dL_told_190 (tgt := 208) (by decide) (fun h190 => by first | exact absurd (rfl) h190 | exact absurd h190 (rfl)) (fun h190 => ?_)
            refine z_aload_n dL_told_193 0 rfl ?_
            refine z_iload dL_told_194 4 rfl ?_
            refine z_iload dL_told_196 8 rfl ?_
            refine z_iconst dL_told_198 (v := 1) rfl ?_
            refine z_callVF (d := 7) (As := [_, _, _]) c_X4_of rfl l_L_15 rfl rfl rfl (Nat.le_of_ble_eq_true rfl) ⟨Nat.le_of_ble_eq_true rfl, Nat.le_of_ble_eq_true rfl⟩ dL_told_199 c1 ?_
            refine z_iconst dL_told_202 (v := 1) rfl ?_
            refine z_icmp_ge dL_told_203 (tgt := 208) (by decide) (fun h203 => ?_) (fun h203 => by first | exact absurd (p1 hv) h203 | exact absurd h203 (p1 hv))
            refine z_iinc (lo2 := [(0, _), (1, _), (2, _), (3, _), (4, _), (5, _), (6, _), (7, _), (8, _), (9, _), (10, _)]) dL_told_208 8 rfl (w := 1) rfl (Nat.le_of_ble_eq_true rfl) [1, 2, 3, 4, 5, 6, 7, 8, 0, 9, 10] rfl ?_
            refine z_goto dL_told_211 (tgt := 33) (by decide) ?_
            rw [nI_1]
            exact z_sub [0, 1, 2, 3, 4, 5, 6, 7, 8] rfl (ih (k + 1) _ _ _ (by omega) (f_up (v := 3) hkn hv (by omega) hf) (h6') ((by first | exact a0 h155 | exact a1 (by rw [hv]; decide) h155)))
          · --f
            refine z_iconst dL_told_158 (v := 1) rfl ?_
            refine z_iload dL_told_159 8 rfl ?_
            refine z_ishl dL_told_161 ?_
            refine z_goto dL_told_162 (tgt := 166) (by decide) ?_
            refine z_ior dL_told_166 ?_
            refine z_istore (lo2 := [(0, _), (1, _), (2, _), (3, _), (4, _), (5, _), (6, _), (7, _), (8, _), (9, _), (10, _)]) dL_told_167 (Nat.le_of_ble_eq_true rfl) [1, 2, 3, 4, 5, 6, 7, 0, 8, 9, 10] rfl ?_
            refine z_iload dL_told_169 9 rfl ?_
            refine z_iconst dL_told_171 (v := 3) rfl ?_
            refine z_icmp_ge dL_told_172 (tgt := 187) (by decide) (fun h172 => ?_) (fun h172 => by first | exact absurd (by decide) h172 | exact absurd h172 (by decide))
            refine z_iload dL_told_187 9 rfl ?_
            refine z_iconst dL_told_189 (v := 3) rfl ?_
            refine z_icmp_ne dL_told_190 (tgt := 208) (by decide) (fun h190 => by first | exact absurd (rfl) h190 | exact absurd h190 (rfl)) (fun h190 => ?_)
            refine z_aload_n dL_told_193 0 rfl ?_
            refine z_iload dL_told_194 4 rfl ?_
            refine z_iload dL_told_196 8 rfl ?_
            refine z_iconst dL_told_198 (v := 1) rfl ?_
            refine z_callVF (d := 7) (As := [_, _, _]) c_X4_of rfl l_L_15 rfl rfl rfl (Nat.le_of_ble_eq_true rfl) ⟨Nat.le_of_ble_eq_true rfl, Nat.le_of_ble_eq_true rfl⟩ dL_told_199 c1 ?_
            refine z_iconst dL_told_202 (v := 1) rfl ?_
            refine z_icmp_ge dL_told_203 (tgt := 208) (by decide) (fun h203 => ?_) (fun h203 => by first | exact absurd (p1 hv) h203 | exact absurd h203 (p1 hv))
            refine z_iinc (lo2 := [(0, _), (1, _), (2, _), (3, _), (4, _), (5, _), (6, _), (7, _), (8, _), (9, _), (10, _)]) dL_told_208 8 rfl (w := 1) rfl (Nat.le_of_ble_eq_true rfl) [1, 2, 3, 4, 5, 6, 7, 8, 0, 9, 10] rfl ?_
            refine z_goto dL_told_211 (tgt := 33) (by decide) ?_
            rw [nI_1]
            exact z_sub [0, 1, 2, 3, 4, 5, 6, 7, 8] rfl (ih (k + 1) _ _ _ (by omega) (f_up (v := 3) hkn hv (by omega) hf) (h6') ((by first | exact a0 h155 | exact a1 (by rw [hv]; decide) h155)))
        ·
          rw [hv] at c0
          refine z_iload dL_told_33 8 rfl ?_
          refine z_bipush dL_told_35 (v := 16) (by decide +kernel) ?_
          refine z_icmp_ge dL_told_37 (tgt := 214) (by decide) (fun h37 => by first | exact absurd (b37) h37 | exact absurd h37 (b37)) (fun h37 => ?_)
          refine z_aload_n dL_told_40 0 rfl ?_
          refine z_iload dL_told_41 4 rfl ?_
          refine z_iload dL_told_43 8 rfl ?_
          refine z_iconst dL_told_45 (v := 0) rfl ?_
          refine z_callVF (d := 7) (As := [_, _, _]) c_X4_of rfl l_L_15 rfl rfl rfl (Nat.le_of_ble_eq_true rfl) ⟨Nat.le_of_ble_eq_true rfl, Nat.le_of_ble_eq_true rfl⟩ dL_told_46 c0 ?_
          refine z_istore (lo2 := [(0, _), (1, _), (2, _), (3, _), (4, _), (5, _), (6, _), (7, _), (8, _), (9, _)]) dL_told_49 (Nat.le_of_ble_eq_true rfl) [1, 2, 3, 4, 5, 6, 7, 8, 9, 0] rfl ?_
          refine z_iload dL_told_51 8 rfl ?_
          refine z_aload_n dL_told_53 0 rfl ?_
          refine z_iload dL_told_54 4 rfl ?_
          refine z_iconst dL_told_56 (v := 0) rfl ?_
          refine z_callVF (d := 7) (As := [_, _]) c_X4_ofTroop rfl l_L_19 rfl rfl rfl (Nat.le_of_ble_eq_true rfl) ⟨Nat.le_of_ble_eq_true rfl, Nat.le_of_ble_eq_true rfl⟩ dL_told_57 cs ?_
          refine z_icmp_ge dL_told_60 (tgt := 67) (by decide) (fun h60 => by first | exact absurd (b60) h60 | exact absurd h60 (b60)) (fun h60 => ?_)
          refine z_iconst dL_told_63 (v := 1) rfl ?_
          refine z_goto dL_told_64 (tgt := 68) (by decide) ?_
          refine z_istore (lo2 := [(0, _), (1, _), (2, _), (3, _), (4, _), (5, _), (6, _), (7, _), (8, _), (9, _), (10, _)]) dL_told_68 (Nat.le_of_ble_eq_true rfl) [1, 2, 3, 4, 5, 6, 7, 8, 9, 10, 0] rfl ?_
          refine z_iload dL_told_70 9 rfl ?_
          refine z_if_ge dL_told_72 (tgt := 83) (by decide) (fun h72 => ?_) (fun h72 => by first | exact absurd (by decide) h72 | exact absurd h72 (by decide))
          refine z_iload dL_told_83 10 rfl ?_
          refine z_if_ne dL_told_85 (tgt := 96) (by decide) (fun h85 => ?_) (fun h85 => by first | exact absurd (by decide) h85 | exact absurd h85 (by decide))
          refine z_iload dL_told_96 9 rfl ?_
          refine z_if_ge dL_told_98 (tgt := 104) (by decide) (fun h98 => ?_) (fun h98 => by first | exact absurd (by decide) h98 | exact absurd h98 (by decide))
          refine z_aloadr dL_told_104 5 rfl ?_
          refine z_iload dL_told_106 9 rfl ?_
          refine z_dup2 dL_told_108 rfl rfl ?_
          refine z_iald (j := 4) (j0 := 0) rfl rfl (by decide) (by decide) dL_told_109 ?_
          refine z_iconst dL_told_110 (v := 1) rfl ?_
          refine z_iload dL_told_111 8 rfl ?_
          refine z_ishl dL_told_113 ?_
          refine z_ior dL_told_114 ?_
          refine z_iast (j := 4) (j0 := 0) rfl rfl (by decide) (by decide) dL_told_115 ?_
          refine z_iload dL_told_116 6 rfl ?_
          refine z_aload_n dL_told_118 0 rfl ?_
          refine z_iload dL_told_119 4 rfl ?_
          refine z_iload dL_told_121 8 rfl ?_
          refine z_iconst dL_told_123 (v := 3) rfl ?_
          refine z_callVF (d := 7) (As := [_, _, _]) c_X4_of rfl l_L_15 rfl rfl rfl (Nat.le_of_ble_eq_true rfl) ⟨Nat.le_of_ble_eq_true rfl, Nat.le_of_ble_eq_true rfl⟩ dL_told_124 c3 ?_
          refine z_iload dL_told_127 8 rfl ?_
          refine z_ishl dL_told_129 ?_
          refine z_ior dL_told_130 ?_
          refine z_istore (lo2 := [(0, _), (1, _), (2, _), (3, _), (4, _), (5, _), (6, _), (7, _), (8, _), (9, _), (10, _)]) dL_told_131 (Nat.le_of_ble_eq_true rfl) [1, 2, 3, 4, 5, 6, 0, 7, 8, 9, 10] rfl ?_
          refine z_iload dL_told_133 7 rfl ?_
          refine z_iload dL_told_135 10 rfl ?_
          refine z_if_eq dL_told_137 (tgt := 165) (by decide) (fun h137 => by first | exact absurd (by decide) h137 | exact absurd h137 (by decide)) (fun h137 => ?_)
          refine z_iload dL_told_140 9 rfl ?_
          refine z_iconst dL_told_142 (v := 1) rfl ?_
          refine z_icmp_eq dL_told_143 (tgt := 165) (by decide) (fun h143 => by first | exact absurd (by decide) h143 | exact absurd h143 (by decide)) (fun h143 => ?_)
          refine z_aload_n dL_told_146 0 rfl ?_
          refine z_iload dL_told_147 4 rfl ?_
          refine z_iload dL_told_149 8 rfl ?_
          refine z_iconst dL_told_151 (v := 3) rfl ?_
          refine z_callVF (d := 7) (As := [_, _, _]) c_X4_of rfl l_L_15 rfl rfl rfl (Nat.le_of_ble_eq_true rfl) ⟨Nat.le_of_ble_eq_true rfl, Nat.le_of_ble_eq_true rfl⟩ dL_told_152 c3 ?_
          refine z_if_ne dL_told_155 (tgt := 165) (by decide) (fun h155 => ?_) (fun h155 => ?_)
          · --t
            refine z_iconst dL_told_165 (v := 0) rfl ?_
            refine z_ior dL_told_166 ?_
            refine z_istore (lo2 := [(0, _), (1, _), (2, _), (3, _), (4, _), (5, _), (6, _), (7, _), (8, _), (9, _), (10, _)]) dL_told_167 (Nat.le_of_ble_eq_true rfl) [1, 2, 3, 4, 5, 6, 7, 0, 8, 9, 10] rfl ?_
            refine z_iload dL_told_169 9 rfl ?_
            refine z_iconst dL_told_171 (v := 3) rfl ?_
            refine z_icmp_ge dL_told_172 (tgt := 187) (by decide) (fun h172 => ?_) (fun h172 => by first | exact absurd (by decide) h172 | exact absurd h172 (by decide))
            refine z_iload dL_told_187 9 rfl ?_
            refine z_iconst dL_told_189 (v := 3) rfl ?_
            refine z_icmp_ne dL_told_190 (tgt := 208) (by decide) (fun h190 => ?_) (fun h190 => by first | exact absurd (by decide) h190 | exact absurd h190 (by decide))
            refine z_iinc (lo2 := [(0, _), (1, _), (2, _), (3, _), (4, _), (5, _), (6, _), (7, _), (8, _), (9, _), (10, _)]) dL_told_208 8 rfl (w := 1) rfl (Nat.le_of_ble_eq_true rfl) [1, 2, 3, 4, 5, 6, 7, 8, 0, 9, 10] rfl ?_
            refine z_goto dL_told_211 (tgt := 33) (by decide) ?_
            rw [nI_1]
            exact z_sub [0, 1, 2, 3, 4, 5, 6, 7, 8] rfl (ih (k + 1) _ _ _ (by omega) (f_up (v := 4) hkn hv (by omega) hf) (h6') ((by first | exact a0 h155 | exact a1 (by rw [hv]; decide) h155)))
          · --f
            refine z_iconst dL_told_158 (v := 1) rfl ?_
            refine z_iload dL_told_159 8 rfl ?_
            refine z_ishl dL_told_161 ?_
            refine z_goto dL_told_162 (tgt := 166) (by decide) ?_
            refine z_ior dL_told_166 ?_
            refine z_istore (lo2 := [(0, _), (1, _), (2, _), (3, _), (4, _), (5, _), (6, _), (7, _), (8, _), (9, _), (10, _)]) dL_told_167 (Nat.le_of_ble_eq_true rfl) [1, 2, 3, 4, 5, 6, 7, 0, 8, 9, 10] rfl ?_
            refine z_iload dL_told_169 9 rfl ?_
            refine z_iconst dL_told_171 (v := 3) rfl ?_
            refine z_icmp_ge dL_told_172 (tgt := 187) (by decide) (fun h172 => ?_) (fun h172 => by first | exact absurd (by decide) h172 | exact absurd h172 (by decide))
            refine z_iload dL_told_187 9 rfl ?_
            refine z_iconst dL_told_189 (v := 3) rfl ?_
            refine z_icmp_ne dL_told_190 (tgt := 208) (by decide) (fun h190 => ?_) (fun h190 => by first | exact absurd (by decide) h190 | exact absurd h190 (by decide))
            refine z_iinc (lo2 := [(0, _), (1, _), (2, _), (3, _), (4, _), (5, _), (6, _), (7, _), (8, _), (9, _), (10, _)]) dL_told_208 8 rfl (w := 1) rfl (Nat.le_of_ble_eq_true rfl) [1, 2, 3, 4, 5, 6, 7, 8, 0, 9, 10] rfl ?_
            refine z_goto dL_told_211 (tgt := 33) (by decide) ?_
            rw [nI_1]
            exact z_sub [0, 1, 2, 3, 4, 5, 6, 7, 8] rfl (ih (k + 1) _ _ _ (by omega) (f_up (v := 4) hkn hv (by omega) hf) (h6') ((by first | exact a0 h155 | exact a1 (by rw [hv]; decide) h155)))
      · have b60 : nI s ≤ nI k := nI_le (by omega) (by omega)
        have hv : (N.2 t).2.1 k = 3 := by
          unfold knB at hkn
          rw [decide_eq_false hlt, Bool.false_or, beq_iff_eq] at hkn
          exact hkn
        have h7' : m7 ||| 0 = mkm (awp (N.2 t)) (k + 1) := by rw [h7, Int32.or_zero]; exact (mk_n (aw_no (Or.inl hlt))).symm
        rw [hv] at c0
        refine z_iload dL_told_33 8 rfl ?_
        refine z_bipush dL_told_35 (v := 16) (by decide +kernel) ?_
        refine z_icmp_ge dL_told_37 (tgt := 214) (by decide) (fun h37 => by first | exact absurd (b37) h37 | exact absurd h37 (b37)) (fun h37 => ?_)
        refine z_aload_n dL_told_40 0 rfl ?_
        refine z_iload dL_told_41 4 rfl ?_
        refine z_iload dL_told_43 8 rfl ?_
        refine z_iconst dL_told_45 (v := 0) rfl ?_
        refine z_callVF (d := 7) (As := [_, _, _]) c_X4_of rfl l_L_15 rfl rfl rfl (Nat.le_of_ble_eq_true rfl) ⟨Nat.le_of_ble_eq_true rfl, Nat.le_of_ble_eq_true rfl⟩ dL_told_46 c0 ?_
        refine z_istore (lo2 := [(0, _), (1, _), (2, _), (3, _), (4, _), (5, _), (6, _), (7, _), (8, _), (9, _)]) dL_told_49 (Nat.le_of_ble_eq_true rfl) [1, 2, 3, 4, 5, 6, 7, 8, 9, 0] rfl ?_
        refine z_iload dL_told_51 8 rfl ?_
        refine z_aload_n dL_told_53 0 rfl ?_
        refine z_iload dL_told_54 4 rfl ?_
        refine z_iconst dL_told_56 (v := 0) rfl ?_
        refine z_callVF (d := 7) (As := [_, _]) c_X4_ofTroop rfl l_L_19 rfl rfl rfl (Nat.le_of_ble_eq_true rfl) ⟨Nat.le_of_ble_eq_true rfl, Nat.le_of_ble_eq_true rfl⟩ dL_told_57 cs ?_
        refine z_icmp_ge dL_told_60 (tgt := 67) (by decide) (fun h60 => ?_) (fun h60 => by first | exact absurd (b60) h60 | exact absurd h60 (b60))
        refine z_iconst dL_told_67 (v := 0) rfl ?_
        refine z_istore (lo2 := [(0, _), (1, _), (2, _), (3, _), (4, _), (5, _), (6, _), (7, _), (8, _), (9, _), (10, _)]) dL_told_68 (Nat.le_of_ble_eq_true rfl) [1, 2, 3, 4, 5, 6, 7, 8, 9, 10, 0] rfl ?_
        refine z_iload dL_told_70 9 rfl ?_
        refine z_if_ge dL_told_72 (tgt := 83) (by decide) (fun h72 => ?_) (fun h72 => by first | exact absurd (by decide) h72 | exact absurd h72 (by decide))
        refine z_iload dL_told_83 10 rfl ?_
        refine z_if_ne dL_told_85 (tgt := 96) (by decide) (fun h85 => by first | exact absurd (rfl) h85 | exact absurd h85 (rfl)) (fun h85 => ?_)
        refine z_iload dL_told_88 9 rfl ?_
        refine z_iconst dL_told_90 (v := 3) rfl ?_
        refine z_icmp_eq dL_told_91 (tgt := 96) (by decide) (fun h91 => ?_) (fun h91 => by first | exact absurd (rfl) h91 | exact absurd h91 (rfl))
        refine z_iload dL_told_96 9 rfl ?_
        refine z_if_ge dL_told_98 (tgt := 104) (by decide) (fun h98 => ?_) (fun h98 => by first | exact absurd (by decide) h98 | exact absurd h98 (by decide))
        refine z_aloadr dL_told_104 5 rfl ?_
        refine z_iload dL_told_106 9 rfl ?_
        refine z_dup2 dL_told_108 rfl rfl ?_
        refine z_iald (j := 3) (j0 := 0) rfl rfl (by decide) (by decide) dL_told_109 ?_
        refine z_iconst dL_told_110 (v := 1) rfl ?_
        refine z_iload dL_told_111 8 rfl ?_
        refine z_ishl dL_told_113 ?_
        refine z_ior dL_told_114 ?_
        refine z_iast (j := 3) (j0 := 0) rfl rfl (by decide) (by decide) dL_told_115 ?_
        refine z_iload dL_told_116 6 rfl ?_
        refine z_aload_n dL_told_118 0 rfl ?_
        refine z_iload dL_told_119 4 rfl ?_
        refine z_iload dL_told_121 8 rfl ?_
        refine z_iconst dL_told_123 (v := 3) rfl ?_
        refine z_callVF (d := 7) (As := [_, _, _]) c_X4_of rfl l_L_15 rfl rfl rfl (Nat.le_of_ble_eq_true rfl) ⟨Nat.le_of_ble_eq_true rfl, Nat.le_of_ble_eq_true rfl⟩ dL_told_124 c3 ?_
        refine z_iload dL_told_127 8 rfl ?_
        refine z_ishl dL_told_129 ?_
        refine z_ior dL_told_130 ?_
        refine z_istore (lo2 := [(0, _), (1, _), (2, _), (3, _), (4, _), (5, _), (6, _), (7, _), (8, _), (9, _), (10, _)]) dL_told_131 (Nat.le_of_ble_eq_true rfl) [1, 2, 3, 4, 5, 6, 0, 7, 8, 9, 10] rfl ?_
        refine z_iload dL_told_133 7 rfl ?_
        refine z_iload dL_told_135 10 rfl ?_
        refine z_if_eq dL_told_137 (tgt := 165) (by decide) (fun h137 => ?_) (fun h137 => by first | exact absurd (rfl) h137 | exact absurd h137 (rfl))
        refine z_iconst dL_told_165 (v := 0) rfl ?_
        refine z_ior dL_told_166 ?_
        refine z_istore (lo2 := [(0, _), (1, _), (2, _), (3, _), (4, _), (5, _), (6, _), (7, _), (8, _), (9, _), (10, _)]) dL_told_167 (Nat.le_of_ble_eq_true rfl) [1, 2, 3, 4, 5, 6, 7, 0, 8, 9, 10] rfl ?_
        refine z_iload dL_told_169 9 rfl ?_
        refine z_iconst dL_told_171 (v := 3) rfl ?_
        refine z_icmp_ge dL_told_172 (tgt := 187) (by decide) (fun h172 => ?_) (fun h172 => by first | exact absurd (by decide) h172 | exact absurd h172 (by decide))
        refine z_iload dL_told_187 9 rfl ?_
        refine z_iconst dL_told_189 (v := 3) rfl ?_
        refine z_icmp_ne dL_told_190 (tgt := 208) (by decide) (fun h190 => by first | exact absurd (rfl) h190 | exact absurd h190 (rfl)) (fun h190 => ?_)
        refine z_aload_n dL_told_193 0 rfl ?_
        refine z_iload dL_told_194 4 rfl ?_
        refine z_iload dL_told_196 8 rfl ?_
        refine z_iconst dL_told_198 (v := 1) rfl ?_
        refine z_callVF (d := 7) (As := [_, _, _]) c_X4_of rfl l_L_15 rfl rfl rfl (Nat.le_of_ble_eq_true rfl) ⟨Nat.le_of_ble_eq_true rfl, Nat.le_of_ble_eq_true rfl⟩ dL_told_199 c1 ?_
        refine z_iconst dL_told_202 (v := 1) rfl ?_
        refine z_icmp_ge dL_told_203 (tgt := 208) (by decide) (fun h203 => ?_) (fun h203 => by first | exact absurd (p1 hv) h203 | exact absurd h203 (p1 hv))
        refine z_iinc (lo2 := [(0, _), (1, _), (2, _), (3, _), (4, _), (5, _), (6, _), (7, _), (8, _), (9, _), (10, _)]) dL_told_208 8 rfl (w := 1) rfl (Nat.le_of_ble_eq_true rfl) [1, 2, 3, 4, 5, 6, 7, 8, 0, 9, 10] rfl ?_
        refine z_goto dL_told_211 (tgt := 33) (by decide) ?_
        rw [nI_1]
        exact z_sub [0, 1, 2, 3, 4, 5, 6, 7, 8] rfl (ih (k + 1) _ _ _ (by omega) (f_up (v := 3) hkn hv (by omega) hf) (h6') (h7'))
end TOLD
end
section
/-! the law: told, whole -/
section TOLD
variable {G : mG} {S : mS} {N : mN} {t b q kc ks : Nat} {x1 x2 x3 x6 x7 : Int32} {Q : Option Int32 → mS → Prop} {f : Nat → Int32}
theorem lp_told2 (hN : NI N b) (hS : LI S N) (ht : t < cnt N) (hf : ∀ h, h < 5 → f h = mkm (fun i => knB (N.2 t) i && ((N.2 t).2.1 i == nI h)) 16) (hx : Lt G 8 240 5 25 M_L_told Q 249 [(0, rv G 0), (1, .int x1), (2, .int x2), (3, .int x3), (4, .int (nI t)), (5, .ref q), (6, .int x6), (7, .int x7)] [] (S, [(q, 5, f)], kc, ks)) : ∀ n k, n + k = 5 → Lt G 8 240 5 25 M_L_told Q 217 [(0, rv G 0), (1, .int x1), (2, .int x2), (3, .int x3), (4, .int (nI t)), (5, .ref q), (6, .int x6), (7, .int x7), (8, .int (nI k))] [] (S, [(q, 5, f)], kc, ks) := by
  have hW := hN.1
  have hWT := (hN.2.1 t ht).1
  intro n
  induction n with
  | zero =>
    intro k hk
    obtain rfl : k = 5 := by omega
    refine z_iload dL_told_217 8 rfl ?_
    refine z_iconst dL_told_219 (v := 5) rfl ?_
    refine z_icmp_ge dL_told_220 (tgt := 249) (by decide) (fun h220 => ?_) (fun h220 => by first | exact absurd (show (5 : Int32) ≤ nI 5 by decide) h220 | exact absurd h220 (show (5 : Int32) ≤ nI 5 by decide))
    exact z_sub [0, 1, 2, 3, 4, 5, 6, 7] rfl hx
  | succ n ih =>
    intro k hk
    have hk5 : k < 5 := by omega
    have b220 : ¬ (5 : Int32) ≤ nI k := nI_ge (b := 5) hk5 (by decide)
    obtain ⟨-, -, -, -, -, o5, o6, o7, o8, o9, -⟩ := oft hW ht
    have cq : Call G 7 M_X4_ofTroop [rv G 0, .int (nI t), .int (5 + nI k)] S (fun v u => v = some (f k) ∧ u = S) := by
      refine q_t hW hS ?_
      rw [hf k hk5]
      rcases (by omega : k = 0 ∨ k = 1 ∨ k = 2 ∨ k = 3 ∨ k = 4) with rfl | rfl | rfl | rfl | rfl
      · rw [(f_sets hWT).1]; exact o5
      · rw [(f_sets hWT).2 1 (by omega) (by omega)]; exact o6
      · rw [(f_sets hWT).2 2 (by omega) (by omega)]; exact o7
      · rw [(f_sets hWT).2 3 (by omega) (by omega)]; exact o8
      · rw [(f_sets hWT).2 4 (by omega) (by omega)]; exact o9
    refine z_iload dL_told_217 8 rfl ?_
    refine z_iconst dL_told_219 (v := 5) rfl ?_
    refine z_icmp_ge dL_told_220 (tgt := 249) (by decide) (fun h220 => by first | exact absurd (b220) h220 | exact absurd h220 (b220)) (fun h220 => ?_)
    refine z_aload_n dL_told_223 0 rfl ?_
    refine z_iload dL_told_224 4 rfl ?_
    refine z_iconst dL_told_226 (v := 5) rfl ?_
    refine z_iload dL_told_227 8 rfl ?_
    refine z_iadd dL_told_229 ?_
    refine z_callVF (d := 7) (As := [_, _]) c_X4_ofTroop rfl l_L_19 rfl rfl rfl (Nat.le_of_ble_eq_true rfl) ⟨Nat.le_of_ble_eq_true rfl, Nat.le_of_ble_eq_true rfl⟩ dL_told_230 cq ?_
    refine z_aloadr dL_told_233 5 rfl ?_
    refine z_iload dL_told_235 8 rfl ?_
    refine z_iald (j := k) (j0 := 0) rfl rfl hk5 (by decide) dL_told_237 ?_
    refine z_icmp_eq dL_told_238 (tgt := 243) (by decide) (fun h238 => ?_) (fun h238 => by first | exact absurd (rfl) h238 | exact absurd h238 (rfl))
    refine z_iinc (lo2 := [(0, _), (1, _), (2, _), (3, _), (4, _), (5, _), (6, _), (7, _), (8, _)]) dL_told_243 8 rfl (w := 1) rfl (Nat.le_of_ble_eq_true rfl) [1, 2, 3, 4, 5, 6, 7, 8, 0] rfl ?_
    refine z_goto dL_told_246 (tgt := 217) (by decide) ?_
    rw [nI_1]
    exact ih (k + 1) (by omega)
theorem lp_told3 (hN : NI N b) (hb : b ≤ 1000) (hS : LI S N) (hx : Q (some 1) S) : ∀ n t, n + t = cnt N → Lt G 8 240 5 25 M_L_told Q 9 [(0, rv G 0), (1, .int (sumN (fun T => T.1 3) N t)), (2, .int (sumN (fun T => szF (hm T 3) 16) N t)), (3, .int (sumN (fun T => szF (hm T 4) 16) N t)), (4, .int (nI t))] [] (S, [], t, 5 * t) := by
  have hW := hN.1
  obtain ⟨hc, hc5⟩ := hW.cn
  have q1 : Call G 7 M_X4_count [rv G 0, .int 1] S (fun v u => v = some (nI (cnt N)) ∧ u = S) := q_cnt hW hS (fun n => hc)
  intro n
  induction n with
  | zero =>
    intro t ht
    obtain rfl : t = cnt N := by omega
    have q2 : Call G 7 M_X4_count [rv G 0, .int 2] S (fun v u => v = some (sumN (fun T => T.1 3) N (cnt N)) ∧ u = S) := q_cnt hW hS (fun n => rfl)
    have q3 : Call G 7 M_X4_count [rv G 0, .int 3] S (fun v u => v = some (sumN (fun T => szF (hm T 3) 16) N (cnt N)) ∧ u = S) := q_cnt hW hS (fun n => rfl)
    have q4 : Call G 7 M_X4_count [rv G 0, .int 4] S (fun v u => v = some (sumN (fun T => szF (hm T 4) 16) N (cnt N)) ∧ u = S) := q_cnt hW hS (fun n => rfl)
    have qn := q_wain (G := G) hW hS
    rw [hc] at qn
    refine z_iload dL_told_9 4 rfl ?_
    refine z_aload_n dL_told_11 0 rfl ?_
    refine z_iconst dL_told_12 (v := 1) rfl ?_
    refine z_callVF (d := 7) (As := [_]) c_X4_count rfl l_L_9 rfl rfl rfl (Nat.le_of_ble_eq_true rfl) ⟨Nat.le_of_ble_eq_true rfl, Nat.le_of_ble_eq_true rfl⟩ dL_told_13 q1 ?_
    refine z_icmp_ge dL_told_16 (tgt := 344) (by decide) (fun h16 => ?_) (fun h16 => by first | exact absurd (Int32.le_refl _) h16 | exact absurd h16 (Int32.le_refl _))
    refine z_aload_n dL_told_344 0 rfl ?_
    refine z_iconst dL_told_345 (v := 2) rfl ?_
    refine z_callVF (d := 7) (As := [_]) c_X4_count rfl l_L_9 rfl rfl rfl (Nat.le_of_ble_eq_true rfl) ⟨Nat.le_of_ble_eq_true rfl, Nat.le_of_ble_eq_true rfl⟩ dL_told_346 q2 ?_
    refine z_iload_n dL_told_349 1 rfl ?_
    refine z_icmp_ne dL_told_350 (tgt := 388) (by decide) (fun h350 => by first | exact absurd (rfl) h350 | exact absurd h350 (rfl)) (fun h350 => ?_)
    refine z_aload_n dL_told_353 0 rfl ?_
    refine z_iconst dL_told_354 (v := 3) rfl ?_
    refine z_callVF (d := 7) (As := [_]) c_X4_count rfl l_L_9 rfl rfl rfl (Nat.le_of_ble_eq_true rfl) ⟨Nat.le_of_ble_eq_true rfl, Nat.le_of_ble_eq_true rfl⟩ dL_told_355 q3 ?_
    refine z_iload_n dL_told_358 2 rfl ?_
    refine z_icmp_ne dL_told_359 (tgt := 388) (by decide) (fun h359 => by first | exact absurd (rfl) h359 | exact absurd h359 (rfl)) (fun h359 => ?_)
    refine z_aload_n dL_told_362 0 rfl ?_
    refine z_iconst dL_told_363 (v := 4) rfl ?_
    refine z_callVF (d := 7) (As := [_]) c_X4_count rfl l_L_9 rfl rfl rfl (Nat.le_of_ble_eq_true rfl) ⟨Nat.le_of_ble_eq_true rfl, Nat.le_of_ble_eq_true rfl⟩ dL_told_364 q4 ?_
    refine z_iload_n dL_told_367 3 rfl ?_
    refine z_icmp_ne dL_told_368 (tgt := 388) (by decide) (fun h368 => by first | exact absurd (rfl) h368 | exact absurd h368 (rfl)) (fun h368 => ?_)
    refine z_aload_n dL_told_371 0 rfl ?_
    refine z_aload_n dL_told_372 0 rfl ?_
    refine z_iconst dL_told_373 (v := 1) rfl ?_
    refine z_callVF (d := 7) (As := [_]) c_X4_count rfl l_L_9 rfl rfl rfl (Nat.le_of_ble_eq_true rfl) ⟨Nat.le_of_ble_eq_true rfl, Nat.le_of_ble_eq_true rfl⟩ dL_told_374 q1 ?_
    refine z_callVF (d := 7) (As := [_]) c_X4_waitsFor rfl l_L_23 rfl rfl rfl (Nat.le_of_ble_eq_true rfl) ⟨Nat.le_of_ble_eq_true rfl, Nat.le_of_ble_eq_true rfl⟩ dL_told_377 qn ?_
    refine z_iconst dL_told_380 (v := -1) rfl ?_
    refine z_icmp_ne dL_told_381 (tgt := 388) (by decide) (fun h381 => by first | exact absurd (rfl) h381 | exact absurd h381 (rfl)) (fun h381 => ?_)
    refine z_iconst dL_told_384 (v := 1) rfl ?_
    refine z_goto dL_told_385 (tgt := 389) (by decide) ?_
    refine z_zret rfl (by first | rfl | decide) dL_told_389 ?_
    exact hx
  | succ n ih =>
    intro t ht
    have htc : t < cnt N := by omega
    have b16 : ¬ nI (cnt N) ≤ nI t := nI_ge htc (by omega)
    have hT := hN.2.1 t htc
    have hWT := hT.1
    obtain ⟨o0, o1, o2, o3, o4, -, -, -, -, -, o10, o11⟩ := oft hW htc
    have c3 := q_t (G := G) hW hS o3
    have c4 := q_t (G := G) hW hS o4
    have c10 := q_t (G := G) hW hS o10
    have c11 := q_t (G := G) hW hS o11
    have cw := q_wai (G := G) hW hS htc
    have b303 : (N.2 t).1 3 ≤ (N.2 t).1 4 := by
      obtain ⟨-, -, -, x, y, e3, e4, h1, h2, h3⟩ := hT
      rw [e3, e4]; exact nI_le h1 (by omega)
    have st2 : ∀ (f : Nat → Int32) q, f 3 = hm (N.2 t) 3 → f 4 = hm (N.2 t) 4 → Lt G 8 240 5 25 M_L_told Q 249 [(0, rv G 0), (1, .int (sumN (fun T => T.1 3) N t)), (2, .int (sumN (fun T => szF (hm T 3) 16) N t)), (3, .int (sumN (fun T => szF (hm T 4) 16) N t)), (4, .int (nI t)), (5, .ref q), (6, .int ((N.2 t).1 5)), (7, .int (awM (N.2 t)))] [] (S, [(q, 5, f)], t + 1, 5 * t + 5) := by
      intro f q f3 f4
      refine z_aload_n dL_told_249 0 rfl ?_
      refine z_iload dL_told_250 4 rfl ?_
      refine z_callVF (d := 7) (As := [_]) c_X4_waitsFor rfl l_L_23 rfl rfl rfl (Nat.le_of_ble_eq_true rfl) ⟨Nat.le_of_ble_eq_true rfl, Nat.le_of_ble_eq_true rfl⟩ dL_told_252 cw ?_
      refine z_iload dL_told_255 7 rfl ?_
      refine z_icmp_ne dL_told_257 (tgt := 306) (by decide) (fun h257 => by first | exact absurd (rfl) h257 | exact absurd h257 (rfl)) (fun h257 => ?_)
      refine z_aload_n dL_told_260 0 rfl ?_
      refine z_iload dL_told_261 4 rfl ?_
      refine z_iconst dL_told_263 (v := 3) rfl ?_
      refine z_callVF (d := 7) (As := [_, _]) c_X4_ofTroop rfl l_L_19 rfl rfl rfl (Nat.le_of_ble_eq_true rfl) ⟨Nat.le_of_ble_eq_true rfl, Nat.le_of_ble_eq_true rfl⟩ dL_told_264 c3 ?_
      refine z_iload dL_told_267 7 rfl ?_
      refine z_callSF (d := 7) (As := [_]) c_L_size l_L_26 rfl rfl rfl (Nat.le_of_ble_eq_true rfl) ⟨Nat.le_of_ble_eq_true rfl, Nat.le_of_ble_eq_true rfl⟩ dL_told_269 t_L_size ?_
      refine z_icmp_ne dL_told_272 (tgt := 306) (by decide) (fun h272 => by first | exact absurd (rfl) h272 | exact absurd h272 (rfl)) (fun h272 => ?_)
      refine z_aload_n dL_told_275 0 rfl ?_
      refine z_iload dL_told_276 4 rfl ?_
      refine z_bipush dL_told_278 (v := 10) (by decide +kernel) ?_
      refine z_callVF (d := 7) (As := [_, _]) c_X4_ofTroop rfl l_L_19 rfl rfl rfl (Nat.le_of_ble_eq_true rfl) ⟨Nat.le_of_ble_eq_true rfl, Nat.le_of_ble_eq_true rfl⟩ dL_told_280 c10 ?_
      refine z_iload dL_told_283 6 rfl ?_
      refine z_icmp_ne dL_told_285 (tgt := 306) (by decide) (fun h285 => by first | exact absurd (rfl) h285 | exact absurd h285 (rfl)) (fun h285 => ?_)
      refine z_aload_n dL_told_288 0 rfl ?_
      refine z_iload dL_told_289 4 rfl ?_
      refine z_bipush dL_told_291 (v := 11) (by decide +kernel) ?_
      refine z_callVF (d := 7) (As := [_, _]) c_X4_ofTroop rfl l_L_19 rfl rfl rfl (Nat.le_of_ble_eq_true rfl) ⟨Nat.le_of_ble_eq_true rfl, Nat.le_of_ble_eq_true rfl⟩ dL_told_293 c11 ?_
      refine z_aload_n dL_told_296 0 rfl ?_
      refine z_iload dL_told_297 4 rfl ?_
      refine z_iconst dL_told_299 (v := 4) rfl ?_
      refine z_callVF (d := 7) (As := [_, _]) c_X4_ofTroop rfl l_L_19 rfl rfl rfl (Nat.le_of_ble_eq_true rfl) ⟨Nat.le_of_ble_eq_true rfl, Nat.le_of_ble_eq_true rfl⟩ dL_told_300 c4 ?_
      refine z_icmp_ge dL_told_303 (tgt := 308) (by decide) (fun h303 => ?_) (fun h303 => by first | exact absurd (b303) h303 | exact absurd h303 (b303))
      refine z_iload_n dL_told_308 1 rfl ?_
      refine z_aload_n dL_told_309 0 rfl ?_
      refine z_iload dL_told_310 4 rfl ?_
      refine z_iconst dL_told_312 (v := 4) rfl ?_
      refine z_callVF (d := 7) (As := [_, _]) c_X4_ofTroop rfl l_L_19 rfl rfl rfl (Nat.le_of_ble_eq_true rfl) ⟨Nat.le_of_ble_eq_true rfl, Nat.le_of_ble_eq_true rfl⟩ dL_told_313 c4 ?_
      refine z_iadd dL_told_316 ?_
      refine z_istore_n (lo2 := [(0, _), (1, _), (2, _), (3, _), (4, _), (5, _), (6, _), (7, _)]) dL_told_317 rfl (Nat.le_of_ble_eq_true rfl) [1, 0, 2, 3, 4, 5, 6, 7] rfl ?_
      refine z_iload_n dL_told_318 2 rfl ?_
      refine z_aloadr dL_told_319 5 rfl ?_
      refine z_iconst dL_told_321 (v := 3) rfl ?_
      refine z_iald (j := 3) (j0 := 0) rfl rfl (by decide) (by decide) dL_told_322 ?_
      refine z_callSF (d := 7) (As := [_]) c_L_size l_L_26 rfl rfl rfl (Nat.le_of_ble_eq_true rfl) ⟨Nat.le_of_ble_eq_true rfl, Nat.le_of_ble_eq_true rfl⟩ dL_told_323 t_L_size ?_
      refine z_iadd dL_told_326 ?_
      refine z_istore_n (lo2 := [(0, _), (1, _), (2, _), (3, _), (4, _), (5, _), (6, _), (7, _)]) dL_told_327 rfl (Nat.le_of_ble_eq_true rfl) [1, 2, 0, 3, 4, 5, 6, 7] rfl ?_
      refine z_iload_n dL_told_328 3 rfl ?_
      refine z_aloadr dL_told_329 5 rfl ?_
      refine z_iconst dL_told_331 (v := 4) rfl ?_
      refine z_iald (j := 4) (j0 := 0) rfl rfl (by decide) (by decide) dL_told_332 ?_
      refine z_callSF (d := 7) (As := [_]) c_L_size l_L_26 rfl rfl rfl (Nat.le_of_ble_eq_true rfl) ⟨Nat.le_of_ble_eq_true rfl, Nat.le_of_ble_eq_true rfl⟩ dL_told_333 t_L_size ?_
      refine z_iadd dL_told_336 ?_
      refine z_istore_n (lo2 := [(0, _), (1, _), (2, _), (3, _), (4, _), (5, _), (6, _), (7, _)]) dL_told_337 rfl (Nat.le_of_ble_eq_true rfl) [1, 2, 3, 0, 4, 5, 6, 7] rfl ?_
      refine z_iinc (lo2 := [(0, _), (1, _), (2, _), (3, _), (4, _), (5, _), (6, _), (7, _)]) dL_told_338 4 rfl (w := 1) rfl (Nat.le_of_ble_eq_true rfl) [1, 2, 3, 4, 0, 5, 6, 7] rfl ?_
      refine z_goto dL_told_341 (tgt := 9) (by decide) ?_
      rw [nI_1, f3, f4]
      exact z_drop (z_sub [0, 1, 2, 3, 4] rfl (ih (t + 1) (by omega)))
    refine z_iload dL_told_9 4 rfl ?_
    refine z_aload_n dL_told_11 0 rfl ?_
    refine z_iconst dL_told_12 (v := 1) rfl ?_
    refine z_callVF (d := 7) (As := [_]) c_X4_count rfl l_L_9 rfl rfl rfl (Nat.le_of_ble_eq_true rfl) ⟨Nat.le_of_ble_eq_true rfl, Nat.le_of_ble_eq_true rfl⟩ dL_told_13 q1 ?_
    refine z_icmp_ge dL_told_16 (tgt := 344) (by decide) (fun h16 => by first | exact absurd (b16) h16 | exact absurd h16 (b16)) (fun h16 => ?_)
    refine z_iconst dL_told_19 (v := 5) rfl ?_
    refine z_newa (N := 5) rfl (by decide) a_int (show t + 1 ≤ 5 by omega) (show 5 * t + 5 ≤ 25 by omega) dL_told_20 ?_
    intro q
    refine z_astorer (lo2 := [(0, _), (1, _), (2, _), (3, _), (4, _), (5, _)]) dL_told_22 (Nat.le_of_ble_eq_true rfl) [1, 2, 3, 4, 5, 0] rfl ?_
    refine z_iconst dL_told_24 (v := 0) rfl ?_
    refine z_istore (lo2 := [(0, _), (1, _), (2, _), (3, _), (4, _), (5, _), (6, _)]) dL_told_25 (Nat.le_of_ble_eq_true rfl) [1, 2, 3, 4, 5, 6, 0] rfl ?_
    refine z_iconst dL_told_27 (v := 0) rfl ?_
    refine z_istore (lo2 := [(0, _), (1, _), (2, _), (3, _), (4, _), (5, _), (6, _), (7, _)]) dL_told_28 (Nat.le_of_ble_eq_true rfl) [1, 2, 3, 4, 5, 6, 7, 0] rfl ?_
    refine z_iconst dL_told_30 (v := 0) rfl ?_
    refine z_istore (lo2 := [(0, _), (1, _), (2, _), (3, _), (4, _), (5, _), (6, _), (7, _), (8, _)]) dL_told_31 (Nat.le_of_ble_eq_true rfl) [1, 2, 3, 4, 5, 6, 7, 8, 0] rfl ?_
    refine lp_told1 hN hS htc (fun f hf => ?_) 16 0 (fun _ => 0) 0 0 (by omega) (fun h _ => rfl) rfl rfl
    have f3 : f 3 = hm (N.2 t) 3 := (hf 3 (by omega)).trans ((f_sets hWT).2 3 (by omega) (by omega))
    have f4 : f 4 = hm (N.2 t) 4 := (hf 4 (by omega)).trans ((f_sets hWT).2 4 (by omega) (by omega))
    refine z_iconst dL_told_214 (v := 0) rfl ?_
    refine z_istore (lo2 := [(0, _), (1, _), (2, _), (3, _), (4, _), (5, _), (6, _), (7, _), (8, _)]) dL_told_215 (Nat.le_of_ble_eq_true rfl) [1, 2, 3, 4, 5, 6, 7, 8, 0] rfl ?_
    refine lp_told2 hN hS htc hf ?_ 5 0 (by omega)
    exact st2 f q f3 f4
theorem t_L_told (hN : NI N b) (hb : b ≤ 1000) (hS : LI S N) : CallL G 8 240 5 25 M_L_told [rv G 0] S (fun v u => v = some 1 ∧ u = S) := by
  refine callL_of (lo := [(0, rv G 0)]) (by decide +kernel) (Nat.le_of_ble_eq_true rfl) rfl ?_
  refine z_iconst dL_told_0 (v := 0) rfl ?_
  refine z_istore_n (lo2 := [(0, _), (1, _)]) dL_told_1 rfl (Nat.le_of_ble_eq_true rfl) [1, 0] rfl ?_
  refine z_iconst dL_told_2 (v := 0) rfl ?_
  refine z_istore_n (lo2 := [(0, _), (1, _), (2, _)]) dL_told_3 rfl (Nat.le_of_ble_eq_true rfl) [1, 2, 0] rfl ?_
  refine z_iconst dL_told_4 (v := 0) rfl ?_
  refine z_istore_n (lo2 := [(0, _), (1, _), (2, _), (3, _)]) dL_told_5 rfl (Nat.le_of_ble_eq_true rfl) [1, 2, 3, 0] rfl ?_
  refine z_iconst dL_told_6 (v := 0) rfl ?_
  refine z_istore (lo2 := [(0, _), (1, _), (2, _), (3, _), (4, _)]) dL_told_7 (Nat.le_of_ble_eq_true rfl) [1, 2, 3, 4, 0] rfl ?_
  exact lp_told3 hN hb hS ⟨rfl, rfl⟩ (cnt N) 0 (by omega)
end TOLD
end
section
/-! the law: one who comes, in numbers -/
theorem ni_tr {N : mN} {b c : Nat} (h : NI N b) (hbc : b ≤ c) {t : Nat} {T : mT} (hT : TI T c) : NI (setTr N t T) c := by
  obtain ⟨hW, hk, ⟨m, hm1, hm2⟩, ha, h2⟩ := h
  refine ⟨hW.tr hT.1, fun i hi => ?_, ⟨m, by omega, hm2⟩, ha, h2⟩
  show TI (if i = t then T else N.2 i) c
  by_cases e : i = t
  · rw [if_pos e]; exact hT
  · rw [if_neg e]; exact (hk i hi).mono hbc
theorem NI.mono {N : mN} {b c : Nat} (h : NI N b) (hbc : b ≤ c) : NI N c := by
  obtain ⟨hW, hk, ⟨m, hm1, hm2⟩, ha, h2⟩ := h
  exact ⟨hW, fun i hi => (hk i hi).mono hbc, ⟨m, by omega, hm2⟩, ha, h2⟩
theorem ni_ery {N : mN} {b : Nat} (h : NI N b) : NI (eryN N) b := by
  obtain ⟨hW, hk, hm, ha, h2⟩ := h
  exact ⟨wn_ery hW, hk, hm, ha, h2⟩
theorem tr_at {N : mN} {t : Nat} {T : mT} : (setTr N t T).2 t = T := by unfold setTr; exact if_pos rfl
theorem why_no {N : mN} (hW : WN N) {t k : Nat} (ht : t < cnt N) (hk : k < 16) (h : ¬ k < tsz (N.2 t)) (c : Int32) : whyA N (nI t) (nI k) c = -1 := by
  unfold whyA; rw [sc_ok hW ht hk, decide_eq_false h]; rfl
theorem why_ok {N : mN} (hW : WN N) {t k : Nat} (ht : t < cnt N) (hk : k < 16) (h : k < tsz (N.2 t)) {c : Int32} (hc : c = 0 ∨ c = 1) : whyA N (nI t) (nI k) c = whyT (N.2 t) k c := by
  have hc5 := hW.cn.2
  have hcc : ¬ (c < 0 ∨ 1 < c) := by rcases hc with rfl | rfl <;> decide
  unfold whyA
  rw [sc_ok hW ht hk, decide_eq_true h, if_pos rfl, if_neg hcc, nI_clamp (by omega), nI_clamp (by omega)]
theorem com_n {N : mN} {x y c : Int32} (h : whyA N x y c = -1) : comO N x y c = (-1, N) := by unfold comO; rw [h]; rfl
theorem com_5 {N : mN} {x y c : Int32} (h : whyA N x y c = 1 ∨ whyA N x y c = 2 ∨ whyA N x y c = 3) : comO N x y c = (-5, N) := by
  unfold comO
  rcases h with h | h | h <;> rw [h] <;> rfl
theorem com_0 {N : mN} {t k : Nat} {c : Int32} (ht : t < 5) (hk : k < 16) (h : whyA N (nI t) (nI k) c = 0) : comO N (nI t) (nI k) c = (nI (opK 3 (setH (N.2 t) k 1) (N.1 1)), setTr N t (opnN 3 (setH (N.2 t) k 1) (N.1 1)).2) := by
  unfold comO
  rw [h, if_neg (by decide), if_neg (by decide), if_pos rfl, nI_clamp (by omega), nI_clamp (by omega)]
  unfold comN
  rw [(op_all 3 _ _).1]
theorem com_4 {N : mN} {t k : Nat} {c : Int32} (ht : t < 5) (hk : k < 16) (h : whyA N (nI t) (nI k) c = 4) : comO N (nI t) (nI k) c = (nI (opK 3 (setH (N.2 t) k 2) (N.1 1)), setTr (eryN N) t (opnN 3 (setH (N.2 t) k 2) (N.1 1)).2) := by
  unfold comO
  rw [h, if_neg (by decide), if_pos rfl, nI_clamp (by omega), nI_clamp (by omega)]
  unfold comN
  rw [(op_all 3 _ _).1]
  rfl
theorem aw_set {T : mT} {k : Nat} (hk : k < 16) : awM T &&& (((1 : Int32) <<< (nI k &&& 31)) ^^^ (-1)) = awM (setH T k 1) := by
  refine mkm_eq (fun i hi => ?_) (fun i h1 h2 => ?_)
  · rw [b_and, awM, mkm_bt _ i hi, bt_not _ (by omega), bt_one k (by omega) i (by omega)]
    have e : tsz (setH T k 1) = tsz T := rfl
    unfold awp
    rw [e]
    by_cases e : i = k
    · subst e
      simp [setH, upd]
    · simp [setH, upd, e]
  · rw [b_and, awM, mkm_hi _ i h1 h2, Bool.false_and]
theorem hm_in {T : mT} {k : Nat} (hk : k < 16) : hm T 1 ||| ((1 : Int32) <<< (nI k &&& 31)) = hm (setH T k 1) 1 := hmk_in T.2.1 1 hk
theorem hm_ou {T : mT} {k : Nat} (h : ¬ T.2.1 k = 1) : hm T 1 ||| 0 = hm (setH T k 2) 1 := by
  rw [Int32.or_zero]; exact (hmk_no (hw := T.2.1) (x := 2) (h := 1) h (by decide)).symm
theorem ca_no {T : mT} {k : Nat} (hk : k < 16) (h : canO (setH T k 1) = false) : ¬ awM (setH T k 1) = 0 := by
  intro z
  unfold canO at h
  rw [decide_eq_true z, Bool.true_and, Bool.not_eq_false', decide_eq_true_eq] at h
  have := (mkm_0 _).mp h k hk
  simp [setH, upd] at this
theorem kn_of {T : mT} (hW : WF T) {k : Nat} (hk : k < 16) (h : ¬ T.2.1 k = 0) : knB T k = true := by
  unfold knB
  rw [Bool.or_eq_true, decide_eq_true_iff]
  rcases Nat.lt_or_ge k (tsz T) with z | z
  · exact Or.inl z
  · right
    rcases (hW.2.2 k hk).2.1 z with y | y
    · exact absurd y h
    · rw [y]; rfl
theorem kn_lt {T : mT} {k : Nat} (h : k < tsz T) : knB T k = true := by unfold knB; rw [decide_eq_true h]; rfl
theorem com_f {T : mT} {b k : Nat} {a h : Int32} (hT : TI T b) (ha : 1 ≤ a) (hk : k < tsz T) (hh : h = 1 ∨ h = 2) (hk2 : ¬ T.2.1 k = 2) (hb : b ≤ 900) :
    TI (opnN 3 (setH T k h) a).2 (b + 3) ∧ opK 3 (setH T k h) a ≤ 3 ∧ (opnN 3 (setH T k h) a).2.1 3 = T.1 3 + nI (opK 3 (setH T k h) a) ∧
    (opnN 3 (setH T k h) a).2.1 1 = (T.1 1 + nI (opK 3 (setH T k h) a)) - (T.1 1 + nI (opK 3 (setH T k h) a)) / 2 * 2 ∧
    (opK 3 (setH T k h) a = 0 → (opnN 3 (setH T k h) a).2 = setH T k h ∧ canO (setH T k h) = false) ∧
    (1 ≤ opK 3 (setH T k h) a → awM (setH T k h) = 0 ∧ (opnN 3 (setH T k h) a).2.1 0 = T.1 2 ∧ (opnN 3 (setH T k h) a).2.1 5 = 0 ∧
      (∀ x, x < 16 → bt (hm (setH T k h) 1) x = true → (opnN 3 (setH T k h) a).2.2.1 x = 3 ∧ (opnN 3 (setH T k h) a).2.2.2.1 x = a ∧ 1 ≤ (opnN 3 (setH T k h) a).2.2.2.2 x) ∧
      (opK 3 (setH T k h) a = 1 → ∀ x, x < 16 → x < (T.1 2).toNatClampNeg → bt (hm T 2) x = true → (opnN 3 (setH T k h) a).2.2.1 x = 1) ∧
      ¬ (opnN 3 (setH T k h) a).2.1 4 < T.1 4 + szF (hm (setH T k h) 1) 16) := by
  have hT1 : TI (setH T k h) b := ti_set hT hk (by rcases hh with z | z <;> simp [z])
  generalize eT : setH T k h = T1 at hT1 ⊢
  have g1 : ∀ j, T1.1 j = T.1 j := fun j => by rw [← eT]; rfl
  obtain ⟨a1, a2, a3, a4, a5⟩ := op_all 3 T1 a
  have hle := opK_le 3 T1 a
  refine ⟨(op_ti 3 T1 a b (by omega) hT1 ha).1, hle, by rw [a2, g1], ?_, fun hn => ?_, fun hn => ?_⟩
  · obtain ⟨c0, hc0, ec⟩ : ∃ c0, c0 < 2 ∧ T.1 1 = nI c0 := by
      rcases hT.1.2.1 with z | z
      · exact ⟨0, by omega, z⟩
      · exact ⟨1, by omega, z⟩
    rw [a3 c0 hc0 ((g1 1).trans ec), ec, nI_add]
    exact (pk_rem (d := 2) (by omega) (by omega) (by omega)).symm
  · by_cases hc : canO T1 = true
    · rw [(op_t (n := 2) (a := a) hc).2] at hn; omega
    · rw [(op_f (n := 2) (a := a) hc).1]
      exact ⟨rfl, by simpa using hc⟩
  · by_cases hc : canO T1 = true
    · obtain ⟨e1, e2⟩ := op_t (n := 2) (a := a) hc
      rw [e1, e2]
      obtain ⟨b1, b2, b3, b4, b5⟩ := op_all 2 (begT T1 a) a
      obtain ⟨c1, c2⟩ := b5 rfl rfl
      obtain ⟨k1, y, y', k2, k3, k4, k5⟩ := op_ti 2 (begT T1 a) a (b + 1) (by omega) (ti_beg hT1 ha hc).1 ha
      refine ⟨(can_in hc).1, c1.trans (g1 2), c2, fun x hx hbx => ?_, fun hn1 x hx hxn hbx => ?_, ?_⟩
      · rw [bt_hm T1 1 hx, beq_iff_eq] at hbx
        obtain ⟨q1, q2, q3⟩ := beg_1 (a := a) hbx
        obtain ⟨r1, r2, r3⟩ := b4 x q1
        obtain ⟨j, hj, ej⟩ := (hT1.2.1 x hx).2.2
        refine ⟨r1, r2.trans q2, ?_⟩
        show 1 ≤ (opnN 2 (begT T1 a) a).2.2.2.2 x
        rw [r3, q3, ej, nI_1]
        exact nI_le (a := 1) (by omega) (by omega)
      · have hz : opK 2 (begT T1 a) a = 0 := by omega
        have hc2 : ¬ canO (begT T1 a) = true := fun z => by rw [(op_t (n := 1) (a := a) z).2] at hz; omega
        show (opnN 2 (begT T1 a) a).2.2.1 x = 1
        rw [(op_f (n := 1) (a := a) hc2).1]
        rw [bt_hm T 2 hx, beq_iff_eq] at hbx
        have hxk : x ≠ k := fun z => hk2 (by rw [← z]; exact hbx)
        have hx2 : T1.2.1 x = 2 := by rw [← eT]; show upd T.2.1 k h x = 2; rw [upd, if_neg hxk]; exact hbx
        exact (beg_2 (a := a) hx2 (by rw [g1]; exact hxn)).1
      · show ¬ (opnN 2 (begT T1 a) a).2.1 4 < T.1 4 + szF (hm T1 1) 16
        have e4 : (begT T1 a).1 4 = T.1 4 + szF (hm T1 1) 16 := by show T1.1 4 + _ = _; rw [g1]
        rw [← e4, k2, k3]
        exact nI_nlt k4 (by omega)
    · rw [(op_f (n := 2) (a := a) hc).2] at hn; omega
end
section
/-! the law: comes, its walk -/
section COMES
variable {G : mG} {S u : mS} {N N' : mN} {t k b n : Nat} {c x9 x12 x14 m8 : Int32} {Q : Option Int32 → mS → Prop}
theorem lp_comes (hW' : WN N') (hS' : LI u N') (ht' : t < cnt N') (h14 : x14 = nI (x14.toNatClampNeg) ∧ x14.toNatClampNeg ≤ 16) (hn3 : n ≤ 3)
    (F1 : ∀ x, x < 16 → bt m8 x = true → (N'.2 t).2.1 x = 3 ∧ (N'.2 t).2.2.1 x = N'.1 1 ∧ 1 ≤ (N'.2 t).2.2.2 x)
    (F2 : n = 1 → ∀ x, x < 16 → x < x14.toNatClampNeg → bt x9 x = true → (N'.2 t).2.1 x = 1)
    (F3 : ¬ (N'.2 t).1 4 < x12 + szF m8 16) (hQ : Q (some 1) u) : ∀ r x, r + x = 16 → Lt G 8 240 0 0 M_L_comes Q 419 [(0, rv G 0), (1, .int (nI t)), (8, .int m8), (9, .int x9), (12, .int x12), (14, .int x14), (16, .int (nI n)), (17, .int (nI x))] [] (u, [], 0, 0) := by
  have hWT := hW'.2 t ht'
  have c11 := q_t (G := G) hW' hS' (oft hW' ht').2.2.2.2.2.2.2.2.2.2.2
  have c7 : Call G 7 M_X4_count [rv G 0, .int 7] u (fun v w => v = some (N'.1 1) ∧ w = u) := q_cnt hW' hS' (fun n => rfl)
  intro r
  induction r with
  | zero =>
    intro x hx
    obtain rfl : x = 16 := by omega
    refine z_iload dL_comes_419 7 rfl ?_
    refine z_bipush dL_comes_421 (v := 16) (by decide +kernel) ?_
    refine z_icmp_ge dL_comes_423 (tgt := 524) (by decide) (fun h423 => ?_) (fun h423 => by first | exact absurd (show (16 : Int32) ≤ nI 16 by decide) h423 | exact absurd h423 (show (16 : Int32) ≤ nI 16 by decide))
    refine z_aload_n dL_comes_524 0 rfl ?_
    refine z_iload_n dL_comes_525 1 rfl ?_
    refine z_bipush dL_comes_526 (v := 11) (by decide +kernel) ?_
    refine z_callVF (d := 7) (As := [_, _]) c_X4_ofTroop rfl l_L_19 rfl rfl rfl (Nat.le_of_ble_eq_true rfl) ⟨Nat.le_of_ble_eq_true rfl, Nat.le_of_ble_eq_true rfl⟩ dL_comes_528 c11 ?_
    refine z_iload dL_comes_531 4 rfl ?_
    refine z_iload dL_comes_533 2 rfl ?_
    refine z_callSF (d := 7) (As := [_]) c_L_size l_L_26 rfl rfl rfl (Nat.le_of_ble_eq_true rfl) ⟨Nat.le_of_ble_eq_true rfl, Nat.le_of_ble_eq_true rfl⟩ dL_comes_535 t_L_size ?_
    refine z_iadd dL_comes_538 ?_
    refine z_icmp_lt dL_comes_539 (tgt := 546) (by decide) (fun h539 => by first | exact absurd (F3) h539 | exact absurd h539 (F3)) (fun h539 => ?_)
    refine z_iconst dL_comes_542 (v := 1) rfl ?_
    refine z_goto dL_comes_543 (tgt := 547) (by decide) ?_
    refine z_zret rfl (by first | rfl | decide) dL_comes_547 ?_
    exact hQ
  | succ r ih =>
    intro x hx
    have hx16 : x < 16 := by omega
    have b423 : ¬ ((16 : Int32) ≤ nI x) := c16 hx16
    refine z_iload dL_comes_419 7 rfl ?_
    refine z_bipush dL_comes_421 (v := 16) (by decide +kernel) ?_
    refine z_icmp_ge dL_comes_423 (tgt := 524) (by decide) (fun h423 => by first | exact absurd (b423) h423 | exact absurd h423 (b423)) (fun h423 => ?_)
    refine z_iload dL_comes_426 2 rfl ?_
    refine z_iload dL_comes_428 7 rfl ?_
    refine z_ishr dL_comes_430 ?_
    refine z_iconst dL_comes_431 (v := 1) rfl ?_
    refine z_iand dL_comes_432 ?_
    rw [bt_and1 _ (show x < 32 by omega)]
    refine z_iconst dL_comes_433 (v := 1) rfl ?_
    refine z_icmp_ne dL_comes_434 (tgt := 480) (by decide) (fun h434 => ?_) (fun h434 => ?_)
    · --t
      refine z_iload dL_comes_480 6 rfl ?_
      refine z_iconst dL_comes_482 (v := 1) rfl ?_
      refine z_icmp_ne dL_comes_483 (tgt := 518) (by decide) (fun h483 => ?_) (fun h483 => ?_)
      · --t
        refine z_iinc (lo2 := [(0, _), (1, _), (8, _), (9, _), (12, _), (14, _), (16, _), (17, _)]) dL_comes_518 7 rfl (w := 1) rfl (Nat.le_of_ble_eq_true rfl) [1, 2, 3, 4, 5, 6, 7, 0] rfl ?_
        refine z_goto dL_comes_521 (tgt := 419) (by decide) ?_
        rw [nI_1]
        exact ih (x + 1) (by omega)
      · --f
        refine z_iload dL_comes_486 7 rfl ?_
        refine z_iload dL_comes_488 5 rfl ?_
        refine z_icmp_ge dL_comes_490 (tgt := 518) (by decide) (fun h490 => ?_) (fun h490 => ?_)
        · --t
          refine z_iinc (lo2 := [(0, _), (1, _), (8, _), (9, _), (12, _), (14, _), (16, _), (17, _)]) dL_comes_518 7 rfl (w := 1) rfl (Nat.le_of_ble_eq_true rfl) [1, 2, 3, 4, 5, 6, 7, 0] rfl ?_
          refine z_goto dL_comes_521 (tgt := 419) (by decide) ?_
          rw [nI_1]
          exact ih (x + 1) (by omega)
        · --f
          refine z_iload dL_comes_493 3 rfl ?_
          refine z_iload dL_comes_495 7 rfl ?_
          refine z_ishr dL_comes_497 ?_
          refine z_iconst dL_comes_498 (v := 1) rfl ?_
          refine z_iand dL_comes_499 ?_
          rw [bt_and1 _ (show x < 32 by omega)]
          refine z_iconst dL_comes_500 (v := 1) rfl ?_
          refine z_icmp_ne dL_comes_501 (tgt := 518) (by decide) (fun h501 => ?_) (fun h501 => ?_)
          · --t
            refine z_iinc (lo2 := [(0, _), (1, _), (8, _), (9, _), (12, _), (14, _), (16, _), (17, _)]) dL_comes_518 7 rfl (w := 1) rfl (Nat.le_of_ble_eq_true rfl) [1, 2, 3, 4, 5, 6, 7, 0] rfl ?_
            refine z_goto dL_comes_521 (tgt := 419) (by decide) ?_
            rw [nI_1]
            exact ih (x + 1) (by omega)
          · --f
            have hn1 : n = 1 := (nI_eq (b := 1) (by omega) (by omega)).mp h483
            have hxn : x < x14.toNatClampNeg := by rw [h14.1, nI_leI (by omega) (by omega)] at h490; omega
            have g4 := F2 hn1 x hx16 hxn ((bI_1 _).mp h501)
            have d0 := q_of0 (G := G) hW' hS' ht' hx16 (kn_of hWT hx16 (show ¬ (N'.2 t).2.1 x = 0 by rw [g4]; decide))
            rw [g4] at d0
            refine z_aload_n dL_comes_504 0 rfl ?_
            refine z_iload_n dL_comes_505 1 rfl ?_
            refine z_iload dL_comes_506 7 rfl ?_
            refine z_iconst dL_comes_508 (v := 0) rfl ?_
            refine z_callVF (d := 7) (As := [_, _, _]) c_X4_of rfl l_L_15 rfl rfl rfl (Nat.le_of_ble_eq_true rfl) ⟨Nat.le_of_ble_eq_true rfl, Nat.le_of_ble_eq_true rfl⟩ dL_comes_509 d0 ?_
            refine z_iconst dL_comes_512 (v := 1) rfl ?_
            refine z_icmp_eq dL_comes_513 (tgt := 518) (by decide) (fun h513 => ?_) (fun h513 => by first | exact absurd (rfl) h513 | exact absurd h513 (rfl))
            refine z_iinc (lo2 := [(0, _), (1, _), (8, _), (9, _), (12, _), (14, _), (16, _), (17, _)]) dL_comes_518 7 rfl (w := 1) rfl (Nat.le_of_ble_eq_true rfl) [1, 2, 3, 4, 5, 6, 7, 0] rfl ?_
            refine z_goto dL_comes_521 (tgt := 419) (by decide) ?_
            rw [nI_1]
            exact ih (x + 1) (by omega)
    · --f
      obtain ⟨g1, g2, g3⟩ := F1 x hx16 ((bI_1 _).mp h434)
      have kk := kn_of hWT hx16 (show ¬ (N'.2 t).2.1 x = 0 by rw [g1]; decide)
      have c0 := q_of0 (G := G) hW' hS' ht' hx16 kk
      have c1 := q_of1 (G := G) hW' hS' ht' hx16 kk
      have c2 := q_of2 (G := G) hW' hS' ht' hx16 kk
      rw [g1] at c0
      rw [g2] at c1
      refine z_aload_n dL_comes_437 0 rfl ?_
      refine z_iload_n dL_comes_438 1 rfl ?_
      refine z_iload dL_comes_439 7 rfl ?_
      refine z_iconst dL_comes_441 (v := 0) rfl ?_
      refine z_callVF (d := 7) (As := [_, _, _]) c_X4_of rfl l_L_15 rfl rfl rfl (Nat.le_of_ble_eq_true rfl) ⟨Nat.le_of_ble_eq_true rfl, Nat.le_of_ble_eq_true rfl⟩ dL_comes_442 c0 ?_
      refine z_iconst dL_comes_445 (v := 3) rfl ?_
      refine z_icmp_ne dL_comes_446 (tgt := 478) (by decide) (fun h446 => by first | exact absurd (rfl) h446 | exact absurd h446 (rfl)) (fun h446 => ?_)
      refine z_aload_n dL_comes_449 0 rfl ?_
      refine z_iload_n dL_comes_450 1 rfl ?_
      refine z_iload dL_comes_451 7 rfl ?_
      refine z_iconst dL_comes_453 (v := 1) rfl ?_
      refine z_callVF (d := 7) (As := [_, _, _]) c_X4_of rfl l_L_15 rfl rfl rfl (Nat.le_of_ble_eq_true rfl) ⟨Nat.le_of_ble_eq_true rfl, Nat.le_of_ble_eq_true rfl⟩ dL_comes_454 c1 ?_
      refine z_aload_n dL_comes_457 0 rfl ?_
      refine z_bipush dL_comes_458 (v := 7) (by decide +kernel) ?_
      refine z_callVF (d := 7) (As := [_]) c_X4_count rfl l_L_9 rfl rfl rfl (Nat.le_of_ble_eq_true rfl) ⟨Nat.le_of_ble_eq_true rfl, Nat.le_of_ble_eq_true rfl⟩ dL_comes_460 c7 ?_
      refine z_icmp_ne dL_comes_463 (tgt := 478) (by decide) (fun h463 => by first | exact absurd (rfl) h463 | exact absurd h463 (rfl)) (fun h463 => ?_)
      refine z_aload_n dL_comes_466 0 rfl ?_
      refine z_iload_n dL_comes_467 1 rfl ?_
      refine z_iload dL_comes_468 7 rfl ?_
      refine z_iconst dL_comes_470 (v := 2) rfl ?_
      refine z_callVF (d := 7) (As := [_, _, _]) c_X4_of rfl l_L_15 rfl rfl rfl (Nat.le_of_ble_eq_true rfl) ⟨Nat.le_of_ble_eq_true rfl, Nat.le_of_ble_eq_true rfl⟩ dL_comes_471 c2 ?_
      refine z_iconst dL_comes_474 (v := 1) rfl ?_
      refine z_icmp_ge dL_comes_475 (tgt := 480) (by decide) (fun h475 => ?_) (fun h475 => by first | exact absurd (g3) h475 | exact absurd h475 (g3))
      refine z_iload dL_comes_480 6 rfl ?_
      refine z_iconst dL_comes_482 (v := 1) rfl ?_
      refine z_icmp_ne dL_comes_483 (tgt := 518) (by decide) (fun h483 => ?_) (fun h483 => ?_)
      · --t
        refine z_iinc (lo2 := [(0, _), (1, _), (8, _), (9, _), (12, _), (14, _), (16, _), (17, _)]) dL_comes_518 7 rfl (w := 1) rfl (Nat.le_of_ble_eq_true rfl) [1, 2, 3, 4, 5, 6, 7, 0] rfl ?_
        refine z_goto dL_comes_521 (tgt := 419) (by decide) ?_
        rw [nI_1]
        exact ih (x + 1) (by omega)
      · --f
        refine z_iload dL_comes_486 7 rfl ?_
        refine z_iload dL_comes_488 5 rfl ?_
        refine z_icmp_ge dL_comes_490 (tgt := 518) (by decide) (fun h490 => ?_) (fun h490 => ?_)
        · --t
          refine z_iinc (lo2 := [(0, _), (1, _), (8, _), (9, _), (12, _), (14, _), (16, _), (17, _)]) dL_comes_518 7 rfl (w := 1) rfl (Nat.le_of_ble_eq_true rfl) [1, 2, 3, 4, 5, 6, 7, 0] rfl ?_
          refine z_goto dL_comes_521 (tgt := 419) (by decide) ?_
          rw [nI_1]
          exact ih (x + 1) (by omega)
        · --f
          refine z_iload dL_comes_493 3 rfl ?_
          refine z_iload dL_comes_495 7 rfl ?_
          refine z_ishr dL_comes_497 ?_
          refine z_iconst dL_comes_498 (v := 1) rfl ?_
          refine z_iand dL_comes_499 ?_
          rw [bt_and1 _ (show x < 32 by omega)]
          refine z_iconst dL_comes_500 (v := 1) rfl ?_
          refine z_icmp_ne dL_comes_501 (tgt := 518) (by decide) (fun h501 => ?_) (fun h501 => ?_)
          · --t
            refine z_iinc (lo2 := [(0, _), (1, _), (8, _), (9, _), (12, _), (14, _), (16, _), (17, _)]) dL_comes_518 7 rfl (w := 1) rfl (Nat.le_of_ble_eq_true rfl) [1, 2, 3, 4, 5, 6, 7, 0] rfl ?_
            refine z_goto dL_comes_521 (tgt := 419) (by decide) ?_
            rw [nI_1]
            exact ih (x + 1) (by omega)
          · --f
            have hn1 : n = 1 := (nI_eq (b := 1) (by omega) (by omega)).mp h483
            have hxn : x < x14.toNatClampNeg := by rw [h14.1, nI_leI (by omega) (by omega)] at h490; omega
            have g4 := F2 hn1 x hx16 hxn ((bI_1 _).mp h501)
            have d0 := q_of0 (G := G) hW' hS' ht' hx16 (kn_of hWT hx16 (show ¬ (N'.2 t).2.1 x = 0 by rw [g4]; decide))
            rw [g4] at d0
            refine z_aload_n dL_comes_504 0 rfl ?_
            refine z_iload_n dL_comes_505 1 rfl ?_
            refine z_iload dL_comes_506 7 rfl ?_
            refine z_iconst dL_comes_508 (v := 0) rfl ?_
            refine z_callVF (d := 7) (As := [_, _, _]) c_X4_of rfl l_L_15 rfl rfl rfl (Nat.le_of_ble_eq_true rfl) ⟨Nat.le_of_ble_eq_true rfl, Nat.le_of_ble_eq_true rfl⟩ dL_comes_509 d0 ?_
            refine z_iconst dL_comes_512 (v := 1) rfl ?_
            refine z_icmp_eq dL_comes_513 (tgt := 518) (by decide) (fun h513 => ?_) (fun h513 => by first | exact absurd (rfl) h513 | exact absurd h513 (rfl))
            refine z_iinc (lo2 := [(0, _), (1, _), (8, _), (9, _), (12, _), (14, _), (16, _), (17, _)]) dL_comes_518 7 rfl (w := 1) rfl (Nat.le_of_ble_eq_true rfl) [1, 2, 3, 4, 5, 6, 7, 0] rfl ?_
            refine z_goto dL_comes_521 (tgt := 419) (by decide) ?_
            rw [nI_1]
            exact ih (x + 1) (by omega)
/-- not one of them -/
theorem t_comes_n (hN : NI N b) (hS : LI S N) (ht : t < cnt N) (hk : k < 16) (hns : ¬ k < tsz (N.2 t)) : CallL G 8 240 0 0 M_L_comes [rv G 0, .int (nI t), .int (nI k), .int c] S (fun v u => v = some 1 ∧ ∃ N', NI N' (b + 3) ∧ LI u N') := by
  refine callL_of (lo := [(0, rv G 0), (1, .int (nI t)), (2, .int (nI k)), (3, .int c)]) (by decide +kernel) (Nat.le_of_ble_eq_true rfl) rfl ?_
  have hW := hN.1
  have hT := hN.2.1 t ht
  have hWT := hT.1
  have hc5 := hW.cn.2
  obtain ⟨s, e1, e2, e3, e4⟩ := hWT.sz
  obtain ⟨o0, o1, o2, -, o4, -, o6, o7, -, -, o10, o11⟩ := oft hW ht
  have q0 := q_t (G := G) hW hS o0
  rw [e2] at q0
  have q1 := q_t (G := G) hW hS o1
  have q2 := q_t (G := G) hW hS o2
  have q4 := q_t (G := G) hW hS o4
  have q6 := q_t (G := G) hW hS o6
  have q7 := q_t (G := G) hW hS o7
  have q11 := q_t (G := G) hW hS o11
  have qw := q_wai (G := G) hW hS ht
  have q5 : Call G 7 M_X4_count [rv G 0, .int 5] S (fun v u => v = some (N.1 4) ∧ u = S) := q_cnt hW hS (fun n => rfl)
  have kc := k_come (G := G) hW hS (x := nI t) (y := nI k) (c := c)
  have kw := q_why (G := G) hW hS (x := nI t) (y := nI k) (c := c)
  have b25 : nI s ≤ nI k := nI_le (by omega) (by omega)
  have hw := why_no hW ht hk hns c
  rw [hw] at kw
  rw [com_n hw] at kc
  have c0 := t_X4_of (G := G) (d := 4) (t := nI t) (k := nI k) (w := 0) hW hS.1
  refine z_aload_n dL_comes_0 0 rfl ?_
  refine z_iload_n dL_comes_1 1 rfl ?_
  refine z_iload_n dL_comes_2 2 rfl ?_
  refine z_iload_n dL_comes_3 3 rfl ?_
  refine z_callVF (d := 7) (As := [_, _, _]) c_X4_why rfl l_L_31 rfl rfl rfl (Nat.le_of_ble_eq_true rfl) ⟨Nat.le_of_ble_eq_true rfl, Nat.le_of_ble_eq_true rfl⟩ dL_comes_4 kw ?_
  refine z_istore (lo2 := [(0, _), (1, _), (2, _), (3, _), (4, _)]) dL_comes_7 (Nat.le_of_ble_eq_true rfl) [1, 2, 3, 4, 0] rfl ?_
  refine z_aload_n dL_comes_9 0 rfl ?_
  refine z_iload_n dL_comes_10 1 rfl ?_
  refine z_iload_n dL_comes_11 2 rfl ?_
  refine z_iconst dL_comes_12 (v := 0) rfl ?_
  refine z_callVF (d := 7) (As := [_, _, _]) c_X4_of rfl l_L_15 rfl rfl rfl (Nat.le_of_ble_eq_true rfl) ⟨Nat.le_of_ble_eq_true rfl, Nat.le_of_ble_eq_true rfl⟩ dL_comes_13 c0 ?_
  refine z_istore (lo2 := [(0, _), (1, _), (2, _), (3, _), (4, _), (5, _)]) dL_comes_16 (Nat.le_of_ble_eq_true rfl) [1, 2, 3, 4, 5, 0] rfl ?_
  refine z_iload_n dL_comes_18 2 rfl ?_
  refine z_aload_n dL_comes_19 0 rfl ?_
  refine z_iload_n dL_comes_20 1 rfl ?_
  refine z_iconst dL_comes_21 (v := 0) rfl ?_
  refine z_callVF (d := 7) (As := [_, _]) c_X4_ofTroop rfl l_L_19 rfl rfl rfl (Nat.le_of_ble_eq_true rfl) ⟨Nat.le_of_ble_eq_true rfl, Nat.le_of_ble_eq_true rfl⟩ dL_comes_22 q0 ?_
  refine z_icmp_ge dL_comes_25 (tgt := 32) (by decide) (fun h25 => ?_) (fun h25 => by first | exact absurd (b25) h25 | exact absurd h25 (b25))
  refine z_iconst dL_comes_32 (v := 0) rfl ?_
  refine z_istore (lo2 := [(0, _), (1, _), (2, _), (3, _), (4, _), (5, _), (6, _)]) dL_comes_33 (Nat.le_of_ble_eq_true rfl) [1, 2, 3, 4, 5, 6, 0] rfl ?_
  refine z_iload dL_comes_35 6 rfl ?_
  refine z_if_ne dL_comes_37 (tgt := 44) (by decide) (fun h37 => by first | exact absurd (rfl) h37 | exact absurd h37 (rfl)) (fun h37 => ?_)
  refine z_iconst dL_comes_40 (v := -1) rfl ?_
  refine z_goto dL_comes_41 (tgt := 89) (by decide) ?_
  refine z_istore (lo2 := [(0, _), (1, _), (2, _), (3, _), (4, _), (5, _), (6, _), (7, _)]) dL_comes_89 (Nat.le_of_ble_eq_true rfl) [1, 2, 3, 4, 5, 6, 7, 0] rfl ?_
  refine z_iload dL_comes_91 4 rfl ?_
  refine z_iload dL_comes_93 7 rfl ?_
  refine z_icmp_eq dL_comes_95 (tgt := 100) (by decide) (fun h95 => ?_) (fun h95 => by first | exact absurd (rfl) h95 | exact absurd h95 (rfl))
  refine z_aload_n dL_comes_100 0 rfl ?_
  refine z_iload_n dL_comes_101 1 rfl ?_
  refine z_bipush dL_comes_102 (v := 6) (by decide +kernel) ?_
  refine z_callVF (d := 7) (As := [_, _]) c_X4_ofTroop rfl l_L_19 rfl rfl rfl (Nat.le_of_ble_eq_true rfl) ⟨Nat.le_of_ble_eq_true rfl, Nat.le_of_ble_eq_true rfl⟩ dL_comes_104 q6 ?_
  refine z_istore (lo2 := [(0, _), (1, _), (2, _), (3, _), (4, _), (5, _), (6, _), (7, _), (8, _)]) dL_comes_107 (Nat.le_of_ble_eq_true rfl) [1, 2, 3, 4, 5, 6, 7, 8, 0] rfl ?_
  refine z_aload_n dL_comes_109 0 rfl ?_
  refine z_iload_n dL_comes_110 1 rfl ?_
  refine z_bipush dL_comes_111 (v := 7) (by decide +kernel) ?_
  refine z_callVF (d := 7) (As := [_, _]) c_X4_ofTroop rfl l_L_19 rfl rfl rfl (Nat.le_of_ble_eq_true rfl) ⟨Nat.le_of_ble_eq_true rfl, Nat.le_of_ble_eq_true rfl⟩ dL_comes_113 q7 ?_
  refine z_istore (lo2 := [(0, _), (1, _), (2, _), (3, _), (4, _), (5, _), (6, _), (7, _), (8, _), (9, _)]) dL_comes_116 (Nat.le_of_ble_eq_true rfl) [1, 2, 3, 4, 5, 6, 7, 8, 9, 0] rfl ?_
  refine z_aload_n dL_comes_118 0 rfl ?_
  refine z_iload_n dL_comes_119 1 rfl ?_
  refine z_callVF (d := 7) (As := [_]) c_X4_waitsFor rfl l_L_23 rfl rfl rfl (Nat.le_of_ble_eq_true rfl) ⟨Nat.le_of_ble_eq_true rfl, Nat.le_of_ble_eq_true rfl⟩ dL_comes_120 qw ?_
  refine z_istore (lo2 := [(0, _), (1, _), (2, _), (3, _), (4, _), (5, _), (6, _), (7, _), (8, _), (9, _), (10, _)]) dL_comes_123 (Nat.le_of_ble_eq_true rfl) [1, 2, 3, 4, 5, 6, 7, 8, 9, 10, 0] rfl ?_
  refine z_aload_n dL_comes_125 0 rfl ?_
  refine z_iload_n dL_comes_126 1 rfl ?_
  refine z_iconst dL_comes_127 (v := 4) rfl ?_
  refine z_callVF (d := 7) (As := [_, _]) c_X4_ofTroop rfl l_L_19 rfl rfl rfl (Nat.le_of_ble_eq_true rfl) ⟨Nat.le_of_ble_eq_true rfl, Nat.le_of_ble_eq_true rfl⟩ dL_comes_128 q4 ?_
  refine z_istore (lo2 := [(0, _), (1, _), (2, _), (3, _), (4, _), (5, _), (6, _), (7, _), (8, _), (9, _), (10, _), (11, _)]) dL_comes_131 (Nat.le_of_ble_eq_true rfl) [1, 2, 3, 4, 5, 6, 7, 8, 9, 10, 11, 0] rfl ?_
  refine z_aload_n dL_comes_133 0 rfl ?_
  refine z_iload_n dL_comes_134 1 rfl ?_
  refine z_bipush dL_comes_135 (v := 11) (by decide +kernel) ?_
  refine z_callVF (d := 7) (As := [_, _]) c_X4_ofTroop rfl l_L_19 rfl rfl rfl (Nat.le_of_ble_eq_true rfl) ⟨Nat.le_of_ble_eq_true rfl, Nat.le_of_ble_eq_true rfl⟩ dL_comes_137 q11 ?_
  refine z_istore (lo2 := [(0, _), (1, _), (2, _), (3, _), (4, _), (5, _), (6, _), (7, _), (8, _), (9, _), (10, _), (11, _), (12, _)]) dL_comes_140 (Nat.le_of_ble_eq_true rfl) [1, 2, 3, 4, 5, 6, 7, 8, 9, 10, 11, 12, 0] rfl ?_
  refine z_aload_n dL_comes_142 0 rfl ?_
  refine z_iload_n dL_comes_143 1 rfl ?_
  refine z_iconst dL_comes_144 (v := 1) rfl ?_
  refine z_callVF (d := 7) (As := [_, _]) c_X4_ofTroop rfl l_L_19 rfl rfl rfl (Nat.le_of_ble_eq_true rfl) ⟨Nat.le_of_ble_eq_true rfl, Nat.le_of_ble_eq_true rfl⟩ dL_comes_145 q1 ?_
  refine z_istore (lo2 := [(0, _), (1, _), (2, _), (3, _), (4, _), (5, _), (6, _), (7, _), (8, _), (9, _), (10, _), (11, _), (12, _), (13, _)]) dL_comes_148 (Nat.le_of_ble_eq_true rfl) [1, 2, 3, 4, 5, 6, 7, 8, 9, 10, 11, 12, 13, 0] rfl ?_
  refine z_aload_n dL_comes_150 0 rfl ?_
  refine z_iload_n dL_comes_151 1 rfl ?_
  refine z_iconst dL_comes_152 (v := 2) rfl ?_
  refine z_callVF (d := 7) (As := [_, _]) c_X4_ofTroop rfl l_L_19 rfl rfl rfl (Nat.le_of_ble_eq_true rfl) ⟨Nat.le_of_ble_eq_true rfl, Nat.le_of_ble_eq_true rfl⟩ dL_comes_153 q2 ?_
  refine z_istore (lo2 := [(0, _), (1, _), (2, _), (3, _), (4, _), (5, _), (6, _), (7, _), (8, _), (9, _), (10, _), (11, _), (12, _), (13, _), (14, _)]) dL_comes_156 (Nat.le_of_ble_eq_true rfl) [1, 2, 3, 4, 5, 6, 7, 8, 9, 10, 11, 12, 13, 14, 0] rfl ?_
  refine z_aload_n dL_comes_158 0 rfl ?_
  refine z_iconst dL_comes_159 (v := 5) rfl ?_
  refine z_callVF (d := 7) (As := [_]) c_X4_count rfl l_L_9 rfl rfl rfl (Nat.le_of_ble_eq_true rfl) ⟨Nat.le_of_ble_eq_true rfl, Nat.le_of_ble_eq_true rfl⟩ dL_comes_160 q5 ?_
  refine z_istore (lo2 := [(0, _), (1, _), (2, _), (3, _), (4, _), (5, _), (6, _), (7, _), (8, _), (9, _), (10, _), (11, _), (12, _), (13, _), (14, _), (15, _)]) dL_comes_163 (Nat.le_of_ble_eq_true rfl) [1, 2, 3, 4, 5, 6, 7, 8, 9, 10, 11, 12, 13, 14, 15, 0] rfl ?_
  refine z_aload_n dL_comes_165 0 rfl ?_
  refine z_iload_n dL_comes_166 1 rfl ?_
  refine z_iload_n dL_comes_167 2 rfl ?_
  refine z_iload_n dL_comes_168 3 rfl ?_
  refine z_callV (d := 7) (As := [_, _, _]) c_X4_come rfl l_L_34 rfl rfl rfl (Nat.le_of_ble_eq_true rfl) ⟨Nat.le_of_ble_eq_true rfl, Nat.le_of_ble_eq_true rfl⟩ dL_comes_169 kc (fun r169 u169 q169 => ?_)
  obtain ⟨z, hS'⟩ := q169
  cases z
  have r6 := q_t (G := G) hW hS' o6
  have r4 := q_t (G := G) hW hS' o4
  refine z_istore (lo2 := [(0, _), (1, _), (2, _), (3, _), (4, _), (5, _), (6, _), (7, _), (8, _), (9, _), (10, _), (11, _), (12, _), (13, _), (14, _), (15, _), (16, _)]) dL_comes_172 (Nat.le_of_ble_eq_true rfl) [1, 2, 3, 4, 5, 6, 7, 8, 9, 10, 11, 12, 13, 14, 15, 16, 0] rfl ?_
  refine z_iload dL_comes_174 4 rfl ?_
  refine z_if_lt dL_comes_176 (tgt := 190) (by decide) (fun h176 => ?_) (fun h176 => by first | exact absurd (by decide) h176 | exact absurd h176 (by decide))
  refine z_iload dL_comes_190 16 rfl ?_
  refine z_iload dL_comes_192 4 rfl ?_
  refine z_if_ge dL_comes_194 (tgt := 201) (by decide) (fun h194 => by first | exact absurd (by decide) h194 | exact absurd h194 (by decide)) (fun h194 => ?_)
  refine z_iconst dL_comes_197 (v := -1) rfl ?_
  refine z_goto dL_comes_198 (tgt := 203) (by decide) ?_
  refine z_icmp_ne dL_comes_203 (tgt := 233) (by decide) (fun h203 => by first | exact absurd (rfl) h203 | exact absurd h203 (rfl)) (fun h203 => ?_)
  refine z_aload_n dL_comes_206 0 rfl ?_
  refine z_iload_n dL_comes_207 1 rfl ?_
  refine z_bipush dL_comes_208 (v := 6) (by decide +kernel) ?_
  refine z_callVF (d := 7) (As := [_, _]) c_X4_ofTroop rfl l_L_19 rfl rfl rfl (Nat.le_of_ble_eq_true rfl) ⟨Nat.le_of_ble_eq_true rfl, Nat.le_of_ble_eq_true rfl⟩ dL_comes_210 r6 ?_
  refine z_iload dL_comes_213 8 rfl ?_
  refine z_icmp_ne dL_comes_215 (tgt := 233) (by decide) (fun h215 => by first | exact absurd (rfl) h215 | exact absurd h215 (rfl)) (fun h215 => ?_)
  refine z_aload_n dL_comes_218 0 rfl ?_
  refine z_iload_n dL_comes_219 1 rfl ?_
  refine z_iconst dL_comes_220 (v := 4) rfl ?_
  refine z_callVF (d := 7) (As := [_, _]) c_X4_ofTroop rfl l_L_19 rfl rfl rfl (Nat.le_of_ble_eq_true rfl) ⟨Nat.le_of_ble_eq_true rfl, Nat.le_of_ble_eq_true rfl⟩ dL_comes_221 r4 ?_
  refine z_iload dL_comes_224 11 rfl ?_
  refine z_icmp_ne dL_comes_226 (tgt := 233) (by decide) (fun h226 => by first | exact absurd (rfl) h226 | exact absurd h226 (rfl)) (fun h226 => ?_)
  refine z_iconst dL_comes_229 (v := 1) rfl ?_
  refine z_goto dL_comes_230 (tgt := 234) (by decide) ?_
  refine z_zret rfl (by first | rfl | decide) dL_comes_234 ?_
  exact ⟨rfl, N, hN.mono (by omega), hS'⟩
theorem t_comes_3 (hN : NI N b) (hS : LI S N) (ht : t < cnt N) (hk : k < 16) (hc : c = 0 ∨ c = 1) (hlt : k < tsz (N.2 t)) (hv : (N.2 t).2.1 k = 3) : CallL G 8 240 0 0 M_L_comes [rv G 0, .int (nI t), .int (nI k), .int c] S (fun v u => v = some 1 ∧ ∃ N', NI N' (b + 3) ∧ LI u N') := by
  refine callL_of (lo := [(0, rv G 0), (1, .int (nI t)), (2, .int (nI k)), (3, .int c)]) (by decide +kernel) (Nat.le_of_ble_eq_true rfl) rfl ?_
  have hW := hN.1
  have hT := hN.2.1 t ht
  have hWT := hT.1
  have hc5 := hW.cn.2
  obtain ⟨s, e1, e2, e3, e4⟩ := hWT.sz
  obtain ⟨o0, o1, o2, -, o4, -, o6, o7, -, -, o10, o11⟩ := oft hW ht
  have q0 := q_t (G := G) hW hS o0
  rw [e2] at q0
  have q1 := q_t (G := G) hW hS o1
  have q2 := q_t (G := G) hW hS o2
  have q4 := q_t (G := G) hW hS o4
  have q6 := q_t (G := G) hW hS o6
  have q7 := q_t (G := G) hW hS o7
  have q11 := q_t (G := G) hW hS o11
  have qw := q_wai (G := G) hW hS ht
  have q5 : Call G 7 M_X4_count [rv G 0, .int 5] S (fun v u => v = some (N.1 4) ∧ u = S) := q_cnt hW hS (fun n => rfl)
  have kc := k_come (G := G) hW hS (x := nI t) (y := nI k) (c := c)
  have kw := q_why (G := G) hW hS (x := nI t) (y := nI k) (c := c)
  have b25 : ¬ nI s ≤ nI k := nI_ge (by omega) (by omega)
  have hw : whyA N (nI t) (nI k) c = 1 := by rw [why_ok hW ht hk hlt hc]; unfold whyT; rw [hv]; rfl
  rw [hw] at kw
  rw [com_5 (by simp [hw])] at kc
  have c0 := q_of0 (G := G) hW hS ht hk (kn_lt hlt)
  rw [hv] at c0
  refine z_aload_n dL_comes_0 0 rfl ?_
  refine z_iload_n dL_comes_1 1 rfl ?_
  refine z_iload_n dL_comes_2 2 rfl ?_
  refine z_iload_n dL_comes_3 3 rfl ?_
  refine z_callVF (d := 7) (As := [_, _, _]) c_X4_why rfl l_L_31 rfl rfl rfl (Nat.le_of_ble_eq_true rfl) ⟨Nat.le_of_ble_eq_true rfl, Nat.le_of_ble_eq_true rfl⟩ dL_comes_4 kw ?_
  refine z_istore (lo2 := [(0, _), (1, _), (2, _), (3, _), (4, _)]) dL_comes_7 (Nat.le_of_ble_eq_true rfl) [1, 2, 3, 4, 0] rfl ?_
  refine z_aload_n dL_comes_9 0 rfl ?_
  refine z_iload_n dL_comes_10 1 rfl ?_
  refine z_iload_n dL_comes_11 2 rfl ?_
  refine z_iconst dL_comes_12 (v := 0) rfl ?_
  refine z_callVF (d := 7) (As := [_, _, _]) c_X4_of rfl l_L_15 rfl rfl rfl (Nat.le_of_ble_eq_true rfl) ⟨Nat.le_of_ble_eq_true rfl, Nat.le_of_ble_eq_true rfl⟩ dL_comes_13 c0 ?_
  refine z_istore (lo2 := [(0, _), (1, _), (2, _), (3, _), (4, _), (5, _)]) dL_comes_16 (Nat.le_of_ble_eq_true rfl) [1, 2, 3, 4, 5, 0] rfl ?_
  refine z_iload_n dL_comes_18 2 rfl ?_
  refine z_aload_n dL_comes_19 0 rfl ?_
  refine z_iload_n dL_comes_20 1 rfl ?_
  refine z_iconst dL_comes_21 (v := 0) rfl ?_
  refine z_callVF (d := 7) (As := [_, _]) c_X4_ofTroop rfl l_L_19 rfl rfl rfl (Nat.le_of_ble_eq_true rfl) ⟨Nat.le_of_ble_eq_true rfl, Nat.le_of_ble_eq_true rfl⟩ dL_comes_22 q0 ?_
  refine z_icmp_ge dL_comes_25 (tgt := 32) (by decide) (fun h25 => by first | exact absurd (b25) h25 | exact absurd h25 (b25)) (fun h25 => ?_)
  refine z_iconst dL_comes_28 (v := 1) rfl ?_
  refine z_goto dL_comes_29 (tgt := 33) (by decide) ?_
  refine z_istore (lo2 := [(0, _), (1, _), (2, _), (3, _), (4, _), (5, _), (6, _)]) dL_comes_33 (Nat.le_of_ble_eq_true rfl) [1, 2, 3, 4, 5, 6, 0] rfl ?_
  refine z_iload dL_comes_35 6 rfl ?_
  refine z_if_ne dL_comes_37 (tgt := 44) (by decide) (fun h37 => ?_) (fun h37 => by first | exact absurd (by decide) h37 | exact absurd h37 (by decide))
  refine z_iload dL_comes_44 5 rfl ?_
  refine z_iconst dL_comes_46 (v := 3) rfl ?_
  refine z_icmp_ne dL_comes_47 (tgt := 54) (by decide) (fun h47 => by first | exact absurd (rfl) h47 | exact absurd h47 (rfl)) (fun h47 => ?_)
  refine z_iconst dL_comes_50 (v := 1) rfl ?_
  refine z_goto dL_comes_51 (tgt := 89) (by decide) ?_
  refine z_istore (lo2 := [(0, _), (1, _), (2, _), (3, _), (4, _), (5, _), (6, _), (7, _)]) dL_comes_89 (Nat.le_of_ble_eq_true rfl) [1, 2, 3, 4, 5, 6, 7, 0] rfl ?_
  refine z_iload dL_comes_91 4 rfl ?_
  refine z_iload dL_comes_93 7 rfl ?_
  refine z_icmp_eq dL_comes_95 (tgt := 100) (by decide) (fun h95 => ?_) (fun h95 => by first | exact absurd (rfl) h95 | exact absurd h95 (rfl))
  refine z_aload_n dL_comes_100 0 rfl ?_
  refine z_iload_n dL_comes_101 1 rfl ?_
  refine z_bipush dL_comes_102 (v := 6) (by decide +kernel) ?_
  refine z_callVF (d := 7) (As := [_, _]) c_X4_ofTroop rfl l_L_19 rfl rfl rfl (Nat.le_of_ble_eq_true rfl) ⟨Nat.le_of_ble_eq_true rfl, Nat.le_of_ble_eq_true rfl⟩ dL_comes_104 q6 ?_
  refine z_istore (lo2 := [(0, _), (1, _), (2, _), (3, _), (4, _), (5, _), (6, _), (7, _), (8, _)]) dL_comes_107 (Nat.le_of_ble_eq_true rfl) [1, 2, 3, 4, 5, 6, 7, 8, 0] rfl ?_
  refine z_aload_n dL_comes_109 0 rfl ?_
  refine z_iload_n dL_comes_110 1 rfl ?_
  refine z_bipush dL_comes_111 (v := 7) (by decide +kernel) ?_
  refine z_callVF (d := 7) (As := [_, _]) c_X4_ofTroop rfl l_L_19 rfl rfl rfl (Nat.le_of_ble_eq_true rfl) ⟨Nat.le_of_ble_eq_true rfl, Nat.le_of_ble_eq_true rfl⟩ dL_comes_113 q7 ?_
  refine z_istore (lo2 := [(0, _), (1, _), (2, _), (3, _), (4, _), (5, _), (6, _), (7, _), (8, _), (9, _)]) dL_comes_116 (Nat.le_of_ble_eq_true rfl) [1, 2, 3, 4, 5, 6, 7, 8, 9, 0] rfl ?_
  refine z_aload_n dL_comes_118 0 rfl ?_
  refine z_iload_n dL_comes_119 1 rfl ?_
  refine z_callVF (d := 7) (As := [_]) c_X4_waitsFor rfl l_L_23 rfl rfl rfl (Nat.le_of_ble_eq_true rfl) ⟨Nat.le_of_ble_eq_true rfl, Nat.le_of_ble_eq_true rfl⟩ dL_comes_120 qw ?_
  refine z_istore (lo2 := [(0, _), (1, _), (2, _), (3, _), (4, _), (5, _), (6, _), (7, _), (8, _), (9, _), (10, _)]) dL_comes_123 (Nat.le_of_ble_eq_true rfl) [1, 2, 3, 4, 5, 6, 7, 8, 9, 10, 0] rfl ?_
  refine z_aload_n dL_comes_125 0 rfl ?_
  refine z_iload_n dL_comes_126 1 rfl ?_
  refine z_iconst dL_comes_127 (v := 4) rfl ?_
  refine z_callVF (d := 7) (As := [_, _]) c_X4_ofTroop rfl l_L_19 rfl rfl rfl (Nat.le_of_ble_eq_true rfl) ⟨Nat.le_of_ble_eq_true rfl, Nat.le_of_ble_eq_true rfl⟩ dL_comes_128 q4 ?_
  refine z_istore (lo2 := [(0, _), (1, _), (2, _), (3, _), (4, _), (5, _), (6, _), (7, _), (8, _), (9, _), (10, _), (11, _)]) dL_comes_131 (Nat.le_of_ble_eq_true rfl) [1, 2, 3, 4, 5, 6, 7, 8, 9, 10, 11, 0] rfl ?_
  refine z_aload_n dL_comes_133 0 rfl ?_
  refine z_iload_n dL_comes_134 1 rfl ?_
  refine z_bipush dL_comes_135 (v := 11) (by decide +kernel) ?_
  refine z_callVF (d := 7) (As := [_, _]) c_X4_ofTroop rfl l_L_19 rfl rfl rfl (Nat.le_of_ble_eq_true rfl) ⟨Nat.le_of_ble_eq_true rfl, Nat.le_of_ble_eq_true rfl⟩ dL_comes_137 q11 ?_
  refine z_istore (lo2 := [(0, _), (1, _), (2, _), (3, _), (4, _), (5, _), (6, _), (7, _), (8, _), (9, _), (10, _), (11, _), (12, _)]) dL_comes_140 (Nat.le_of_ble_eq_true rfl) [1, 2, 3, 4, 5, 6, 7, 8, 9, 10, 11, 12, 0] rfl ?_
  refine z_aload_n dL_comes_142 0 rfl ?_
  refine z_iload_n dL_comes_143 1 rfl ?_
  refine z_iconst dL_comes_144 (v := 1) rfl ?_
  refine z_callVF (d := 7) (As := [_, _]) c_X4_ofTroop rfl l_L_19 rfl rfl rfl (Nat.le_of_ble_eq_true rfl) ⟨Nat.le_of_ble_eq_true rfl, Nat.le_of_ble_eq_true rfl⟩ dL_comes_145 q1 ?_
  refine z_istore (lo2 := [(0, _), (1, _), (2, _), (3, _), (4, _), (5, _), (6, _), (7, _), (8, _), (9, _), (10, _), (11, _), (12, _), (13, _)]) dL_comes_148 (Nat.le_of_ble_eq_true rfl) [1, 2, 3, 4, 5, 6, 7, 8, 9, 10, 11, 12, 13, 0] rfl ?_
  refine z_aload_n dL_comes_150 0 rfl ?_
  refine z_iload_n dL_comes_151 1 rfl ?_
  refine z_iconst dL_comes_152 (v := 2) rfl ?_
  refine z_callVF (d := 7) (As := [_, _]) c_X4_ofTroop rfl l_L_19 rfl rfl rfl (Nat.le_of_ble_eq_true rfl) ⟨Nat.le_of_ble_eq_true rfl, Nat.le_of_ble_eq_true rfl⟩ dL_comes_153 q2 ?_
  refine z_istore (lo2 := [(0, _), (1, _), (2, _), (3, _), (4, _), (5, _), (6, _), (7, _), (8, _), (9, _), (10, _), (11, _), (12, _), (13, _), (14, _)]) dL_comes_156 (Nat.le_of_ble_eq_true rfl) [1, 2, 3, 4, 5, 6, 7, 8, 9, 10, 11, 12, 13, 14, 0] rfl ?_
  refine z_aload_n dL_comes_158 0 rfl ?_
  refine z_iconst dL_comes_159 (v := 5) rfl ?_
  refine z_callVF (d := 7) (As := [_]) c_X4_count rfl l_L_9 rfl rfl rfl (Nat.le_of_ble_eq_true rfl) ⟨Nat.le_of_ble_eq_true rfl, Nat.le_of_ble_eq_true rfl⟩ dL_comes_160 q5 ?_
  refine z_istore (lo2 := [(0, _), (1, _), (2, _), (3, _), (4, _), (5, _), (6, _), (7, _), (8, _), (9, _), (10, _), (11, _), (12, _), (13, _), (14, _), (15, _)]) dL_comes_163 (Nat.le_of_ble_eq_true rfl) [1, 2, 3, 4, 5, 6, 7, 8, 9, 10, 11, 12, 13, 14, 15, 0] rfl ?_
  refine z_aload_n dL_comes_165 0 rfl ?_
  refine z_iload_n dL_comes_166 1 rfl ?_
  refine z_iload_n dL_comes_167 2 rfl ?_
  refine z_iload_n dL_comes_168 3 rfl ?_
  refine z_callV (d := 7) (As := [_, _, _]) c_X4_come rfl l_L_34 rfl rfl rfl (Nat.le_of_ble_eq_true rfl) ⟨Nat.le_of_ble_eq_true rfl, Nat.le_of_ble_eq_true rfl⟩ dL_comes_169 kc (fun r169 u169 q169 => ?_)
  obtain ⟨z, hS'⟩ := q169
  cases z
  have r6 := q_t (G := G) hW hS' o6
  have r4 := q_t (G := G) hW hS' o4
  refine z_istore (lo2 := [(0, _), (1, _), (2, _), (3, _), (4, _), (5, _), (6, _), (7, _), (8, _), (9, _), (10, _), (11, _), (12, _), (13, _), (14, _), (15, _), (16, _)]) dL_comes_172 (Nat.le_of_ble_eq_true rfl) [1, 2, 3, 4, 5, 6, 7, 8, 9, 10, 11, 12, 13, 14, 15, 16, 0] rfl ?_
  refine z_iload dL_comes_174 4 rfl ?_
  refine z_if_lt dL_comes_176 (tgt := 190) (by decide) (fun h176 => by first | exact absurd (by decide) h176 | exact absurd h176 (by decide)) (fun h176 => ?_)
  refine z_iload dL_comes_179 4 rfl ?_
  refine z_if_le dL_comes_181 (tgt := 235) (by decide) (fun h181 => by first | exact absurd (by decide) h181 | exact absurd h181 (by decide)) (fun h181 => ?_)
  refine z_iload dL_comes_184 4 rfl ?_
  refine z_iconst dL_comes_186 (v := 4) rfl ?_
  refine z_icmp_ge dL_comes_187 (tgt := 235) (by decide) (fun h187 => by first | exact absurd (by decide) h187 | exact absurd h187 (by decide)) (fun h187 => ?_)
  refine z_iload dL_comes_190 16 rfl ?_
  refine z_iload dL_comes_192 4 rfl ?_
  refine z_if_ge dL_comes_194 (tgt := 201) (by decide) (fun h194 => ?_) (fun h194 => by first | exact absurd (by decide) h194 | exact absurd h194 (by decide))
  refine z_bipush dL_comes_201 (v := -5) (by decide +kernel) ?_
  refine z_icmp_ne dL_comes_203 (tgt := 233) (by decide) (fun h203 => by first | exact absurd (rfl) h203 | exact absurd h203 (rfl)) (fun h203 => ?_)
  refine z_aload_n dL_comes_206 0 rfl ?_
  refine z_iload_n dL_comes_207 1 rfl ?_
  refine z_bipush dL_comes_208 (v := 6) (by decide +kernel) ?_
  refine z_callVF (d := 7) (As := [_, _]) c_X4_ofTroop rfl l_L_19 rfl rfl rfl (Nat.le_of_ble_eq_true rfl) ⟨Nat.le_of_ble_eq_true rfl, Nat.le_of_ble_eq_true rfl⟩ dL_comes_210 r6 ?_
  refine z_iload dL_comes_213 8 rfl ?_
  refine z_icmp_ne dL_comes_215 (tgt := 233) (by decide) (fun h215 => by first | exact absurd (rfl) h215 | exact absurd h215 (rfl)) (fun h215 => ?_)
  refine z_aload_n dL_comes_218 0 rfl ?_
  refine z_iload_n dL_comes_219 1 rfl ?_
  refine z_iconst dL_comes_220 (v := 4) rfl ?_
  refine z_callVF (d := 7) (As := [_, _]) c_X4_ofTroop rfl l_L_19 rfl rfl rfl (Nat.le_of_ble_eq_true rfl) ⟨Nat.le_of_ble_eq_true rfl, Nat.le_of_ble_eq_true rfl⟩ dL_comes_221 r4 ?_
  refine z_iload dL_comes_224 11 rfl ?_
  refine z_icmp_ne dL_comes_226 (tgt := 233) (by decide) (fun h226 => by first | exact absurd (rfl) h226 | exact absurd h226 (rfl)) (fun h226 => ?_)
  refine z_iconst dL_comes_229 (v := 1) rfl ?_
  refine z_goto dL_comes_230 (tgt := 234) (by decide) ?_
  refine z_zret rfl (by first | rfl | decide) dL_comes_234 ?_
  exact ⟨rfl, N, hN.mono (by omega), hS'⟩
theorem t_comes_1 (hN : NI N b) (hS : LI S N) (ht : t < cnt N) (hk : k < 16) (hc : c = 0 ∨ c = 1) (hlt : k < tsz (N.2 t)) (hv : (N.2 t).2.1 k = 1) : CallL G 8 240 0 0 M_L_comes [rv G 0, .int (nI t), .int (nI k), .int c] S (fun v u => v = some 1 ∧ ∃ N', NI N' (b + 3) ∧ LI u N') := by
  refine callL_of (lo := [(0, rv G 0), (1, .int (nI t)), (2, .int (nI k)), (3, .int c)]) (by decide +kernel) (Nat.le_of_ble_eq_true rfl) rfl ?_
  have hW := hN.1
  have hT := hN.2.1 t ht
  have hWT := hT.1
  have hc5 := hW.cn.2
  obtain ⟨s, e1, e2, e3, e4⟩ := hWT.sz
  obtain ⟨o0, o1, o2, -, o4, -, o6, o7, -, -, o10, o11⟩ := oft hW ht
  have q0 := q_t (G := G) hW hS o0
  rw [e2] at q0
  have q1 := q_t (G := G) hW hS o1
  have q2 := q_t (G := G) hW hS o2
  have q4 := q_t (G := G) hW hS o4
  have q6 := q_t (G := G) hW hS o6
  have q7 := q_t (G := G) hW hS o7
  have q11 := q_t (G := G) hW hS o11
  have qw := q_wai (G := G) hW hS ht
  have q5 : Call G 7 M_X4_count [rv G 0, .int 5] S (fun v u => v = some (N.1 4) ∧ u = S) := q_cnt hW hS (fun n => rfl)
  have kc := k_come (G := G) hW hS (x := nI t) (y := nI k) (c := c)
  have kw := q_why (G := G) hW hS (x := nI t) (y := nI k) (c := c)
  have b25 : ¬ nI s ≤ nI k := nI_ge (by omega) (by omega)
  have hw : whyA N (nI t) (nI k) c = 2 := by rw [why_ok hW ht hk hlt hc]; unfold whyT; rw [hv]; rfl
  rw [hw] at kw
  rw [com_5 (by simp [hw])] at kc
  have c0 := q_of0 (G := G) hW hS ht hk (kn_lt hlt)
  rw [hv] at c0
  refine z_aload_n dL_comes_0 0 rfl ?_
  refine z_iload_n dL_comes_1 1 rfl ?_
  refine z_iload_n dL_comes_2 2 rfl ?_
  refine z_iload_n dL_comes_3 3 rfl ?_
  refine z_callVF (d := 7) (As := [_, _, _]) c_X4_why rfl l_L_31 rfl rfl rfl (Nat.le_of_ble_eq_true rfl) ⟨Nat.le_of_ble_eq_true rfl, Nat.le_of_ble_eq_true rfl⟩ dL_comes_4 kw ?_
  refine z_istore (lo2 := [(0, _), (1, _), (2, _), (3, _), (4, _)]) dL_comes_7 (Nat.le_of_ble_eq_true rfl) [1, 2, 3, 4, 0] rfl ?_
  refine z_aload_n dL_comes_9 0 rfl ?_
  refine z_iload_n dL_comes_10 1 rfl ?_
  refine z_iload_n dL_comes_11 2 rfl ?_
  refine z_iconst dL_comes_12 (v := 0) rfl ?_
  refine z_callVF (d := 7) (As := [_, _, _]) c_X4_of rfl l_L_15 rfl rfl rfl (Nat.le_of_ble_eq_true rfl) ⟨Nat.le_of_ble_eq_true rfl, Nat.le_of_ble_eq_true rfl⟩ dL_comes_13 c0 ?_
  refine z_istore (lo2 := [(0, _), (1, _), (2, _), (3, _), (4, _), (5, _)]) dL_comes_16 (Nat.le_of_ble_eq_true rfl) [1, 2, 3, 4, 5, 0] rfl ?_
  refine z_iload_n dL_comes_18 2 rfl ?_
  refine z_aload_n dL_comes_19 0 rfl ?_
  refine z_iload_n dL_comes_20 1 rfl ?_
  refine z_iconst dL_comes_21 (v := 0) rfl ?_
  refine z_callVF (d := 7) (As := [_, _]) c_X4_ofTroop rfl l_L_19 rfl rfl rfl (Nat.le_of_ble_eq_true rfl) ⟨Nat.le_of_ble_eq_true rfl, Nat.le_of_ble_eq_true rfl⟩ dL_comes_22 q0 ?_
  refine z_icmp_ge dL_comes_25 (tgt := 32) (by decide) (fun h25 => by first | exact absurd (b25) h25 | exact absurd h25 (b25)) (fun h25 => ?_)
  refine z_iconst dL_comes_28 (v := 1) rfl ?_
  refine z_goto dL_comes_29 (tgt := 33) (by decide) ?_
  refine z_istore (lo2 := [(0, _), (1, _), (2, _), (3, _), (4, _), (5, _), (6, _)]) dL_comes_33 (Nat.le_of_ble_eq_true rfl) [1, 2, 3, 4, 5, 6, 0] rfl ?_
  refine z_iload dL_comes_35 6 rfl ?_
  refine z_if_ne dL_comes_37 (tgt := 44) (by decide) (fun h37 => ?_) (fun h37 => by first | exact absurd (by decide) h37 | exact absurd h37 (by decide))
  refine z_iload dL_comes_44 5 rfl ?_
  refine z_iconst dL_comes_46 (v := 3) rfl ?_
  refine z_icmp_ne dL_comes_47 (tgt := 54) (by decide) (fun h47 => ?_) (fun h47 => by first | exact absurd (by decide) h47 | exact absurd h47 (by decide))
  refine z_iload dL_comes_54 5 rfl ?_
  refine z_iconst dL_comes_56 (v := 1) rfl ?_
  refine z_icmp_ne dL_comes_57 (tgt := 64) (by decide) (fun h57 => by first | exact absurd (rfl) h57 | exact absurd h57 (rfl)) (fun h57 => ?_)
  refine z_iconst dL_comes_60 (v := 2) rfl ?_
  refine z_goto dL_comes_61 (tgt := 89) (by decide) ?_
  refine z_istore (lo2 := [(0, _), (1, _), (2, _), (3, _), (4, _), (5, _), (6, _), (7, _)]) dL_comes_89 (Nat.le_of_ble_eq_true rfl) [1, 2, 3, 4, 5, 6, 7, 0] rfl ?_
  refine z_iload dL_comes_91 4 rfl ?_
  refine z_iload dL_comes_93 7 rfl ?_
  refine z_icmp_eq dL_comes_95 (tgt := 100) (by decide) (fun h95 => ?_) (fun h95 => by first | exact absurd (rfl) h95 | exact absurd h95 (rfl))
  refine z_aload_n dL_comes_100 0 rfl ?_
  refine z_iload_n dL_comes_101 1 rfl ?_
  refine z_bipush dL_comes_102 (v := 6) (by decide +kernel) ?_
  refine z_callVF (d := 7) (As := [_, _]) c_X4_ofTroop rfl l_L_19 rfl rfl rfl (Nat.le_of_ble_eq_true rfl) ⟨Nat.le_of_ble_eq_true rfl, Nat.le_of_ble_eq_true rfl⟩ dL_comes_104 q6 ?_
  refine z_istore (lo2 := [(0, _), (1, _), (2, _), (3, _), (4, _), (5, _), (6, _), (7, _), (8, _)]) dL_comes_107 (Nat.le_of_ble_eq_true rfl) [1, 2, 3, 4, 5, 6, 7, 8, 0] rfl ?_
  refine z_aload_n dL_comes_109 0 rfl ?_
  refine z_iload_n dL_comes_110 1 rfl ?_
  refine z_bipush dL_comes_111 (v := 7) (by decide +kernel) ?_
  refine z_callVF (d := 7) (As := [_, _]) c_X4_ofTroop rfl l_L_19 rfl rfl rfl (Nat.le_of_ble_eq_true rfl) ⟨Nat.le_of_ble_eq_true rfl, Nat.le_of_ble_eq_true rfl⟩ dL_comes_113 q7 ?_
  refine z_istore (lo2 := [(0, _), (1, _), (2, _), (3, _), (4, _), (5, _), (6, _), (7, _), (8, _), (9, _)]) dL_comes_116 (Nat.le_of_ble_eq_true rfl) [1, 2, 3, 4, 5, 6, 7, 8, 9, 0] rfl ?_
  refine z_aload_n dL_comes_118 0 rfl ?_
  refine z_iload_n dL_comes_119 1 rfl ?_
  refine z_callVF (d := 7) (As := [_]) c_X4_waitsFor rfl l_L_23 rfl rfl rfl (Nat.le_of_ble_eq_true rfl) ⟨Nat.le_of_ble_eq_true rfl, Nat.le_of_ble_eq_true rfl⟩ dL_comes_120 qw ?_
  refine z_istore (lo2 := [(0, _), (1, _), (2, _), (3, _), (4, _), (5, _), (6, _), (7, _), (8, _), (9, _), (10, _)]) dL_comes_123 (Nat.le_of_ble_eq_true rfl) [1, 2, 3, 4, 5, 6, 7, 8, 9, 10, 0] rfl ?_
  refine z_aload_n dL_comes_125 0 rfl ?_
  refine z_iload_n dL_comes_126 1 rfl ?_
  refine z_iconst dL_comes_127 (v := 4) rfl ?_
  refine z_callVF (d := 7) (As := [_, _]) c_X4_ofTroop rfl l_L_19 rfl rfl rfl (Nat.le_of_ble_eq_true rfl) ⟨Nat.le_of_ble_eq_true rfl, Nat.le_of_ble_eq_true rfl⟩ dL_comes_128 q4 ?_
  refine z_istore (lo2 := [(0, _), (1, _), (2, _), (3, _), (4, _), (5, _), (6, _), (7, _), (8, _), (9, _), (10, _), (11, _)]) dL_comes_131 (Nat.le_of_ble_eq_true rfl) [1, 2, 3, 4, 5, 6, 7, 8, 9, 10, 11, 0] rfl ?_
  refine z_aload_n dL_comes_133 0 rfl ?_
  refine z_iload_n dL_comes_134 1 rfl ?_
  refine z_bipush dL_comes_135 (v := 11) (by decide +kernel) ?_
  refine z_callVF (d := 7) (As := [_, _]) c_X4_ofTroop rfl l_L_19 rfl rfl rfl (Nat.le_of_ble_eq_true rfl) ⟨Nat.le_of_ble_eq_true rfl, Nat.le_of_ble_eq_true rfl⟩ dL_comes_137 q11 ?_
  refine z_istore (lo2 := [(0, _), (1, _), (2, _), (3, _), (4, _), (5, _), (6, _), (7, _), (8, _), (9, _), (10, _), (11, _), (12, _)]) dL_comes_140 (Nat.le_of_ble_eq_true rfl) [1, 2, 3, 4, 5, 6, 7, 8, 9, 10, 11, 12, 0] rfl ?_
  refine z_aload_n dL_comes_142 0 rfl ?_
  refine z_iload_n dL_comes_143 1 rfl ?_
  refine z_iconst dL_comes_144 (v := 1) rfl ?_
  refine z_callVF (d := 7) (As := [_, _]) c_X4_ofTroop rfl l_L_19 rfl rfl rfl (Nat.le_of_ble_eq_true rfl) ⟨Nat.le_of_ble_eq_true rfl, Nat.le_of_ble_eq_true rfl⟩ dL_comes_145 q1 ?_
  refine z_istore (lo2 := [(0, _), (1, _), (2, _), (3, _), (4, _), (5, _), (6, _), (7, _), (8, _), (9, _), (10, _), (11, _), (12, _), (13, _)]) dL_comes_148 (Nat.le_of_ble_eq_true rfl) [1, 2, 3, 4, 5, 6, 7, 8, 9, 10, 11, 12, 13, 0] rfl ?_
  refine z_aload_n dL_comes_150 0 rfl ?_
  refine z_iload_n dL_comes_151 1 rfl ?_
  refine z_iconst dL_comes_152 (v := 2) rfl ?_
  refine z_callVF (d := 7) (As := [_, _]) c_X4_ofTroop rfl l_L_19 rfl rfl rfl (Nat.le_of_ble_eq_true rfl) ⟨Nat.le_of_ble_eq_true rfl, Nat.le_of_ble_eq_true rfl⟩ dL_comes_153 q2 ?_
  refine z_istore (lo2 := [(0, _), (1, _), (2, _), (3, _), (4, _), (5, _), (6, _), (7, _), (8, _), (9, _), (10, _), (11, _), (12, _), (13, _), (14, _)]) dL_comes_156 (Nat.le_of_ble_eq_true rfl) [1, 2, 3, 4, 5, 6, 7, 8, 9, 10, 11, 12, 13, 14, 0] rfl ?_
  refine z_aload_n dL_comes_158 0 rfl ?_
  refine z_iconst dL_comes_159 (v := 5) rfl ?_
  refine z_callVF (d := 7) (As := [_]) c_X4_count rfl l_L_9 rfl rfl rfl (Nat.le_of_ble_eq_true rfl) ⟨Nat.le_of_ble_eq_true rfl, Nat.le_of_ble_eq_true rfl⟩ dL_comes_160 q5 ?_
  refine z_istore (lo2 := [(0, _), (1, _), (2, _), (3, _), (4, _), (5, _), (6, _), (7, _), (8, _), (9, _), (10, _), (11, _), (12, _), (13, _), (14, _), (15, _)]) dL_comes_163 (Nat.le_of_ble_eq_true rfl) [1, 2, 3, 4, 5, 6, 7, 8, 9, 10, 11, 12, 13, 14, 15, 0] rfl ?_
  refine z_aload_n dL_comes_165 0 rfl ?_
  refine z_iload_n dL_comes_166 1 rfl ?_
  refine z_iload_n dL_comes_167 2 rfl ?_
  refine z_iload_n dL_comes_168 3 rfl ?_
  refine z_callV (d := 7) (As := [_, _, _]) c_X4_come rfl l_L_34 rfl rfl rfl (Nat.le_of_ble_eq_true rfl) ⟨Nat.le_of_ble_eq_true rfl, Nat.le_of_ble_eq_true rfl⟩ dL_comes_169 kc (fun r169 u169 q169 => ?_)
  obtain ⟨z, hS'⟩ := q169
  cases z
  have r6 := q_t (G := G) hW hS' o6
  have r4 := q_t (G := G) hW hS' o4
  refine z_istore (lo2 := [(0, _), (1, _), (2, _), (3, _), (4, _), (5, _), (6, _), (7, _), (8, _), (9, _), (10, _), (11, _), (12, _), (13, _), (14, _), (15, _), (16, _)]) dL_comes_172 (Nat.le_of_ble_eq_true rfl) [1, 2, 3, 4, 5, 6, 7, 8, 9, 10, 11, 12, 13, 14, 15, 16, 0] rfl ?_
  refine z_iload dL_comes_174 4 rfl ?_
  refine z_if_lt dL_comes_176 (tgt := 190) (by decide) (fun h176 => by first | exact absurd (by decide) h176 | exact absurd h176 (by decide)) (fun h176 => ?_)
  refine z_iload dL_comes_179 4 rfl ?_
  refine z_if_le dL_comes_181 (tgt := 235) (by decide) (fun h181 => by first | exact absurd (by decide) h181 | exact absurd h181 (by decide)) (fun h181 => ?_)
  refine z_iload dL_comes_184 4 rfl ?_
  refine z_iconst dL_comes_186 (v := 4) rfl ?_
  refine z_icmp_ge dL_comes_187 (tgt := 235) (by decide) (fun h187 => by first | exact absurd (by decide) h187 | exact absurd h187 (by decide)) (fun h187 => ?_)
  refine z_iload dL_comes_190 16 rfl ?_
  refine z_iload dL_comes_192 4 rfl ?_
  refine z_if_ge dL_comes_194 (tgt := 201) (by decide) (fun h194 => ?_) (fun h194 => by first | exact absurd (by decide) h194 | exact absurd h194 (by decide))
  refine z_bipush dL_comes_201 (v := -5) (by decide +kernel) ?_
  refine z_icmp_ne dL_comes_203 (tgt := 233) (by decide) (fun h203 => by first | exact absurd (rfl) h203 | exact absurd h203 (rfl)) (fun h203 => ?_)
  refine z_aload_n dL_comes_206 0 rfl ?_
  refine z_iload_n dL_comes_207 1 rfl ?_
  refine z_bipush dL_comes_208 (v := 6) (by decide +kernel) ?_
  refine z_callVF (d := 7) (As := [_, _]) c_X4_ofTroop rfl l_L_19 rfl rfl rfl (Nat.le_of_ble_eq_true rfl) ⟨Nat.le_of_ble_eq_true rfl, Nat.le_of_ble_eq_true rfl⟩ dL_comes_210 r6 ?_
  refine z_iload dL_comes_213 8 rfl ?_
  refine z_icmp_ne dL_comes_215 (tgt := 233) (by decide) (fun h215 => by first | exact absurd (rfl) h215 | exact absurd h215 (rfl)) (fun h215 => ?_)
  refine z_aload_n dL_comes_218 0 rfl ?_
  refine z_iload_n dL_comes_219 1 rfl ?_
  refine z_iconst dL_comes_220 (v := 4) rfl ?_
  refine z_callVF (d := 7) (As := [_, _]) c_X4_ofTroop rfl l_L_19 rfl rfl rfl (Nat.le_of_ble_eq_true rfl) ⟨Nat.le_of_ble_eq_true rfl, Nat.le_of_ble_eq_true rfl⟩ dL_comes_221 r4 ?_
  refine z_iload dL_comes_224 11 rfl ?_
  refine z_icmp_ne dL_comes_226 (tgt := 233) (by decide) (fun h226 => by first | exact absurd (rfl) h226 | exact absurd h226 (rfl)) (fun h226 => ?_)
  refine z_iconst dL_comes_229 (v := 1) rfl ?_
  refine z_goto dL_comes_230 (tgt := 234) (by decide) ?_
  refine z_zret rfl (by first | rfl | decide) dL_comes_234 ?_
  exact ⟨rfl, N, hN.mono (by omega), hS'⟩
theorem t_comes_2 (hN : NI N b) (hS : LI S N) (ht : t < cnt N) (hk : k < 16) (hc : c = 0 ∨ c = 1) (hlt : k < tsz (N.2 t)) (hv : (N.2 t).2.1 k = 2) : CallL G 8 240 0 0 M_L_comes [rv G 0, .int (nI t), .int (nI k), .int c] S (fun v u => v = some 1 ∧ ∃ N', NI N' (b + 3) ∧ LI u N') := by
  refine callL_of (lo := [(0, rv G 0), (1, .int (nI t)), (2, .int (nI k)), (3, .int c)]) (by decide +kernel) (Nat.le_of_ble_eq_true rfl) rfl ?_
  have hW := hN.1
  have hT := hN.2.1 t ht
  have hWT := hT.1
  have hc5 := hW.cn.2
  obtain ⟨s, e1, e2, e3, e4⟩ := hWT.sz
  obtain ⟨o0, o1, o2, -, o4, -, o6, o7, -, -, o10, o11⟩ := oft hW ht
  have q0 := q_t (G := G) hW hS o0
  rw [e2] at q0
  have q1 := q_t (G := G) hW hS o1
  have q2 := q_t (G := G) hW hS o2
  have q4 := q_t (G := G) hW hS o4
  have q6 := q_t (G := G) hW hS o6
  have q7 := q_t (G := G) hW hS o7
  have q11 := q_t (G := G) hW hS o11
  have qw := q_wai (G := G) hW hS ht
  have q5 : Call G 7 M_X4_count [rv G 0, .int 5] S (fun v u => v = some (N.1 4) ∧ u = S) := q_cnt hW hS (fun n => rfl)
  have kc := k_come (G := G) hW hS (x := nI t) (y := nI k) (c := c)
  have kw := q_why (G := G) hW hS (x := nI t) (y := nI k) (c := c)
  have b25 : ¬ nI s ≤ nI k := nI_ge (by omega) (by omega)
  have hw : whyA N (nI t) (nI k) c = 3 := by rw [why_ok hW ht hk hlt hc]; unfold whyT; rw [hv]; rfl
  rw [hw] at kw
  rw [com_5 (by simp [hw])] at kc
  have c0 := q_of0 (G := G) hW hS ht hk (kn_lt hlt)
  rw [hv] at c0
  refine z_aload_n dL_comes_0 0 rfl ?_
  refine z_iload_n dL_comes_1 1 rfl ?_
  refine z_iload_n dL_comes_2 2 rfl ?_
  refine z_iload_n dL_comes_3 3 rfl ?_
  refine z_callVF (d := 7) (As := [_, _, _]) c_X4_why rfl l_L_31 rfl rfl rfl (Nat.le_of_ble_eq_true rfl) ⟨Nat.le_of_ble_eq_true rfl, Nat.le_of_ble_eq_true rfl⟩ dL_comes_4 kw ?_
  refine z_istore (lo2 := [(0, _), (1, _), (2, _), (3, _), (4, _)]) dL_comes_7 (Nat.le_of_ble_eq_true rfl) [1, 2, 3, 4, 0] rfl ?_
  refine z_aload_n dL_comes_9 0 rfl ?_
  refine z_iload_n dL_comes_10 1 rfl ?_
  refine z_iload_n dL_comes_11 2 rfl ?_
  refine z_iconst dL_comes_12 (v := 0) rfl ?_
  refine z_callVF (d := 7) (As := [_, _, _]) c_X4_of rfl l_L_15 rfl rfl rfl (Nat.le_of_ble_eq_true rfl) ⟨Nat.le_of_ble_eq_true rfl, Nat.le_of_ble_eq_true rfl⟩ dL_comes_13 c0 ?_
  refine z_istore (lo2 := [(0, _), (1, _), (2, _), (3, _), (4, _), (5, _)]) dL_comes_16 (Nat.le_of_ble_eq_true rfl) [1, 2, 3, 4, 5, 0] rfl ?_
  refine z_iload_n dL_comes_18 2 rfl ?_
  refine z_aload_n dL_comes_19 0 rfl ?_
  refine z_iload_n dL_comes_20 1 rfl ?_
  refine z_iconst dL_comes_21 (v := 0) rfl ?_
  refine z_callVF (d := 7) (As := [_, _]) c_X4_ofTroop rfl l_L_19 rfl rfl rfl (Nat.le_of_ble_eq_true rfl) ⟨Nat.le_of_ble_eq_true rfl, Nat.le_of_ble_eq_true rfl⟩ dL_comes_22 q0 ?_
  refine z_icmp_ge dL_comes_25 (tgt := 32) (by decide) (fun h25 => by first | exact absurd (b25) h25 | exact absurd h25 (b25)) (fun h25 => ?_)
  refine z_iconst dL_comes_28 (v := 1) rfl ?_
  refine z_goto dL_comes_29 (tgt := 33) (by decide) ?_
  refine z_istore (lo2 := [(0, _), (1, _), (2, _), (3, _), (4, _), (5, _), (6, _)]) dL_comes_33 (Nat.le_of_ble_eq_true rfl) [1, 2, 3, 4, 5, 6, 0] rfl ?_
  refine z_iload dL_comes_35 6 rfl ?_
  refine z_if_ne dL_comes_37 (tgt := 44) (by decide) (fun h37 => ?_) (fun h37 => by first | exact absurd (by decide) h37 | exact absurd h37 (by decide))
  refine z_iload dL_comes_44 5 rfl ?_
  refine z_iconst dL_comes_46 (v := 3) rfl ?_
  refine z_icmp_ne dL_comes_47 (tgt := 54) (by decide) (fun h47 => ?_) (fun h47 => by first | exact absurd (by decide) h47 | exact absurd h47 (by decide))
  refine z_iload dL_comes_54 5 rfl ?_
  refine z_iconst dL_comes_56 (v := 1) rfl ?_
  refine z_icmp_ne dL_comes_57 (tgt := 64) (by decide) (fun h57 => ?_) (fun h57 => by first | exact absurd (by decide) h57 | exact absurd h57 (by decide))
  refine z_iload dL_comes_64 5 rfl ?_
  refine z_iconst dL_comes_66 (v := 2) rfl ?_
  refine z_icmp_ne dL_comes_67 (tgt := 74) (by decide) (fun h67 => by first | exact absurd (rfl) h67 | exact absurd h67 (rfl)) (fun h67 => ?_)
  refine z_iconst dL_comes_70 (v := 3) rfl ?_
  refine z_goto dL_comes_71 (tgt := 89) (by decide) ?_
  refine z_istore (lo2 := [(0, _), (1, _), (2, _), (3, _), (4, _), (5, _), (6, _), (7, _)]) dL_comes_89 (Nat.le_of_ble_eq_true rfl) [1, 2, 3, 4, 5, 6, 7, 0] rfl ?_
  refine z_iload dL_comes_91 4 rfl ?_
  refine z_iload dL_comes_93 7 rfl ?_
  refine z_icmp_eq dL_comes_95 (tgt := 100) (by decide) (fun h95 => ?_) (fun h95 => by first | exact absurd (rfl) h95 | exact absurd h95 (rfl))
  refine z_aload_n dL_comes_100 0 rfl ?_
  refine z_iload_n dL_comes_101 1 rfl ?_
  refine z_bipush dL_comes_102 (v := 6) (by decide +kernel) ?_
  refine z_callVF (d := 7) (As := [_, _]) c_X4_ofTroop rfl l_L_19 rfl rfl rfl (Nat.le_of_ble_eq_true rfl) ⟨Nat.le_of_ble_eq_true rfl, Nat.le_of_ble_eq_true rfl⟩ dL_comes_104 q6 ?_
  refine z_istore (lo2 := [(0, _), (1, _), (2, _), (3, _), (4, _), (5, _), (6, _), (7, _), (8, _)]) dL_comes_107 (Nat.le_of_ble_eq_true rfl) [1, 2, 3, 4, 5, 6, 7, 8, 0] rfl ?_
  refine z_aload_n dL_comes_109 0 rfl ?_
  refine z_iload_n dL_comes_110 1 rfl ?_
  refine z_bipush dL_comes_111 (v := 7) (by decide +kernel) ?_
  refine z_callVF (d := 7) (As := [_, _]) c_X4_ofTroop rfl l_L_19 rfl rfl rfl (Nat.le_of_ble_eq_true rfl) ⟨Nat.le_of_ble_eq_true rfl, Nat.le_of_ble_eq_true rfl⟩ dL_comes_113 q7 ?_
  refine z_istore (lo2 := [(0, _), (1, _), (2, _), (3, _), (4, _), (5, _), (6, _), (7, _), (8, _), (9, _)]) dL_comes_116 (Nat.le_of_ble_eq_true rfl) [1, 2, 3, 4, 5, 6, 7, 8, 9, 0] rfl ?_
  refine z_aload_n dL_comes_118 0 rfl ?_
  refine z_iload_n dL_comes_119 1 rfl ?_
  refine z_callVF (d := 7) (As := [_]) c_X4_waitsFor rfl l_L_23 rfl rfl rfl (Nat.le_of_ble_eq_true rfl) ⟨Nat.le_of_ble_eq_true rfl, Nat.le_of_ble_eq_true rfl⟩ dL_comes_120 qw ?_
  refine z_istore (lo2 := [(0, _), (1, _), (2, _), (3, _), (4, _), (5, _), (6, _), (7, _), (8, _), (9, _), (10, _)]) dL_comes_123 (Nat.le_of_ble_eq_true rfl) [1, 2, 3, 4, 5, 6, 7, 8, 9, 10, 0] rfl ?_
  refine z_aload_n dL_comes_125 0 rfl ?_
  refine z_iload_n dL_comes_126 1 rfl ?_
  refine z_iconst dL_comes_127 (v := 4) rfl ?_
  refine z_callVF (d := 7) (As := [_, _]) c_X4_ofTroop rfl l_L_19 rfl rfl rfl (Nat.le_of_ble_eq_true rfl) ⟨Nat.le_of_ble_eq_true rfl, Nat.le_of_ble_eq_true rfl⟩ dL_comes_128 q4 ?_
  refine z_istore (lo2 := [(0, _), (1, _), (2, _), (3, _), (4, _), (5, _), (6, _), (7, _), (8, _), (9, _), (10, _), (11, _)]) dL_comes_131 (Nat.le_of_ble_eq_true rfl) [1, 2, 3, 4, 5, 6, 7, 8, 9, 10, 11, 0] rfl ?_
  refine z_aload_n dL_comes_133 0 rfl ?_
  refine z_iload_n dL_comes_134 1 rfl ?_
  refine z_bipush dL_comes_135 (v := 11) (by decide +kernel) ?_
  refine z_callVF (d := 7) (As := [_, _]) c_X4_ofTroop rfl l_L_19 rfl rfl rfl (Nat.le_of_ble_eq_true rfl) ⟨Nat.le_of_ble_eq_true rfl, Nat.le_of_ble_eq_true rfl⟩ dL_comes_137 q11 ?_
  refine z_istore (lo2 := [(0, _), (1, _), (2, _), (3, _), (4, _), (5, _), (6, _), (7, _), (8, _), (9, _), (10, _), (11, _), (12, _)]) dL_comes_140 (Nat.le_of_ble_eq_true rfl) [1, 2, 3, 4, 5, 6, 7, 8, 9, 10, 11, 12, 0] rfl ?_
  refine z_aload_n dL_comes_142 0 rfl ?_
  refine z_iload_n dL_comes_143 1 rfl ?_
  refine z_iconst dL_comes_144 (v := 1) rfl ?_
  refine z_callVF (d := 7) (As := [_, _]) c_X4_ofTroop rfl l_L_19 rfl rfl rfl (Nat.le_of_ble_eq_true rfl) ⟨Nat.le_of_ble_eq_true rfl, Nat.le_of_ble_eq_true rfl⟩ dL_comes_145 q1 ?_
  refine z_istore (lo2 := [(0, _), (1, _), (2, _), (3, _), (4, _), (5, _), (6, _), (7, _), (8, _), (9, _), (10, _), (11, _), (12, _), (13, _)]) dL_comes_148 (Nat.le_of_ble_eq_true rfl) [1, 2, 3, 4, 5, 6, 7, 8, 9, 10, 11, 12, 13, 0] rfl ?_
  refine z_aload_n dL_comes_150 0 rfl ?_
  refine z_iload_n dL_comes_151 1 rfl ?_
  refine z_iconst dL_comes_152 (v := 2) rfl ?_
  refine z_callVF (d := 7) (As := [_, _]) c_X4_ofTroop rfl l_L_19 rfl rfl rfl (Nat.le_of_ble_eq_true rfl) ⟨Nat.le_of_ble_eq_true rfl, Nat.le_of_ble_eq_true rfl⟩ dL_comes_153 q2 ?_
  refine z_istore (lo2 := [(0, _), (1, _), (2, _), (3, _), (4, _), (5, _), (6, _), (7, _), (8, _), (9, _), (10, _), (11, _), (12, _), (13, _), (14, _)]) dL_comes_156 (Nat.le_of_ble_eq_true rfl) [1, 2, 3, 4, 5, 6, 7, 8, 9, 10, 11, 12, 13, 14, 0] rfl ?_
  refine z_aload_n dL_comes_158 0 rfl ?_
  refine z_iconst dL_comes_159 (v := 5) rfl ?_
  refine z_callVF (d := 7) (As := [_]) c_X4_count rfl l_L_9 rfl rfl rfl (Nat.le_of_ble_eq_true rfl) ⟨Nat.le_of_ble_eq_true rfl, Nat.le_of_ble_eq_true rfl⟩ dL_comes_160 q5 ?_
  refine z_istore (lo2 := [(0, _), (1, _), (2, _), (3, _), (4, _), (5, _), (6, _), (7, _), (8, _), (9, _), (10, _), (11, _), (12, _), (13, _), (14, _), (15, _)]) dL_comes_163 (Nat.le_of_ble_eq_true rfl) [1, 2, 3, 4, 5, 6, 7, 8, 9, 10, 11, 12, 13, 14, 15, 0] rfl ?_
  refine z_aload_n dL_comes_165 0 rfl ?_
  refine z_iload_n dL_comes_166 1 rfl ?_
  refine z_iload_n dL_comes_167 2 rfl ?_
  refine z_iload_n dL_comes_168 3 rfl ?_
  refine z_callV (d := 7) (As := [_, _, _]) c_X4_come rfl l_L_34 rfl rfl rfl (Nat.le_of_ble_eq_true rfl) ⟨Nat.le_of_ble_eq_true rfl, Nat.le_of_ble_eq_true rfl⟩ dL_comes_169 kc (fun r169 u169 q169 => ?_)
  obtain ⟨z, hS'⟩ := q169
  cases z
  have r6 := q_t (G := G) hW hS' o6
  have r4 := q_t (G := G) hW hS' o4
  refine z_istore (lo2 := [(0, _), (1, _), (2, _), (3, _), (4, _), (5, _), (6, _), (7, _), (8, _), (9, _), (10, _), (11, _), (12, _), (13, _), (14, _), (15, _), (16, _)]) dL_comes_172 (Nat.le_of_ble_eq_true rfl) [1, 2, 3, 4, 5, 6, 7, 8, 9, 10, 11, 12, 13, 14, 15, 16, 0] rfl ?_
  refine z_iload dL_comes_174 4 rfl ?_
  refine z_if_lt dL_comes_176 (tgt := 190) (by decide) (fun h176 => by first | exact absurd (by decide) h176 | exact absurd h176 (by decide)) (fun h176 => ?_)
  refine z_iload dL_comes_179 4 rfl ?_
  refine z_if_le dL_comes_181 (tgt := 235) (by decide) (fun h181 => by first | exact absurd (by decide) h181 | exact absurd h181 (by decide)) (fun h181 => ?_)
  refine z_iload dL_comes_184 4 rfl ?_
  refine z_iconst dL_comes_186 (v := 4) rfl ?_
  refine z_icmp_ge dL_comes_187 (tgt := 235) (by decide) (fun h187 => by first | exact absurd (by decide) h187 | exact absurd h187 (by decide)) (fun h187 => ?_)
  refine z_iload dL_comes_190 16 rfl ?_
  refine z_iload dL_comes_192 4 rfl ?_
  refine z_if_ge dL_comes_194 (tgt := 201) (by decide) (fun h194 => ?_) (fun h194 => by first | exact absurd (by decide) h194 | exact absurd h194 (by decide))
  refine z_bipush dL_comes_201 (v := -5) (by decide +kernel) ?_
  refine z_icmp_ne dL_comes_203 (tgt := 233) (by decide) (fun h203 => by first | exact absurd (rfl) h203 | exact absurd h203 (rfl)) (fun h203 => ?_)
  refine z_aload_n dL_comes_206 0 rfl ?_
  refine z_iload_n dL_comes_207 1 rfl ?_
  refine z_bipush dL_comes_208 (v := 6) (by decide +kernel) ?_
  refine z_callVF (d := 7) (As := [_, _]) c_X4_ofTroop rfl l_L_19 rfl rfl rfl (Nat.le_of_ble_eq_true rfl) ⟨Nat.le_of_ble_eq_true rfl, Nat.le_of_ble_eq_true rfl⟩ dL_comes_210 r6 ?_
  refine z_iload dL_comes_213 8 rfl ?_
  refine z_icmp_ne dL_comes_215 (tgt := 233) (by decide) (fun h215 => by first | exact absurd (rfl) h215 | exact absurd h215 (rfl)) (fun h215 => ?_)
  refine z_aload_n dL_comes_218 0 rfl ?_
  refine z_iload_n dL_comes_219 1 rfl ?_
  refine z_iconst dL_comes_220 (v := 4) rfl ?_
  refine z_callVF (d := 7) (As := [_, _]) c_X4_ofTroop rfl l_L_19 rfl rfl rfl (Nat.le_of_ble_eq_true rfl) ⟨Nat.le_of_ble_eq_true rfl, Nat.le_of_ble_eq_true rfl⟩ dL_comes_221 r4 ?_
  refine z_iload dL_comes_224 11 rfl ?_
  refine z_icmp_ne dL_comes_226 (tgt := 233) (by decide) (fun h226 => by first | exact absurd (rfl) h226 | exact absurd h226 (rfl)) (fun h226 => ?_)
  refine z_iconst dL_comes_229 (v := 1) rfl ?_
  refine z_goto dL_comes_230 (tgt := 234) (by decide) ?_
  refine z_zret rfl (by first | rfl | decide) dL_comes_234 ?_
  exact ⟨rfl, N, hN.mono (by omega), hS'⟩
theorem t_comes_w0 (hN : NI N b) (hb : b ≤ 900) (hS : LI S N) (ht : t < cnt N) (hk : k < 16) (hc : c = 0 ∨ c = 1) (hlt : k < tsz (N.2 t)) (hv3 : ¬ (N.2 t).2.1 k = 3) (hv1 : ¬ (N.2 t).2.1 k = 1) (hv2 : ¬ (N.2 t).2.1 k = 2) (hcc : c = (N.2 t).1 1) : CallL G 8 240 0 0 M_L_comes [rv G 0, .int (nI t), .int (nI k), .int c] S (fun v u => v = some 1 ∧ ∃ N', NI N' (b + 3) ∧ LI u N') := by
  refine callL_of (lo := [(0, rv G 0), (1, .int (nI t)), (2, .int (nI k)), (3, .int c)]) (by decide +kernel) (Nat.le_of_ble_eq_true rfl) rfl ?_
  have hW := hN.1
  have hT := hN.2.1 t ht
  have hWT := hT.1
  have hc5 := hW.cn.2
  obtain ⟨s, e1, e2, e3, e4⟩ := hWT.sz
  obtain ⟨o0, o1, o2, -, o4, -, o6, o7, -, -, o10, o11⟩ := oft hW ht
  have q0 := q_t (G := G) hW hS o0
  rw [e2] at q0
  have q1 := q_t (G := G) hW hS o1
  have q2 := q_t (G := G) hW hS o2
  have q4 := q_t (G := G) hW hS o4
  have q6 := q_t (G := G) hW hS o6
  have q7 := q_t (G := G) hW hS o7
  have q11 := q_t (G := G) hW hS o11
  have qw := q_wai (G := G) hW hS ht
  have q5 : Call G 7 M_X4_count [rv G 0, .int 5] S (fun v u => v = some (N.1 4) ∧ u = S) := q_cnt hW hS (fun n => rfl)
  have kc := k_come (G := G) hW hS (x := nI t) (y := nI k) (c := c)
  have kw := q_why (G := G) hW hS (x := nI t) (y := nI k) (c := c)
  have b25 : ¬ nI s ≤ nI k := nI_ge (by omega) (by omega)
  have hw : whyA N (nI t) (nI k) c = 0 := by rw [why_ok hW ht hk hlt hc]; unfold whyT; rw [if_neg hv3, if_neg hv1, if_neg hv2, if_pos hcc]
  rw [hw] at kw
  rw [com_0 (by omega) hk hw] at kc
  have c0 := q_of0 (G := G) hW hS ht hk (kn_lt hlt)
  obtain ⟨f0, f1, f2, f3, f4, f5⟩ := com_f (h := 1) hT hN.2.2.2.1 hlt (by simp) hv2 hb
  have hN' : NI (setTr N t (opnN 3 (setH (N.2 t) k 1) (N.1 1)).2) (b + 3) := ni_tr hN (by omega) f0
  generalize eN : setTr N t (opnN 3 (setH (N.2 t) k 1) (N.1 1)).2 = N' at kc hN'
  have eT : N'.2 t = (opnN 3 (setH (N.2 t) k 1) (N.1 1)).2 := by rw [← eN]; exact tr_at
  have eA : N'.1 1 = N.1 1 := by rw [← eN]; rfl
  have eE : N'.1 4 = N.1 4 + 0 := by rw [← eN]; exact (Int32.add_zero _).symm
  have ht' : t < cnt N' := by rw [← eN]; exact ht
  clear eN
  generalize eK : opK 3 (setH (N.2 t) k 1) (N.1 1) = n at f1 f2 f3 f4 f5 kc
  rw [← eT] at f0 f2 f3 f4 f5
  rw [← eA] at f5
  clear eA eK
  have hW' := hN'.1
  have hWT' := f0.1
  have g0 : ¬ nI n < 0 := nI_pos (by omega)
  have g3 : ¬ (3 : Int32) < nI n := nI_nlt (a := 3) f1 (by omega)
  obtain ⟨p0, p1, -, -, p4, -, -, -, -, -, p10, p11⟩ := oft hW' ht'
  have st169 : ∀ (u : mS) (x5 x6 x7 x15 x13 : Int32), LI u N' → Lt G 8 240 0 0 M_L_comes (fun v u => v = some 1 ∧ ∃ N', NI N' (b + 3) ∧ LI u N') 300 [(0, rv G 0), (1, .int (nI t)), (2, .int (nI k)), (3, .int c), (4, .int 0), (5, .int x5), (6, .int x6), (7, .int x7), (8, .int (hm (N.2 t) 1)), (9, .int (hm (N.2 t) 2)), (10, .int (awM (N.2 t))), (11, .int ((N.2 t).1 3)), (12, .int ((N.2 t).1 4)), (13, .int x13), (14, .int ((N.2 t).1 2)), (15, .int x15), (16, .int (nI n))] [] (u, [], 0, 0) := by
    intro u x5 x6 x7 x15 x13 hS'
    have r0 := q_t (G := G) hW' hS' p0
    have r10 := q_t (G := G) hW' hS' p10
    have r11 := q_t (G := G) hW' hS' p11
    rcases Nat.eq_zero_or_pos n with hz | hz
    · obtain ⟨y1, y2⟩ := f4 hz
      have hn0 : nI n = 0 := by rw [hz]; rfl
      have e5 : (N'.2 t).2.1 k = 1 := by rw [y1]; show upd (N.2 t).2.1 k 1 k = 1; rw [upd, if_pos rfl]
      have d0 := q_of0 (G := G) hW' hS' ht' hk (kn_of hWT' hk (by rw [e5]; decide))
      rw [e5] at d0
      have e11 : (N'.2 t).1 4 = (N.2 t).1 4 := by rw [y1]; rfl
      rw [e11] at r11
      have haw : ¬ (awM (N.2 t) &&& (((1 : Int32) <<< (nI k &&& 31)) ^^^ (-1))) = 0 := by rw [aw_set hk]; exact ca_no hk y2
      refine z_iload dL_comes_300 16 rfl ?_
      refine z_if_ne dL_comes_302 (tgt := 360) (by decide) (fun h302 => by first | exact absurd (hn0) h302 | exact absurd h302 (hn0)) (fun h302 => ?_)
      refine z_aload_n dL_comes_305 0 rfl ?_
      refine z_iload_n dL_comes_306 1 rfl ?_
      refine z_iload_n dL_comes_307 2 rfl ?_
      refine z_iconst dL_comes_308 (v := 0) rfl ?_
      refine z_callVF (d := 7) (As := [_, _, _]) c_X4_of rfl l_L_15 rfl rfl rfl (Nat.le_of_ble_eq_true rfl) ⟨Nat.le_of_ble_eq_true rfl, Nat.le_of_ble_eq_true rfl⟩ dL_comes_309 d0 ?_
      refine z_iload dL_comes_312 4 rfl ?_
      refine z_if_ne dL_comes_314 (tgt := 321) (by decide) (fun h314 => by first | exact absurd (rfl) h314 | exact absurd h314 (rfl)) (fun h314 => ?_)
      refine z_iconst dL_comes_317 (v := 1) rfl ?_
      refine z_goto dL_comes_318 (tgt := 322) (by decide) ?_
      refine z_icmp_ne dL_comes_322 (tgt := 358) (by decide) (fun h322 => by first | exact absurd (rfl) h322 | exact absurd h322 (rfl)) (fun h322 => ?_)
      refine z_aload_n dL_comes_325 0 rfl ?_
      refine z_iload_n dL_comes_326 1 rfl ?_
      refine z_bipush dL_comes_327 (v := 11) (by decide +kernel) ?_
      refine z_callVF (d := 7) (As := [_, _]) c_X4_ofTroop rfl l_L_19 rfl rfl rfl (Nat.le_of_ble_eq_true rfl) ⟨Nat.le_of_ble_eq_true rfl, Nat.le_of_ble_eq_true rfl⟩ dL_comes_329 r11 ?_
      refine z_iload dL_comes_332 12 rfl ?_
      refine z_icmp_ne dL_comes_334 (tgt := 358) (by decide) (fun h334 => by first | exact absurd (rfl) h334 | exact absurd h334 (rfl)) (fun h334 => ?_)
      refine z_iload dL_comes_337 4 rfl ?_
      refine z_iconst dL_comes_339 (v := 4) rfl ?_
      refine z_icmp_eq dL_comes_340 (tgt := 354) (by decide) (fun h340 => by first | exact absurd (by decide) h340 | exact absurd h340 (by decide)) (fun h340 => ?_)
      refine z_iload dL_comes_343 10 rfl ?_
      refine z_iconst dL_comes_345 (v := 1) rfl ?_
      refine z_iload_n dL_comes_346 2 rfl ?_
      refine z_ishl dL_comes_347 ?_
      refine z_iconst dL_comes_348 (v := -1) rfl ?_
      refine z_ixor dL_comes_349 ?_
      refine z_iand dL_comes_350 ?_
      refine z_if_eq dL_comes_351 (tgt := 358) (by decide) (fun h351 => by first | exact absurd (haw) h351 | exact absurd h351 (haw)) (fun h351 => ?_)
      refine z_iconst dL_comes_354 (v := 1) rfl ?_
      refine z_goto dL_comes_355 (tgt := 359) (by decide) ?_
      refine z_zret rfl (by first | rfl | decide) dL_comes_359 ?_
      exact ⟨rfl, N', hN', hS'⟩
    · obtain ⟨y1, y2, y3, y4, y5, y6⟩ := f5 hz
      have hn1 : nI n ≠ 0 := nI_ne0 hz (by omega)
      obtain ⟨ns, z1, z2, z3, z4⟩ := hWT.nx
      have f10 : (N'.2 t).1 5 = 0 := y3
      have haw : (awM (N.2 t) &&& (((1 : Int32) <<< (nI k &&& 31)) ^^^ (-1))) = 0 := by rw [aw_set hk]; exact y1
      have fin := @lp_comes G u N' t n (hm (N.2 t) 2) ((N.2 t).1 4) ((N.2 t).1 2) (hm (setH (N.2 t) k 1) 1) (fun v u => v = some 1 ∧ ∃ N', NI N' (b + 3) ∧ LI u N') hW' hS' ht' ⟨by rw [z1]; exact z2, by omega⟩ f1 y4 y5 y6 ⟨rfl, N', hN', hS'⟩ 16 0 (by omega)
      refine z_iload dL_comes_300 16 rfl ?_
      refine z_if_ne dL_comes_302 (tgt := 360) (by decide) (fun h302 => ?_) (fun h302 => by first | exact absurd (hn1) h302 | exact absurd h302 (hn1))
      refine z_iload dL_comes_360 4 rfl ?_
      refine z_if_ne dL_comes_362 (tgt := 376) (by decide) (fun h362 => by first | exact absurd (rfl) h362 | exact absurd h362 (rfl)) (fun h362 => ?_)
      refine z_iload dL_comes_365 10 rfl ?_
      refine z_iconst dL_comes_367 (v := 1) rfl ?_
      refine z_iload_n dL_comes_368 2 rfl ?_
      refine z_ishl dL_comes_369 ?_
      refine z_iconst dL_comes_370 (v := -1) rfl ?_
      refine z_ixor dL_comes_371 ?_
      refine z_iand dL_comes_372 ?_
      refine z_if_ne dL_comes_373 (tgt := 397) (by decide) (fun h373 => by first | exact absurd (haw) h373 | exact absurd h373 (haw)) (fun h373 => ?_)
      refine z_aload_n dL_comes_376 0 rfl ?_
      refine z_iload_n dL_comes_377 1 rfl ?_
      refine z_iconst dL_comes_378 (v := 0) rfl ?_
      refine z_callVF (d := 7) (As := [_, _]) c_X4_ofTroop rfl l_L_19 rfl rfl rfl (Nat.le_of_ble_eq_true rfl) ⟨Nat.le_of_ble_eq_true rfl, Nat.le_of_ble_eq_true rfl⟩ dL_comes_379 r0 ?_
      refine z_iload dL_comes_382 14 rfl ?_
      refine z_icmp_ne dL_comes_384 (tgt := 397) (by decide) (fun h384 => by first | exact absurd (y2) h384 | exact absurd h384 (y2)) (fun h384 => ?_)
      refine z_aload_n dL_comes_387 0 rfl ?_
      refine z_iload_n dL_comes_388 1 rfl ?_
      refine z_bipush dL_comes_389 (v := 10) (by decide +kernel) ?_
      refine z_callVF (d := 7) (As := [_, _]) c_X4_ofTroop rfl l_L_19 rfl rfl rfl (Nat.le_of_ble_eq_true rfl) ⟨Nat.le_of_ble_eq_true rfl, Nat.le_of_ble_eq_true rfl⟩ dL_comes_391 r10 ?_
      refine z_if_eq dL_comes_394 (tgt := 399) (by decide) (fun h394 => ?_) (fun h394 => by first | exact absurd (f10) h394 | exact absurd h394 (f10))
      refine z_iload dL_comes_399 8 rfl ?_
      refine z_iload dL_comes_401 4 rfl ?_
      refine z_if_ne dL_comes_403 (tgt := 412) (by decide) (fun h403 => by first | exact absurd (rfl) h403 | exact absurd h403 (rfl)) (fun h403 => ?_)
      refine z_iconst dL_comes_406 (v := 1) rfl ?_
      refine z_iload_n dL_comes_407 2 rfl ?_
      refine z_ishl dL_comes_408 ?_
      refine z_goto dL_comes_409 (tgt := 413) (by decide) ?_
      refine z_ior dL_comes_413 ?_
      refine z_istore (lo2 := [(0, _), (1, _), (2, _), (3, _), (4, _), (5, _), (6, _), (7, _), (8, _), (9, _), (10, _), (11, _), (12, _), (13, _), (14, _), (15, _), (16, _)]) dL_comes_414 (Nat.le_of_ble_eq_true rfl) [1, 2, 3, 4, 5, 6, 7, 8, 0, 9, 10, 11, 12, 13, 14, 15, 16] rfl ?_
      refine z_iconst dL_comes_416 (v := 0) rfl ?_
      refine z_istore (lo2 := [(0, _), (1, _), (2, _), (3, _), (4, _), (5, _), (6, _), (7, _), (8, _), (9, _), (10, _), (11, _), (12, _), (13, _), (14, _), (15, _), (16, _), (17, _)]) dL_comes_417 (Nat.le_of_ble_eq_true rfl) [1, 2, 3, 4, 5, 6, 7, 8, 9, 10, 11, 12, 13, 14, 15, 16, 17, 0] rfl ?_
      rw [hm_in hk]
      exact z_sub [0, 1, 8, 9, 12, 14, 16, 17] rfl fin
  refine z_aload_n dL_comes_0 0 rfl ?_
  refine z_iload_n dL_comes_1 1 rfl ?_
  refine z_iload_n dL_comes_2 2 rfl ?_
  refine z_iload_n dL_comes_3 3 rfl ?_
  refine z_callVF (d := 7) (As := [_, _, _]) c_X4_why rfl l_L_31 rfl rfl rfl (Nat.le_of_ble_eq_true rfl) ⟨Nat.le_of_ble_eq_true rfl, Nat.le_of_ble_eq_true rfl⟩ dL_comes_4 kw ?_
  refine z_istore (lo2 := [(0, _), (1, _), (2, _), (3, _), (4, _)]) dL_comes_7 (Nat.le_of_ble_eq_true rfl) [1, 2, 3, 4, 0] rfl ?_
  refine z_aload_n dL_comes_9 0 rfl ?_
  refine z_iload_n dL_comes_10 1 rfl ?_
  refine z_iload_n dL_comes_11 2 rfl ?_
  refine z_iconst dL_comes_12 (v := 0) rfl ?_
  refine z_callVF (d := 7) (As := [_, _, _]) c_X4_of rfl l_L_15 rfl rfl rfl (Nat.le_of_ble_eq_true rfl) ⟨Nat.le_of_ble_eq_true rfl, Nat.le_of_ble_eq_true rfl⟩ dL_comes_13 c0 ?_
  refine z_istore (lo2 := [(0, _), (1, _), (2, _), (3, _), (4, _), (5, _)]) dL_comes_16 (Nat.le_of_ble_eq_true rfl) [1, 2, 3, 4, 5, 0] rfl ?_
  refine z_iload_n dL_comes_18 2 rfl ?_
  refine z_aload_n dL_comes_19 0 rfl ?_
  refine z_iload_n dL_comes_20 1 rfl ?_
  refine z_iconst dL_comes_21 (v := 0) rfl ?_
  refine z_callVF (d := 7) (As := [_, _]) c_X4_ofTroop rfl l_L_19 rfl rfl rfl (Nat.le_of_ble_eq_true rfl) ⟨Nat.le_of_ble_eq_true rfl, Nat.le_of_ble_eq_true rfl⟩ dL_comes_22 q0 ?_
  refine z_icmp_ge dL_comes_25 (tgt := 32) (by decide) (fun h25 => by first | exact absurd (b25) h25 | exact absurd h25 (b25)) (fun h25 => ?_)
  refine z_iconst dL_comes_28 (v := 1) rfl ?_
  refine z_goto dL_comes_29 (tgt := 33) (by decide) ?_
  refine z_istore (lo2 := [(0, _), (1, _), (2, _), (3, _), (4, _), (5, _), (6, _)]) dL_comes_33 (Nat.le_of_ble_eq_true rfl) [1, 2, 3, 4, 5, 6, 0] rfl ?_
  refine z_iload dL_comes_35 6 rfl ?_
  refine z_if_ne dL_comes_37 (tgt := 44) (by decide) (fun h37 => ?_) (fun h37 => by first | exact absurd (by decide) h37 | exact absurd h37 (by decide))
  refine z_iload dL_comes_44 5 rfl ?_
  refine z_iconst dL_comes_46 (v := 3) rfl ?_
  refine z_icmp_ne dL_comes_47 (tgt := 54) (by decide) (fun h47 => ?_) (fun h47 => by first | exact absurd (hv3) h47 | exact absurd h47 (hv3))
  refine z_iload dL_comes_54 5 rfl ?_
  refine z_iconst dL_comes_56 (v := 1) rfl ?_
  refine z_icmp_ne dL_comes_57 (tgt := 64) (by decide) (fun h57 => ?_) (fun h57 => by first | exact absurd (hv1) h57 | exact absurd h57 (hv1))
  refine z_iload dL_comes_64 5 rfl ?_
  refine z_iconst dL_comes_66 (v := 2) rfl ?_
  refine z_icmp_ne dL_comes_67 (tgt := 74) (by decide) (fun h67 => ?_) (fun h67 => by first | exact absurd (hv2) h67 | exact absurd h67 (hv2))
  refine z_iload_n dL_comes_74 3 rfl ?_
  refine z_aload_n dL_comes_75 0 rfl ?_
  refine z_iload_n dL_comes_76 1 rfl ?_
  refine z_iconst dL_comes_77 (v := 1) rfl ?_
  refine z_callVF (d := 7) (As := [_, _]) c_X4_ofTroop rfl l_L_19 rfl rfl rfl (Nat.le_of_ble_eq_true rfl) ⟨Nat.le_of_ble_eq_true rfl, Nat.le_of_ble_eq_true rfl⟩ dL_comes_78 q1 ?_
  refine z_icmp_ne dL_comes_81 (tgt := 88) (by decide) (fun h81 => by first | exact absurd (hcc) h81 | exact absurd h81 (hcc)) (fun h81 => ?_)
  refine z_iconst dL_comes_84 (v := 0) rfl ?_
  refine z_goto dL_comes_85 (tgt := 89) (by decide) ?_
  refine z_istore (lo2 := [(0, _), (1, _), (2, _), (3, _), (4, _), (5, _), (6, _), (7, _)]) dL_comes_89 (Nat.le_of_ble_eq_true rfl) [1, 2, 3, 4, 5, 6, 7, 0] rfl ?_
  refine z_iload dL_comes_91 4 rfl ?_
  refine z_iload dL_comes_93 7 rfl ?_
  refine z_icmp_eq dL_comes_95 (tgt := 100) (by decide) (fun h95 => ?_) (fun h95 => by first | exact absurd (rfl) h95 | exact absurd h95 (rfl))
  refine z_aload_n dL_comes_100 0 rfl ?_
  refine z_iload_n dL_comes_101 1 rfl ?_
  refine z_bipush dL_comes_102 (v := 6) (by decide +kernel) ?_
  refine z_callVF (d := 7) (As := [_, _]) c_X4_ofTroop rfl l_L_19 rfl rfl rfl (Nat.le_of_ble_eq_true rfl) ⟨Nat.le_of_ble_eq_true rfl, Nat.le_of_ble_eq_true rfl⟩ dL_comes_104 q6 ?_
  refine z_istore (lo2 := [(0, _), (1, _), (2, _), (3, _), (4, _), (5, _), (6, _), (7, _), (8, _)]) dL_comes_107 (Nat.le_of_ble_eq_true rfl) [1, 2, 3, 4, 5, 6, 7, 8, 0] rfl ?_
  refine z_aload_n dL_comes_109 0 rfl ?_
  refine z_iload_n dL_comes_110 1 rfl ?_
  refine z_bipush dL_comes_111 (v := 7) (by decide +kernel) ?_
  refine z_callVF (d := 7) (As := [_, _]) c_X4_ofTroop rfl l_L_19 rfl rfl rfl (Nat.le_of_ble_eq_true rfl) ⟨Nat.le_of_ble_eq_true rfl, Nat.le_of_ble_eq_true rfl⟩ dL_comes_113 q7 ?_
  refine z_istore (lo2 := [(0, _), (1, _), (2, _), (3, _), (4, _), (5, _), (6, _), (7, _), (8, _), (9, _)]) dL_comes_116 (Nat.le_of_ble_eq_true rfl) [1, 2, 3, 4, 5, 6, 7, 8, 9, 0] rfl ?_
  refine z_aload_n dL_comes_118 0 rfl ?_
  refine z_iload_n dL_comes_119 1 rfl ?_
  refine z_callVF (d := 7) (As := [_]) c_X4_waitsFor rfl l_L_23 rfl rfl rfl (Nat.le_of_ble_eq_true rfl) ⟨Nat.le_of_ble_eq_true rfl, Nat.le_of_ble_eq_true rfl⟩ dL_comes_120 qw ?_
  refine z_istore (lo2 := [(0, _), (1, _), (2, _), (3, _), (4, _), (5, _), (6, _), (7, _), (8, _), (9, _), (10, _)]) dL_comes_123 (Nat.le_of_ble_eq_true rfl) [1, 2, 3, 4, 5, 6, 7, 8, 9, 10, 0] rfl ?_
  refine z_aload_n dL_comes_125 0 rfl ?_
  refine z_iload_n dL_comes_126 1 rfl ?_
  refine z_iconst dL_comes_127 (v := 4) rfl ?_
  refine z_callVF (d := 7) (As := [_, _]) c_X4_ofTroop rfl l_L_19 rfl rfl rfl (Nat.le_of_ble_eq_true rfl) ⟨Nat.le_of_ble_eq_true rfl, Nat.le_of_ble_eq_true rfl⟩ dL_comes_128 q4 ?_
  refine z_istore (lo2 := [(0, _), (1, _), (2, _), (3, _), (4, _), (5, _), (6, _), (7, _), (8, _), (9, _), (10, _), (11, _)]) dL_comes_131 (Nat.le_of_ble_eq_true rfl) [1, 2, 3, 4, 5, 6, 7, 8, 9, 10, 11, 0] rfl ?_
  refine z_aload_n dL_comes_133 0 rfl ?_
  refine z_iload_n dL_comes_134 1 rfl ?_
  refine z_bipush dL_comes_135 (v := 11) (by decide +kernel) ?_
  refine z_callVF (d := 7) (As := [_, _]) c_X4_ofTroop rfl l_L_19 rfl rfl rfl (Nat.le_of_ble_eq_true rfl) ⟨Nat.le_of_ble_eq_true rfl, Nat.le_of_ble_eq_true rfl⟩ dL_comes_137 q11 ?_
  refine z_istore (lo2 := [(0, _), (1, _), (2, _), (3, _), (4, _), (5, _), (6, _), (7, _), (8, _), (9, _), (10, _), (11, _), (12, _)]) dL_comes_140 (Nat.le_of_ble_eq_true rfl) [1, 2, 3, 4, 5, 6, 7, 8, 9, 10, 11, 12, 0] rfl ?_
  refine z_aload_n dL_comes_142 0 rfl ?_
  refine z_iload_n dL_comes_143 1 rfl ?_
  refine z_iconst dL_comes_144 (v := 1) rfl ?_
  refine z_callVF (d := 7) (As := [_, _]) c_X4_ofTroop rfl l_L_19 rfl rfl rfl (Nat.le_of_ble_eq_true rfl) ⟨Nat.le_of_ble_eq_true rfl, Nat.le_of_ble_eq_true rfl⟩ dL_comes_145 q1 ?_
  refine z_istore (lo2 := [(0, _), (1, _), (2, _), (3, _), (4, _), (5, _), (6, _), (7, _), (8, _), (9, _), (10, _), (11, _), (12, _), (13, _)]) dL_comes_148 (Nat.le_of_ble_eq_true rfl) [1, 2, 3, 4, 5, 6, 7, 8, 9, 10, 11, 12, 13, 0] rfl ?_
  refine z_aload_n dL_comes_150 0 rfl ?_
  refine z_iload_n dL_comes_151 1 rfl ?_
  refine z_iconst dL_comes_152 (v := 2) rfl ?_
  refine z_callVF (d := 7) (As := [_, _]) c_X4_ofTroop rfl l_L_19 rfl rfl rfl (Nat.le_of_ble_eq_true rfl) ⟨Nat.le_of_ble_eq_true rfl, Nat.le_of_ble_eq_true rfl⟩ dL_comes_153 q2 ?_
  refine z_istore (lo2 := [(0, _), (1, _), (2, _), (3, _), (4, _), (5, _), (6, _), (7, _), (8, _), (9, _), (10, _), (11, _), (12, _), (13, _), (14, _)]) dL_comes_156 (Nat.le_of_ble_eq_true rfl) [1, 2, 3, 4, 5, 6, 7, 8, 9, 10, 11, 12, 13, 14, 0] rfl ?_
  refine z_aload_n dL_comes_158 0 rfl ?_
  refine z_iconst dL_comes_159 (v := 5) rfl ?_
  refine z_callVF (d := 7) (As := [_]) c_X4_count rfl l_L_9 rfl rfl rfl (Nat.le_of_ble_eq_true rfl) ⟨Nat.le_of_ble_eq_true rfl, Nat.le_of_ble_eq_true rfl⟩ dL_comes_160 q5 ?_
  refine z_istore (lo2 := [(0, _), (1, _), (2, _), (3, _), (4, _), (5, _), (6, _), (7, _), (8, _), (9, _), (10, _), (11, _), (12, _), (13, _), (14, _), (15, _)]) dL_comes_163 (Nat.le_of_ble_eq_true rfl) [1, 2, 3, 4, 5, 6, 7, 8, 9, 10, 11, 12, 13, 14, 15, 0] rfl ?_
  refine z_aload_n dL_comes_165 0 rfl ?_
  refine z_iload_n dL_comes_166 1 rfl ?_
  refine z_iload_n dL_comes_167 2 rfl ?_
  refine z_iload_n dL_comes_168 3 rfl ?_
  refine z_callV (d := 7) (As := [_, _, _]) c_X4_come rfl l_L_34 rfl rfl rfl (Nat.le_of_ble_eq_true rfl) ⟨Nat.le_of_ble_eq_true rfl, Nat.le_of_ble_eq_true rfl⟩ dL_comes_169 kc (fun r169 u169 q169 => ?_)
  obtain ⟨z, hS'⟩ := q169
  cases z
  have r4 := q_t (G := G) hW' hS' p4
  have r1 := q_t (G := G) hW' hS' p1
  have r0 := q_t (G := G) hW' hS' p0
  have r10 := q_t (G := G) hW' hS' p10
  have r11 := q_t (G := G) hW' hS' p11
  have r5 : Call G 7 M_X4_count [rv G 0, .int 5] u169 (fun v w => v = some (N'.1 4) ∧ w = u169) := q_cnt hW' hS' (fun n => rfl)
  refine z_istore (lo2 := [(0, _), (1, _), (2, _), (3, _), (4, _), (5, _), (6, _), (7, _), (8, _), (9, _), (10, _), (11, _), (12, _), (13, _), (14, _), (15, _), (16, _)]) dL_comes_172 (Nat.le_of_ble_eq_true rfl) [1, 2, 3, 4, 5, 6, 7, 8, 9, 10, 11, 12, 13, 14, 15, 16, 0] rfl ?_
  refine z_iload dL_comes_174 4 rfl ?_
  refine z_if_lt dL_comes_176 (tgt := 190) (by decide) (fun h176 => by first | exact absurd (by decide) h176 | exact absurd h176 (by decide)) (fun h176 => ?_)
  refine z_iload dL_comes_179 4 rfl ?_
  refine z_if_le dL_comes_181 (tgt := 235) (by decide) (fun h181 => ?_) (fun h181 => by first | exact absurd (by decide) h181 | exact absurd h181 (by decide))
  refine z_iload dL_comes_235 16 rfl ?_
  refine z_if_lt dL_comes_237 (tgt := 298) (by decide) (fun h237 => by first | exact absurd (g0) h237 | exact absurd h237 (g0)) (fun h237 => ?_)
  refine z_iload dL_comes_240 16 rfl ?_
  refine z_iconst dL_comes_242 (v := 3) rfl ?_
  refine z_icmp_gt dL_comes_243 (tgt := 298) (by decide) (fun h243 => by first | exact absurd (g3) h243 | exact absurd h243 (g3)) (fun h243 => ?_)
  refine z_aload_n dL_comes_246 0 rfl ?_
  refine z_iload_n dL_comes_247 1 rfl ?_
  refine z_iconst dL_comes_248 (v := 4) rfl ?_
  refine z_callVF (d := 7) (As := [_, _]) c_X4_ofTroop rfl l_L_19 rfl rfl rfl (Nat.le_of_ble_eq_true rfl) ⟨Nat.le_of_ble_eq_true rfl, Nat.le_of_ble_eq_true rfl⟩ dL_comes_249 r4 ?_
  refine z_iload dL_comes_252 11 rfl ?_
  refine z_iload dL_comes_254 16 rfl ?_
  refine z_iadd dL_comes_256 ?_
  refine z_icmp_ne dL_comes_257 (tgt := 298) (by decide) (fun h257 => by first | exact absurd (f2) h257 | exact absurd h257 (f2)) (fun h257 => ?_)
  refine z_aload_n dL_comes_260 0 rfl ?_
  refine z_iload_n dL_comes_261 1 rfl ?_
  refine z_iconst dL_comes_262 (v := 1) rfl ?_
  refine z_callVF (d := 7) (As := [_, _]) c_X4_ofTroop rfl l_L_19 rfl rfl rfl (Nat.le_of_ble_eq_true rfl) ⟨Nat.le_of_ble_eq_true rfl, Nat.le_of_ble_eq_true rfl⟩ dL_comes_263 r1 ?_
  refine z_iload dL_comes_266 13 rfl ?_
  refine z_iload dL_comes_268 16 rfl ?_
  refine z_iadd dL_comes_270 ?_
  refine z_iconst dL_comes_271 (v := 2) rfl ?_
  refine z_irem dL_comes_272 (by decide) ?_
  refine z_icmp_ne dL_comes_273 (tgt := 298) (by decide) (fun h273 => by first | exact absurd (f3) h273 | exact absurd h273 (f3)) (fun h273 => ?_)
  refine z_aload_n dL_comes_276 0 rfl ?_
  refine z_iconst dL_comes_277 (v := 5) rfl ?_
  refine z_callVF (d := 7) (As := [_]) c_X4_count rfl l_L_9 rfl rfl rfl (Nat.le_of_ble_eq_true rfl) ⟨Nat.le_of_ble_eq_true rfl, Nat.le_of_ble_eq_true rfl⟩ dL_comes_278 r5 ?_
  refine z_iload dL_comes_281 15 rfl ?_
  refine z_iload dL_comes_283 4 rfl ?_
  refine z_iconst dL_comes_285 (v := 4) rfl ?_
  refine z_icmp_ne dL_comes_286 (tgt := 293) (by decide) (fun h286 => ?_) (fun h286 => by first | exact absurd (by decide) h286 | exact absurd h286 (by decide))
  refine z_iconst dL_comes_293 (v := 0) rfl ?_
  refine z_iadd dL_comes_294 ?_
  refine z_icmp_eq dL_comes_295 (tgt := 300) (by decide) (fun h295 => ?_) (fun h295 => by first | exact absurd (eE) h295 | exact absurd h295 (eE))
  exact st169 _ _ _ _ _ _ hS'
theorem t_comes_w4 (hN : NI N b) (hb : b ≤ 900) (hS : LI S N) (ht : t < cnt N) (hk : k < 16) (hc : c = 0 ∨ c = 1) (hlt : k < tsz (N.2 t)) (hv3 : ¬ (N.2 t).2.1 k = 3) (hv1 : ¬ (N.2 t).2.1 k = 1) (hv2 : ¬ (N.2 t).2.1 k = 2) (hcc : ¬ c = (N.2 t).1 1) : CallL G 8 240 0 0 M_L_comes [rv G 0, .int (nI t), .int (nI k), .int c] S (fun v u => v = some 1 ∧ ∃ N', NI N' (b + 3) ∧ LI u N') := by
  refine callL_of (lo := [(0, rv G 0), (1, .int (nI t)), (2, .int (nI k)), (3, .int c)]) (by decide +kernel) (Nat.le_of_ble_eq_true rfl) rfl ?_
  have hW := hN.1
  have hT := hN.2.1 t ht
  have hWT := hT.1
  have hc5 := hW.cn.2
  obtain ⟨s, e1, e2, e3, e4⟩ := hWT.sz
  obtain ⟨o0, o1, o2, -, o4, -, o6, o7, -, -, o10, o11⟩ := oft hW ht
  have q0 := q_t (G := G) hW hS o0
  rw [e2] at q0
  have q1 := q_t (G := G) hW hS o1
  have q2 := q_t (G := G) hW hS o2
  have q4 := q_t (G := G) hW hS o4
  have q6 := q_t (G := G) hW hS o6
  have q7 := q_t (G := G) hW hS o7
  have q11 := q_t (G := G) hW hS o11
  have qw := q_wai (G := G) hW hS ht
  have q5 : Call G 7 M_X4_count [rv G 0, .int 5] S (fun v u => v = some (N.1 4) ∧ u = S) := q_cnt hW hS (fun n => rfl)
  have kc := k_come (G := G) hW hS (x := nI t) (y := nI k) (c := c)
  have kw := q_why (G := G) hW hS (x := nI t) (y := nI k) (c := c)
  have b25 : ¬ nI s ≤ nI k := nI_ge (by omega) (by omega)
  have hw : whyA N (nI t) (nI k) c = 4 := by rw [why_ok hW ht hk hlt hc]; unfold whyT; rw [if_neg hv3, if_neg hv1, if_neg hv2, if_neg hcc]
  rw [hw] at kw
  rw [com_4 (by omega) hk hw] at kc
  have c0 := q_of0 (G := G) hW hS ht hk (kn_lt hlt)
  obtain ⟨f0, f1, f2, f3, f4, f5⟩ := com_f (h := 2) hT hN.2.2.2.1 hlt (by simp) hv2 hb
  have hN' : NI (setTr (eryN N) t (opnN 3 (setH (N.2 t) k 2) (N.1 1)).2) (b + 3) := ni_tr (ni_ery hN) (by omega) f0
  generalize eN : setTr (eryN N) t (opnN 3 (setH (N.2 t) k 2) (N.1 1)).2 = N' at kc hN'
  have eT : N'.2 t = (opnN 3 (setH (N.2 t) k 2) (N.1 1)).2 := by rw [← eN]; exact tr_at
  have eA : N'.1 1 = N.1 1 := by rw [← eN]; rfl
  have eE : N'.1 4 = N.1 4 + 1 := by rw [← eN]; rfl
  have ht' : t < cnt N' := by rw [← eN]; exact ht
  clear eN
  generalize eK : opK 3 (setH (N.2 t) k 2) (N.1 1) = n at f1 f2 f3 f4 f5 kc
  rw [← eT] at f0 f2 f3 f4 f5
  rw [← eA] at f5
  clear eA eK
  have hW' := hN'.1
  have hWT' := f0.1
  have g0 : ¬ nI n < 0 := nI_pos (by omega)
  have g3 : ¬ (3 : Int32) < nI n := nI_nlt (a := 3) f1 (by omega)
  obtain ⟨p0, p1, -, -, p4, -, -, -, -, -, p10, p11⟩ := oft hW' ht'
  have st169 : ∀ (u : mS) (x5 x6 x7 x15 x13 : Int32), LI u N' → Lt G 8 240 0 0 M_L_comes (fun v u => v = some 1 ∧ ∃ N', NI N' (b + 3) ∧ LI u N') 300 [(0, rv G 0), (1, .int (nI t)), (2, .int (nI k)), (3, .int c), (4, .int 4), (5, .int x5), (6, .int x6), (7, .int x7), (8, .int (hm (N.2 t) 1)), (9, .int (hm (N.2 t) 2)), (10, .int (awM (N.2 t))), (11, .int ((N.2 t).1 3)), (12, .int ((N.2 t).1 4)), (13, .int x13), (14, .int ((N.2 t).1 2)), (15, .int x15), (16, .int (nI n))] [] (u, [], 0, 0) := by
    intro u x5 x6 x7 x15 x13 hS'
    have r0 := q_t (G := G) hW' hS' p0
    have r10 := q_t (G := G) hW' hS' p10
    have r11 := q_t (G := G) hW' hS' p11
    rcases Nat.eq_zero_or_pos n with hz | hz
    · obtain ⟨y1, y2⟩ := f4 hz
      have hn0 : nI n = 0 := by rw [hz]; rfl
      have e5 : (N'.2 t).2.1 k = 2 := by rw [y1]; show upd (N.2 t).2.1 k 2 k = 2; rw [upd, if_pos rfl]
      have d0 := q_of0 (G := G) hW' hS' ht' hk (kn_of hWT' hk (by rw [e5]; decide))
      rw [e5] at d0
      have e11 : (N'.2 t).1 4 = (N.2 t).1 4 := by rw [y1]; rfl
      rw [e11] at r11
      refine z_iload dL_comes_300 16 rfl ?_
      refine z_if_ne dL_comes_302 (tgt := 360) (by decide) (fun h302 => by first | exact absurd (hn0) h302 | exact absurd h302 (hn0)) (fun h302 => ?_)
      refine z_aload_n dL_comes_305 0 rfl ?_
      refine z_iload_n dL_comes_306 1 rfl ?_
      refine z_iload_n dL_comes_307 2 rfl ?_
      refine z_iconst dL_comes_308 (v := 0) rfl ?_
      refine z_callVF (d := 7) (As := [_, _, _]) c_X4_of rfl l_L_15 rfl rfl rfl (Nat.le_of_ble_eq_true rfl) ⟨Nat.le_of_ble_eq_true rfl, Nat.le_of_ble_eq_true rfl⟩ dL_comes_309 d0 ?_
      refine z_iload dL_comes_312 4 rfl ?_
      refine z_if_ne dL_comes_314 (tgt := 321) (by decide) (fun h314 => ?_) (fun h314 => by first | exact absurd (by decide) h314 | exact absurd h314 (by decide))
      refine z_iconst dL_comes_321 (v := 2) rfl ?_
      refine z_icmp_ne dL_comes_322 (tgt := 358) (by decide) (fun h322 => by first | exact absurd (rfl) h322 | exact absurd h322 (rfl)) (fun h322 => ?_)
      refine z_aload_n dL_comes_325 0 rfl ?_
      refine z_iload_n dL_comes_326 1 rfl ?_
      refine z_bipush dL_comes_327 (v := 11) (by decide +kernel) ?_
      refine z_callVF (d := 7) (As := [_, _]) c_X4_ofTroop rfl l_L_19 rfl rfl rfl (Nat.le_of_ble_eq_true rfl) ⟨Nat.le_of_ble_eq_true rfl, Nat.le_of_ble_eq_true rfl⟩ dL_comes_329 r11 ?_
      refine z_iload dL_comes_332 12 rfl ?_
      refine z_icmp_ne dL_comes_334 (tgt := 358) (by decide) (fun h334 => by first | exact absurd (rfl) h334 | exact absurd h334 (rfl)) (fun h334 => ?_)
      refine z_iload dL_comes_337 4 rfl ?_
      refine z_iconst dL_comes_339 (v := 4) rfl ?_
      refine z_icmp_eq dL_comes_340 (tgt := 354) (by decide) (fun h340 => ?_) (fun h340 => by first | exact absurd (rfl) h340 | exact absurd h340 (rfl))
      refine z_iconst dL_comes_354 (v := 1) rfl ?_
      refine z_goto dL_comes_355 (tgt := 359) (by decide) ?_
      refine z_zret rfl (by first | rfl | decide) dL_comes_359 ?_
      exact ⟨rfl, N', hN', hS'⟩
    · obtain ⟨y1, y2, y3, y4, y5, y6⟩ := f5 hz
      have hn1 : nI n ≠ 0 := nI_ne0 hz (by omega)
      obtain ⟨ns, z1, z2, z3, z4⟩ := hWT.nx
      have f10 : (N'.2 t).1 5 = 0 := y3
      have fin := @lp_comes G u N' t n (hm (N.2 t) 2) ((N.2 t).1 4) ((N.2 t).1 2) (hm (setH (N.2 t) k 2) 1) (fun v u => v = some 1 ∧ ∃ N', NI N' (b + 3) ∧ LI u N') hW' hS' ht' ⟨by rw [z1]; exact z2, by omega⟩ f1 y4 y5 y6 ⟨rfl, N', hN', hS'⟩ 16 0 (by omega)
      refine z_iload dL_comes_300 16 rfl ?_
      refine z_if_ne dL_comes_302 (tgt := 360) (by decide) (fun h302 => ?_) (fun h302 => by first | exact absurd (hn1) h302 | exact absurd h302 (hn1))
      refine z_iload dL_comes_360 4 rfl ?_
      refine z_if_ne dL_comes_362 (tgt := 376) (by decide) (fun h362 => ?_) (fun h362 => by first | exact absurd (by decide) h362 | exact absurd h362 (by decide))
      refine z_aload_n dL_comes_376 0 rfl ?_
      refine z_iload_n dL_comes_377 1 rfl ?_
      refine z_iconst dL_comes_378 (v := 0) rfl ?_
      refine z_callVF (d := 7) (As := [_, _]) c_X4_ofTroop rfl l_L_19 rfl rfl rfl (Nat.le_of_ble_eq_true rfl) ⟨Nat.le_of_ble_eq_true rfl, Nat.le_of_ble_eq_true rfl⟩ dL_comes_379 r0 ?_
      refine z_iload dL_comes_382 14 rfl ?_
      refine z_icmp_ne dL_comes_384 (tgt := 397) (by decide) (fun h384 => by first | exact absurd (y2) h384 | exact absurd h384 (y2)) (fun h384 => ?_)
      refine z_aload_n dL_comes_387 0 rfl ?_
      refine z_iload_n dL_comes_388 1 rfl ?_
      refine z_bipush dL_comes_389 (v := 10) (by decide +kernel) ?_
      refine z_callVF (d := 7) (As := [_, _]) c_X4_ofTroop rfl l_L_19 rfl rfl rfl (Nat.le_of_ble_eq_true rfl) ⟨Nat.le_of_ble_eq_true rfl, Nat.le_of_ble_eq_true rfl⟩ dL_comes_391 r10 ?_
      refine z_if_eq dL_comes_394 (tgt := 399) (by decide) (fun h394 => ?_) (fun h394 => by first | exact absurd (f10) h394 | exact absurd h394 (f10))
      refine z_iload dL_comes_399 8 rfl ?_
      refine z_iload dL_comes_401 4 rfl ?_
      refine z_if_ne dL_comes_403 (tgt := 412) (by decide) (fun h403 => ?_) (fun h403 => by first | exact absurd (by decide) h403 | exact absurd h403 (by decide))
      refine z_iconst dL_comes_412 (v := 0) rfl ?_
      refine z_ior dL_comes_413 ?_
      refine z_istore (lo2 := [(0, _), (1, _), (2, _), (3, _), (4, _), (5, _), (6, _), (7, _), (8, _), (9, _), (10, _), (11, _), (12, _), (13, _), (14, _), (15, _), (16, _)]) dL_comes_414 (Nat.le_of_ble_eq_true rfl) [1, 2, 3, 4, 5, 6, 7, 8, 0, 9, 10, 11, 12, 13, 14, 15, 16] rfl ?_
      refine z_iconst dL_comes_416 (v := 0) rfl ?_
      refine z_istore (lo2 := [(0, _), (1, _), (2, _), (3, _), (4, _), (5, _), (6, _), (7, _), (8, _), (9, _), (10, _), (11, _), (12, _), (13, _), (14, _), (15, _), (16, _), (17, _)]) dL_comes_417 (Nat.le_of_ble_eq_true rfl) [1, 2, 3, 4, 5, 6, 7, 8, 9, 10, 11, 12, 13, 14, 15, 16, 17, 0] rfl ?_
      rw [hm_ou hv1]
      exact z_sub [0, 1, 8, 9, 12, 14, 16, 17] rfl fin
  refine z_aload_n dL_comes_0 0 rfl ?_
  refine z_iload_n dL_comes_1 1 rfl ?_
  refine z_iload_n dL_comes_2 2 rfl ?_
  refine z_iload_n dL_comes_3 3 rfl ?_
  refine z_callVF (d := 7) (As := [_, _, _]) c_X4_why rfl l_L_31 rfl rfl rfl (Nat.le_of_ble_eq_true rfl) ⟨Nat.le_of_ble_eq_true rfl, Nat.le_of_ble_eq_true rfl⟩ dL_comes_4 kw ?_
  refine z_istore (lo2 := [(0, _), (1, _), (2, _), (3, _), (4, _)]) dL_comes_7 (Nat.le_of_ble_eq_true rfl) [1, 2, 3, 4, 0] rfl ?_
  refine z_aload_n dL_comes_9 0 rfl ?_
  refine z_iload_n dL_comes_10 1 rfl ?_
  refine z_iload_n dL_comes_11 2 rfl ?_
  refine z_iconst dL_comes_12 (v := 0) rfl ?_
  refine z_callVF (d := 7) (As := [_, _, _]) c_X4_of rfl l_L_15 rfl rfl rfl (Nat.le_of_ble_eq_true rfl) ⟨Nat.le_of_ble_eq_true rfl, Nat.le_of_ble_eq_true rfl⟩ dL_comes_13 c0 ?_
  refine z_istore (lo2 := [(0, _), (1, _), (2, _), (3, _), (4, _), (5, _)]) dL_comes_16 (Nat.le_of_ble_eq_true rfl) [1, 2, 3, 4, 5, 0] rfl ?_
  refine z_iload_n dL_comes_18 2 rfl ?_
  refine z_aload_n dL_comes_19 0 rfl ?_
  refine z_iload_n dL_comes_20 1 rfl ?_
  refine z_iconst dL_comes_21 (v := 0) rfl ?_
  refine z_callVF (d := 7) (As := [_, _]) c_X4_ofTroop rfl l_L_19 rfl rfl rfl (Nat.le_of_ble_eq_true rfl) ⟨Nat.le_of_ble_eq_true rfl, Nat.le_of_ble_eq_true rfl⟩ dL_comes_22 q0 ?_
  refine z_icmp_ge dL_comes_25 (tgt := 32) (by decide) (fun h25 => by first | exact absurd (b25) h25 | exact absurd h25 (b25)) (fun h25 => ?_)
  refine z_iconst dL_comes_28 (v := 1) rfl ?_
  refine z_goto dL_comes_29 (tgt := 33) (by decide) ?_
  refine z_istore (lo2 := [(0, _), (1, _), (2, _), (3, _), (4, _), (5, _), (6, _)]) dL_comes_33 (Nat.le_of_ble_eq_true rfl) [1, 2, 3, 4, 5, 6, 0] rfl ?_
  refine z_iload dL_comes_35 6 rfl ?_
  refine z_if_ne dL_comes_37 (tgt := 44) (by decide) (fun h37 => ?_) (fun h37 => by first | exact absurd (by decide) h37 | exact absurd h37 (by decide))
  refine z_iload dL_comes_44 5 rfl ?_
  refine z_iconst dL_comes_46 (v := 3) rfl ?_
  refine z_icmp_ne dL_comes_47 (tgt := 54) (by decide) (fun h47 => ?_) (fun h47 => by first | exact absurd (hv3) h47 | exact absurd h47 (hv3))
  refine z_iload dL_comes_54 5 rfl ?_
  refine z_iconst dL_comes_56 (v := 1) rfl ?_
  refine z_icmp_ne dL_comes_57 (tgt := 64) (by decide) (fun h57 => ?_) (fun h57 => by first | exact absurd (hv1) h57 | exact absurd h57 (hv1))
  refine z_iload dL_comes_64 5 rfl ?_
  refine z_iconst dL_comes_66 (v := 2) rfl ?_
  refine z_icmp_ne dL_comes_67 (tgt := 74) (by decide) (fun h67 => ?_) (fun h67 => by first | exact absurd (hv2) h67 | exact absurd h67 (hv2))
  refine z_iload_n dL_comes_74 3 rfl ?_
  refine z_aload_n dL_comes_75 0 rfl ?_
  refine z_iload_n dL_comes_76 1 rfl ?_
  refine z_iconst dL_comes_77 (v := 1) rfl ?_
  refine z_callVF (d := 7) (As := [_, _]) c_X4_ofTroop rfl l_L_19 rfl rfl rfl (Nat.le_of_ble_eq_true rfl) ⟨Nat.le_of_ble_eq_true rfl, Nat.le_of_ble_eq_true rfl⟩ dL_comes_78 q1 ?_
  refine z_icmp_ne dL_comes_81 (tgt := 88) (by decide) (fun h81 => ?_) (fun h81 => by first | exact absurd (hcc) h81 | exact absurd h81 (hcc))
  refine z_iconst dL_comes_88 (v := 4) rfl ?_
  refine z_istore (lo2 := [(0, _), (1, _), (2, _), (3, _), (4, _), (5, _), (6, _), (7, _)]) dL_comes_89 (Nat.le_of_ble_eq_true rfl) [1, 2, 3, 4, 5, 6, 7, 0] rfl ?_
  refine z_iload dL_comes_91 4 rfl ?_
  refine z_iload dL_comes_93 7 rfl ?_
  refine z_icmp_eq dL_comes_95 (tgt := 100) (by decide) (fun h95 => ?_) (fun h95 => by first | exact absurd (rfl) h95 | exact absurd h95 (rfl))
  refine z_aload_n dL_comes_100 0 rfl ?_
  refine z_iload_n dL_comes_101 1 rfl ?_
  refine z_bipush dL_comes_102 (v := 6) (by decide +kernel) ?_
  refine z_callVF (d := 7) (As := [_, _]) c_X4_ofTroop rfl l_L_19 rfl rfl rfl (Nat.le_of_ble_eq_true rfl) ⟨Nat.le_of_ble_eq_true rfl, Nat.le_of_ble_eq_true rfl⟩ dL_comes_104 q6 ?_
  refine z_istore (lo2 := [(0, _), (1, _), (2, _), (3, _), (4, _), (5, _), (6, _), (7, _), (8, _)]) dL_comes_107 (Nat.le_of_ble_eq_true rfl) [1, 2, 3, 4, 5, 6, 7, 8, 0] rfl ?_
  refine z_aload_n dL_comes_109 0 rfl ?_
  refine z_iload_n dL_comes_110 1 rfl ?_
  refine z_bipush dL_comes_111 (v := 7) (by decide +kernel) ?_
  refine z_callVF (d := 7) (As := [_, _]) c_X4_ofTroop rfl l_L_19 rfl rfl rfl (Nat.le_of_ble_eq_true rfl) ⟨Nat.le_of_ble_eq_true rfl, Nat.le_of_ble_eq_true rfl⟩ dL_comes_113 q7 ?_
  refine z_istore (lo2 := [(0, _), (1, _), (2, _), (3, _), (4, _), (5, _), (6, _), (7, _), (8, _), (9, _)]) dL_comes_116 (Nat.le_of_ble_eq_true rfl) [1, 2, 3, 4, 5, 6, 7, 8, 9, 0] rfl ?_
  refine z_aload_n dL_comes_118 0 rfl ?_
  refine z_iload_n dL_comes_119 1 rfl ?_
  refine z_callVF (d := 7) (As := [_]) c_X4_waitsFor rfl l_L_23 rfl rfl rfl (Nat.le_of_ble_eq_true rfl) ⟨Nat.le_of_ble_eq_true rfl, Nat.le_of_ble_eq_true rfl⟩ dL_comes_120 qw ?_
  refine z_istore (lo2 := [(0, _), (1, _), (2, _), (3, _), (4, _), (5, _), (6, _), (7, _), (8, _), (9, _), (10, _)]) dL_comes_123 (Nat.le_of_ble_eq_true rfl) [1, 2, 3, 4, 5, 6, 7, 8, 9, 10, 0] rfl ?_
  refine z_aload_n dL_comes_125 0 rfl ?_
  refine z_iload_n dL_comes_126 1 rfl ?_
  refine z_iconst dL_comes_127 (v := 4) rfl ?_
  refine z_callVF (d := 7) (As := [_, _]) c_X4_ofTroop rfl l_L_19 rfl rfl rfl (Nat.le_of_ble_eq_true rfl) ⟨Nat.le_of_ble_eq_true rfl, Nat.le_of_ble_eq_true rfl⟩ dL_comes_128 q4 ?_
  refine z_istore (lo2 := [(0, _), (1, _), (2, _), (3, _), (4, _), (5, _), (6, _), (7, _), (8, _), (9, _), (10, _), (11, _)]) dL_comes_131 (Nat.le_of_ble_eq_true rfl) [1, 2, 3, 4, 5, 6, 7, 8, 9, 10, 11, 0] rfl ?_
  refine z_aload_n dL_comes_133 0 rfl ?_
  refine z_iload_n dL_comes_134 1 rfl ?_
  refine z_bipush dL_comes_135 (v := 11) (by decide +kernel) ?_
  refine z_callVF (d := 7) (As := [_, _]) c_X4_ofTroop rfl l_L_19 rfl rfl rfl (Nat.le_of_ble_eq_true rfl) ⟨Nat.le_of_ble_eq_true rfl, Nat.le_of_ble_eq_true rfl⟩ dL_comes_137 q11 ?_
  refine z_istore (lo2 := [(0, _), (1, _), (2, _), (3, _), (4, _), (5, _), (6, _), (7, _), (8, _), (9, _), (10, _), (11, _), (12, _)]) dL_comes_140 (Nat.le_of_ble_eq_true rfl) [1, 2, 3, 4, 5, 6, 7, 8, 9, 10, 11, 12, 0] rfl ?_
  refine z_aload_n dL_comes_142 0 rfl ?_
  refine z_iload_n dL_comes_143 1 rfl ?_
  refine z_iconst dL_comes_144 (v := 1) rfl ?_
  refine z_callVF (d := 7) (As := [_, _]) c_X4_ofTroop rfl l_L_19 rfl rfl rfl (Nat.le_of_ble_eq_true rfl) ⟨Nat.le_of_ble_eq_true rfl, Nat.le_of_ble_eq_true rfl⟩ dL_comes_145 q1 ?_
  refine z_istore (lo2 := [(0, _), (1, _), (2, _), (3, _), (4, _), (5, _), (6, _), (7, _), (8, _), (9, _), (10, _), (11, _), (12, _), (13, _)]) dL_comes_148 (Nat.le_of_ble_eq_true rfl) [1, 2, 3, 4, 5, 6, 7, 8, 9, 10, 11, 12, 13, 0] rfl ?_
  refine z_aload_n dL_comes_150 0 rfl ?_
  refine z_iload_n dL_comes_151 1 rfl ?_
  refine z_iconst dL_comes_152 (v := 2) rfl ?_
  refine z_callVF (d := 7) (As := [_, _]) c_X4_ofTroop rfl l_L_19 rfl rfl rfl (Nat.le_of_ble_eq_true rfl) ⟨Nat.le_of_ble_eq_true rfl, Nat.le_of_ble_eq_true rfl⟩ dL_comes_153 q2 ?_
  refine z_istore (lo2 := [(0, _), (1, _), (2, _), (3, _), (4, _), (5, _), (6, _), (7, _), (8, _), (9, _), (10, _), (11, _), (12, _), (13, _), (14, _)]) dL_comes_156 (Nat.le_of_ble_eq_true rfl) [1, 2, 3, 4, 5, 6, 7, 8, 9, 10, 11, 12, 13, 14, 0] rfl ?_
  refine z_aload_n dL_comes_158 0 rfl ?_
  refine z_iconst dL_comes_159 (v := 5) rfl ?_
  refine z_callVF (d := 7) (As := [_]) c_X4_count rfl l_L_9 rfl rfl rfl (Nat.le_of_ble_eq_true rfl) ⟨Nat.le_of_ble_eq_true rfl, Nat.le_of_ble_eq_true rfl⟩ dL_comes_160 q5 ?_
  refine z_istore (lo2 := [(0, _), (1, _), (2, _), (3, _), (4, _), (5, _), (6, _), (7, _), (8, _), (9, _), (10, _), (11, _), (12, _), (13, _), (14, _), (15, _)]) dL_comes_163 (Nat.le_of_ble_eq_true rfl) [1, 2, 3, 4, 5, 6, 7, 8, 9, 10, 11, 12, 13, 14, 15, 0] rfl ?_
  refine z_aload_n dL_comes_165 0 rfl ?_
  refine z_iload_n dL_comes_166 1 rfl ?_
  refine z_iload_n dL_comes_167 2 rfl ?_
  refine z_iload_n dL_comes_168 3 rfl ?_
  refine z_callV (d := 7) (As := [_, _, _]) c_X4_come rfl l_L_34 rfl rfl rfl (Nat.le_of_ble_eq_true rfl) ⟨Nat.le_of_ble_eq_true rfl, Nat.le_of_ble_eq_true rfl⟩ dL_comes_169 kc (fun r169 u169 q169 => ?_)
  obtain ⟨z, hS'⟩ := q169
  cases z
  have r4 := q_t (G := G) hW' hS' p4
  have r1 := q_t (G := G) hW' hS' p1
  have r0 := q_t (G := G) hW' hS' p0
  have r10 := q_t (G := G) hW' hS' p10
  have r11 := q_t (G := G) hW' hS' p11
  have r5 : Call G 7 M_X4_count [rv G 0, .int 5] u169 (fun v w => v = some (N'.1 4) ∧ w = u169) := q_cnt hW' hS' (fun n => rfl)
  refine z_istore (lo2 := [(0, _), (1, _), (2, _), (3, _), (4, _), (5, _), (6, _), (7, _), (8, _), (9, _), (10, _), (11, _), (12, _), (13, _), (14, _), (15, _), (16, _)]) dL_comes_172 (Nat.le_of_ble_eq_true rfl) [1, 2, 3, 4, 5, 6, 7, 8, 9, 10, 11, 12, 13, 14, 15, 16, 0] rfl ?_
  refine z_iload dL_comes_174 4 rfl ?_
  refine z_if_lt dL_comes_176 (tgt := 190) (by decide) (fun h176 => by first | exact absurd (by decide) h176 | exact absurd h176 (by decide)) (fun h176 => ?_)
  refine z_iload dL_comes_179 4 rfl ?_
  refine z_if_le dL_comes_181 (tgt := 235) (by decide) (fun h181 => by first | exact absurd (by decide) h181 | exact absurd h181 (by decide)) (fun h181 => ?_)
  refine z_iload dL_comes_184 4 rfl ?_
  refine z_iconst dL_comes_186 (v := 4) rfl ?_
  refine z_icmp_ge dL_comes_187 (tgt := 235) (by decide) (fun h187 => ?_) (fun h187 => by first | exact absurd (by decide) h187 | exact absurd h187 (by decide))
  refine z_iload dL_comes_235 16 rfl ?_
  refine z_if_lt dL_comes_237 (tgt := 298) (by decide) (fun h237 => by first | exact absurd (g0) h237 | exact absurd h237 (g0)) (fun h237 => ?_)
  refine z_iload dL_comes_240 16 rfl ?_
  refine z_iconst dL_comes_242 (v := 3) rfl ?_
  refine z_icmp_gt dL_comes_243 (tgt := 298) (by decide) (fun h243 => by first | exact absurd (g3) h243 | exact absurd h243 (g3)) (fun h243 => ?_)
  refine z_aload_n dL_comes_246 0 rfl ?_
  refine z_iload_n dL_comes_247 1 rfl ?_
  refine z_iconst dL_comes_248 (v := 4) rfl ?_
  refine z_callVF (d := 7) (As := [_, _]) c_X4_ofTroop rfl l_L_19 rfl rfl rfl (Nat.le_of_ble_eq_true rfl) ⟨Nat.le_of_ble_eq_true rfl, Nat.le_of_ble_eq_true rfl⟩ dL_comes_249 r4 ?_
  refine z_iload dL_comes_252 11 rfl ?_
  refine z_iload dL_comes_254 16 rfl ?_
  refine z_iadd dL_comes_256 ?_
  refine z_icmp_ne dL_comes_257 (tgt := 298) (by decide) (fun h257 => by first | exact absurd (f2) h257 | exact absurd h257 (f2)) (fun h257 => ?_)
  refine z_aload_n dL_comes_260 0 rfl ?_
  refine z_iload_n dL_comes_261 1 rfl ?_
  refine z_iconst dL_comes_262 (v := 1) rfl ?_
  refine z_callVF (d := 7) (As := [_, _]) c_X4_ofTroop rfl l_L_19 rfl rfl rfl (Nat.le_of_ble_eq_true rfl) ⟨Nat.le_of_ble_eq_true rfl, Nat.le_of_ble_eq_true rfl⟩ dL_comes_263 r1 ?_
  refine z_iload dL_comes_266 13 rfl ?_
  refine z_iload dL_comes_268 16 rfl ?_
  refine z_iadd dL_comes_270 ?_
  refine z_iconst dL_comes_271 (v := 2) rfl ?_
  refine z_irem dL_comes_272 (by decide) ?_
  refine z_icmp_ne dL_comes_273 (tgt := 298) (by decide) (fun h273 => by first | exact absurd (f3) h273 | exact absurd h273 (f3)) (fun h273 => ?_)
  refine z_aload_n dL_comes_276 0 rfl ?_
  refine z_iconst dL_comes_277 (v := 5) rfl ?_
  refine z_callVF (d := 7) (As := [_]) c_X4_count rfl l_L_9 rfl rfl rfl (Nat.le_of_ble_eq_true rfl) ⟨Nat.le_of_ble_eq_true rfl, Nat.le_of_ble_eq_true rfl⟩ dL_comes_278 r5 ?_
  refine z_iload dL_comes_281 15 rfl ?_
  refine z_iload dL_comes_283 4 rfl ?_
  refine z_iconst dL_comes_285 (v := 4) rfl ?_
  refine z_icmp_ne dL_comes_286 (tgt := 293) (by decide) (fun h286 => by first | exact absurd (rfl) h286 | exact absurd h286 (rfl)) (fun h286 => ?_)
  refine z_iconst dL_comes_289 (v := 1) rfl ?_
  refine z_goto dL_comes_290 (tgt := 294) (by decide) ?_
  refine z_iadd dL_comes_294 ?_
  refine z_icmp_eq dL_comes_295 (tgt := 300) (by decide) (fun h295 => ?_) (fun h295 => by first | exact absurd (eE) h295 | exact absurd h295 (eE))
  exact st169 _ _ _ _ _ _ hS'
theorem t_L_comes (hN : NI N b) (hb : b ≤ 900) (hS : LI S N) (ht : t < cnt N) (hk : k < 16) (hc : c = 0 ∨ c = 1) : CallL G 8 240 0 0 M_L_comes [rv G 0, .int (nI t), .int (nI k), .int c] S (fun v u => v = some 1 ∧ ∃ N', NI N' (b + 3) ∧ LI u N') := by
  by_cases hlt : k < tsz (N.2 t)
  · by_cases hv3 : (N.2 t).2.1 k = 3
    · exact t_comes_3 hN hS ht hk hc hlt hv3
    · by_cases hv1 : (N.2 t).2.1 k = 1
      · exact t_comes_1 hN hS ht hk hc hlt hv1
      · by_cases hv2 : (N.2 t).2.1 k = 2
        · exact t_comes_2 hN hS ht hk hc hlt hv2
        · by_cases hcc : c = (N.2 t).1 1
          · exact t_comes_w0 hN hb hS ht hk hc hlt hv3 hv1 hv2 hcc
          · exact t_comes_w4 hN hb hS ht hk hc hlt hv3 hv1 hv2 hcc
  · exact t_comes_n hN hS ht hk hlt
end COMES
end
section
/-! the law: a minute, in numbers -/
def howB (T : mT) (k : Nat) : Int32 := if knB T k = true then T.2.1 k else -1
def minB (T : mT) (k : Nat) : Int32 := if knB T k = true then T.2.2.1 k else -1
theorem pas_1 {N : mN} {b : Nat} (h : NI N b) (hb : b ≤ 900) : pasO N 1 = (ansM N (cnt N), addM (trM N (cnt N)) 1) := by
  obtain ⟨-, -, ⟨m, hm1, hm2⟩, -, -⟩ := h
  have h2 : ¬ 9999 < N.1 2 + 1 := by
    rw [hm2, nI_1]; exact nI_nlt (a := 9999) (by omega) (by omega)
  unfold pasO
  rw [if_neg (by decide), if_neg h2]
  show (ansM N (cnt N) + 0, _) = _
  rw [Int32.add_zero]
  rfl
theorem min_1 {T : mT} {p a : Int32} : (minT T p a).1 = nI (opK 3 (wlkT T p 16) a) ∧ (minT T p a).2.1 3 = T.1 3 + (minT T p a).1 := by
  obtain ⟨a1, a2, -⟩ := op_all 3 (wlkT T p 16) a
  refine ⟨a1, ?_⟩
  show (opnN 3 (wlkT T p 16) a).2.1 3 = T.1 3 + (opnN 3 (wlkT T p 16) a).1
  rw [a2, a1, wk_g (by decide)]
theorem ans_j {N : mN} : ∀ n, ∃ j, j ≤ 3 * n ∧ ansM N n = nI j ∧ (j = 0 → ∀ t, t < n → (minT (N.2 t) (N.1 0) (N.1 1)).2 = wlkT (N.2 t) (N.1 0) 16) := by
  intro n
  induction n with
  | zero => exact ⟨0, Nat.le_refl _, rfl, fun _ t ht => absurd ht (by omega)⟩
  | succ n ih =>
    obtain ⟨j, h1, h2, h3⟩ := ih
    have hle := opK_le 3 (wlkT (N.2 n) (N.1 0) 16) (N.1 1)
    refine ⟨j + opK 3 (wlkT (N.2 n) (N.1 0) 16) (N.1 1), by omega, ?_, fun hz t ht => ?_⟩
    · show ansM N n + (minT (N.2 n) (N.1 0) (N.1 1)).1 = _
      rw [h2, min_1.1, nI_add]
    · by_cases e : t = n
      · subst e
        have hk : opK 3 (wlkT (N.2 t) (N.1 0) 16) (N.1 1) = 0 := by omega
        by_cases hc : canO (wlkT (N.2 t) (N.1 0) 16) = true
        · rw [(op_t (n := 2) (a := N.1 1) hc).2] at hk; omega
        · show (opnN 3 (wlkT (N.2 t) (N.1 0) 16) (N.1 1)).2 = _
          rw [(op_f (n := 2) (a := N.1 1) hc).1]
      · exact h3 (by omega) t (by omega)
theorem sum_m {N : mN} : ∀ n, n ≤ cnt N → sumN (fun T => T.1 3) (addM (trM N (cnt N)) 1) n = sumN (fun T => T.1 3) N n + ansM N n := by
  intro n
  induction n with
  | zero => intro _; exact (Int32.add_zero _).symm
  | succ n ih =>
    intro hn
    show sumN (fun T => T.1 3) (addM (trM N (cnt N)) 1) n + ((if n < cnt N then (minT (N.2 n) (N.1 0) (N.1 1)).2 else N.2 n).1 3) = sumN (fun T => T.1 3) N n + (N.2 n).1 3 + (ansM N n + (minT (N.2 n) (N.1 0) (N.1 1)).1)
    rw [ih (by omega), if_pos (by omega), min_1.2]
    ac_rfl
theorem ni_pas {N : mN} {b : Nat} (h : NI N b) (hb : b ≤ 900) : NI (addM (trM N (cnt N)) 1) (b + 3) := by
  have hW2 := wn_pas h.1 1
  rw [pas_1 h hb] at hW2
  obtain ⟨hW, hk, ⟨m, hm1, hm2⟩, ha, h2⟩ := h
  refine ⟨hW2, fun t ht => ?_, ⟨m + 1, by omega, ?_⟩, ha, h2⟩
  · show TI (if t < cnt N then (minT (N.2 t) (N.1 0) (N.1 1)).2 else N.2 t) (b + 3)
    rw [if_pos (show t < cnt N from ht)]
    exact (op_ti 3 _ (N.1 1) b (by omega) (ti_wlk (hk t (show t < cnt N from ht))) ha).1
  · show upd N.1 2 (N.1 2 + 1) 2 = _
    rw [upd, if_pos rfl, hm2, nI_1]
theorem le1_3 {x : Int32} (h : 1 ≤ x) : (x - 1 ≤ 0 → x = 1) ∧ (¬ x - 1 ≤ 0 → ¬ x = 1) := by
  refine ⟨fun z => ?_, fun z e => z (by rw [e]; decide)⟩
  rw [Int32.le_iff_toInt_le] at h z
  have e1 : (1 : Int32).toInt = 1 := by decide
  have e0 : (0 : Int32).toInt = 0 := by decide
  have hu := Int32.toInt_lt x
  have hl := Int32.le_toInt x
  have es : (x - 1).toInt = x.toInt - 1 := by
    rw [Int32.toInt_sub, e1]
    exact Int.bmod_eq_of_le (by omega) (by omega)
  apply Int32.toInt_inj.mp
  rw [e1]
  omega
end
section
/-! the law: passes, its walk -/
section PASSES
variable {G : mG} {S u : mS} {N N' : mN} {b q1 q2 many : Nat} {m0 : Int32} {Q : Option Int32 → mS → Prop} {f1 f2 : Nat → Int32}
theorem dv16 {x : Nat} (hx : x < 1000) : nI x / 16 = nI (x / 16) ∧ nI x - nI x / 16 * 16 = nI (x % 16) := ⟨pk_div (d := 16) (by omega) (by omega) (by omega), pk_rem (d := 16) (by omega) (by omega) (by omega)⟩
theorem lp_pas1 (hN : NI N b) (hS : LI S N) (hm : many ≤ cnt N) (hm4 : many ≤ 4) (hx : ∀ f1 f2 : Nat → Int32, (∀ y, y < 16 * many → f1 y = howB (N.2 (y / 16)) (y % 16) ∧ f2 y = minB (N.2 (y / 16)) (y % 16)) → Lt G 8 240 2 128 M_L_passes Q 93 [(0, rv G 0), (1, .ref q1), (2, .ref q2), (3, .int m0), (4, .int (nI many))] [] (S, [(q1, 64, f1), (q2, 64, f2)], 2, 128)) :
    ∀ r x (f1 f2 : Nat → Int32), r + x = 16 * many → (∀ y, y < x → f1 y = howB (N.2 (y / 16)) (y % 16) ∧ f2 y = minB (N.2 (y / 16)) (y % 16)) → Lt G 8 240 2 128 M_L_passes Q 39 [(0, rv G 0), (1, .ref q1), (2, .ref q2), (3, .int m0), (4, .int (nI many)), (5, .int (nI x))] [] (S, [(q1, 64, f1), (q2, 64, f2)], 2, 128) := by
  have hW := hN.1
  have hc5 := hW.cn.2
  have em : 16 * nI many = nI (16 * many) := pk_mul 16 many
  intro r
  induction r with
  | zero =>
    intro x f1 f2 hr hf
    obtain rfl : x = 16 * many := by omega
    refine z_iload dL_passes_39 5 rfl ?_
    refine z_bipush dL_passes_41 (v := 16) (by decide +kernel) ?_
    refine z_iload dL_passes_43 4 rfl ?_
    refine z_imul dL_passes_45 ?_
    rw [em]
    refine z_icmp_ge dL_passes_46 (tgt := 93) (by decide) (fun h46 => ?_) (fun h46 => by first | exact absurd (Int32.le_refl _) h46 | exact absurd h46 (Int32.le_refl _))
    exact z_sub [0, 1, 2, 3, 4] rfl (hx f1 f2 hf)
  | succ r ih =>
    intro x f1 f2 hr hf
    have hxm : x < 16 * many := by omega
    have b46 : ¬ nI (16 * many) ≤ nI x := nI_ge hxm (by omega)
    have ht : x / 16 < cnt N := by omega
    have hk : x % 16 < 16 := Nat.mod_lt _ (by decide)
    have hx64 : x < 64 := by omega
    obtain ⟨ed, er⟩ := dv16 (show x < 1000 by omega)
    have cA : Call G 7 M_X4_of [rv G 0, .int (nI (x / 16)), .int (nI (x % 16)), .int 0] S (fun v u => v = some (howB (N.2 (x / 16)) (x % 16)) ∧ u = S) := by
      unfold howB
      cases h : knB (N.2 (x / 16)) (x % 16)
      · exact q_ofn hW hS ht hk h 0
      · exact q_of0 hW hS ht hk h
    have cB : Call G 7 M_X4_of [rv G 0, .int (nI (x / 16)), .int (nI (x % 16)), .int 1] S (fun v u => v = some (minB (N.2 (x / 16)) (x % 16)) ∧ u = S) := by
      unfold minB
      cases h : knB (N.2 (x / 16)) (x % 16)
      · exact q_ofn hW hS ht hk h 1
      · exact q_of1 hW hS ht hk h
    refine z_iload dL_passes_39 5 rfl ?_
    refine z_bipush dL_passes_41 (v := 16) (by decide +kernel) ?_
    refine z_iload dL_passes_43 4 rfl ?_
    refine z_imul dL_passes_45 ?_
    rw [em]
    refine z_icmp_ge dL_passes_46 (tgt := 93) (by decide) (fun h46 => by first | exact absurd (b46) h46 | exact absurd h46 (b46)) (fun h46 => ?_)
    refine z_aloadr_n dL_passes_49 1 rfl ?_
    refine z_iload dL_passes_50 5 rfl ?_
    refine z_aload_n dL_passes_52 0 rfl ?_
    refine z_iload dL_passes_53 5 rfl ?_
    refine z_bipush dL_passes_55 (v := 16) (by decide +kernel) ?_
    refine z_idiv dL_passes_57 (by decide) ?_
    refine z_iload dL_passes_58 5 rfl ?_
    refine z_bipush dL_passes_60 (v := 16) (by decide +kernel) ?_
    refine z_irem dL_passes_62 (by decide) ?_
    refine z_iconst dL_passes_63 (v := 0) rfl ?_
    rw [er, ed]
    refine z_callVF (d := 7) (As := [_, _, _]) c_X4_of rfl l_L_15 rfl rfl rfl (Nat.le_of_ble_eq_true rfl) ⟨Nat.le_of_ble_eq_true rfl, Nat.le_of_ble_eq_true rfl⟩ dL_passes_64 cA ?_
    refine z_iast (j := x) (j0 := 0) rfl rfl hx64 (by decide) dL_passes_67 ?_
    refine z_aloadr_n dL_passes_68 2 rfl ?_
    refine z_iload dL_passes_69 5 rfl ?_
    refine z_aload_n dL_passes_71 0 rfl ?_
    refine z_iload dL_passes_72 5 rfl ?_
    refine z_bipush dL_passes_74 (v := 16) (by decide +kernel) ?_
    refine z_idiv dL_passes_76 (by decide) ?_
    refine z_iload dL_passes_77 5 rfl ?_
    refine z_bipush dL_passes_79 (v := 16) (by decide +kernel) ?_
    refine z_irem dL_passes_81 (by decide) ?_
    refine z_iconst dL_passes_82 (v := 1) rfl ?_
    rw [er, ed]
    refine z_callVF (d := 7) (As := [_, _, _]) c_X4_of rfl l_L_15 rfl rfl rfl (Nat.le_of_ble_eq_true rfl) ⟨Nat.le_of_ble_eq_true rfl, Nat.le_of_ble_eq_true rfl⟩ dL_passes_83 cB ?_
    refine z_iast (j := x) (j0 := 1) rfl rfl hx64 (by decide) dL_passes_86 ?_
    refine z_iinc (lo2 := [(0, _), (1, _), (2, _), (3, _), (4, _), (5, _)]) dL_passes_87 5 rfl (w := 1) rfl (Nat.le_of_ble_eq_true rfl) [1, 2, 3, 4, 5, 0] rfl ?_
    refine z_goto dL_passes_90 (tgt := 39) (by decide) ?_
    rw [nI_1]
    refine ih (x + 1) _ _ (by omega) (fun y hy => ?_)
    by_cases e : y = x
    · subst e; simp only [upd, if_true]; exact ⟨trivial, trivial⟩
    · simp only [upd, if_neg e]; exact hf y (by omega)
theorem lp_pas2 (hN : NI N b) (hW' : WN N') (hS' : LI u N') (hc' : cnt N' = cnt N) (hm : many ≤ cnt N) (hm4 : many ≤ 4) (hT' : ∀ t, t < cnt N → N'.2 t = wlkT (N.2 t) (N.1 0) 16) (hp : N'.1 0 = N.1 0) (hf : ∀ y, y < 16 * many → f1 y = howB (N.2 (y / 16)) (y % 16) ∧ f2 y = minB (N.2 (y / 16)) (y % 16)) (hQ : Q (some 1) u) :
    ∀ r x, r + x = 16 * many → Lt G 8 240 2 128 M_L_passes Q 141 [(0, rv G 0), (1, .ref q1), (2, .ref q2), (4, .int (nI many)), (6, .int 0), (7, .int (nI x))] [] (u, [(q1, 64, f1), (q2, 64, f2)], 2, 128) := by
  have hW := hN.1
  have hc5 := hW.cn.2
  have em : 16 * nI many = nI (16 * many) := pk_mul 16 many
  intro r
  induction r with
  | zero =>
    intro x hr
    obtain rfl : x = 16 * many := by omega
    refine z_iload dL_passes_141 5 rfl ?_
    refine z_bipush dL_passes_143 (v := 16) (by decide +kernel) ?_
    refine z_iload dL_passes_145 3 rfl ?_
    refine z_imul dL_passes_147 ?_
    rw [em]
    refine z_icmp_ge dL_passes_148 (tgt := 337) (by decide) (fun h148 => ?_) (fun h148 => by first | exact absurd (Int32.le_refl _) h148 | exact absurd h148 (Int32.le_refl _))
    refine z_iconst dL_passes_337 (v := 1) rfl ?_
    refine z_zret rfl (by first | rfl | decide) dL_passes_338 ?_
    exact hQ
  | succ r ih =>
    intro x hr
    have hxm : x < 16 * many := by omega
    have b148 : ¬ nI (16 * many) ≤ nI x := nI_ge hxm (by omega)
    have hx64 : x < 64 := by omega
    obtain ⟨ed, er⟩ := dv16 (show x < 1000 by omega)
    obtain ⟨g1, g2⟩ := hf x hxm
    have ht : x / 16 < cnt N := by omega
    have hk : x % 16 < 16 := Nat.mod_lt _ (by decide)
    generalize x / 16 = t at ed g1 g2 ht
    generalize x % 16 = k at er g1 g2 hk
    have hT := hN.2.1 t ht
    have hWT := hT.1
    have ht' : t < cnt N' := by rw [hc']; exact ht
    have eT := hT' t ht
    have hsz : tsz (N'.2 t) = tsz (N.2 t) := by rw [eT]; exact wk_sz
    obtain ⟨s, e1, e2, e3, e4⟩ := hWT.sz
    have e2' : (N'.2 t).1 0 = nI s := by rw [eT, wk_g (by decide)]; exact e2
    have cs := q_t (G := G) hW' hS' (oft hW' ht').1
    rw [e2'] at cs
    have cp : Call G 7 M_X4_count [rv G 0, .int 6] u (fun v w => v = some (N.1 0) ∧ w = u) := q_cnt hW' hS' (fun n => hp)
    obtain ⟨w1, w2, -⟩ := hT.2.1 k hk
    unfold howB at g1
    unfold minB at g2
    have nx : ∀ (x8 x9 x10 x11 x12 : Int32), Lt G 8 240 2 128 M_L_passes Q 331 [(0, rv G 0), (1, .ref q1), (2, .ref q2), (4, .int (nI many)), (6, .int 0), (7, .int (nI x)), (8, .int x8), (9, .int x9), (10, .int x10), (11, .int x11), (12, .int x12)] [] (u, [(q1, 64, f1), (q2, 64, f2)], 2, 128) := by
      intro x8 x9 x10 x11 x12
      refine z_iinc (lo2 := [(0, _), (1, _), (2, _), (4, _), (6, _), (7, _), (8, _), (9, _), (10, _), (11, _), (12, _)]) dL_passes_331 5 rfl (w := 1) rfl (Nat.le_of_ble_eq_true rfl) [1, 2, 3, 4, 5, 0, 6, 7, 8, 9, 10] rfl ?_
      refine z_goto dL_passes_334 (tgt := 141) (by decide) ?_
      rw [nI_1]
      exact z_sub [0, 1, 2, 3, 4, 5] rfl (ih (x + 1) (by omega))
    cases hkn : knB (N.2 t) k
    · rw [hkn, if_neg (by decide)] at g1 g2
      have hns : ¬ k < tsz (N.2 t) := fun z => by rw [kn_lt z] at hkn; cases hkn
      have h0 : (N.2 t).2.1 k = 0 := by
        rcases (hWT.2.2 k hk).2.1 (by omega) with z | z
        · exact z
        · rw [kn_of hWT hk (by rw [z]; decide)] at hkn; cases hkn
      have hkn' : knB (N'.2 t) k = false := by
        unfold knB
        rw [hsz, decide_eq_false hns, eT, (wk_o hk (by rw [h0]; decide) (by rw [h0]; decide)).1, h0]; rfl
      have d0 := q_ofn (G := G) hW' hS' ht' hk hkn' 0
      refine z_iload dL_passes_141 5 rfl ?_
      refine z_bipush dL_passes_143 (v := 16) (by decide +kernel) ?_
      refine z_iload dL_passes_145 3 rfl ?_
      refine z_imul dL_passes_147 ?_
      rw [em]
      refine z_icmp_ge dL_passes_148 (tgt := 337) (by decide) (fun h148 => by first | exact absurd (b148) h148 | exact absurd h148 (b148)) (fun h148 => ?_)
      refine z_iload dL_passes_151 4 rfl ?_
      refine z_if_ne dL_passes_153 (tgt := 337) (by decide) (fun h153 => by first | exact absurd (rfl) h153 | exact absurd h153 (rfl)) (fun h153 => ?_)
      refine z_iload dL_passes_156 5 rfl ?_
      refine z_bipush dL_passes_158 (v := 16) (by decide +kernel) ?_
      refine z_idiv dL_passes_160 (by decide) ?_
      rw [ed]
      refine z_istore (lo2 := [(0, _), (1, _), (2, _), (4, _), (6, _), (7, _), (8, _)]) dL_passes_161 (Nat.le_of_ble_eq_true rfl) [1, 2, 3, 4, 5, 6, 0] rfl ?_
      refine z_iload dL_passes_163 5 rfl ?_
      refine z_bipush dL_passes_165 (v := 16) (by decide +kernel) ?_
      refine z_irem dL_passes_167 (by decide) ?_
      rw [er]
      refine z_istore (lo2 := [(0, _), (1, _), (2, _), (4, _), (6, _), (7, _), (8, _), (9, _)]) dL_passes_168 (Nat.le_of_ble_eq_true rfl) [1, 2, 3, 4, 5, 6, 7, 0] rfl ?_
      refine z_aloadr_n dL_passes_170 1 rfl ?_
      refine z_iload dL_passes_171 5 rfl ?_
      refine z_iald (j := x) (j0 := 0) rfl rfl hx64 (by decide) dL_passes_173 ?_
      rw [g1]
      refine z_iconst dL_passes_174 (v := 3) rfl ?_
      refine z_icmp_ne dL_passes_175 (tgt := 190) (by decide) (fun h175 => ?_) (fun h175 => by first | exact absurd (by decide) h175 | exact absurd h175 (by decide))
      refine z_iconst dL_passes_190 (v := 0) rfl ?_
      refine z_istore (lo2 := [(0, _), (1, _), (2, _), (4, _), (6, _), (7, _), (8, _), (9, _), (10, _)]) dL_passes_191 (Nat.le_of_ble_eq_true rfl) [1, 2, 3, 4, 5, 6, 7, 8, 0] rfl ?_
      refine z_iload dL_passes_193 8 rfl ?_
      refine z_if_eq dL_passes_195 (tgt := 218) (by decide) (fun h195 => ?_) (fun h195 => by first | exact absurd (rfl) h195 | exact absurd h195 (rfl))
      refine z_aloadr_n dL_passes_218 1 rfl ?_
      refine z_iload dL_passes_219 5 rfl ?_
      refine z_iald (j := x) (j0 := 0) rfl rfl hx64 (by decide) dL_passes_221 ?_
      rw [g1]
      refine z_istore (lo2 := [(0, _), (1, _), (2, _), (4, _), (6, _), (7, _), (8, _), (9, _), (10, _), (11, _)]) dL_passes_222 (Nat.le_of_ble_eq_true rfl) [1, 2, 3, 4, 5, 6, 7, 8, 9, 0] rfl ?_
      refine z_aloadr_n dL_passes_224 1 rfl ?_
      refine z_iload dL_passes_225 5 rfl ?_
      refine z_iald (j := x) (j0 := 0) rfl rfl hx64 (by decide) dL_passes_227 ?_
      rw [g1]
      refine z_iconst dL_passes_228 (v := 3) rfl ?_
      refine z_icmp_ne dL_passes_229 (tgt := 246) (by decide) (fun h229 => ?_) (fun h229 => by first | exact absurd (by decide) h229 | exact absurd h229 (by decide))
      refine z_aloadr_n dL_passes_246 1 rfl ?_
      refine z_iload dL_passes_247 5 rfl ?_
      refine z_iald (j := x) (j0 := 0) rfl rfl hx64 (by decide) dL_passes_249 ?_
      rw [g1]
      refine z_iconst dL_passes_250 (v := 4) rfl ?_
      refine z_icmp_ne dL_passes_251 (tgt := 263) (by decide) (fun h251 => ?_) (fun h251 => by first | exact absurd (by decide) h251 | exact absurd h251 (by decide))
      refine z_iconst dL_passes_263 (v := 0) rfl ?_
      refine z_istore (lo2 := [(0, _), (1, _), (2, _), (4, _), (6, _), (7, _), (8, _), (9, _), (10, _), (11, _), (12, _)]) dL_passes_264 (Nat.le_of_ble_eq_true rfl) [1, 2, 3, 4, 5, 6, 7, 8, 9, 10, 0] rfl ?_
      refine z_aload_n dL_passes_266 0 rfl ?_
      refine z_iload dL_passes_267 6 rfl ?_
      refine z_iload dL_passes_269 7 rfl ?_
      refine z_iconst dL_passes_271 (v := 0) rfl ?_
      refine z_callVF (d := 7) (As := [_, _, _]) c_X4_of rfl l_L_15 rfl rfl rfl (Nat.le_of_ble_eq_true rfl) ⟨Nat.le_of_ble_eq_true rfl, Nat.le_of_ble_eq_true rfl⟩ dL_passes_272 d0 ?_
      refine z_iload dL_passes_275 9 rfl ?_
      refine z_icmp_ne dL_passes_277 (tgt := 329) (by decide) (fun h277 => by first | exact absurd (rfl) h277 | exact absurd h277 (rfl)) (fun h277 => ?_)
      refine z_iload dL_passes_280 9 rfl ?_
      refine z_if_lt dL_passes_282 (tgt := 299) (by decide) (fun h282 => ?_) (fun h282 => by first | exact absurd (by decide) h282 | exact absurd h282 (by decide))
      refine z_iload dL_passes_299 9 rfl ?_
      refine z_iconst dL_passes_301 (v := 4) rfl ?_
      refine z_icmp_ne dL_passes_302 (tgt := 331) (by decide) (fun h302 => ?_) (fun h302 => by first | exact absurd (by decide) h302 | exact absurd h302 (by decide))
      exact nx _ _ _ _ _
    · rw [hkn, if_pos rfl] at g1 g2
      by_cases h3 : (N.2 t).2.1 k = 3
      · rw [h3] at g1
        obtain ⟨v1, v2⟩ := le1_3 (w1 h3)
        by_cases hfr : (N.2 t).2.2.1 k - 1 ≤ 0
        · rw [v1 hfr] at g2
          obtain ⟨y1, y2, y3⟩ := wk_3e (p := N.1 0) hk h3 hfr
          rw [← eT] at y1 y2
          by_cases hlt : k < tsz (N.2 t)
          · have b207 : ¬ nI s ≤ nI k := nI_ge (by omega) (by omega)
            have hkn' : knB (N'.2 t) k = true := kn_lt (by rw [hsz]; exact hlt)
            have d0 := q_of0 (G := G) hW' hS' ht' hk hkn'
            have d1 := q_of1 (G := G) hW' hS' ht' hk hkn'
            rw [y1] at d0
            rw [y2] at d1
            refine z_iload dL_passes_141 5 rfl ?_
            refine z_bipush dL_passes_143 (v := 16) (by decide +kernel) ?_
            refine z_iload dL_passes_145 3 rfl ?_
            refine z_imul dL_passes_147 ?_
            rw [em]
            refine z_icmp_ge dL_passes_148 (tgt := 337) (by decide) (fun h148 => by first | exact absurd (b148) h148 | exact absurd h148 (b148)) (fun h148 => ?_)
            refine z_iload dL_passes_151 4 rfl ?_
            refine z_if_ne dL_passes_153 (tgt := 337) (by decide) (fun h153 => by first | exact absurd (rfl) h153 | exact absurd h153 (rfl)) (fun h153 => ?_)
            refine z_iload dL_passes_156 5 rfl ?_
            refine z_bipush dL_passes_158 (v := 16) (by decide +kernel) ?_
            refine z_idiv dL_passes_160 (by decide) ?_
            rw [ed]
            refine z_istore (lo2 := [(0, _), (1, _), (2, _), (4, _), (6, _), (7, _), (8, _)]) dL_passes_161 (Nat.le_of_ble_eq_true rfl) [1, 2, 3, 4, 5, 6, 0] rfl ?_
            refine z_iload dL_passes_163 5 rfl ?_
            refine z_bipush dL_passes_165 (v := 16) (by decide +kernel) ?_
            refine z_irem dL_passes_167 (by decide) ?_
            rw [er]
            refine z_istore (lo2 := [(0, _), (1, _), (2, _), (4, _), (6, _), (7, _), (8, _), (9, _)]) dL_passes_168 (Nat.le_of_ble_eq_true rfl) [1, 2, 3, 4, 5, 6, 7, 0] rfl ?_
            refine z_aloadr_n dL_passes_170 1 rfl ?_
            refine z_iload dL_passes_171 5 rfl ?_
            refine z_iald (j := x) (j0 := 0) rfl rfl hx64 (by decide) dL_passes_173 ?_
            rw [g1]
            refine z_iconst dL_passes_174 (v := 3) rfl ?_
            refine z_icmp_ne dL_passes_175 (tgt := 190) (by decide) (fun h175 => by first | exact absurd (rfl) h175 | exact absurd h175 (rfl)) (fun h175 => ?_)
            refine z_aloadr_n dL_passes_178 2 rfl ?_
            refine z_iload dL_passes_179 5 rfl ?_
            refine z_iald (j := x) (j0 := 1) rfl rfl hx64 (by decide) dL_passes_181 ?_
            rw [g2]
            refine z_iconst dL_passes_182 (v := 1) rfl ?_
            refine z_icmp_ne dL_passes_183 (tgt := 190) (by decide) (fun h183 => by first | exact absurd (rfl) h183 | exact absurd h183 (rfl)) (fun h183 => ?_)
            refine z_iconst dL_passes_186 (v := 1) rfl ?_
            refine z_goto dL_passes_187 (tgt := 191) (by decide) ?_
            refine z_istore (lo2 := [(0, _), (1, _), (2, _), (4, _), (6, _), (7, _), (8, _), (9, _), (10, _)]) dL_passes_191 (Nat.le_of_ble_eq_true rfl) [1, 2, 3, 4, 5, 6, 7, 8, 0] rfl ?_
            refine z_iload dL_passes_193 8 rfl ?_
            refine z_if_eq dL_passes_195 (tgt := 218) (by decide) (fun h195 => by first | exact absurd (by decide) h195 | exact absurd h195 (by decide)) (fun h195 => ?_)
            refine z_iload dL_passes_198 7 rfl ?_
            refine z_aload_n dL_passes_200 0 rfl ?_
            refine z_iload dL_passes_201 6 rfl ?_
            refine z_iconst dL_passes_203 (v := 0) rfl ?_
            refine z_callVF (d := 7) (As := [_, _]) c_X4_ofTroop rfl l_L_19 rfl rfl rfl (Nat.le_of_ble_eq_true rfl) ⟨Nat.le_of_ble_eq_true rfl, Nat.le_of_ble_eq_true rfl⟩ dL_passes_204 cs ?_
            refine z_icmp_ge dL_passes_207 (tgt := 214) (by decide) (fun h207 => by first | exact absurd (b207) h207 | exact absurd h207 (b207)) (fun h207 => ?_)
            refine z_iconst dL_passes_210 (v := 0) rfl ?_
            refine z_goto dL_passes_211 (tgt := 222) (by decide) ?_
            refine z_istore (lo2 := [(0, _), (1, _), (2, _), (4, _), (6, _), (7, _), (8, _), (9, _), (10, _), (11, _)]) dL_passes_222 (Nat.le_of_ble_eq_true rfl) [1, 2, 3, 4, 5, 6, 7, 8, 9, 0] rfl ?_
            refine z_aloadr_n dL_passes_224 1 rfl ?_
            refine z_iload dL_passes_225 5 rfl ?_
            refine z_iald (j := x) (j0 := 0) rfl rfl hx64 (by decide) dL_passes_227 ?_
            rw [g1]
            refine z_iconst dL_passes_228 (v := 3) rfl ?_
            refine z_icmp_ne dL_passes_229 (tgt := 246) (by decide) (fun h229 => by first | exact absurd (rfl) h229 | exact absurd h229 (rfl)) (fun h229 => ?_)
            refine z_iload dL_passes_232 8 rfl ?_
            refine z_if_ne dL_passes_234 (tgt := 246) (by decide) (fun h234 => ?_) (fun h234 => by first | exact absurd (by decide) h234 | exact absurd h234 (by decide))
            refine z_aloadr_n dL_passes_246 1 rfl ?_
            refine z_iload dL_passes_247 5 rfl ?_
            refine z_iald (j := x) (j0 := 0) rfl rfl hx64 (by decide) dL_passes_249 ?_
            rw [g1]
            refine z_iconst dL_passes_250 (v := 4) rfl ?_
            refine z_icmp_ne dL_passes_251 (tgt := 263) (by decide) (fun h251 => ?_) (fun h251 => by first | exact absurd (by decide) h251 | exact absurd h251 (by decide))
            refine z_iconst dL_passes_263 (v := 0) rfl ?_
            refine z_istore (lo2 := [(0, _), (1, _), (2, _), (4, _), (6, _), (7, _), (8, _), (9, _), (10, _), (11, _), (12, _)]) dL_passes_264 (Nat.le_of_ble_eq_true rfl) [1, 2, 3, 4, 5, 6, 7, 8, 9, 10, 0] rfl ?_
            refine z_aload_n dL_passes_266 0 rfl ?_
            refine z_iload dL_passes_267 6 rfl ?_
            refine z_iload dL_passes_269 7 rfl ?_
            refine z_iconst dL_passes_271 (v := 0) rfl ?_
            refine z_callVF (d := 7) (As := [_, _, _]) c_X4_of rfl l_L_15 rfl rfl rfl (Nat.le_of_ble_eq_true rfl) ⟨Nat.le_of_ble_eq_true rfl, Nat.le_of_ble_eq_true rfl⟩ dL_passes_272 d0 ?_
            refine z_iload dL_passes_275 9 rfl ?_
            refine z_icmp_ne dL_passes_277 (tgt := 329) (by decide) (fun h277 => by first | exact absurd (rfl) h277 | exact absurd h277 (rfl)) (fun h277 => ?_)
            refine z_iload dL_passes_280 9 rfl ?_
            refine z_if_lt dL_passes_282 (tgt := 299) (by decide) (fun h282 => by first | exact absurd (by decide) h282 | exact absurd h282 (by decide)) (fun h282 => ?_)
            refine z_aload_n dL_passes_285 0 rfl ?_
            refine z_iload dL_passes_286 6 rfl ?_
            refine z_iload dL_passes_288 7 rfl ?_
            refine z_iconst dL_passes_290 (v := 1) rfl ?_
            refine z_callVF (d := 7) (As := [_, _, _]) c_X4_of rfl l_L_15 rfl rfl rfl (Nat.le_of_ble_eq_true rfl) ⟨Nat.le_of_ble_eq_true rfl, Nat.le_of_ble_eq_true rfl⟩ dL_passes_291 d1 ?_
            refine z_iload dL_passes_294 10 rfl ?_
            refine z_icmp_ne dL_passes_296 (tgt := 329) (by decide) (fun h296 => by first | exact absurd (rfl) h296 | exact absurd h296 (rfl)) (fun h296 => ?_)
            refine z_iload dL_passes_299 9 rfl ?_
            refine z_iconst dL_passes_301 (v := 4) rfl ?_
            refine z_icmp_ne dL_passes_302 (tgt := 331) (by decide) (fun h302 => ?_) (fun h302 => by first | exact absurd (by decide) h302 | exact absurd h302 (by decide))
            exact nx _ _ _ _ _
          · have b207 : nI s ≤ nI k := nI_le (by omega) (by omega)
            have hkn' : knB (N'.2 t) k = false := by
              unfold knB
              rw [hsz, decide_eq_false hlt, y1]; rfl
            have d0 := q_ofn (G := G) hW' hS' ht' hk hkn' 0
            refine z_iload dL_passes_141 5 rfl ?_
            refine z_bipush dL_passes_143 (v := 16) (by decide +kernel) ?_
            refine z_iload dL_passes_145 3 rfl ?_
            refine z_imul dL_passes_147 ?_
            rw [em]
            refine z_icmp_ge dL_passes_148 (tgt := 337) (by decide) (fun h148 => by first | exact absurd (b148) h148 | exact absurd h148 (b148)) (fun h148 => ?_)
            refine z_iload dL_passes_151 4 rfl ?_
            refine z_if_ne dL_passes_153 (tgt := 337) (by decide) (fun h153 => by first | exact absurd (rfl) h153 | exact absurd h153 (rfl)) (fun h153 => ?_)
            refine z_iload dL_passes_156 5 rfl ?_
            refine z_bipush dL_passes_158 (v := 16) (by decide +kernel) ?_
            refine z_idiv dL_passes_160 (by decide) ?_
            rw [ed]
            refine z_istore (lo2 := [(0, _), (1, _), (2, _), (4, _), (6, _), (7, _), (8, _)]) dL_passes_161 (Nat.le_of_ble_eq_true rfl) [1, 2, 3, 4, 5, 6, 0] rfl ?_
            refine z_iload dL_passes_163 5 rfl ?_
            refine z_bipush dL_passes_165 (v := 16) (by decide +kernel) ?_
            refine z_irem dL_passes_167 (by decide) ?_
            rw [er]
            refine z_istore (lo2 := [(0, _), (1, _), (2, _), (4, _), (6, _), (7, _), (8, _), (9, _)]) dL_passes_168 (Nat.le_of_ble_eq_true rfl) [1, 2, 3, 4, 5, 6, 7, 0] rfl ?_
            refine z_aloadr_n dL_passes_170 1 rfl ?_
            refine z_iload dL_passes_171 5 rfl ?_
            refine z_iald (j := x) (j0 := 0) rfl rfl hx64 (by decide) dL_passes_173 ?_
            rw [g1]
            refine z_iconst dL_passes_174 (v := 3) rfl ?_
            refine z_icmp_ne dL_passes_175 (tgt := 190) (by decide) (fun h175 => by first | exact absurd (rfl) h175 | exact absurd h175 (rfl)) (fun h175 => ?_)
            refine z_aloadr_n dL_passes_178 2 rfl ?_
            refine z_iload dL_passes_179 5 rfl ?_
            refine z_iald (j := x) (j0 := 1) rfl rfl hx64 (by decide) dL_passes_181 ?_
            rw [g2]
            refine z_iconst dL_passes_182 (v := 1) rfl ?_
            refine z_icmp_ne dL_passes_183 (tgt := 190) (by decide) (fun h183 => by first | exact absurd (rfl) h183 | exact absurd h183 (rfl)) (fun h183 => ?_)
            refine z_iconst dL_passes_186 (v := 1) rfl ?_
            refine z_goto dL_passes_187 (tgt := 191) (by decide) ?_
            refine z_istore (lo2 := [(0, _), (1, _), (2, _), (4, _), (6, _), (7, _), (8, _), (9, _), (10, _)]) dL_passes_191 (Nat.le_of_ble_eq_true rfl) [1, 2, 3, 4, 5, 6, 7, 8, 0] rfl ?_
            refine z_iload dL_passes_193 8 rfl ?_
            refine z_if_eq dL_passes_195 (tgt := 218) (by decide) (fun h195 => by first | exact absurd (by decide) h195 | exact absurd h195 (by decide)) (fun h195 => ?_)
            refine z_iload dL_passes_198 7 rfl ?_
            refine z_aload_n dL_passes_200 0 rfl ?_
            refine z_iload dL_passes_201 6 rfl ?_
            refine z_iconst dL_passes_203 (v := 0) rfl ?_
            refine z_callVF (d := 7) (As := [_, _]) c_X4_ofTroop rfl l_L_19 rfl rfl rfl (Nat.le_of_ble_eq_true rfl) ⟨Nat.le_of_ble_eq_true rfl, Nat.le_of_ble_eq_true rfl⟩ dL_passes_204 cs ?_
            refine z_icmp_ge dL_passes_207 (tgt := 214) (by decide) (fun h207 => ?_) (fun h207 => by first | exact absurd (b207) h207 | exact absurd h207 (b207))
            refine z_iconst dL_passes_214 (v := -1) rfl ?_
            refine z_goto dL_passes_215 (tgt := 222) (by decide) ?_
            refine z_istore (lo2 := [(0, _), (1, _), (2, _), (4, _), (6, _), (7, _), (8, _), (9, _), (10, _), (11, _)]) dL_passes_222 (Nat.le_of_ble_eq_true rfl) [1, 2, 3, 4, 5, 6, 7, 8, 9, 0] rfl ?_
            refine z_aloadr_n dL_passes_224 1 rfl ?_
            refine z_iload dL_passes_225 5 rfl ?_
            refine z_iald (j := x) (j0 := 0) rfl rfl hx64 (by decide) dL_passes_227 ?_
            rw [g1]
            refine z_iconst dL_passes_228 (v := 3) rfl ?_
            refine z_icmp_ne dL_passes_229 (tgt := 246) (by decide) (fun h229 => by first | exact absurd (rfl) h229 | exact absurd h229 (rfl)) (fun h229 => ?_)
            refine z_iload dL_passes_232 8 rfl ?_
            refine z_if_ne dL_passes_234 (tgt := 246) (by decide) (fun h234 => ?_) (fun h234 => by first | exact absurd (by decide) h234 | exact absurd h234 (by decide))
            refine z_aloadr_n dL_passes_246 1 rfl ?_
            refine z_iload dL_passes_247 5 rfl ?_
            refine z_iald (j := x) (j0 := 0) rfl rfl hx64 (by decide) dL_passes_249 ?_
            rw [g1]
            refine z_iconst dL_passes_250 (v := 4) rfl ?_
            refine z_icmp_ne dL_passes_251 (tgt := 263) (by decide) (fun h251 => ?_) (fun h251 => by first | exact absurd (by decide) h251 | exact absurd h251 (by decide))
            refine z_iconst dL_passes_263 (v := 0) rfl ?_
            refine z_istore (lo2 := [(0, _), (1, _), (2, _), (4, _), (6, _), (7, _), (8, _), (9, _), (10, _), (11, _), (12, _)]) dL_passes_264 (Nat.le_of_ble_eq_true rfl) [1, 2, 3, 4, 5, 6, 7, 8, 9, 10, 0] rfl ?_
            refine z_aload_n dL_passes_266 0 rfl ?_
            refine z_iload dL_passes_267 6 rfl ?_
            refine z_iload dL_passes_269 7 rfl ?_
            refine z_iconst dL_passes_271 (v := 0) rfl ?_
            refine z_callVF (d := 7) (As := [_, _, _]) c_X4_of rfl l_L_15 rfl rfl rfl (Nat.le_of_ble_eq_true rfl) ⟨Nat.le_of_ble_eq_true rfl, Nat.le_of_ble_eq_true rfl⟩ dL_passes_272 d0 ?_
            refine z_iload dL_passes_275 9 rfl ?_
            refine z_icmp_ne dL_passes_277 (tgt := 329) (by decide) (fun h277 => by first | exact absurd (rfl) h277 | exact absurd h277 (rfl)) (fun h277 => ?_)
            refine z_iload dL_passes_280 9 rfl ?_
            refine z_if_lt dL_passes_282 (tgt := 299) (by decide) (fun h282 => ?_) (fun h282 => by first | exact absurd (by decide) h282 | exact absurd h282 (by decide))
            refine z_iload dL_passes_299 9 rfl ?_
            refine z_iconst dL_passes_301 (v := 4) rfl ?_
            refine z_icmp_ne dL_passes_302 (tgt := 331) (by decide) (fun h302 => ?_) (fun h302 => by first | exact absurd (by decide) h302 | exact absurd h302 (by decide))
            exact nx _ _ _ _ _
        · obtain ⟨y1, y2, y3⟩ := wk_3 (p := N.1 0) hk h3 hfr
          rw [← eT] at y1 y2
          have hne := v2 hfr
          rw [← g2] at hne y2
          have hkn' : knB (N'.2 t) k = true := kn_of (hW'.2 t ht') hk (by rw [y1]; decide)
          have d0 := q_of0 (G := G) hW' hS' ht' hk hkn'
          have d1 := q_of1 (G := G) hW' hS' ht' hk hkn'
          rw [y1] at d0
          rw [y2] at d1
          refine z_iload dL_passes_141 5 rfl ?_
          refine z_bipush dL_passes_143 (v := 16) (by decide +kernel) ?_
          refine z_iload dL_passes_145 3 rfl ?_
          refine z_imul dL_passes_147 ?_
          rw [em]
          refine z_icmp_ge dL_passes_148 (tgt := 337) (by decide) (fun h148 => by first | exact absurd (b148) h148 | exact absurd h148 (b148)) (fun h148 => ?_)
          refine z_iload dL_passes_151 4 rfl ?_
          refine z_if_ne dL_passes_153 (tgt := 337) (by decide) (fun h153 => by first | exact absurd (rfl) h153 | exact absurd h153 (rfl)) (fun h153 => ?_)
          refine z_iload dL_passes_156 5 rfl ?_
          refine z_bipush dL_passes_158 (v := 16) (by decide +kernel) ?_
          refine z_idiv dL_passes_160 (by decide) ?_
          rw [ed]
          refine z_istore (lo2 := [(0, _), (1, _), (2, _), (4, _), (6, _), (7, _), (8, _)]) dL_passes_161 (Nat.le_of_ble_eq_true rfl) [1, 2, 3, 4, 5, 6, 0] rfl ?_
          refine z_iload dL_passes_163 5 rfl ?_
          refine z_bipush dL_passes_165 (v := 16) (by decide +kernel) ?_
          refine z_irem dL_passes_167 (by decide) ?_
          rw [er]
          refine z_istore (lo2 := [(0, _), (1, _), (2, _), (4, _), (6, _), (7, _), (8, _), (9, _)]) dL_passes_168 (Nat.le_of_ble_eq_true rfl) [1, 2, 3, 4, 5, 6, 7, 0] rfl ?_
          refine z_aloadr_n dL_passes_170 1 rfl ?_
          refine z_iload dL_passes_171 5 rfl ?_
          refine z_iald (j := x) (j0 := 0) rfl rfl hx64 (by decide) dL_passes_173 ?_
          rw [g1]
          refine z_iconst dL_passes_174 (v := 3) rfl ?_
          refine z_icmp_ne dL_passes_175 (tgt := 190) (by decide) (fun h175 => by first | exact absurd (rfl) h175 | exact absurd h175 (rfl)) (fun h175 => ?_)
          refine z_aloadr_n dL_passes_178 2 rfl ?_
          refine z_iload dL_passes_179 5 rfl ?_
          refine z_iald (j := x) (j0 := 1) rfl rfl hx64 (by decide) dL_passes_181 ?_
          refine z_iconst dL_passes_182 (v := 1) rfl ?_
          refine z_icmp_ne dL_passes_183 (tgt := 190) (by decide) (fun h183 => ?_) (fun h183 => by first | exact absurd (hne) h183 | exact absurd h183 (hne))
          refine z_iconst dL_passes_190 (v := 0) rfl ?_
          refine z_istore (lo2 := [(0, _), (1, _), (2, _), (4, _), (6, _), (7, _), (8, _), (9, _), (10, _)]) dL_passes_191 (Nat.le_of_ble_eq_true rfl) [1, 2, 3, 4, 5, 6, 7, 8, 0] rfl ?_
          refine z_iload dL_passes_193 8 rfl ?_
          refine z_if_eq dL_passes_195 (tgt := 218) (by decide) (fun h195 => ?_) (fun h195 => by first | exact absurd (rfl) h195 | exact absurd h195 (rfl))
          refine z_aloadr_n dL_passes_218 1 rfl ?_
          refine z_iload dL_passes_219 5 rfl ?_
          refine z_iald (j := x) (j0 := 0) rfl rfl hx64 (by decide) dL_passes_221 ?_
          rw [g1]
          refine z_istore (lo2 := [(0, _), (1, _), (2, _), (4, _), (6, _), (7, _), (8, _), (9, _), (10, _), (11, _)]) dL_passes_222 (Nat.le_of_ble_eq_true rfl) [1, 2, 3, 4, 5, 6, 7, 8, 9, 0] rfl ?_
          refine z_aloadr_n dL_passes_224 1 rfl ?_
          refine z_iload dL_passes_225 5 rfl ?_
          refine z_iald (j := x) (j0 := 0) rfl rfl hx64 (by decide) dL_passes_227 ?_
          rw [g1]
          refine z_iconst dL_passes_228 (v := 3) rfl ?_
          refine z_icmp_ne dL_passes_229 (tgt := 246) (by decide) (fun h229 => by first | exact absurd (rfl) h229 | exact absurd h229 (rfl)) (fun h229 => ?_)
          refine z_iload dL_passes_232 8 rfl ?_
          refine z_if_ne dL_passes_234 (tgt := 246) (by decide) (fun h234 => by first | exact absurd (rfl) h234 | exact absurd h234 (rfl)) (fun h234 => ?_)
          refine z_aloadr_n dL_passes_237 2 rfl ?_
          refine z_iload dL_passes_238 5 rfl ?_
          refine z_iald (j := x) (j0 := 1) rfl rfl hx64 (by decide) dL_passes_240 ?_
          refine z_iconst dL_passes_241 (v := 1) rfl ?_
          refine z_isub dL_passes_242 ?_
          refine z_goto dL_passes_243 (tgt := 264) (by decide) ?_
          refine z_istore (lo2 := [(0, _), (1, _), (2, _), (4, _), (6, _), (7, _), (8, _), (9, _), (10, _), (11, _), (12, _)]) dL_passes_264 (Nat.le_of_ble_eq_true rfl) [1, 2, 3, 4, 5, 6, 7, 8, 9, 10, 0] rfl ?_
          refine z_aload_n dL_passes_266 0 rfl ?_
          refine z_iload dL_passes_267 6 rfl ?_
          refine z_iload dL_passes_269 7 rfl ?_
          refine z_iconst dL_passes_271 (v := 0) rfl ?_
          refine z_callVF (d := 7) (As := [_, _, _]) c_X4_of rfl l_L_15 rfl rfl rfl (Nat.le_of_ble_eq_true rfl) ⟨Nat.le_of_ble_eq_true rfl, Nat.le_of_ble_eq_true rfl⟩ dL_passes_272 d0 ?_
          refine z_iload dL_passes_275 9 rfl ?_
          refine z_icmp_ne dL_passes_277 (tgt := 329) (by decide) (fun h277 => by first | exact absurd (rfl) h277 | exact absurd h277 (rfl)) (fun h277 => ?_)
          refine z_iload dL_passes_280 9 rfl ?_
          refine z_if_lt dL_passes_282 (tgt := 299) (by decide) (fun h282 => by first | exact absurd (by decide) h282 | exact absurd h282 (by decide)) (fun h282 => ?_)
          refine z_aload_n dL_passes_285 0 rfl ?_
          refine z_iload dL_passes_286 6 rfl ?_
          refine z_iload dL_passes_288 7 rfl ?_
          refine z_iconst dL_passes_290 (v := 1) rfl ?_
          refine z_callVF (d := 7) (As := [_, _, _]) c_X4_of rfl l_L_15 rfl rfl rfl (Nat.le_of_ble_eq_true rfl) ⟨Nat.le_of_ble_eq_true rfl, Nat.le_of_ble_eq_true rfl⟩ dL_passes_291 d1 ?_
          refine z_iload dL_passes_294 10 rfl ?_
          refine z_icmp_ne dL_passes_296 (tgt := 329) (by decide) (fun h296 => by first | exact absurd (rfl) h296 | exact absurd h296 (rfl)) (fun h296 => ?_)
          refine z_iload dL_passes_299 9 rfl ?_
          refine z_iconst dL_passes_301 (v := 4) rfl ?_
          refine z_icmp_ne dL_passes_302 (tgt := 331) (by decide) (fun h302 => ?_) (fun h302 => by first | exact absurd (by decide) h302 | exact absurd h302 (by decide))
          exact nx _ _ _ _ _
      · by_cases h4 : (N.2 t).2.1 k = 4
        · rw [h4] at g1
          obtain ⟨y1, y2, y3⟩ := wk_4 (p := N.1 0) hk h4
          rw [← eT] at y1 y2
          rw [← g2] at y2
          have hkn' : knB (N'.2 t) k = true := kn_of (hW'.2 t ht') hk (by rw [y1]; decide)
          have d0 := q_of0 (G := G) hW' hS' ht' hk hkn'
          have d1 := q_of1 (G := G) hW' hS' ht' hk hkn'
          have d3 := q_of3 (G := G) hW' hS' ht' hk hkn'
          rw [y1] at d0
          rw [y2] at d1
          have hst : ¬ f2 x + 1 ≤ N.1 0 → bI (bt ((N'.2 t).1 5) k) = 1 := fun z => by
            rw [bI_1, eT, wk_5, b_or, mkm_bt _ k hk, h4, decide_eq_true rfl, Bool.true_and, ← g2, decide_eq_true (Int32.not_le.mp z), Bool.or_true]
          refine z_iload dL_passes_141 5 rfl ?_
          refine z_bipush dL_passes_143 (v := 16) (by decide +kernel) ?_
          refine z_iload dL_passes_145 3 rfl ?_
          refine z_imul dL_passes_147 ?_
          rw [em]
          refine z_icmp_ge dL_passes_148 (tgt := 337) (by decide) (fun h148 => by first | exact absurd (b148) h148 | exact absurd h148 (b148)) (fun h148 => ?_)
          refine z_iload dL_passes_151 4 rfl ?_
          refine z_if_ne dL_passes_153 (tgt := 337) (by decide) (fun h153 => by first | exact absurd (rfl) h153 | exact absurd h153 (rfl)) (fun h153 => ?_)
          refine z_iload dL_passes_156 5 rfl ?_
          refine z_bipush dL_passes_158 (v := 16) (by decide +kernel) ?_
          refine z_idiv dL_passes_160 (by decide) ?_
          rw [ed]
          refine z_istore (lo2 := [(0, _), (1, _), (2, _), (4, _), (6, _), (7, _), (8, _)]) dL_passes_161 (Nat.le_of_ble_eq_true rfl) [1, 2, 3, 4, 5, 6, 0] rfl ?_
          refine z_iload dL_passes_163 5 rfl ?_
          refine z_bipush dL_passes_165 (v := 16) (by decide +kernel) ?_
          refine z_irem dL_passes_167 (by decide) ?_
          rw [er]
          refine z_istore (lo2 := [(0, _), (1, _), (2, _), (4, _), (6, _), (7, _), (8, _), (9, _)]) dL_passes_168 (Nat.le_of_ble_eq_true rfl) [1, 2, 3, 4, 5, 6, 7, 0] rfl ?_
          refine z_aloadr_n dL_passes_170 1 rfl ?_
          refine z_iload dL_passes_171 5 rfl ?_
          refine z_iald (j := x) (j0 := 0) rfl rfl hx64 (by decide) dL_passes_173 ?_
          rw [g1]
          refine z_iconst dL_passes_174 (v := 3) rfl ?_
          refine z_icmp_ne dL_passes_175 (tgt := 190) (by decide) (fun h175 => ?_) (fun h175 => by first | exact absurd (by decide) h175 | exact absurd h175 (by decide))
          refine z_iconst dL_passes_190 (v := 0) rfl ?_
          refine z_istore (lo2 := [(0, _), (1, _), (2, _), (4, _), (6, _), (7, _), (8, _), (9, _), (10, _)]) dL_passes_191 (Nat.le_of_ble_eq_true rfl) [1, 2, 3, 4, 5, 6, 7, 8, 0] rfl ?_
          refine z_iload dL_passes_193 8 rfl ?_
          refine z_if_eq dL_passes_195 (tgt := 218) (by decide) (fun h195 => ?_) (fun h195 => by first | exact absurd (rfl) h195 | exact absurd h195 (rfl))
          refine z_aloadr_n dL_passes_218 1 rfl ?_
          refine z_iload dL_passes_219 5 rfl ?_
          refine z_iald (j := x) (j0 := 0) rfl rfl hx64 (by decide) dL_passes_221 ?_
          rw [g1]
          refine z_istore (lo2 := [(0, _), (1, _), (2, _), (4, _), (6, _), (7, _), (8, _), (9, _), (10, _), (11, _)]) dL_passes_222 (Nat.le_of_ble_eq_true rfl) [1, 2, 3, 4, 5, 6, 7, 8, 9, 0] rfl ?_
          refine z_aloadr_n dL_passes_224 1 rfl ?_
          refine z_iload dL_passes_225 5 rfl ?_
          refine z_iald (j := x) (j0 := 0) rfl rfl hx64 (by decide) dL_passes_227 ?_
          rw [g1]
          refine z_iconst dL_passes_228 (v := 3) rfl ?_
          refine z_icmp_ne dL_passes_229 (tgt := 246) (by decide) (fun h229 => ?_) (fun h229 => by first | exact absurd (by decide) h229 | exact absurd h229 (by decide))
          refine z_aloadr_n dL_passes_246 1 rfl ?_
          refine z_iload dL_passes_247 5 rfl ?_
          refine z_iald (j := x) (j0 := 0) rfl rfl hx64 (by decide) dL_passes_249 ?_
          rw [g1]
          refine z_iconst dL_passes_250 (v := 4) rfl ?_
          refine z_icmp_ne dL_passes_251 (tgt := 263) (by decide) (fun h251 => by first | exact absurd (rfl) h251 | exact absurd h251 (rfl)) (fun h251 => ?_)
          refine z_aloadr_n dL_passes_254 2 rfl ?_
          refine z_iload dL_passes_255 5 rfl ?_
          refine z_iald (j := x) (j0 := 1) rfl rfl hx64 (by decide) dL_passes_257 ?_
          refine z_iconst dL_passes_258 (v := 1) rfl ?_
          refine z_iadd dL_passes_259 ?_
          refine z_goto dL_passes_260 (tgt := 264) (by decide) ?_
          refine z_istore (lo2 := [(0, _), (1, _), (2, _), (4, _), (6, _), (7, _), (8, _), (9, _), (10, _), (11, _), (12, _)]) dL_passes_264 (Nat.le_of_ble_eq_true rfl) [1, 2, 3, 4, 5, 6, 7, 8, 9, 10, 0] rfl ?_
          refine z_aload_n dL_passes_266 0 rfl ?_
          refine z_iload dL_passes_267 6 rfl ?_
          refine z_iload dL_passes_269 7 rfl ?_
          refine z_iconst dL_passes_271 (v := 0) rfl ?_
          refine z_callVF (d := 7) (As := [_, _, _]) c_X4_of rfl l_L_15 rfl rfl rfl (Nat.le_of_ble_eq_true rfl) ⟨Nat.le_of_ble_eq_true rfl, Nat.le_of_ble_eq_true rfl⟩ dL_passes_272 d0 ?_
          refine z_iload dL_passes_275 9 rfl ?_
          refine z_icmp_ne dL_passes_277 (tgt := 329) (by decide) (fun h277 => by first | exact absurd (rfl) h277 | exact absurd h277 (rfl)) (fun h277 => ?_)
          refine z_iload dL_passes_280 9 rfl ?_
          refine z_if_lt dL_passes_282 (tgt := 299) (by decide) (fun h282 => by first | exact absurd (by decide) h282 | exact absurd h282 (by decide)) (fun h282 => ?_)
          refine z_aload_n dL_passes_285 0 rfl ?_
          refine z_iload dL_passes_286 6 rfl ?_
          refine z_iload dL_passes_288 7 rfl ?_
          refine z_iconst dL_passes_290 (v := 1) rfl ?_
          refine z_callVF (d := 7) (As := [_, _, _]) c_X4_of rfl l_L_15 rfl rfl rfl (Nat.le_of_ble_eq_true rfl) ⟨Nat.le_of_ble_eq_true rfl, Nat.le_of_ble_eq_true rfl⟩ dL_passes_291 d1 ?_
          refine z_iload dL_passes_294 10 rfl ?_
          refine z_icmp_ne dL_passes_296 (tgt := 329) (by decide) (fun h296 => by first | exact absurd (rfl) h296 | exact absurd h296 (rfl)) (fun h296 => ?_)
          refine z_iload dL_passes_299 9 rfl ?_
          refine z_iconst dL_passes_301 (v := 4) rfl ?_
          refine z_icmp_ne dL_passes_302 (tgt := 331) (by decide) (fun h302 => by first | exact absurd (rfl) h302 | exact absurd h302 (rfl)) (fun h302 => ?_)
          refine z_iload dL_passes_305 10 rfl ?_
          refine z_aload_n dL_passes_307 0 rfl ?_
          refine z_bipush dL_passes_308 (v := 6) (by decide +kernel) ?_
          refine z_callVF (d := 7) (As := [_]) c_X4_count rfl l_L_9 rfl rfl rfl (Nat.le_of_ble_eq_true rfl) ⟨Nat.le_of_ble_eq_true rfl, Nat.le_of_ble_eq_true rfl⟩ dL_passes_310 cp ?_
          refine z_icmp_le dL_passes_313 (tgt := 331) (by decide) (fun h313 => ?_) (fun h313 => ?_)
          · --t
            exact nx _ _ _ _ _
          · --f
            refine z_aload_n dL_passes_316 0 rfl ?_
            refine z_iload dL_passes_317 6 rfl ?_
            refine z_iload dL_passes_319 7 rfl ?_
            refine z_iconst dL_passes_321 (v := 3) rfl ?_
            refine z_callVF (d := 7) (As := [_, _, _]) c_X4_of rfl l_L_15 rfl rfl rfl (Nat.le_of_ble_eq_true rfl) ⟨Nat.le_of_ble_eq_true rfl, Nat.le_of_ble_eq_true rfl⟩ dL_passes_322 d3 ?_
            refine z_iconst dL_passes_325 (v := 1) rfl ?_
            refine z_icmp_eq dL_passes_326 (tgt := 331) (by decide) (fun h326 => ?_) (fun h326 => by first | exact absurd (hst h313) h326 | exact absurd h326 (hst h313))
            exact nx _ _ _ _ _
        · have hv : (N.2 t).2.1 k = 0 ∨ (N.2 t).2.1 k = 1 ∨ (N.2 t).2.1 k = 2 := by
            rcases (hWT.2.2 k hk).1 with z | z | z | z | z
            · exact Or.inl z
            · exact Or.inr (Or.inl z)
            · exact Or.inr (Or.inr z)
            · exact absurd z h3
            · exact absurd z h4
          have hlt : k < tsz (N.2 t) := by
            unfold knB at hkn
            rw [beq_eq_false_iff_ne.mpr h3, Bool.or_false, decide_eq_true_iff] at hkn
            exact hkn
          obtain ⟨y1, y2, y3⟩ := wk_o (p := N.1 0) hk h3 h4
          rw [← eT] at y1 y2
          have hkn' : knB (N'.2 t) k = true := kn_lt (by rw [hsz]; exact hlt)
          have d0 := q_of0 (G := G) hW' hS' ht' hk hkn'
          have d1 := q_of1 (G := G) hW' hS' ht' hk hkn'
          rw [y1] at d0
          rw [y2, w2 hv] at d1
          rw [w2 hv] at g2
          have hge : ¬ (N.2 t).2.1 k < 0 := by rcases hv with z | z | z <;> rw [z] <;> decide
          refine z_iload dL_passes_141 5 rfl ?_
          refine z_bipush dL_passes_143 (v := 16) (by decide +kernel) ?_
          refine z_iload dL_passes_145 3 rfl ?_
          refine z_imul dL_passes_147 ?_
          rw [em]
          refine z_icmp_ge dL_passes_148 (tgt := 337) (by decide) (fun h148 => by first | exact absurd (b148) h148 | exact absurd h148 (b148)) (fun h148 => ?_)
          refine z_iload dL_passes_151 4 rfl ?_
          refine z_if_ne dL_passes_153 (tgt := 337) (by decide) (fun h153 => by first | exact absurd (rfl) h153 | exact absurd h153 (rfl)) (fun h153 => ?_)
          refine z_iload dL_passes_156 5 rfl ?_
          refine z_bipush dL_passes_158 (v := 16) (by decide +kernel) ?_
          refine z_idiv dL_passes_160 (by decide) ?_
          rw [ed]
          refine z_istore (lo2 := [(0, _), (1, _), (2, _), (4, _), (6, _), (7, _), (8, _)]) dL_passes_161 (Nat.le_of_ble_eq_true rfl) [1, 2, 3, 4, 5, 6, 0] rfl ?_
          refine z_iload dL_passes_163 5 rfl ?_
          refine z_bipush dL_passes_165 (v := 16) (by decide +kernel) ?_
          refine z_irem dL_passes_167 (by decide) ?_
          rw [er]
          refine z_istore (lo2 := [(0, _), (1, _), (2, _), (4, _), (6, _), (7, _), (8, _), (9, _)]) dL_passes_168 (Nat.le_of_ble_eq_true rfl) [1, 2, 3, 4, 5, 6, 7, 0] rfl ?_
          refine z_aloadr_n dL_passes_170 1 rfl ?_
          refine z_iload dL_passes_171 5 rfl ?_
          refine z_iald (j := x) (j0 := 0) rfl rfl hx64 (by decide) dL_passes_173 ?_
          rw [g1]
          refine z_iconst dL_passes_174 (v := 3) rfl ?_
          refine z_icmp_ne dL_passes_175 (tgt := 190) (by decide) (fun h175 => ?_) (fun h175 => by first | exact absurd (h3) h175 | exact absurd h175 (h3))
          refine z_iconst dL_passes_190 (v := 0) rfl ?_
          refine z_istore (lo2 := [(0, _), (1, _), (2, _), (4, _), (6, _), (7, _), (8, _), (9, _), (10, _)]) dL_passes_191 (Nat.le_of_ble_eq_true rfl) [1, 2, 3, 4, 5, 6, 7, 8, 0] rfl ?_
          refine z_iload dL_passes_193 8 rfl ?_
          refine z_if_eq dL_passes_195 (tgt := 218) (by decide) (fun h195 => ?_) (fun h195 => by first | exact absurd (rfl) h195 | exact absurd h195 (rfl))
          refine z_aloadr_n dL_passes_218 1 rfl ?_
          refine z_iload dL_passes_219 5 rfl ?_
          refine z_iald (j := x) (j0 := 0) rfl rfl hx64 (by decide) dL_passes_221 ?_
          rw [g1]
          refine z_istore (lo2 := [(0, _), (1, _), (2, _), (4, _), (6, _), (7, _), (8, _), (9, _), (10, _), (11, _)]) dL_passes_222 (Nat.le_of_ble_eq_true rfl) [1, 2, 3, 4, 5, 6, 7, 8, 9, 0] rfl ?_
          refine z_aloadr_n dL_passes_224 1 rfl ?_
          refine z_iload dL_passes_225 5 rfl ?_
          refine z_iald (j := x) (j0 := 0) rfl rfl hx64 (by decide) dL_passes_227 ?_
          rw [g1]
          refine z_iconst dL_passes_228 (v := 3) rfl ?_
          refine z_icmp_ne dL_passes_229 (tgt := 246) (by decide) (fun h229 => ?_) (fun h229 => by first | exact absurd (h3) h229 | exact absurd h229 (h3))
          refine z_aloadr_n dL_passes_246 1 rfl ?_
          refine z_iload dL_passes_247 5 rfl ?_
          refine z_iald (j := x) (j0 := 0) rfl rfl hx64 (by decide) dL_passes_249 ?_
          rw [g1]
          refine z_iconst dL_passes_250 (v := 4) rfl ?_
          refine z_icmp_ne dL_passes_251 (tgt := 263) (by decide) (fun h251 => ?_) (fun h251 => by first | exact absurd (h4) h251 | exact absurd h251 (h4))
          refine z_iconst dL_passes_263 (v := 0) rfl ?_
          refine z_istore (lo2 := [(0, _), (1, _), (2, _), (4, _), (6, _), (7, _), (8, _), (9, _), (10, _), (11, _), (12, _)]) dL_passes_264 (Nat.le_of_ble_eq_true rfl) [1, 2, 3, 4, 5, 6, 7, 8, 9, 10, 0] rfl ?_
          refine z_aload_n dL_passes_266 0 rfl ?_
          refine z_iload dL_passes_267 6 rfl ?_
          refine z_iload dL_passes_269 7 rfl ?_
          refine z_iconst dL_passes_271 (v := 0) rfl ?_
          refine z_callVF (d := 7) (As := [_, _, _]) c_X4_of rfl l_L_15 rfl rfl rfl (Nat.le_of_ble_eq_true rfl) ⟨Nat.le_of_ble_eq_true rfl, Nat.le_of_ble_eq_true rfl⟩ dL_passes_272 d0 ?_
          refine z_iload dL_passes_275 9 rfl ?_
          refine z_icmp_ne dL_passes_277 (tgt := 329) (by decide) (fun h277 => by first | exact absurd (rfl) h277 | exact absurd h277 (rfl)) (fun h277 => ?_)
          refine z_iload dL_passes_280 9 rfl ?_
          refine z_if_lt dL_passes_282 (tgt := 299) (by decide) (fun h282 => by first | exact absurd (hge) h282 | exact absurd h282 (hge)) (fun h282 => ?_)
          refine z_aload_n dL_passes_285 0 rfl ?_
          refine z_iload dL_passes_286 6 rfl ?_
          refine z_iload dL_passes_288 7 rfl ?_
          refine z_iconst dL_passes_290 (v := 1) rfl ?_
          refine z_callVF (d := 7) (As := [_, _, _]) c_X4_of rfl l_L_15 rfl rfl rfl (Nat.le_of_ble_eq_true rfl) ⟨Nat.le_of_ble_eq_true rfl, Nat.le_of_ble_eq_true rfl⟩ dL_passes_291 d1 ?_
          refine z_iload dL_passes_294 10 rfl ?_
          refine z_icmp_ne dL_passes_296 (tgt := 329) (by decide) (fun h296 => by first | exact absurd (rfl) h296 | exact absurd h296 (rfl)) (fun h296 => ?_)
          refine z_iload dL_passes_299 9 rfl ?_
          refine z_iconst dL_passes_301 (v := 4) rfl ?_
          refine z_icmp_ne dL_passes_302 (tgt := 331) (by decide) (fun h302 => ?_) (fun h302 => by first | exact absurd (h4) h302 | exact absurd h302 (h4))
          exact nx _ _ _ _ _
theorem t_L_passes (hN : NI N b) (hb : b ≤ 900) (hS : LI S N) : CallL G 8 240 2 128 M_L_passes [rv G 0] S (fun v u => v = some 1 ∧ ∃ N', NI N' (b + 3) ∧ LI u N') := by
  refine callL_of (lo := [(0, rv G 0)]) (by decide +kernel) (Nat.le_of_ble_eq_true rfl) rfl ?_
  have hW := hN.1
  obtain ⟨hc, hc5⟩ := hW.cn
  have c0 : Call G 7 M_X4_count [rv G 0, .int 0] S (fun v u => v = some (N.1 2) ∧ u = S) := q_cnt hW hS (fun n => rfl)
  have c1 : Call G 7 M_X4_count [rv G 0, .int 1] S (fun v u => v = some (nI (cnt N)) ∧ u = S) := q_cnt hW hS (fun n => hc)
  have c2 : Call G 7 M_X4_count [rv G 0, .int 2] S (fun v u => v = some (sumN (fun T => T.1 3) N (cnt N)) ∧ u = S) := q_cnt hW hS (fun n => rfl)
  have cp := k_pass (G := G) hW hS (x := 1)
  have hN' := ni_pas hN hb
  rw [pas_1 hN hb] at cp
  obtain ⟨j, hj, ej, hz⟩ := ans_j (N := N) (cnt N)
  have esum : sumN (fun T => T.1 3) (addM (trM N (cnt N)) 1) (cnt N) = sumN (fun T => T.1 3) N (cnt N) + nI j := by rw [sum_m _ (Nat.le_refl _), ej]
  have eT : ∀ t, t < cnt N → (addM (trM N (cnt N)) 1).2 t = (minT (N.2 t) (N.1 0) (N.1 1)).2 := fun t ht => if_pos ht
  have e2 : (addM (trM N (cnt N)) 1).1 2 = N.1 2 + 1 := by show upd N.1 2 (N.1 2 + 1) 2 = _; rw [upd, if_pos rfl]
  have e0 : (addM (trM N (cnt N)) 1).1 0 = N.1 0 := rfl
  have ec : cnt (addM (trM N (cnt N)) 1) = cnt N := rfl
  rw [ej] at cp
  generalize addM (trM N (cnt N)) 1 = N' at cp hN' esum eT e2 e0 ec
  have hW' := hN'.1
  have b109 : ¬ nI j < 0 := nI_pos (by omega)
  have main : ∀ (many q1 q2 : Nat) (f1 f2 : Nat → Int32), many ≤ cnt N → many ≤ 4 → Lt G 8 240 2 128 M_L_passes (fun v u => v = some 1 ∧ ∃ N', NI N' (b + 3) ∧ LI u N') 39 [(0, rv G 0), (1, .ref q1), (2, .ref q2), (3, .int (N.1 2)), (4, .int (nI many)), (5, .int (nI 0))] [] (S, [(q1, 64, f1), (q2, 64, f2)], 2, 128) := by
    intro many q1 q2 f1 f2 hm hm4
    refine lp_pas1 hN hS hm hm4 (fun f1 f2 hf => ?_) (16 * many) 0 f1 f2 (by omega) (fun y hy => absurd hy (by omega))
    have em : 16 * nI many = nI (16 * many) := pk_mul 16 many
    have st : ∀ (u : mS), LI u N' → Lt G 8 240 2 128 M_L_passes (fun v u => v = some 1 ∧ ∃ N', NI N' (b + 3) ∧ LI u N') 141 [(0, rv G 0), (1, .ref q1), (2, .ref q2), (4, .int (nI many)), (6, .int (nI j)), (7, .int (nI 0))] [] (u, [(q1, 64, f1), (q2, 64, f2)], 2, 128) := by
      intro u hS'
      rcases Nat.eq_zero_or_pos j with z | z
      · subst z
        exact lp_pas2 hN hW' hS' ec hm hm4 (fun t ht => (eT t ht).trans (hz rfl t ht)) e0 hf ⟨rfl, N', hN', hS'⟩ (16 * many) 0 (by omega)
      · have hne : nI j ≠ 0 := nI_ne0 z (by omega)
        refine z_iload dL_passes_141 5 rfl ?_
        refine z_bipush dL_passes_143 (v := 16) (by decide +kernel) ?_
        refine z_iload dL_passes_145 3 rfl ?_
        refine z_imul dL_passes_147 ?_
        refine z_icmp_ge dL_passes_148 (tgt := 337) (by decide) (fun h148 => ?_) (fun h148 => ?_)
        · --t
          refine z_iconst dL_passes_337 (v := 1) rfl ?_
          refine z_zret rfl (by first | rfl | decide) dL_passes_338 ?_
          exact ⟨rfl, N', hN', hS'⟩
        · --f
          refine z_iload dL_passes_151 4 rfl ?_
          refine z_if_ne dL_passes_153 (tgt := 337) (by decide) (fun h153 => ?_) (fun h153 => by first | exact absurd (hne) h153 | exact absurd h153 (hne))
          refine z_iconst dL_passes_337 (v := 1) rfl ?_
          refine z_zret rfl (by first | rfl | decide) dL_passes_338 ?_
          exact ⟨rfl, N', hN', hS'⟩
    refine z_aload_n dL_passes_93 0 rfl ?_
    refine z_iconst dL_passes_94 (v := 2) rfl ?_
    refine z_callVF (d := 7) (As := [_]) c_X4_count rfl l_L_9 rfl rfl rfl (Nat.le_of_ble_eq_true rfl) ⟨Nat.le_of_ble_eq_true rfl, Nat.le_of_ble_eq_true rfl⟩ dL_passes_95 c2 ?_
    refine z_istore (lo2 := [(0, _), (1, _), (2, _), (3, _), (4, _), (5, _)]) dL_passes_98 (Nat.le_of_ble_eq_true rfl) [1, 2, 3, 4, 5, 0] rfl ?_
    refine z_aload_n dL_passes_100 0 rfl ?_
    refine z_iconst dL_passes_101 (v := 1) rfl ?_
    refine z_callV (d := 7) (As := [_]) c_X4_pass rfl l_L_37 rfl rfl rfl (Nat.le_of_ble_eq_true rfl) ⟨Nat.le_of_ble_eq_true rfl, Nat.le_of_ble_eq_true rfl⟩ dL_passes_102 cp (fun r102 u102 q102 => ?_)
    obtain ⟨z, hS'⟩ := q102
    cases z
    have d2 : Call G 7 M_X4_count [rv G 0, .int 2] u102 (fun v w => v = some (sumN (fun T => T.1 3) N (cnt N) + nI j) ∧ w = u102) := q_cnt hW' hS' (fun n => by show sumN (fun T => T.1 3) N' (cnt N') = _; rw [ec]; exact esum)
    have d0 : Call G 7 M_X4_count [rv G 0, .int 0] u102 (fun v w => v = some (N'.1 2) ∧ w = u102) := q_cnt hW' hS' (fun n => rfl)
    refine z_istore (lo2 := [(0, _), (1, _), (2, _), (3, _), (4, _), (5, _), (6, _)]) dL_passes_105 (Nat.le_of_ble_eq_true rfl) [1, 2, 3, 4, 5, 6, 0] rfl ?_
    refine z_iload dL_passes_107 6 rfl ?_
    refine z_if_lt dL_passes_109 (tgt := 136) (by decide) (fun h109 => by first | exact absurd (b109) h109 | exact absurd h109 (b109)) (fun h109 => ?_)
    refine z_aload_n dL_passes_112 0 rfl ?_
    refine z_iconst dL_passes_113 (v := 2) rfl ?_
    refine z_callVF (d := 7) (As := [_]) c_X4_count rfl l_L_9 rfl rfl rfl (Nat.le_of_ble_eq_true rfl) ⟨Nat.le_of_ble_eq_true rfl, Nat.le_of_ble_eq_true rfl⟩ dL_passes_114 d2 ?_
    refine z_iload dL_passes_117 5 rfl ?_
    refine z_iload dL_passes_119 6 rfl ?_
    refine z_iadd dL_passes_121 ?_
    refine z_icmp_ne dL_passes_122 (tgt := 136) (by decide) (fun h122 => by first | exact absurd (rfl) h122 | exact absurd h122 (rfl)) (fun h122 => ?_)
    refine z_aload_n dL_passes_125 0 rfl ?_
    refine z_iconst dL_passes_126 (v := 0) rfl ?_
    refine z_callVF (d := 7) (As := [_]) c_X4_count rfl l_L_9 rfl rfl rfl (Nat.le_of_ble_eq_true rfl) ⟨Nat.le_of_ble_eq_true rfl, Nat.le_of_ble_eq_true rfl⟩ dL_passes_127 d0 ?_
    refine z_iload_n dL_passes_130 3 rfl ?_
    refine z_iconst dL_passes_131 (v := 1) rfl ?_
    refine z_iadd dL_passes_132 ?_
    refine z_icmp_eq dL_passes_133 (tgt := 138) (by decide) (fun h133 => ?_) (fun h133 => by first | exact absurd (e2) h133 | exact absurd h133 (e2))
    refine z_iconst dL_passes_138 (v := 0) rfl ?_
    refine z_istore (lo2 := [(0, _), (1, _), (2, _), (3, _), (4, _), (5, _), (6, _), (7, _)]) dL_passes_139 (Nat.le_of_ble_eq_true rfl) [1, 2, 3, 4, 5, 6, 7, 0] rfl ?_
    exact z_sub [0, 1, 2, 4, 6, 7] rfl (st _ hS')
  refine z_bipush dL_passes_0 (v := 64) (by decide +kernel) ?_
  refine z_newa (N := 64) rfl (by decide) a_int (show 0 + 1 ≤ 2 by omega) (show 0 + 64 ≤ 128 by omega) dL_passes_2 ?_
  intro q1
  refine z_astorer_n (lo2 := [(0, _), (1, _)]) dL_passes_4 rfl (Nat.le_of_ble_eq_true rfl) [1, 0] rfl ?_
  refine z_bipush dL_passes_5 (v := 64) (by decide +kernel) ?_
  refine z_newa (N := 64) rfl (by decide) a_int (show 0 + 1 + 1 ≤ 2 by omega) (show 0 + 64 + 64 ≤ 128 by omega) dL_passes_7 ?_
  intro q2
  refine z_astorer_n (lo2 := [(0, _), (1, _), (2, _)]) dL_passes_9 rfl (Nat.le_of_ble_eq_true rfl) [1, 2, 0] rfl ?_
  refine z_aload_n dL_passes_10 0 rfl ?_
  refine z_iconst dL_passes_11 (v := 0) rfl ?_
  refine z_callVF (d := 7) (As := [_]) c_X4_count rfl l_L_9 rfl rfl rfl (Nat.le_of_ble_eq_true rfl) ⟨Nat.le_of_ble_eq_true rfl, Nat.le_of_ble_eq_true rfl⟩ dL_passes_12 c0 ?_
  refine z_istore_n (lo2 := [(0, _), (1, _), (2, _), (3, _)]) dL_passes_15 rfl (Nat.le_of_ble_eq_true rfl) [1, 2, 3, 0] rfl ?_
  refine z_aload_n dL_passes_16 0 rfl ?_
  refine z_iconst dL_passes_17 (v := 1) rfl ?_
  refine z_callVF (d := 7) (As := [_]) c_X4_count rfl l_L_9 rfl rfl rfl (Nat.le_of_ble_eq_true rfl) ⟨Nat.le_of_ble_eq_true rfl, Nat.le_of_ble_eq_true rfl⟩ dL_passes_18 c1 ?_
  refine z_iconst dL_passes_21 (v := 4) rfl ?_
  refine z_icmp_ge dL_passes_22 (tgt := 33) (by decide) (fun h22 => ?_) (fun h22 => ?_)
  · --t
    refine z_iconst dL_passes_33 (v := 4) rfl ?_
    refine z_istore (lo2 := [(0, _), (1, _), (2, _), (3, _), (4, _)]) dL_passes_34 (Nat.le_of_ble_eq_true rfl) [1, 2, 3, 4, 0] rfl ?_
    refine z_iconst dL_passes_36 (v := 0) rfl ?_
    refine z_istore (lo2 := [(0, _), (1, _), (2, _), (3, _), (4, _), (5, _)]) dL_passes_37 (Nat.le_of_ble_eq_true rfl) [1, 2, 3, 4, 5, 0] rfl ?_
    first
      | exact main 4 q1 q2 _ _ (by rw [show (4 : Int32) = nI 4 from rfl, nI_leI (by omega) (by omega)] at h22; exact h22) (by omega)
      | exact main (cnt N) q1 q2 _ _ (Nat.le_refl _) (by rw [show (4 : Int32) = nI 4 from rfl, nI_leI (by omega) (by omega)] at h22; omega)
  · --f
    refine z_aload_n dL_passes_25 0 rfl ?_
    refine z_iconst dL_passes_26 (v := 1) rfl ?_
    refine z_callVF (d := 7) (As := [_]) c_X4_count rfl l_L_9 rfl rfl rfl (Nat.le_of_ble_eq_true rfl) ⟨Nat.le_of_ble_eq_true rfl, Nat.le_of_ble_eq_true rfl⟩ dL_passes_27 c1 ?_
    refine z_goto dL_passes_30 (tgt := 34) (by decide) ?_
    refine z_istore (lo2 := [(0, _), (1, _), (2, _), (3, _), (4, _)]) dL_passes_34 (Nat.le_of_ble_eq_true rfl) [1, 2, 3, 4, 0] rfl ?_
    refine z_iconst dL_passes_36 (v := 0) rfl ?_
    refine z_istore (lo2 := [(0, _), (1, _), (2, _), (3, _), (4, _), (5, _)]) dL_passes_37 (Nat.le_of_ble_eq_true rfl) [1, 2, 3, 4, 5, 0] rfl ?_
    first
      | exact main 4 q1 q2 _ _ (by rw [show (4 : Int32) = nI 4 from rfl, nI_leI (by omega) (by omega)] at h22; exact h22) (by omega)
      | exact main (cnt N) q1 q2 _ _ (Nat.le_refl _) (by rw [show (4 : Int32) = nI 4 from rfl, nI_leI (by omega) (by omega)] at h22; omega)
end PASSES
end
