/-! ===== BEGIN words of one list among another's, by their places ===== -/
theorem goodIn_r {big : List Cond} (ws : List Cond) (ps : List Nat) (hp : ws = ps.filterMap (fun i => big[i]?)) (h : ws.all goodWord = true) : GoodIn big ws := by
  intro w hw
  have h1 := List.all_eq_true.mp h w hw
  rw [hp] at hw
  obtain ⟨i, -, hi⟩ := List.mem_filterMap.mp hw
  have hm : w ∈ big := by first | exact List.mem_of_getElem? hi | exact List.getElem?_mem hi
  exact ⟨hm, good_of_word h1⟩
theorem goodIn_app {big a b : List Cond} (ha : GoodIn big a) (hb : GoodIn big b) : GoodIn big (a ++ b) := fun w h => (List.mem_append.mp h).elim (ha w) (hb w)
theorem goodIn_ca {big a b : List Cond} {c : Cond} (ha : GoodIn big (c :: a)) (hb : GoodIn big b) : GoodIn big (c :: (a ++ b)) := fun w h => (List.mem_cons.mp h).elim (fun e => ha w (List.mem_cons.mpr (Or.inl e))) (fun h => (List.mem_append.mp h).elim (fun h => ha w (List.mem_cons.mpr (Or.inr h))) (hb w))
theorem goodIn_sub {big ws : List Cond} (hm : ∀ w ∈ ws, w ∈ big) (h : ws.all goodWord = true) : GoodIn big ws := fun w hw => ⟨hm w hw, good_of_word (List.all_eq_true.mp h w hw)⟩
/-! ===== END ===== -/

/-! ===== BEGIN printed: names, fields, word lists, decode rows ===== -/
def RX0 : String := "BentPins$History"
def TX0 : u_T := fun k => match k with
  | 0 => ("BentPins$History", "states", "[LBentPins$Table;", true)
  | _ => ("BentPins$History", "size", "I", false)
def tyX0 : Nat → FieldType := fun k => match k with
  | 0 => .array (.object "BentPins$Table")
  | _ => .int
abbrev wsX00 : List Cond := u_ws RX0 TX0 2
theorem nmX0 : ∀ a, a < 2 → ∀ b, b < 2 → a ≠ b → (TX0 a).2.1 ≠ (TX0 b).2.1 := by decide +kernel
theorem tyX0_ok : ∀ k, k < 2 → parseFieldDescriptor (TX0 k).2.2.1 = some (tyX0 k) := by decide +kernel
abbrev cX0_init : ByteArray := prog_2_method_1_code
def yX0_init : MethodName := ⟨RX0, "<init>", "()V"⟩
abbrev cX0_record : ByteArray := prog_2_method_2_code
def yX0_record : MethodName := ⟨RX0, "record", "(LBentPins$Table;)V"⟩
abbrev cX0_takeBack : ByteArray := prog_2_method_3_code
def yX0_takeBack : MethodName := ⟨RX0, "takeBack", "(LBentPins$Table;)V"⟩
abbrev cX0_stateAt : ByteArray := prog_2_method_4_code
def yX0_stateAt : MethodName := ⟨RX0, "stateAt", "(I)LBentPins$Table;"⟩
abbrev cX0_dropOldest : ByteArray := prog_2_method_5_code
def yX0_dropOldest : MethodName := ⟨RX0, "dropOldest", "()V"⟩
def RX1 : String := "BentPins$Pad"
def TX1 : u_T := fun k => match k with
  | 0 => ("BentPins$Pad", "codes", "LBentPins$Row;", true)
  | _ => ("BentPins$Pad", "length", "I", false)
def tyX1 : Nat → FieldType := fun k => match k with
  | 0 => .object "BentPins$Row"
  | _ => .int
abbrev wsX10 : List Cond := u_ws RX1 TX1 2
theorem nmX1 : ∀ a, a < 2 → ∀ b, b < 2 → a ≠ b → (TX1 a).2.1 ≠ (TX1 b).2.1 := by decide +kernel
theorem tyX1_ok : ∀ k, k < 2 → parseFieldDescriptor (TX1 k).2.2.1 = some (tyX1 k) := by decide +kernel
abbrev cX1_init : ByteArray := prog_3_method_1_code
def yX1_init : MethodName := ⟨RX1, "<init>", "()V"⟩
abbrev cX1_write : ByteArray := prog_3_method_2_code
def yX1_write : MethodName := ⟨RX1, "write", "(I)V"⟩
abbrev cX1_wipe : ByteArray := prog_3_method_3_code
def yX1_wipe : MethodName := ⟨RX1, "wipe", "()V"⟩
abbrev cX1_codeAt : ByteArray := prog_3_method_4_code
def yX1_codeAt : MethodName := ⟨RX1, "codeAt", "(I)I"⟩
abbrev cX1_faultAsBoard : ByteArray := prog_3_method_5_code
def yX1_faultAsBoard : MethodName := ⟨RX1, "faultAsBoard", "()I"⟩
abbrev cX1_faultAsShots : ByteArray := prog_3_method_6_code
def yX1_faultAsShots : MethodName := ⟨RX1, "faultAsShots", "()I"⟩
abbrev cX1_isPinSign : ByteArray := prog_3_method_7_code
def yX1_isPinSign : MethodName := ⟨RX1, "isPinSign", "(I)Z"⟩
abbrev cX1_isPlace : ByteArray := prog_3_method_8_code
def yX1_isPlace : MethodName := ⟨RX1, "isPlace", "(I)Z"⟩
abbrev cX1_mayFollow : ByteArray := prog_3_method_9_code
def yX1_mayFollow : MethodName := ⟨RX1, "mayFollow", "(II)Z"⟩
def RX2 : String := "BentPins$Pins"
def TX2 : u_T := fun k => match k with
  | 0 => ("BentPins$Pins", "bends", "LBentPins$Row;", true)
  | 1 => ("BentPins$Pins", "outs", "LBentPins$Row;", true)
  | 2 => ("BentPins$Pins", "bells", "LBentPins$Row;", true)
  | 3 => ("BentPins$Pins", "sides", "LBentPins$Row;", true)
  | 4 => ("BentPins$Pins", "visits", "LBentPins$Row;", true)
  | 5 => ("BentPins$Pins", "tilt", "I", false)
  | 6 => ("BentPins$Pins", "rings", "I", false)
  | _ => ("BentPins$Pins", "bendsByBalls", "I", false)
def tyX2 : Nat → FieldType := fun k => match k with
  | 0 => .object "BentPins$Row"
  | 1 => .object "BentPins$Row"
  | 2 => .object "BentPins$Row"
  | 3 => .object "BentPins$Row"
  | 4 => .object "BentPins$Row"
  | 5 => .int
  | 6 => .int
  | _ => .int
abbrev wsX20 : List Cond := u_ws RX2 TX2 8
theorem nmX2 : ∀ a, a < 8 → ∀ b, b < 8 → a ≠ b → (TX2 a).2.1 ≠ (TX2 b).2.1 := by decide +kernel
theorem tyX2_ok : ∀ k, k < 8 → parseFieldDescriptor (TX2 k).2.2.1 = some (tyX2 k) := by decide +kernel
abbrev cX2_init : ByteArray := prog_4_method_1_code
def yX2_init : MethodName := ⟨RX2, "<init>", "()V"⟩
abbrev cX2_copyFrom : ByteArray := prog_4_method_2_code
def yX2_copyFrom : MethodName := ⟨RX2, "copyFrom", "(LBentPins$Pins;)V"⟩
abbrev cX2_isOut : ByteArray := prog_4_method_3_code
def yX2_isOut : MethodName := ⟨RX2, "isOut", "(I)Z"⟩
abbrev cX2_pulledOut : ByteArray := prog_4_method_4_code
def yX2_pulledOut : MethodName := ⟨RX2, "pulledOut", "()I"⟩
abbrev cX2_allPins : ByteArray := prog_4_method_5_code
def yX2_allPins : MethodName := ⟨RX2, "allPins", "()I"⟩
abbrev cX2_allBells : ByteArray := prog_4_method_6_code
def yX2_allBells : MethodName := ⟨RX2, "allBells", "()I"⟩
abbrev cX2_straightOnes : ByteArray := prog_4_method_7_code
def yX2_straightOnes : MethodName := ⟨RX2, "straightOnes", "()I"⟩
abbrev cX2_bendsTogether : ByteArray := prog_4_method_8_code
def yX2_bendsTogether : MethodName := ⟨RX2, "bendsTogether", "()I"⟩
abbrev cX2_pullOrSet : ByteArray := prog_4_method_9_code
def yX2_pullOrSet : MethodName := ⟨RX2, "pullOrSet", "(I)V"⟩
abbrev cX2_hangOrTakeBell : ByteArray := prog_4_method_10_code
def yX2_hangOrTakeBell : MethodName := ⟨RX2, "hangOrTakeBell", "(I)V"⟩
abbrev cX2_canBend : ByteArray := prog_4_method_11_code
def yX2_canBend : MethodName := ⟨RX2, "canBend", "(II)Z"⟩
abbrev cX2_bendBy : ByteArray := prog_4_method_12_code
def yX2_bendBy : MethodName := ⟨RX2, "bendBy", "(II)V"⟩
abbrev cX2_leanOf : ByteArray := prog_4_method_13_code
def yX2_leanOf : MethodName := ⟨RX2, "leanOf", "(I)I"⟩
abbrev cX2_nextPlaces : ByteArray := prog_4_method_14_code
def yX2_nextPlaces : MethodName := ⟨RX2, "nextPlaces", "(I)I"⟩
abbrev cX2_nextDirection : ByteArray := prog_4_method_15_code
def yX2_nextDirection : MethodName := ⟨RX2, "nextDirection", "(I)I"⟩
abbrev cX2_endFrom : ByteArray := prog_4_method_16_code
def yX2_endFrom : MethodName := ⟨RX2, "endFrom", "(I)I"⟩
abbrev cX2_rollBall : ByteArray := prog_4_method_17_code
def yX2_rollBall : MethodName := ⟨RX2, "rollBall", "(IZ)I"⟩
abbrev cX2_meetBall : ByteArray := prog_4_method_18_code
def yX2_meetBall : MethodName := ⟨RX2, "meetBall", "(IIZ)V"⟩
abbrev cX2_readSign : ByteArray := prog_4_method_19_code
def yX2_readSign : MethodName := ⟨RX2, "readSign", "(II)V"⟩
abbrev cX2_signOf : ByteArray := prog_4_method_20_code
def yX2_signOf : MethodName := ⟨RX2, "signOf", "(I)I"⟩
def RX3 : String := "BentPins$Roads"
def TX3 : u_T := fun k => match k with
  | 0 => ("BentPins$Roads", "waysHere", "LBentPins$Row;", true)
  | _ => ("BentPins$Roads", "waysBelow", "LBentPins$Row;", true)
def tyX3 : Nat → FieldType := fun k => match k with
  | 0 => .object "BentPins$Row"
  | _ => .object "BentPins$Row"
abbrev wsX30 : List Cond := u_ws RX3 TX3 2
theorem nmX3 : ∀ a, a < 2 → ∀ b, b < 2 → a ≠ b → (TX3 a).2.1 ≠ (TX3 b).2.1 := by decide +kernel
theorem tyX3_ok : ∀ k, k < 2 → parseFieldDescriptor (TX3 k).2.2.1 = some (tyX3 k) := by decide +kernel
abbrev cX3_init : ByteArray := prog_5_method_1_code
def yX3_init : MethodName := ⟨RX3, "<init>", "()V"⟩
abbrev cX3_pocketsForward : ByteArray := prog_5_method_2_code
def yX3_pocketsForward : MethodName := ⟨RX3, "pocketsForward", "(LBentPins$Pins;)I"⟩
abbrev cX3_pocketsBackward : ByteArray := prog_5_method_3_code
def yX3_pocketsBackward : MethodName := ⟨RX3, "pocketsBackward", "(LBentPins$Pins;)I"⟩
abbrev cX3_isOpenTo : ByteArray := prog_5_method_4_code
def yX3_isOpenTo : MethodName := ⟨RX3, "isOpenTo", "(LBentPins$Pins;I)Z"⟩
abbrev cX3_placesInRow : ByteArray := prog_5_method_5_code
def yX3_placesInRow : MethodName := ⟨RX3, "placesInRow", "(LBentPins$Pins;I)I"⟩
abbrev cX3_placesBelow : ByteArray := prog_5_method_6_code
def yX3_placesBelow : MethodName := ⟨RX3, "placesBelow", "(LBentPins$Pins;II)I"⟩
abbrev cX3_startsTo : ByteArray := prog_5_method_7_code
def yX3_startsTo : MethodName := ⟨RX3, "startsTo", "(LBentPins$Pins;I)I"⟩
abbrev cX3_placesAbove : ByteArray := prog_5_method_8_code
def yX3_placesAbove : MethodName := ⟨RX3, "placesAbove", "(LBentPins$Pins;II)I"⟩
abbrev cX3_waysRowByRow : ByteArray := prog_5_method_9_code
def yX3_waysRowByRow : MethodName := ⟨RX3, "waysRowByRow", "(LBentPins$Pins;I)I"⟩
abbrev cX3_passWaysOn : ByteArray := prog_5_method_10_code
def yX3_passWaysOn : MethodName := ⟨RX3, "passWaysOn", "(II)V"⟩
def RX4 : String := "BentPins$Row"
def TX4 : u_T := fun k => match k with
  | _ => ("BentPins$Row", "cells", "[I", true)
def tyX4 : Nat → FieldType := fun k => match k with
  | _ => .array .int
abbrev wsX40 : List Cond := u_ws RX4 TX4 1
theorem nmX4 : ∀ a, a < 1 → ∀ b, b < 1 → a ≠ b → (TX4 a).2.1 ≠ (TX4 b).2.1 := by decide +kernel
theorem tyX4_ok : ∀ k, k < 1 → parseFieldDescriptor (TX4 k).2.2.1 = some (tyX4 k) := by decide +kernel
abbrev cX4_init : ByteArray := prog_6_method_1_code
def yX4_init : MethodName := ⟨RX4, "<init>", "(I)V"⟩
abbrev cX4_at : ByteArray := prog_6_method_2_code
def yX4_at : MethodName := ⟨RX4, "at", "(I)I"⟩
abbrev cX4_put : ByteArray := prog_6_method_3_code
def yX4_put : MethodName := ⟨RX4, "put", "(II)V"⟩
abbrev cX4_raise : ByteArray := prog_6_method_4_code
def yX4_raise : MethodName := ⟨RX4, "raise", "(II)V"⟩
abbrev cX4_fillWith : ByteArray := prog_6_method_5_code
def yX4_fillWith : MethodName := ⟨RX4, "fillWith", "(I)V"⟩
abbrev cX4_copyFrom : ByteArray := prog_6_method_6_code
def yX4_copyFrom : MethodName := ⟨RX4, "copyFrom", "(LBentPins$Row;)V"⟩
abbrev cX4_total : ByteArray := prog_6_method_7_code
def yX4_total : MethodName := ⟨RX4, "total", "()I"⟩
def RX5 : String := "BentPins$Table"
def TX5 : u_T := fun k => match k with
  | 0 => ("BentPins$Table", "pins", "LBentPins$Pins;", true)
  | 1 => ("BentPins$Table", "worths", "LBentPins$Row;", true)
  | 2 => ("BentPins$Table", "held", "LBentPins$Row;", true)
  | 3 => ("BentPins$Table", "ended", "LBentPins$Row;", true)
  | 4 => ("BentPins$Table", "full", "I", false)
  | 5 => ("BentPins$Table", "left", "I", false)
  | 6 => ("BentPins$Table", "lost", "I", false)
  | 7 => ("BentPins$Table", "points", "I", false)
  | 8 => ("BentPins$Table", "shots", "I", false)
  | 9 => ("BentPins$Table", "hardShots", "I", false)
  | _ => ("BentPins$Table", "refusals", "I", false)
def tyX5 : Nat → FieldType := fun k => match k with
  | 0 => .object "BentPins$Pins"
  | 1 => .object "BentPins$Row"
  | 2 => .object "BentPins$Row"
  | 3 => .object "BentPins$Row"
  | 4 => .int
  | 5 => .int
  | 6 => .int
  | 7 => .int
  | 8 => .int
  | 9 => .int
  | _ => .int
abbrev wsX50 : List Cond := u_ws RX5 TX5 11
theorem nmX5 : ∀ a, a < 11 → ∀ b, b < 11 → a ≠ b → (TX5 a).2.1 ≠ (TX5 b).2.1 := by decide +kernel
theorem tyX5_ok : ∀ k, k < 11 → parseFieldDescriptor (TX5 k).2.2.1 = some (tyX5 k) := by decide +kernel
abbrev cX5_init : ByteArray := prog_7_method_1_code
def yX5_init : MethodName := ⟨RX5, "<init>", "()V"⟩
abbrev cX5_copyFrom : ByteArray := prog_7_method_2_code
def yX5_copyFrom : MethodName := ⟨RX5, "copyFrom", "(LBentPins$Table;)V"⟩
abbrev cX5_isFull : ByteArray := prog_7_method_3_code
def yX5_isFull : MethodName := ⟨RX5, "isFull", "(I)Z"⟩
abbrev cX5_fullPockets : ByteArray := prog_7_method_4_code
def yX5_fullPockets : MethodName := ⟨RX5, "fullPockets", "()I"⟩
abbrev cX5_shootBall : ByteArray := prog_7_method_5_code
def yX5_shootBall : MethodName := ⟨RX5, "shootBall", "(IZ)I"⟩
abbrev cX5_takeBall : ByteArray := prog_7_method_6_code
def yX5_takeBall : MethodName := ⟨RX5, "takeBall", "(I)I"⟩
abbrev cX5_bendByHand : ByteArray := prog_7_method_7_code
def yX5_bendByHand : MethodName := ⟨RX5, "bendByHand", "(II)I"⟩
abbrev cX5_emptyPockets : ByteArray := prog_7_method_8_code
def yX5_emptyPockets : MethodName := ⟨RX5, "emptyPockets", "()V"⟩
def RX6 : String := "BentPins"
def TX6 : u_T := fun k => match k with
  | 0 => ("BentPins", "table", "LBentPins$Table;", true)
  | 1 => ("BentPins", "trial", "LBentPins$Table;", true)
  | 2 => ("BentPins", "snapshot", "LBentPins$Table;", true)
  | 3 => ("BentPins", "snapshotTaken", "Z", false)
  | 4 => ("BentPins", "history", "LBentPins$History;", true)
  | 5 => ("BentPins", "roads", "LBentPins$Roads;", true)
  | 6 => ("BentPins", "pad", "LBentPins$Pad;", true)
  | 7 => ("BentPins", "stopReason", "I", false)
  | 8 => ("BentPins", "stopPart", "I", false)
  | _ => ("BentPins", "stopPosition", "I", false)
def tyX6 : Nat → FieldType := fun k => match k with
  | 0 => .object "BentPins$Table"
  | 1 => .object "BentPins$Table"
  | 2 => .object "BentPins$Table"
  | 3 => .boolean
  | 4 => .object "BentPins$History"
  | 5 => .object "BentPins$Roads"
  | 6 => .object "BentPins$Pad"
  | 7 => .int
  | 8 => .int
  | _ => .int
abbrev wsX60 : List Cond := u_ws RX6 TX6 10
theorem nmX6 : ∀ a, a < 10 → ∀ b, b < 10 → a ≠ b → (TX6 a).2.1 ≠ (TX6 b).2.1 := by decide +kernel
theorem tyX6_ok : ∀ k, k < 10 → parseFieldDescriptor (TX6 k).2.2.1 = some (tyX6 k) := by decide +kernel
abbrev cX6_init : ByteArray := prog_1_method_1_code
def yX6_init : MethodName := ⟨RX6, "<init>", "()V"⟩
abbrev cX6_shoot : ByteArray := prog_1_method_2_code
def yX6_shoot : MethodName := ⟨RX6, "shoot", "(IZ)I"⟩
abbrev cX6_bend : ByteArray := prog_1_method_3_code
def yX6_bend : MethodName := ⟨RX6, "bend", "(IZ)I"⟩
abbrev cX6_pull : ByteArray := prog_1_method_4_code
def yX6_pull : MethodName := ⟨RX6, "pull", "(I)I"⟩
abbrev cX6_bell : ByteArray := prog_1_method_5_code
def yX6_bell : MethodName := ⟨RX6, "bell", "(I)I"⟩
abbrev cX6_worth : ByteArray := prog_1_method_6_code
def yX6_worth : MethodName := ⟨RX6, "worth", "(II)I"⟩
abbrev cX6_set : ByteArray := prog_1_method_7_code
def yX6_set : MethodName := ⟨RX6, "set", "(II)I"⟩
abbrev cX6_empty : ByteArray := prog_1_method_8_code
def yX6_empty : MethodName := ⟨RX6, "empty", "()I"⟩
abbrev cX6_append : ByteArray := prog_1_method_9_code
def yX6_append : MethodName := ⟨RX6, "append", "(I)I"⟩
abbrev cX6_clear : ByteArray := prog_1_method_10_code
def yX6_clear : MethodName := ⟨RX6, "clear", "()I"⟩
abbrev cX6_fault : ByteArray := prog_1_method_11_code
def yX6_fault : MethodName := ⟨RX6, "fault", "(I)I"⟩
abbrev cX6_board : ByteArray := prog_1_method_12_code
def yX6_board : MethodName := ⟨RX6, "board", "()I"⟩
abbrev cX6_shots : ByteArray := prog_1_method_13_code
def yX6_shots : MethodName := ⟨RX6, "shots", "()I"⟩
abbrev cX6_why : ByteArray := prog_1_method_14_code
def yX6_why : MethodName := ⟨RX6, "why", "(I)I"⟩
abbrev cX6_sign : ByteArray := prog_1_method_15_code
def yX6_sign : MethodName := ⟨RX6, "sign", "(I)I"⟩
abbrev cX6_pin : ByteArray := prog_1_method_16_code
def yX6_pin : MethodName := ⟨RX6, "pin", "(II)I"⟩
abbrev cX6_pocket : ByteArray := prog_1_method_17_code
def yX6_pocket : MethodName := ⟨RX6, "pocket", "(II)I"⟩
abbrev cX6_reach : ByteArray := prog_1_method_18_code
def yX6_reach : MethodName := ⟨RX6, "reach", "(I)I"⟩
abbrev cX6_ways : ByteArray := prog_1_method_19_code
def yX6_ways : MethodName := ⟨RX6, "ways", "(II)I"⟩
abbrev cX6_count : ByteArray := prog_1_method_20_code
def yX6_count : MethodName := ⟨RX6, "count", "(I)I"⟩
abbrev cX6_mean : ByteArray := prog_1_method_21_code
def yX6_mean : MethodName := ⟨RX6, "mean", "()D"⟩
abbrev cX6_ends : ByteArray := prog_1_method_22_code
def yX6_ends : MethodName := ⟨RX6, "ends", "(I)I"⟩
abbrev cX6_ifShot : ByteArray := prog_1_method_23_code
def yX6_ifShot : MethodName := ⟨RX6, "ifShot", "(IZII)I"⟩
abbrev cX6_best : ByteArray := prog_1_method_24_code
def yX6_best : MethodName := ⟨RX6, "best", "(Z)I"⟩
abbrev cX6_undo : ByteArray := prog_1_method_25_code
def yX6_undo : MethodName := ⟨RX6, "undo", "()I"⟩
abbrev cX6_save : ByteArray := prog_1_method_26_code
def yX6_save : MethodName := ⟨RX6, "save", "()I"⟩
abbrev cX6_restore : ByteArray := prog_1_method_27_code
def yX6_restore : MethodName := ⟨RX6, "restore", "()I"⟩
abbrev cX6_isWithin : ByteArray := prog_1_method_28_code
def yX6_isWithin : MethodName := ⟨RX6, "isWithin", "(III)Z"⟩
abbrev cX6_bit : ByteArray := prog_1_method_29_code
def yX6_bit : MethodName := ⟨RX6, "bit", "(I)I"⟩
abbrev cX6_isIn : ByteArray := prog_1_method_30_code
def yX6_isIn : MethodName := ⟨RX6, "isIn", "(II)Z"⟩
abbrev cX6_pinAt : ByteArray := prog_1_method_31_code
def yX6_pinAt : MethodName := ⟨RX6, "pinAt", "(II)I"⟩
abbrev cX6_placeBeside : ByteArray := prog_1_method_32_code
def yX6_placeBeside : MethodName := ⟨RX6, "placeBeside", "(II)I"⟩
abbrev cX6_countSoFar : ByteArray := prog_1_method_33_code
def yX6_countSoFar : MethodName := ⟨RX6, "countSoFar", "(I)I"⟩
abbrev cX6_shootAsThePadTells : ByteArray := prog_1_method_34_code
def yX6_shootAsThePadTells : MethodName := ⟨RX6, "shootAsThePadTells", "()V"⟩
abbrev cX6_noteStop : ByteArray := prog_1_method_35_code
def yX6_noteStop : MethodName := ⟨RX6, "noteStop", "(III)V"⟩
abbrev cX6_waysFromAllPlaces : ByteArray := prog_1_method_36_code
def yX6_waysFromAllPlaces : MethodName := ⟨RX6, "waysFromAllPlaces", "(LBentPins$Pins;I)I"⟩
abbrev cX6_waysFrom : ByteArray := prog_1_method_37_code
def yX6_waysFrom : MethodName := ⟨RX6, "waysFrom", "(LBentPins$Pins;III)I"⟩
def RX7 : String := "BentPinsModel"
def TX7 : u_T := fun k => match k with
  | 0 => ("BentPinsModel", "s", "[I", true)
  | 1 => ("BentPinsModel", "aside", "[I", true)
  | 2 => ("BentPinsModel", "past", "[I", true)
  | 3 => ("BentPinsModel", "known", "I", false)
  | 4 => ("BentPinsModel", "kept", "[I", true)
  | 5 => ("BentPinsModel", "isKept", "Z", false)
  | 6 => ("BentPinsModel", "pad", "[I", true)
  | 7 => ("BentPinsModel", "length", "I", false)
  | 8 => ("BentPinsModel", "bells", "I", false)
  | 9 => ("BentPinsModel", "spot", "I", false)
  | 10 => ("BentPinsModel", "isForm", "Z", false)
  | 11 => ("BentPinsModel", "ofPlace", "I", false)
  | 12 => ("BentPinsModel", "isHard", "Z", false)
  | 13 => ("BentPinsModel", "isStopped", "Z", false)
  | 14 => ("BentPinsModel", "stop", "[I", true)
  | 15 => ("BentPinsModel", "many", "[I", true)
  | _ => ("BentPinsModel", "then", "[I", true)
def tyX7 : Nat → FieldType := fun k => match k with
  | 0 => .array .int
  | 1 => .array .int
  | 2 => .array .int
  | 3 => .int
  | 4 => .array .int
  | 5 => .boolean
  | 6 => .array .int
  | 7 => .int
  | 8 => .int
  | 9 => .int
  | 10 => .boolean
  | 11 => .int
  | 12 => .boolean
  | 13 => .boolean
  | 14 => .array .int
  | 15 => .array .int
  | _ => .array .int
abbrev wsX70 : List Cond := u_ws RX7 TX7 17
theorem nmX7 : ∀ a, a < 17 → ∀ b, b < 17 → a ≠ b → (TX7 a).2.1 ≠ (TX7 b).2.1 := by decide +kernel
theorem tyX7_ok : ∀ k, k < 17 → parseFieldDescriptor (TX7 k).2.2.1 = some (tyX7 k) := by decide +kernel
abbrev cX7_init : ByteArray := prog_9_method_1_code
def yX7_init : MethodName := ⟨RX7, "<init>", "()V"⟩
abbrev cX7_in : ByteArray := prog_9_method_3_code
def yX7_in : MethodName := ⟨RX7, "in", "(III)Z"⟩
abbrev cX7_copies : ByteArray := prog_9_method_4_code
def yX7_copies : MethodName := ⟨RX7, "copies", "([II[II)V"⟩
abbrev cX7_records : ByteArray := prog_9_method_5_code
def yX7_records : MethodName := ⟨RX7, "records", "()V"⟩
abbrev cX7_ones : ByteArray := prog_9_method_6_code
def yX7_ones : MethodName := ⟨RX7, "ones", "(I)I"⟩
abbrev cX7_isPin : ByteArray := prog_9_method_7_code
def yX7_isPin : MethodName := ⟨RX7, "isPin", "(I)Z"⟩
abbrev cX7_isPlace : ByteArray := prog_9_method_8_code
def yX7_isPlace : MethodName := ⟨RX7, "isPlace", "(I)Z"⟩
abbrev cX7_of : ByteArray := prog_9_method_9_code
def yX7_of : MethodName := ⟨RX7, "of", "(II)I"⟩
abbrev cX7_lays : ByteArray := prog_9_method_10_code
def yX7_lays : MethodName := ⟨RX7, "lays", "(III)V"⟩
abbrev cX7_inPocket : ByteArray := prog_9_method_11_code
def yX7_inPocket : MethodName := ⟨RX7, "inPocket", "(II)I"⟩
abbrev cX7_adds : ByteArray := prog_9_method_12_code
def yX7_adds : MethodName := ⟨RX7, "adds", "(III)V"⟩
abbrev cX7_isFull : ByteArray := prog_9_method_13_code
def yX7_isFull : MethodName := ⟨RX7, "isFull", "(I)Z"⟩
abbrev cX7_sends : ByteArray := prog_9_method_14_code
def yX7_sends : MethodName := ⟨RX7, "sends", "(I)I"⟩
abbrev cX7_moved : ByteArray := prog_9_method_15_code
def yX7_moved : MethodName := ⟨RX7, "moved", "(II)I"⟩
abbrev cX7_bends : ByteArray := prog_9_method_16_code
def yX7_bends : MethodName := ⟨RX7, "bends", "(II)V"⟩
abbrev cX7_falls : ByteArray := prog_9_method_17_code
def yX7_falls : MethodName := ⟨RX7, "falls", "(IIZ)I"⟩
abbrev cX7_fallsAll : ByteArray := prog_9_method_18_code
def yX7_fallsAll : MethodName := ⟨RX7, "fallsAll", "(IZ)I"⟩
abbrev cX7_goShoot : ByteArray := prog_9_method_19_code
def yX7_goShoot : MethodName := ⟨RX7, "goShoot", "(IZ)I"⟩
abbrev cX7_goEmpty : ByteArray := prog_9_method_20_code
def yX7_goEmpty : MethodName := ⟨RX7, "goEmpty", "()I"⟩
abbrev cX7_shoot : ByteArray := prog_9_method_21_code
def yX7_shoot : MethodName := ⟨RX7, "shoot", "(IZ)I"⟩
abbrev cX7_bend : ByteArray := prog_9_method_22_code
def yX7_bend : MethodName := ⟨RX7, "bend", "(IZ)I"⟩
abbrev cX7_outOnes : ByteArray := prog_9_method_23_code
def yX7_outOnes : MethodName := ⟨RX7, "outOnes", "()I"⟩
abbrev cX7_pull : ByteArray := prog_9_method_24_code
def yX7_pull : MethodName := ⟨RX7, "pull", "(I)I"⟩
abbrev cX7_allBells : ByteArray := prog_9_method_25_code
def yX7_allBells : MethodName := ⟨RX7, "allBells", "()I"⟩
abbrev cX7_bell : ByteArray := prog_9_method_26_code
def yX7_bell : MethodName := ⟨RX7, "bell", "(I)I"⟩
abbrev cX7_worth : ByteArray := prog_9_method_27_code
def yX7_worth : MethodName := ⟨RX7, "worth", "(II)I"⟩
abbrev cX7_set : ByteArray := prog_9_method_28_code
def yX7_set : MethodName := ⟨RX7, "set", "(II)I"⟩
abbrev cX7_empty : ByteArray := prog_9_method_29_code
def yX7_empty : MethodName := ⟨RX7, "empty", "()I"⟩
abbrev cX7_append : ByteArray := prog_9_method_30_code
def yX7_append : MethodName := ⟨RX7, "append", "(I)I"⟩
abbrev cX7_clear : ByteArray := prog_9_method_31_code
def yX7_clear : MethodName := ⟨RX7, "clear", "()I"⟩
abbrev cX7_here : ByteArray := prog_9_method_32_code
def yX7_here : MethodName := ⟨RX7, "here", "()I"⟩
abbrev cX7_takes : ByteArray := prog_9_method_33_code
def yX7_takes : MethodName := ⟨RX7, "takes", "(Z)V"⟩
abbrev cX7_isSign : ByteArray := prog_9_method_34_code
def yX7_isSign : MethodName := ⟨RX7, "isSign", "(I)Z"⟩
abbrev cX7_isBoard : ByteArray := prog_9_method_35_code
def yX7_isBoard : MethodName := ⟨RX7, "isBoard", "()Z"⟩
abbrev cX7_takesShot : ByteArray := prog_9_method_36_code
def yX7_takesShot : MethodName := ⟨RX7, "takesShot", "()V"⟩
abbrev cX7_areShots : ByteArray := prog_9_method_37_code
def yX7_areShots : MethodName := ⟨RX7, "areShots", "()Z"⟩
abbrev cX7_fault : ByteArray := prog_9_method_38_code
def yX7_fault : MethodName := ⟨RX7, "fault", "(I)I"⟩
abbrev cX7_board : ByteArray := prog_9_method_39_code
def yX7_board : MethodName := ⟨RX7, "board", "()I"⟩
abbrev cX7_shots : ByteArray := prog_9_method_40_code
def yX7_shots : MethodName := ⟨RX7, "shots", "()I"⟩
abbrev cX7_why : ByteArray := prog_9_method_41_code
def yX7_why : MethodName := ⟨RX7, "why", "(I)I"⟩
abbrev cX7_sign : ByteArray := prog_9_method_42_code
def yX7_sign : MethodName := ⟨RX7, "sign", "(I)I"⟩
abbrev cX7_nextOf : ByteArray := prog_9_method_43_code
def yX7_nextOf : MethodName := ⟨RX7, "nextOf", "(II)I"⟩
abbrev cX7_comesTo : ByteArray := prog_9_method_44_code
def yX7_comesTo : MethodName := ⟨RX7, "comesTo", "(II)I"⟩
abbrev cX7_reached : ByteArray := prog_9_method_45_code
def yX7_reached : MethodName := ⟨RX7, "reached", "()I"⟩
abbrev cX7_pin : ByteArray := prog_9_method_46_code
def yX7_pin : MethodName := ⟨RX7, "pin", "(II)I"⟩
abbrev cX7_startsOf : ByteArray := prog_9_method_47_code
def yX7_startsOf : MethodName := ⟨RX7, "startsOf", "(I)I"⟩
abbrev cX7_pocket : ByteArray := prog_9_method_48_code
def yX7_pocket : MethodName := ⟨RX7, "pocket", "(II)I"⟩
abbrev cX7_reach : ByteArray := prog_9_method_49_code
def yX7_reach : MethodName := ⟨RX7, "reach", "(I)I"⟩
abbrev cX7_spreads : ByteArray := prog_9_method_50_code
def yX7_spreads : MethodName := ⟨RX7, "spreads", "(I)V"⟩
abbrev cX7_waysTo : ByteArray := prog_9_method_51_code
def yX7_waysTo : MethodName := ⟨RX7, "waysTo", "(I)I"⟩
abbrev cX7_ways : ByteArray := prog_9_method_52_code
def yX7_ways : MethodName := ⟨RX7, "ways", "(II)I"⟩
abbrev cX7_straightOnes : ByteArray := prog_9_method_53_code
def yX7_straightOnes : MethodName := ⟨RX7, "straightOnes", "()I"⟩
abbrev cX7_allBends : ByteArray := prog_9_method_54_code
def yX7_allBends : MethodName := ⟨RX7, "allBends", "()I"⟩
abbrev cX7_inPockets : ByteArray := prog_9_method_55_code
def yX7_inPockets : MethodName := ⟨RX7, "inPockets", "()I"⟩
abbrev cX7_fullOnes : ByteArray := prog_9_method_56_code
def yX7_fullOnes : MethodName := ⟨RX7, "fullOnes", "()I"⟩
abbrev cX7_count : ByteArray := prog_9_method_57_code
def yX7_count : MethodName := ⟨RX7, "count", "(I)I"⟩
abbrev cX7_mean : ByteArray := prog_9_method_58_code
def yX7_mean : MethodName := ⟨RX7, "mean", "()D"⟩
abbrev cX7_ends : ByteArray := prog_9_method_59_code
def yX7_ends : MethodName := ⟨RX7, "ends", "(I)I"⟩
abbrev cX7_tries : ByteArray := prog_9_method_60_code
def yX7_tries : MethodName := ⟨RX7, "tries", "(IZII)I"⟩
abbrev cX7_ifShot : ByteArray := prog_9_method_61_code
def yX7_ifShot : MethodName := ⟨RX7, "ifShot", "(IZII)I"⟩
abbrev cX7_best : ByteArray := prog_9_method_62_code
def yX7_best : MethodName := ⟨RX7, "best", "(Z)I"⟩
abbrev cX7_undo : ByteArray := prog_9_method_63_code
def yX7_undo : MethodName := ⟨RX7, "undo", "()I"⟩
abbrev cX7_save : ByteArray := prog_9_method_64_code
def yX7_save : MethodName := ⟨RX7, "save", "()I"⟩
abbrev cX7_restore : ByteArray := prog_9_method_65_code
def yX7_restore : MethodName := ⟨RX7, "restore", "()I"⟩
def RJ6 : String := "java/lang/Integer"
def TJ6 : u_T := fun k => match k with
  | _ => ("", "", "", false)
def tyJ6 : Nat → FieldType := fun k => match k with
  | _ => .int
abbrev wsJ60 : List Cond := u_ws RJ6 TJ6 0
theorem nmJ6 : ∀ a, a < 0 → ∀ b, b < 0 → a ≠ b → (TJ6 a).2.1 ≠ (TJ6 b).2.1 := by decide +kernel
theorem tyJ6_ok : ∀ k, k < 0 → parseFieldDescriptor (TJ6 k).2.2.1 = some (tyJ6 k) := by decide +kernel
abbrev cJ6_bitCount_0f7a4 : ByteArray := prog_10_method_49_code
def yJ6_bitCount_0f7a4 : MethodName := ⟨RJ6, "bitCount", "(I)I"⟩
def RJ9 : String := "java/lang/Math"
def TJ9 : u_T := fun k => match k with
  | _ => ("", "", "", false)
def tyJ9 : Nat → FieldType := fun k => match k with
  | _ => .int
abbrev wsJ90 : List Cond := u_ws RJ9 TJ9 0
theorem nmJ9 : ∀ a, a < 0 → ∀ b, b < 0 → a ≠ b → (TJ9 a).2.1 ≠ (TJ9 b).2.1 := by decide +kernel
theorem tyJ9_ok : ∀ k, k < 0 → parseFieldDescriptor (TJ9 k).2.2.1 = some (tyJ9 k) := by decide +kernel
abbrev cJ9_abs_0f7a4 : ByteArray := prog_11_method_59_code
def yJ9_abs_0f7a4 : MethodName := ⟨RJ9, "abs", "(I)I"⟩
abbrev cJ9_max_7cf53 : ByteArray := prog_11_method_65_code
def yJ9_max_7cf53 : MethodName := ⟨RJ9, "max", "(II)I"⟩
abbrev cJ9_min_7cf53 : ByteArray := prog_11_method_69_code
def yJ9_min_7cf53 : MethodName := ⟨RJ9, "min", "(II)I"⟩
def RJ10 : String := "java/lang/System"
def TJ10 : u_T := fun k => match k with
  | _ => ("", "", "", false)
def tyJ10 : Nat → FieldType := fun k => match k with
  | _ => .int
abbrev wsJ100 : List Cond := u_ws RJ10 TJ10 0
theorem nmJ10 : ∀ a, a < 0 → ∀ b, b < 0 → a ≠ b → (TJ10 a).2.1 ≠ (TJ10 b).2.1 := by decide +kernel
theorem tyJ10_ok : ∀ k, k < 0 → parseFieldDescriptor (TJ10 k).2.2.1 = some (tyJ10 k) := by decide +kernel
def RJ7 : String := "java/util/Arrays"
def TJ7 : u_T := fun k => match k with
  | _ => ("", "", "", false)
def tyJ7 : Nat → FieldType := fun k => match k with
  | _ => .int
abbrev wsJ70 : List Cond := u_ws RJ7 TJ7 0
theorem nmJ7 : ∀ a, a < 0 → ∀ b, b < 0 → a ≠ b → (TJ7 a).2.1 ≠ (TJ7 b).2.1 := by decide +kernel
theorem tyJ7_ok : ∀ k, k < 0 → parseFieldDescriptor (TJ7 k).2.2.1 = some (tyJ7 k) := by decide +kernel
abbrev cJ7_fill_53178 : ByteArray := prog_13_method_103_code
def yJ7_fill_53178 : MethodName := ⟨RJ7, "fill", "([II)V"⟩
def RL : String := "BentPinsLaw"
abbrev cL_law : ByteArray := code
def yL_law : MethodName := ⟨RL, "law", "([I)Z"⟩
def wsX4_init : List Cond := .code yX4_init cX4_init 2 none :: ([.methodLink RX4 1 objectInit, .instanceMethod objectInit, .code objectInit ⟨#[0xb1]⟩ 1 none, .methodLink RX4 7 Lib.Math.max.name, .static Lib.Math.max.name, .initialized "java/lang/Math", .code Lib.Math.max.name Lib.Math.max.code 2 (some .int), .arrayClass .int, .fieldLink RX4 13 "BentPins$Row" "cells" "[I"] ++ wsX40)
def wsX2_init : List Cond := .code yX2_init cX2_init 1 none :: ([.methodLink RX2 3 objectInit, .instanceMethod objectInit, .code objectInit ⟨#[0xb1]⟩ 1 none, .classLink RX2 9 RX4, .instantiable RX4 1, .initialized RX4, .fieldLink RX2 14 "BentPins$Pins" "bends" "LBentPins$Row;", .fieldLink RX2 20 "BentPins$Pins" "outs" "LBentPins$Row;", .fieldLink RX2 23 "BentPins$Pins" "bells" "LBentPins$Row;", .fieldLink RX2 26 "BentPins$Pins" "sides" "LBentPins$Row;", .fieldLink RX2 29 "BentPins$Pins" "visits" "LBentPins$Row;", .fieldLink RX2 32 "BentPins$Pins" "tilt" "I", .fieldLink RX2 36 "BentPins$Pins" "rings" "I", .fieldLink RX2 39 "BentPins$Pins" "bendsByBalls" "I", .methodLink RX2 11 yX4_init, .instanceMethod yX4_init, .code yX4_init cX4_init 2 none, .methodLink RX4 1 objectInit, .methodLink RX4 7 Lib.Math.max.name, .static Lib.Math.max.name, .initialized "java/lang/Math", .code Lib.Math.max.name Lib.Math.max.code 2 (some .int), .arrayClass .int, .fieldLink RX4 13 "BentPins$Row" "cells" "[I"] ++ wsX40 ++ wsX20)
def wsX4_put : List Cond := .code yX4_put cX4_put 3 none :: ([.fieldLink RX4 13 "BentPins$Row" "cells" "[I"] ++ wsX40)
def wsX5_init_r1 : List Cond := [Cond.methodLink RX5 3 objectInit, Cond.instanceMethod objectInit, Cond.code objectInit ⟨#[0xb1]⟩ 1 none, Cond.classLink RX5 9 RX2, Cond.instantiable RX2 8, Cond.initialized RX2, Cond.fieldLink RX5 12 "BentPins$Table" "pins" "LBentPins$Pins;", Cond.classLink RX5 18 RX4, Cond.instantiable RX4 1, Cond.initialized RX4, Cond.fieldLink RX5 23 "BentPins$Table" "worths" "LBentPins$Row;", Cond.fieldLink RX5 27 "BentPins$Table" "held" "LBentPins$Row;", Cond.fieldLink RX5 30 "BentPins$Table" "ended" "LBentPins$Row;", Cond.fieldLink RX5 33 "BentPins$Table" "full" "I", Cond.fieldLink RX5 37 "BentPins$Table" "left" "I", Cond.fieldLink RX5 40 "BentPins$Table" "lost" "I", Cond.fieldLink RX5 43 "BentPins$Table" "points" "I", Cond.fieldLink RX5 46 "BentPins$Table" "shots" "I", Cond.fieldLink RX5 49 "BentPins$Table" "hardShots" "I", Cond.fieldLink RX5 52 "BentPins$Table" "refusals" "I", Cond.methodLink RX5 55 Lib.Math.max.name, Cond.static Lib.Math.max.name, Cond.initialized "java/lang/Math", Cond.code Lib.Math.max.name Lib.Math.max.code 2 (some .int)]
def wsX5_init_r2 : List Cond := [Cond.instanceMethod yX2_init, Cond.code yX2_init cX2_init 1 none, Cond.methodLink RX2 3 objectInit, Cond.classLink RX2 9 RX4, Cond.fieldLink RX2 14 "BentPins$Pins" "bends" "LBentPins$Row;", Cond.fieldLink RX2 20 "BentPins$Pins" "outs" "LBentPins$Row;", Cond.fieldLink RX2 23 "BentPins$Pins" "bells" "LBentPins$Row;", Cond.fieldLink RX2 26 "BentPins$Pins" "sides" "LBentPins$Row;", Cond.fieldLink RX2 29 "BentPins$Pins" "visits" "LBentPins$Row;", Cond.fieldLink RX2 32 "BentPins$Pins" "tilt" "I", Cond.fieldLink RX2 36 "BentPins$Pins" "rings" "I", Cond.fieldLink RX2 39 "BentPins$Pins" "bendsByBalls" "I", Cond.methodLink RX2 11 yX4_init, Cond.instanceMethod yX4_init, Cond.code yX4_init cX4_init 2 none, Cond.methodLink RX4 1 objectInit, Cond.methodLink RX4 7 Lib.Math.max.name, Cond.arrayClass .int, Cond.fieldLink RX4 13 "BentPins$Row" "cells" "[I", Cond.methodLink RX5 20 yX4_init, Cond.methodLink RX5 61 yX4_put, Cond.instanceMethod yX4_put, Cond.selects RX4 yX4_put yX4_put, Cond.code yX4_put cX4_put 3 none]
def wsX5_init : List Cond := .code yX5_init cX5_init 2 none :: ((wsX5_init_r1 ++ wsX5_init_r2) ++ wsX20 ++ wsX50 ++ wsX40)
def wsX0_init_r1 : List Cond := [Cond.methodLink RX0 3 objectInit, Cond.instanceMethod objectInit, Cond.code objectInit ⟨#[0xb1]⟩ 1 none, Cond.classLink RX0 9 RX5, Cond.fieldLink RX0 11 "BentPins$History" "states" "[LBentPins$Table;", Cond.fieldLink RX0 17 "BentPins$History" "size" "I", Cond.instantiable RX5 11, Cond.initialized RX5, Cond.methodLink RX0 21 yX5_init, Cond.instanceMethod yX5_init, Cond.code yX5_init cX5_init 2 none, Cond.methodLink RX5 3 objectInit, Cond.classLink RX5 9 RX2, Cond.instantiable RX2 8, Cond.initialized RX2, Cond.fieldLink RX5 12 "BentPins$Table" "pins" "LBentPins$Pins;", Cond.classLink RX5 18 RX4, Cond.instantiable RX4 1, Cond.initialized RX4, Cond.fieldLink RX5 23 "BentPins$Table" "worths" "LBentPins$Row;", Cond.fieldLink RX5 27 "BentPins$Table" "held" "LBentPins$Row;", Cond.fieldLink RX5 30 "BentPins$Table" "ended" "LBentPins$Row;", Cond.fieldLink RX5 33 "BentPins$Table" "full" "I", Cond.fieldLink RX5 37 "BentPins$Table" "left" "I"]
def wsX0_init_r2 : List Cond := [Cond.fieldLink RX5 40 "BentPins$Table" "lost" "I", Cond.fieldLink RX5 43 "BentPins$Table" "points" "I", Cond.fieldLink RX5 46 "BentPins$Table" "shots" "I", Cond.fieldLink RX5 49 "BentPins$Table" "hardShots" "I", Cond.fieldLink RX5 52 "BentPins$Table" "refusals" "I", Cond.methodLink RX5 55 Lib.Math.max.name, Cond.static Lib.Math.max.name, Cond.initialized "java/lang/Math", Cond.code Lib.Math.max.name Lib.Math.max.code 2 (some .int), Cond.instanceMethod yX2_init, Cond.code yX2_init cX2_init 1 none, Cond.methodLink RX2 3 objectInit, Cond.classLink RX2 9 RX4, Cond.fieldLink RX2 14 "BentPins$Pins" "bends" "LBentPins$Row;", Cond.fieldLink RX2 20 "BentPins$Pins" "outs" "LBentPins$Row;", Cond.fieldLink RX2 23 "BentPins$Pins" "bells" "LBentPins$Row;", Cond.fieldLink RX2 26 "BentPins$Pins" "sides" "LBentPins$Row;", Cond.fieldLink RX2 29 "BentPins$Pins" "visits" "LBentPins$Row;", Cond.fieldLink RX2 32 "BentPins$Pins" "tilt" "I", Cond.fieldLink RX2 36 "BentPins$Pins" "rings" "I", Cond.fieldLink RX2 39 "BentPins$Pins" "bendsByBalls" "I", Cond.methodLink RX2 11 yX4_init, Cond.instanceMethod yX4_init, Cond.code yX4_init cX4_init 2 none]
def wsX0_init_r3 : List Cond := [Cond.methodLink RX4 1 objectInit, Cond.methodLink RX4 7 Lib.Math.max.name, Cond.arrayClass .int, Cond.fieldLink RX4 13 "BentPins$Row" "cells" "[I", Cond.methodLink RX5 20 yX4_init, Cond.methodLink RX5 61 yX4_put, Cond.instanceMethod yX4_put, Cond.selects RX4 yX4_put yX4_put, Cond.code yX4_put cX4_put 3 none]
def wsX0_init : List Cond := .code yX0_init cX0_init 2 none :: ((wsX0_init_r1 ++ (wsX0_init_r2 ++ wsX0_init_r3)) ++ wsX00 ++ wsX50 ++ wsX20 ++ wsX40)
def wsX0_dropOldest : List Cond := .code yX0_dropOldest cX0_dropOldest 3 none :: ([.fieldLink RX0 11 "BentPins$History" "states" "[LBentPins$Table;", .fieldLink RX0 17 "BentPins$History" "size" "I"] ++ wsX00)
def wsX0_stateAt : List Cond := .code yX0_stateAt cX0_stateAt 2 (some (.object "BentPins$Table")) :: ([.fieldLink RX0 11 "BentPins$History" "states" "[LBentPins$Table;"] ++ wsX00)
def wsX4_copyFrom : List Cond := .code yX4_copyFrom cX4_copyFrom 2 none :: ([.fieldLink RX4 13 "BentPins$Row" "cells" "[I", .methodLink RX4 25 Lib.Math.min.name, .static Lib.Math.min.name, .initialized "java/lang/Math", .code Lib.Math.min.name Lib.Math.min.code 2 (some .int), .methodLink RX4 28 arraycopyName, .native arraycopyName, .static arraycopyName, .initialized "java/lang/System"] ++ wsX40)
def wsX2_copyFrom : List Cond := .code yX2_copyFrom cX2_copyFrom 2 none :: ([.fieldLink RX2 14 "BentPins$Pins" "bends" "LBentPins$Row;", .fieldLink RX2 20 "BentPins$Pins" "outs" "LBentPins$Row;", .fieldLink RX2 23 "BentPins$Pins" "bells" "LBentPins$Row;", .fieldLink RX2 26 "BentPins$Pins" "sides" "LBentPins$Row;", .fieldLink RX2 29 "BentPins$Pins" "visits" "LBentPins$Row;", .fieldLink RX2 32 "BentPins$Pins" "tilt" "I", .fieldLink RX2 36 "BentPins$Pins" "rings" "I", .fieldLink RX2 39 "BentPins$Pins" "bendsByBalls" "I", .methodLink RX2 42 yX4_copyFrom, .instanceMethod yX4_copyFrom, .selects RX4 yX4_copyFrom yX4_copyFrom, .initialized RX4, .code yX4_copyFrom cX4_copyFrom 2 none, .fieldLink RX4 13 "BentPins$Row" "cells" "[I", .methodLink RX4 25 Lib.Math.min.name, .static Lib.Math.min.name, .initialized "java/lang/Math", .code Lib.Math.min.name Lib.Math.min.code 2 (some .int), .methodLink RX4 28 arraycopyName, .native arraycopyName, .static arraycopyName, .initialized "java/lang/System"] ++ wsX20 ++ wsX40)
def wsX5_copyFrom_r1 : List Cond := [Cond.fieldLink RX5 12 "BentPins$Table" "pins" "LBentPins$Pins;", Cond.fieldLink RX5 23 "BentPins$Table" "worths" "LBentPins$Row;", Cond.fieldLink RX5 27 "BentPins$Table" "held" "LBentPins$Row;", Cond.fieldLink RX5 30 "BentPins$Table" "ended" "LBentPins$Row;", Cond.fieldLink RX5 33 "BentPins$Table" "full" "I", Cond.fieldLink RX5 37 "BentPins$Table" "left" "I", Cond.fieldLink RX5 40 "BentPins$Table" "lost" "I", Cond.fieldLink RX5 43 "BentPins$Table" "points" "I", Cond.fieldLink RX5 46 "BentPins$Table" "shots" "I", Cond.fieldLink RX5 49 "BentPins$Table" "hardShots" "I", Cond.fieldLink RX5 52 "BentPins$Table" "refusals" "I", Cond.methodLink RX5 65 yX2_copyFrom, Cond.instanceMethod yX2_copyFrom, Cond.selects RX2 yX2_copyFrom yX2_copyFrom, Cond.initialized RX2, Cond.code yX2_copyFrom cX2_copyFrom 2 none, Cond.fieldLink RX2 14 "BentPins$Pins" "bends" "LBentPins$Row;", Cond.fieldLink RX2 20 "BentPins$Pins" "outs" "LBentPins$Row;", Cond.fieldLink RX2 23 "BentPins$Pins" "bells" "LBentPins$Row;", Cond.fieldLink RX2 26 "BentPins$Pins" "sides" "LBentPins$Row;", Cond.fieldLink RX2 29 "BentPins$Pins" "visits" "LBentPins$Row;", Cond.fieldLink RX2 32 "BentPins$Pins" "tilt" "I", Cond.fieldLink RX2 36 "BentPins$Pins" "rings" "I", Cond.fieldLink RX2 39 "BentPins$Pins" "bendsByBalls" "I"]
def wsX5_copyFrom_r2 : List Cond := [Cond.methodLink RX2 42 yX4_copyFrom, Cond.instanceMethod yX4_copyFrom, Cond.selects RX4 yX4_copyFrom yX4_copyFrom, Cond.initialized RX4, Cond.code yX4_copyFrom cX4_copyFrom 2 none, Cond.fieldLink RX4 13 "BentPins$Row" "cells" "[I", Cond.methodLink RX4 25 Lib.Math.min.name, Cond.static Lib.Math.min.name, Cond.initialized "java/lang/Math", Cond.code Lib.Math.min.name Lib.Math.min.code 2 (some .int), Cond.methodLink RX4 28 arraycopyName, Cond.native arraycopyName, Cond.static arraycopyName, Cond.initialized "java/lang/System", Cond.methodLink RX5 69 yX4_copyFrom]
def wsX5_copyFrom : List Cond := .code yX5_copyFrom cX5_copyFrom 2 none :: ((wsX5_copyFrom_r1 ++ wsX5_copyFrom_r2) ++ wsX50 ++ wsX20 ++ wsX40)
def wsX0_record_r1 : List Cond := [Cond.fieldLink RX0 17 "BentPins$History" "size" "I", Cond.fieldLink RX0 11 "BentPins$History" "states" "[LBentPins$Table;", Cond.methodLink RX0 22 yX0_dropOldest, Cond.instanceMethod yX0_dropOldest, Cond.selects RX0 yX0_dropOldest yX0_dropOldest, Cond.initialized RX0, Cond.code yX0_dropOldest cX0_dropOldest 3 none, Cond.methodLink RX0 25 yX0_stateAt, Cond.instanceMethod yX0_stateAt, Cond.selects RX0 yX0_stateAt yX0_stateAt, Cond.code yX0_stateAt cX0_stateAt 2 (some (.object "BentPins$Table")), Cond.methodLink RX0 29 yX5_copyFrom, Cond.instanceMethod yX5_copyFrom, Cond.selects RX5 yX5_copyFrom yX5_copyFrom, Cond.initialized RX5, Cond.code yX5_copyFrom cX5_copyFrom 2 none, Cond.fieldLink RX5 12 "BentPins$Table" "pins" "LBentPins$Pins;", Cond.fieldLink RX5 23 "BentPins$Table" "worths" "LBentPins$Row;", Cond.fieldLink RX5 27 "BentPins$Table" "held" "LBentPins$Row;", Cond.fieldLink RX5 30 "BentPins$Table" "ended" "LBentPins$Row;", Cond.fieldLink RX5 33 "BentPins$Table" "full" "I", Cond.fieldLink RX5 37 "BentPins$Table" "left" "I", Cond.fieldLink RX5 40 "BentPins$Table" "lost" "I", Cond.fieldLink RX5 43 "BentPins$Table" "points" "I"]
def wsX0_record_r2 : List Cond := [Cond.fieldLink RX5 46 "BentPins$Table" "shots" "I", Cond.fieldLink RX5 49 "BentPins$Table" "hardShots" "I", Cond.fieldLink RX5 52 "BentPins$Table" "refusals" "I", Cond.methodLink RX5 65 yX2_copyFrom, Cond.instanceMethod yX2_copyFrom, Cond.selects RX2 yX2_copyFrom yX2_copyFrom, Cond.initialized RX2, Cond.code yX2_copyFrom cX2_copyFrom 2 none, Cond.fieldLink RX2 14 "BentPins$Pins" "bends" "LBentPins$Row;", Cond.fieldLink RX2 20 "BentPins$Pins" "outs" "LBentPins$Row;", Cond.fieldLink RX2 23 "BentPins$Pins" "bells" "LBentPins$Row;", Cond.fieldLink RX2 26 "BentPins$Pins" "sides" "LBentPins$Row;", Cond.fieldLink RX2 29 "BentPins$Pins" "visits" "LBentPins$Row;", Cond.fieldLink RX2 32 "BentPins$Pins" "tilt" "I", Cond.fieldLink RX2 36 "BentPins$Pins" "rings" "I", Cond.fieldLink RX2 39 "BentPins$Pins" "bendsByBalls" "I", Cond.methodLink RX2 42 yX4_copyFrom, Cond.instanceMethod yX4_copyFrom, Cond.selects RX4 yX4_copyFrom yX4_copyFrom, Cond.initialized RX4, Cond.code yX4_copyFrom cX4_copyFrom 2 none, Cond.fieldLink RX4 13 "BentPins$Row" "cells" "[I", Cond.methodLink RX4 25 Lib.Math.min.name, Cond.static Lib.Math.min.name]
def wsX0_record_r3 : List Cond := [Cond.initialized "java/lang/Math", Cond.code Lib.Math.min.name Lib.Math.min.code 2 (some .int), Cond.methodLink RX4 28 arraycopyName, Cond.native arraycopyName, Cond.static arraycopyName, Cond.initialized "java/lang/System", Cond.methodLink RX5 69 yX4_copyFrom]
def wsX0_record : List Cond := .code yX0_record cX0_record 3 none :: ((wsX0_record_r1 ++ (wsX0_record_r2 ++ wsX0_record_r3)) ++ wsX00 ++ wsX50 ++ wsX20 ++ wsX40)
def wsX0_takeBack_r1 : List Cond := [Cond.fieldLink RX0 17 "BentPins$History" "size" "I", Cond.methodLink RX0 25 yX0_stateAt, Cond.instanceMethod yX0_stateAt, Cond.selects RX0 yX0_stateAt yX0_stateAt, Cond.initialized RX0, Cond.code yX0_stateAt cX0_stateAt 2 (some (.object "BentPins$Table")), Cond.fieldLink RX0 11 "BentPins$History" "states" "[LBentPins$Table;", Cond.methodLink RX0 29 yX5_copyFrom, Cond.instanceMethod yX5_copyFrom, Cond.selects RX5 yX5_copyFrom yX5_copyFrom, Cond.initialized RX5, Cond.code yX5_copyFrom cX5_copyFrom 2 none, Cond.fieldLink RX5 12 "BentPins$Table" "pins" "LBentPins$Pins;", Cond.fieldLink RX5 23 "BentPins$Table" "worths" "LBentPins$Row;", Cond.fieldLink RX5 27 "BentPins$Table" "held" "LBentPins$Row;", Cond.fieldLink RX5 30 "BentPins$Table" "ended" "LBentPins$Row;", Cond.fieldLink RX5 33 "BentPins$Table" "full" "I", Cond.fieldLink RX5 37 "BentPins$Table" "left" "I", Cond.fieldLink RX5 40 "BentPins$Table" "lost" "I", Cond.fieldLink RX5 43 "BentPins$Table" "points" "I", Cond.fieldLink RX5 46 "BentPins$Table" "shots" "I", Cond.fieldLink RX5 49 "BentPins$Table" "hardShots" "I", Cond.fieldLink RX5 52 "BentPins$Table" "refusals" "I", Cond.methodLink RX5 65 yX2_copyFrom]
def wsX0_takeBack_r2 : List Cond := [Cond.instanceMethod yX2_copyFrom, Cond.selects RX2 yX2_copyFrom yX2_copyFrom, Cond.initialized RX2, Cond.code yX2_copyFrom cX2_copyFrom 2 none, Cond.fieldLink RX2 14 "BentPins$Pins" "bends" "LBentPins$Row;", Cond.fieldLink RX2 20 "BentPins$Pins" "outs" "LBentPins$Row;", Cond.fieldLink RX2 23 "BentPins$Pins" "bells" "LBentPins$Row;", Cond.fieldLink RX2 26 "BentPins$Pins" "sides" "LBentPins$Row;", Cond.fieldLink RX2 29 "BentPins$Pins" "visits" "LBentPins$Row;", Cond.fieldLink RX2 32 "BentPins$Pins" "tilt" "I", Cond.fieldLink RX2 36 "BentPins$Pins" "rings" "I", Cond.fieldLink RX2 39 "BentPins$Pins" "bendsByBalls" "I", Cond.methodLink RX2 42 yX4_copyFrom, Cond.instanceMethod yX4_copyFrom, Cond.selects RX4 yX4_copyFrom yX4_copyFrom, Cond.initialized RX4, Cond.code yX4_copyFrom cX4_copyFrom 2 none, Cond.fieldLink RX4 13 "BentPins$Row" "cells" "[I", Cond.methodLink RX4 25 Lib.Math.min.name, Cond.static Lib.Math.min.name, Cond.initialized "java/lang/Math", Cond.code Lib.Math.min.name Lib.Math.min.code 2 (some .int), Cond.methodLink RX4 28 arraycopyName, Cond.native arraycopyName]
def wsX0_takeBack_r3 : List Cond := [Cond.static arraycopyName, Cond.initialized "java/lang/System", Cond.methodLink RX5 69 yX4_copyFrom]
def wsX0_takeBack : List Cond := .code yX0_takeBack cX0_takeBack 3 none :: ((wsX0_takeBack_r1 ++ (wsX0_takeBack_r2 ++ wsX0_takeBack_r3)) ++ wsX00 ++ wsX50 ++ wsX20 ++ wsX40)
def wsX1_init : List Cond := .code yX1_init cX1_init 1 none :: ([.methodLink RX1 3 objectInit, .instanceMethod objectInit, .code objectInit ⟨#[0xb1]⟩ 1 none, .classLink RX1 9 RX4, .instantiable RX4 1, .initialized RX4, .fieldLink RX1 14 "BentPins$Pad" "codes" "LBentPins$Row;", .fieldLink RX1 20 "BentPins$Pad" "length" "I", .methodLink RX1 11 yX4_init, .instanceMethod yX4_init, .code yX4_init cX4_init 2 none, .methodLink RX4 1 objectInit, .methodLink RX4 7 Lib.Math.max.name, .static Lib.Math.max.name, .initialized "java/lang/Math", .code Lib.Math.max.name Lib.Math.max.code 2 (some .int), .arrayClass .int, .fieldLink RX4 13 "BentPins$Row" "cells" "[I"] ++ wsX40 ++ wsX10)
def wsX1_write : List Cond := .code yX1_write cX1_write 2 none :: ([.fieldLink RX1 14 "BentPins$Pad" "codes" "LBentPins$Row;", .fieldLink RX1 20 "BentPins$Pad" "length" "I", .methodLink RX1 24 yX4_put, .instanceMethod yX4_put, .selects RX4 yX4_put yX4_put, .initialized RX4, .code yX4_put cX4_put 3 none, .fieldLink RX4 13 "BentPins$Row" "cells" "[I"] ++ wsX10 ++ wsX40)
def wsX1_wipe : List Cond := .code yX1_wipe cX1_wipe 1 none :: ([.fieldLink RX1 20 "BentPins$Pad" "length" "I"] ++ wsX10)
def wsX4_at : List Cond := .code yX4_at cX4_at 2 (some .int) :: ([.fieldLink RX4 13 "BentPins$Row" "cells" "[I"] ++ wsX40)
def wsX1_codeAt : List Cond := .code yX1_codeAt cX1_codeAt 2 (some .int) :: ([.fieldLink RX1 20 "BentPins$Pad" "length" "I", .fieldLink RX1 14 "BentPins$Pad" "codes" "LBentPins$Row;", .methodLink RX1 28 yX4_at, .instanceMethod yX4_at, .selects RX4 yX4_at yX4_at, .initialized RX4, .code yX4_at cX4_at 2 (some .int), .fieldLink RX4 13 "BentPins$Row" "cells" "[I"] ++ wsX10 ++ wsX40)
def wsX1_isPinSign : List Cond := .code yX1_isPinSign cX1_isPinSign 1 (some .boolean) :: ([])
def wsX1_faultAsBoard : List Cond := .code yX1_faultAsBoard cX1_faultAsBoard 2 (some .int) :: ([.fieldLink RX1 20 "BentPins$Pad" "length" "I", .methodLink RX1 32 yX1_codeAt, .instanceMethod yX1_codeAt, .selects RX1 yX1_codeAt yX1_codeAt, .initialized RX1, .code yX1_codeAt cX1_codeAt 2 (some .int), .fieldLink RX1 14 "BentPins$Pad" "codes" "LBentPins$Row;", .methodLink RX1 28 yX4_at, .instanceMethod yX4_at, .selects RX4 yX4_at yX4_at, .initialized RX4, .code yX4_at cX4_at 2 (some .int), .fieldLink RX4 13 "BentPins$Row" "cells" "[I", .methodLink RX1 35 yX1_isPinSign, .static yX1_isPinSign, .code yX1_isPinSign cX1_isPinSign 1 (some .boolean)] ++ wsX10 ++ wsX40)
def wsX6_isWithin : List Cond := .code yX6_isWithin cX6_isWithin 3 (some .boolean) :: ([])
def wsX1_isPlace : List Cond := .code yX1_isPlace cX1_isPlace 1 (some .boolean) :: ([.static yX6_isWithin, .initialized RX6, .code yX6_isWithin cX6_isWithin 3 (some .boolean)])
def wsX1_mayFollow : List Cond := .code yX1_mayFollow cX1_mayFollow 2 (some .boolean) :: ([.methodLink RX1 47 yX1_isPlace, .static yX1_isPlace, .initialized RX1, .code yX1_isPlace cX1_isPlace 1 (some .boolean), .static yX6_isWithin, .initialized RX6, .code yX6_isWithin cX6_isWithin 3 (some .boolean)])
def wsX1_faultAsShots : List Cond := .code yX1_faultAsShots cX1_faultAsShots 4 (some .int) :: ([.fieldLink RX1 20 "BentPins$Pad" "length" "I", .methodLink RX1 32 yX1_codeAt, .instanceMethod yX1_codeAt, .selects RX1 yX1_codeAt yX1_codeAt, .initialized RX1, .code yX1_codeAt cX1_codeAt 2 (some .int), .fieldLink RX1 14 "BentPins$Pad" "codes" "LBentPins$Row;", .methodLink RX1 28 yX4_at, .instanceMethod yX4_at, .selects RX4 yX4_at yX4_at, .initialized RX4, .code yX4_at cX4_at 2 (some .int), .fieldLink RX4 13 "BentPins$Row" "cells" "[I", .methodLink RX1 39 yX1_mayFollow, .static yX1_mayFollow, .code yX1_mayFollow cX1_mayFollow 2 (some .boolean), .methodLink RX1 47 yX1_isPlace, .static yX1_isPlace, .code yX1_isPlace cX1_isPlace 1 (some .boolean), .static yX6_isWithin, .initialized RX6, .code yX6_isWithin cX6_isWithin 3 (some .boolean)] ++ wsX10 ++ wsX40)
def wsX2_isOut : List Cond := .code yX2_isOut cX2_isOut 2 (some .boolean) :: ([.fieldLink RX2 20 "BentPins$Pins" "outs" "LBentPins$Row;", .methodLink RX2 46 yX4_at, .instanceMethod yX4_at, .selects RX4 yX4_at yX4_at, .initialized RX4, .code yX4_at cX4_at 2 (some .int), .fieldLink RX4 13 "BentPins$Row" "cells" "[I"] ++ wsX20 ++ wsX40)
def wsX4_total : List Cond := .code yX4_total cX4_total 6 (some .int) :: ([.fieldLink RX4 13 "BentPins$Row" "cells" "[I"] ++ wsX40)
def wsX2_pulledOut : List Cond := .code yX2_pulledOut cX2_pulledOut 1 (some .int) :: ([.fieldLink RX2 20 "BentPins$Pins" "outs" "LBentPins$Row;", .methodLink RX2 50 yX4_total, .instanceMethod yX4_total, .selects RX4 yX4_total yX4_total, .initialized RX4, .code yX4_total cX4_total 6 (some .int), .fieldLink RX4 13 "BentPins$Row" "cells" "[I"] ++ wsX20 ++ wsX40)
def wsX2_allPins : List Cond := .code yX2_allPins cX2_allPins 1 (some .int) :: ([.methodLink RX2 54 yX2_pulledOut, .instanceMethod yX2_pulledOut, .selects RX2 yX2_pulledOut yX2_pulledOut, .initialized RX2, .code yX2_pulledOut cX2_pulledOut 1 (some .int), .fieldLink RX2 20 "BentPins$Pins" "outs" "LBentPins$Row;", .methodLink RX2 50 yX4_total, .instanceMethod yX4_total, .selects RX4 yX4_total yX4_total, .initialized RX4, .code yX4_total cX4_total 6 (some .int), .fieldLink RX4 13 "BentPins$Row" "cells" "[I"] ++ wsX20 ++ wsX40)
def wsX2_allBells : List Cond := .code yX2_allBells cX2_allBells 1 (some .int) :: ([.fieldLink RX2 23 "BentPins$Pins" "bells" "LBentPins$Row;", .methodLink RX2 50 yX4_total, .instanceMethod yX4_total, .selects RX4 yX4_total yX4_total, .initialized RX4, .code yX4_total cX4_total 6 (some .int), .fieldLink RX4 13 "BentPins$Row" "cells" "[I"] ++ wsX20 ++ wsX40)
def wsX2_straightOnes : List Cond := .code yX2_straightOnes cX2_straightOnes 3 (some .int) :: ([.fieldLink RX2 14 "BentPins$Pins" "bends" "LBentPins$Row;", .methodLink RX2 57 yX2_isOut, .instanceMethod yX2_isOut, .selects RX2 yX2_isOut yX2_isOut, .initialized RX2, .code yX2_isOut cX2_isOut 2 (some .boolean), .fieldLink RX2 20 "BentPins$Pins" "outs" "LBentPins$Row;", .methodLink RX2 46 yX4_at, .instanceMethod yX4_at, .selects RX4 yX4_at yX4_at, .initialized RX4, .code yX4_at cX4_at 2 (some .int), .fieldLink RX4 13 "BentPins$Row" "cells" "[I"] ++ wsX20 ++ wsX40)
def wsX2_bendsTogether : List Cond := .code yX2_bendsTogether cX2_bendsTogether 3 (some .int) :: ([.fieldLink RX2 14 "BentPins$Pins" "bends" "LBentPins$Row;", .methodLink RX2 61 Lib.Math.abs.name, .static Lib.Math.abs.name, .initialized "java/lang/Math", .code Lib.Math.abs.name Lib.Math.abs.code 1 (some .int), .methodLink RX2 46 yX4_at, .instanceMethod yX4_at, .selects RX4 yX4_at yX4_at, .initialized RX4, .code yX4_at cX4_at 2 (some .int), .fieldLink RX4 13 "BentPins$Row" "cells" "[I"] ++ wsX20 ++ wsX40)
def wsX2_pullOrSet : List Cond := .code yX2_pullOrSet cX2_pullOrSet 2 none :: ([.fieldLink RX2 20 "BentPins$Pins" "outs" "LBentPins$Row;", .fieldLink RX2 14 "BentPins$Pins" "bends" "LBentPins$Row;", .fieldLink RX2 26 "BentPins$Pins" "sides" "LBentPins$Row;", .methodLink RX2 46 yX4_at, .instanceMethod yX4_at, .selects RX4 yX4_at yX4_at, .initialized RX4, .code yX4_at cX4_at 2 (some .int), .fieldLink RX4 13 "BentPins$Row" "cells" "[I", .methodLink RX2 66 yX4_put, .instanceMethod yX4_put, .selects RX4 yX4_put yX4_put, .code yX4_put cX4_put 3 none] ++ wsX20 ++ wsX40)
def wsX2_hangOrTakeBell : List Cond := .code yX2_hangOrTakeBell cX2_hangOrTakeBell 2 none :: ([.fieldLink RX2 23 "BentPins$Pins" "bells" "LBentPins$Row;", .methodLink RX2 46 yX4_at, .instanceMethod yX4_at, .selects RX4 yX4_at yX4_at, .initialized RX4, .code yX4_at cX4_at 2 (some .int), .fieldLink RX4 13 "BentPins$Row" "cells" "[I", .methodLink RX2 66 yX4_put, .instanceMethod yX4_put, .selects RX4 yX4_put yX4_put, .code yX4_put cX4_put 3 none] ++ wsX20 ++ wsX40)
def wsX2_canBend : List Cond := .code yX2_canBend cX2_canBend 3 (some .boolean) :: ([.fieldLink RX2 14 "BentPins$Pins" "bends" "LBentPins$Row;", .methodLink RX2 46 yX4_at, .instanceMethod yX4_at, .selects RX4 yX4_at yX4_at, .initialized RX4, .code yX4_at cX4_at 2 (some .int), .fieldLink RX4 13 "BentPins$Row" "cells" "[I", .static yX6_isWithin, .initialized RX6, .code yX6_isWithin cX6_isWithin 3 (some .boolean)] ++ wsX20 ++ wsX40)
def wsX4_raise : List Cond := .code yX4_raise cX4_raise 3 none :: ([.fieldLink RX4 13 "BentPins$Row" "cells" "[I"] ++ wsX40)
def wsX2_bendBy : List Cond := .code yX2_bendBy cX2_bendBy 3 none :: ([.fieldLink RX2 14 "BentPins$Pins" "bends" "LBentPins$Row;", .methodLink RX2 74 yX4_raise, .instanceMethod yX4_raise, .selects RX4 yX4_raise yX4_raise, .initialized RX4, .code yX4_raise cX4_raise 3 none, .fieldLink RX4 13 "BentPins$Row" "cells" "[I"] ++ wsX20 ++ wsX40)
def wsX2_leanOf : List Cond := .code yX2_leanOf cX2_leanOf 3 (some .int) :: ([.fieldLink RX2 14 "BentPins$Pins" "bends" "LBentPins$Row;", .fieldLink RX2 32 "BentPins$Pins" "tilt" "I", .methodLink RX2 46 yX4_at, .instanceMethod yX4_at, .selects RX4 yX4_at yX4_at, .initialized RX4, .code yX4_at cX4_at 2 (some .int), .fieldLink RX4 13 "BentPins$Row" "cells" "[I"] ++ wsX20 ++ wsX40)
def wsX6_bit : List Cond := .code yX6_bit cX6_bit 1 (some .int) :: ([])
def wsX6_placeBeside : List Cond := .code yX6_placeBeside cX6_placeBeside 2 (some .int) :: ([.methodLink RX6 239 Lib.Math.min.name, .static Lib.Math.min.name, .initialized "java/lang/Math", .code Lib.Math.min.name Lib.Math.min.code 2 (some .int), .methodLink RX6 244 Lib.Math.max.name, .static Lib.Math.max.name, .code Lib.Math.max.name Lib.Math.max.code 2 (some .int)])
def wsX2_nextPlaces_r1 : List Cond := [Cond.methodLink RX2 57 yX2_isOut, Cond.instanceMethod yX2_isOut, Cond.selects RX2 yX2_isOut yX2_isOut, Cond.initialized RX2, Cond.code yX2_isOut cX2_isOut 2 (some .boolean), Cond.fieldLink RX2 20 "BentPins$Pins" "outs" "LBentPins$Row;", Cond.methodLink RX2 46 yX4_at, Cond.instanceMethod yX4_at, Cond.selects RX4 yX4_at yX4_at, Cond.initialized RX4, Cond.code yX4_at cX4_at 2 (some .int), Cond.fieldLink RX4 13 "BentPins$Row" "cells" "[I", Cond.static yX6_bit, Cond.initialized RX6, Cond.code yX6_bit cX6_bit 1 (some .int), Cond.methodLink RX2 80 yX2_leanOf, Cond.instanceMethod yX2_leanOf, Cond.selects RX2 yX2_leanOf yX2_leanOf, Cond.code yX2_leanOf cX2_leanOf 3 (some .int), Cond.fieldLink RX2 14 "BentPins$Pins" "bends" "LBentPins$Row;", Cond.fieldLink RX2 32 "BentPins$Pins" "tilt" "I", Cond.static yX6_placeBeside, Cond.code yX6_placeBeside cX6_placeBeside 2 (some .int), Cond.methodLink RX6 239 Lib.Math.min.name]
def wsX2_nextPlaces_r2 : List Cond := [Cond.static Lib.Math.min.name, Cond.initialized "java/lang/Math", Cond.code Lib.Math.min.name Lib.Math.min.code 2 (some .int), Cond.methodLink RX6 244 Lib.Math.max.name, Cond.static Lib.Math.max.name, Cond.code Lib.Math.max.name Lib.Math.max.code 2 (some .int)]
def wsX2_nextPlaces : List Cond := .code yX2_nextPlaces cX2_nextPlaces 4 (some .int) :: ((wsX2_nextPlaces_r1 ++ wsX2_nextPlaces_r2) ++ wsX20 ++ wsX40)
def wsX2_nextDirection : List Cond := .code yX2_nextDirection cX2_nextDirection 3 (some .int) :: ([.fieldLink RX2 26 "BentPins$Pins" "sides" "LBentPins$Row;", .methodLink RX2 57 yX2_isOut, .instanceMethod yX2_isOut, .selects RX2 yX2_isOut yX2_isOut, .initialized RX2, .code yX2_isOut cX2_isOut 2 (some .boolean), .fieldLink RX2 20 "BentPins$Pins" "outs" "LBentPins$Row;", .methodLink RX2 46 yX4_at, .instanceMethod yX4_at, .selects RX4 yX4_at yX4_at, .initialized RX4, .code yX4_at cX4_at 2 (some .int), .fieldLink RX4 13 "BentPins$Row" "cells" "[I", .methodLink RX2 80 yX2_leanOf, .instanceMethod yX2_leanOf, .selects RX2 yX2_leanOf yX2_leanOf, .code yX2_leanOf cX2_leanOf 3 (some .int), .fieldLink RX2 14 "BentPins$Pins" "bends" "LBentPins$Row;", .fieldLink RX2 32 "BentPins$Pins" "tilt" "I"] ++ wsX20 ++ wsX40)
def wsX6_pinAt : List Cond := .code yX6_pinAt cX6_pinAt 2 (some .int) :: ([])
def wsX2_endFrom_r1 : List Cond := [Cond.static yX6_pinAt, Cond.initialized RX6, Cond.code yX6_pinAt cX6_pinAt 2 (some .int), Cond.methodLink RX2 90 yX2_nextDirection, Cond.instanceMethod yX2_nextDirection, Cond.selects RX2 yX2_nextDirection yX2_nextDirection, Cond.initialized RX2, Cond.code yX2_nextDirection cX2_nextDirection 3 (some .int), Cond.fieldLink RX2 26 "BentPins$Pins" "sides" "LBentPins$Row;", Cond.methodLink RX2 57 yX2_isOut, Cond.instanceMethod yX2_isOut, Cond.selects RX2 yX2_isOut yX2_isOut, Cond.code yX2_isOut cX2_isOut 2 (some .boolean), Cond.fieldLink RX2 20 "BentPins$Pins" "outs" "LBentPins$Row;", Cond.methodLink RX2 46 yX4_at, Cond.instanceMethod yX4_at, Cond.selects RX4 yX4_at yX4_at, Cond.initialized RX4, Cond.code yX4_at cX4_at 2 (some .int), Cond.fieldLink RX4 13 "BentPins$Row" "cells" "[I", Cond.methodLink RX2 80 yX2_leanOf, Cond.instanceMethod yX2_leanOf, Cond.selects RX2 yX2_leanOf yX2_leanOf, Cond.code yX2_leanOf cX2_leanOf 3 (some .int)]
def wsX2_endFrom_r2 : List Cond := [Cond.fieldLink RX2 14 "BentPins$Pins" "bends" "LBentPins$Row;", Cond.fieldLink RX2 32 "BentPins$Pins" "tilt" "I", Cond.static yX6_placeBeside, Cond.code yX6_placeBeside cX6_placeBeside 2 (some .int), Cond.methodLink RX6 239 Lib.Math.min.name, Cond.static Lib.Math.min.name, Cond.initialized "java/lang/Math", Cond.code Lib.Math.min.name Lib.Math.min.code 2 (some .int), Cond.methodLink RX6 244 Lib.Math.max.name, Cond.static Lib.Math.max.name, Cond.code Lib.Math.max.name Lib.Math.max.code 2 (some .int)]
def wsX2_endFrom : List Cond := .code yX2_endFrom cX2_endFrom 4 (some .int) :: ((wsX2_endFrom_r1 ++ wsX2_endFrom_r2) ++ wsX20 ++ wsX40)
def wsX2_meetBall_r1 : List Cond := [Cond.fieldLink RX2 29 "BentPins$Pins" "visits" "LBentPins$Row;", Cond.fieldLink RX2 36 "BentPins$Pins" "rings" "I", Cond.fieldLink RX2 23 "BentPins$Pins" "bells" "LBentPins$Row;", Cond.fieldLink RX2 26 "BentPins$Pins" "sides" "LBentPins$Row;", Cond.fieldLink RX2 39 "BentPins$Pins" "bendsByBalls" "I", Cond.methodLink RX2 74 yX4_raise, Cond.instanceMethod yX4_raise, Cond.selects RX4 yX4_raise yX4_raise, Cond.initialized RX4, Cond.code yX4_raise cX4_raise 3 none, Cond.fieldLink RX4 13 "BentPins$Row" "cells" "[I", Cond.methodLink RX2 57 yX2_isOut, Cond.instanceMethod yX2_isOut, Cond.selects RX2 yX2_isOut yX2_isOut, Cond.initialized RX2, Cond.code yX2_isOut cX2_isOut 2 (some .boolean), Cond.fieldLink RX2 20 "BentPins$Pins" "outs" "LBentPins$Row;", Cond.methodLink RX2 46 yX4_at, Cond.instanceMethod yX4_at, Cond.selects RX4 yX4_at yX4_at, Cond.code yX4_at cX4_at 2 (some .int), Cond.methodLink RX2 80 yX2_leanOf, Cond.instanceMethod yX2_leanOf, Cond.selects RX2 yX2_leanOf yX2_leanOf]
def wsX2_meetBall_r2 : List Cond := [Cond.code yX2_leanOf cX2_leanOf 3 (some .int), Cond.fieldLink RX2 14 "BentPins$Pins" "bends" "LBentPins$Row;", Cond.fieldLink RX2 32 "BentPins$Pins" "tilt" "I", Cond.methodLink RX2 66 yX4_put, Cond.instanceMethod yX4_put, Cond.selects RX4 yX4_put yX4_put, Cond.code yX4_put cX4_put 3 none, Cond.methodLink RX2 97 yX2_canBend, Cond.instanceMethod yX2_canBend, Cond.selects RX2 yX2_canBend yX2_canBend, Cond.code yX2_canBend cX2_canBend 3 (some .boolean), Cond.static yX6_isWithin, Cond.initialized RX6, Cond.code yX6_isWithin cX6_isWithin 3 (some .boolean), Cond.methodLink RX2 101 yX2_bendBy, Cond.instanceMethod yX2_bendBy, Cond.selects RX2 yX2_bendBy yX2_bendBy, Cond.code yX2_bendBy cX2_bendBy 3 none]
def wsX2_meetBall : List Cond := .code yX2_meetBall cX2_meetBall 4 none :: ((wsX2_meetBall_r1 ++ wsX2_meetBall_r2) ++ wsX20 ++ wsX40)
def wsX2_rollBall_r1 : List Cond := [Cond.static yX6_pinAt, Cond.initialized RX6, Cond.code yX6_pinAt cX6_pinAt 2 (some .int), Cond.methodLink RX2 90 yX2_nextDirection, Cond.instanceMethod yX2_nextDirection, Cond.selects RX2 yX2_nextDirection yX2_nextDirection, Cond.initialized RX2, Cond.code yX2_nextDirection cX2_nextDirection 3 (some .int), Cond.fieldLink RX2 26 "BentPins$Pins" "sides" "LBentPins$Row;", Cond.methodLink RX2 57 yX2_isOut, Cond.instanceMethod yX2_isOut, Cond.selects RX2 yX2_isOut yX2_isOut, Cond.code yX2_isOut cX2_isOut 2 (some .boolean), Cond.fieldLink RX2 20 "BentPins$Pins" "outs" "LBentPins$Row;", Cond.methodLink RX2 46 yX4_at, Cond.instanceMethod yX4_at, Cond.selects RX4 yX4_at yX4_at, Cond.initialized RX4, Cond.code yX4_at cX4_at 2 (some .int), Cond.fieldLink RX4 13 "BentPins$Row" "cells" "[I", Cond.methodLink RX2 80 yX2_leanOf, Cond.instanceMethod yX2_leanOf, Cond.selects RX2 yX2_leanOf yX2_leanOf, Cond.code yX2_leanOf cX2_leanOf 3 (some .int)]
def wsX2_rollBall_r2 : List Cond := [Cond.fieldLink RX2 14 "BentPins$Pins" "bends" "LBentPins$Row;", Cond.fieldLink RX2 32 "BentPins$Pins" "tilt" "I", Cond.methodLink RX2 93 yX2_meetBall, Cond.instanceMethod yX2_meetBall, Cond.selects RX2 yX2_meetBall yX2_meetBall, Cond.code yX2_meetBall cX2_meetBall 4 none, Cond.fieldLink RX2 29 "BentPins$Pins" "visits" "LBentPins$Row;", Cond.fieldLink RX2 36 "BentPins$Pins" "rings" "I", Cond.fieldLink RX2 23 "BentPins$Pins" "bells" "LBentPins$Row;", Cond.fieldLink RX2 39 "BentPins$Pins" "bendsByBalls" "I", Cond.methodLink RX2 74 yX4_raise, Cond.instanceMethod yX4_raise, Cond.selects RX4 yX4_raise yX4_raise, Cond.code yX4_raise cX4_raise 3 none, Cond.methodLink RX2 66 yX4_put, Cond.instanceMethod yX4_put, Cond.selects RX4 yX4_put yX4_put, Cond.code yX4_put cX4_put 3 none, Cond.methodLink RX2 97 yX2_canBend, Cond.instanceMethod yX2_canBend, Cond.selects RX2 yX2_canBend yX2_canBend, Cond.code yX2_canBend cX2_canBend 3 (some .boolean), Cond.static yX6_isWithin, Cond.code yX6_isWithin cX6_isWithin 3 (some .boolean)]
def wsX2_rollBall_r3 : List Cond := [Cond.methodLink RX2 101 yX2_bendBy, Cond.instanceMethod yX2_bendBy, Cond.selects RX2 yX2_bendBy yX2_bendBy, Cond.code yX2_bendBy cX2_bendBy 3 none, Cond.static yX6_placeBeside, Cond.code yX6_placeBeside cX6_placeBeside 2 (some .int), Cond.methodLink RX6 239 Lib.Math.min.name, Cond.static Lib.Math.min.name, Cond.initialized "java/lang/Math", Cond.code Lib.Math.min.name Lib.Math.min.code 2 (some .int), Cond.methodLink RX6 244 Lib.Math.max.name, Cond.static Lib.Math.max.name, Cond.code Lib.Math.max.name Lib.Math.max.code 2 (some .int)]
def wsX2_rollBall : List Cond := .code yX2_rollBall cX2_rollBall 7 (some .int) :: ((wsX2_rollBall_r1 ++ (wsX2_rollBall_r2 ++ wsX2_rollBall_r3)) ++ wsX20 ++ wsX40)
def wsX2_readSign : List Cond := .code yX2_readSign cX2_readSign 3 none :: ([.fieldLink RX2 14 "BentPins$Pins" "bends" "LBentPins$Row;", .fieldLink RX2 20 "BentPins$Pins" "outs" "LBentPins$Row;", .fieldLink RX2 23 "BentPins$Pins" "bells" "LBentPins$Row;", .fieldLink RX2 26 "BentPins$Pins" "sides" "LBentPins$Row;", .methodLink RX2 66 yX4_put, .instanceMethod yX4_put, .selects RX4 yX4_put yX4_put, .initialized RX4, .code yX4_put cX4_put 3 none, .fieldLink RX4 13 "BentPins$Row" "cells" "[I"] ++ wsX20 ++ wsX40)
def wsX2_signOf : List Cond := .code yX2_signOf cX2_signOf 3 (some .int) :: ([.fieldLink RX2 23 "BentPins$Pins" "bells" "LBentPins$Row;", .fieldLink RX2 14 "BentPins$Pins" "bends" "LBentPins$Row;", .methodLink RX2 57 yX2_isOut, .instanceMethod yX2_isOut, .selects RX2 yX2_isOut yX2_isOut, .initialized RX2, .code yX2_isOut cX2_isOut 2 (some .boolean), .fieldLink RX2 20 "BentPins$Pins" "outs" "LBentPins$Row;", .methodLink RX2 46 yX4_at, .instanceMethod yX4_at, .selects RX4 yX4_at yX4_at, .initialized RX4, .code yX4_at cX4_at 2 (some .int), .fieldLink RX4 13 "BentPins$Row" "cells" "[I"] ++ wsX20 ++ wsX40)
def wsX3_init : List Cond := .code yX3_init cX3_init 1 none :: ([.methodLink RX3 3 objectInit, .instanceMethod objectInit, .code objectInit ⟨#[0xb1]⟩ 1 none, .classLink RX3 9 RX4, .instantiable RX4 1, .initialized RX4, .fieldLink RX3 14 "BentPins$Roads" "waysHere" "LBentPins$Row;", .fieldLink RX3 20 "BentPins$Roads" "waysBelow" "LBentPins$Row;", .methodLink RX3 11 yX4_init, .instanceMethod yX4_init, .code yX4_init cX4_init 2 none, .methodLink RX4 1 objectInit, .methodLink RX4 7 Lib.Math.max.name, .static Lib.Math.max.name, .initialized "java/lang/Math", .code Lib.Math.max.name Lib.Math.max.code 2 (some .int), .arrayClass .int, .fieldLink RX4 13 "BentPins$Row" "cells" "[I"] ++ wsX40 ++ wsX30)
def wsX6_isIn : List Cond := .code yX6_isIn cX6_isIn 2 (some .boolean) :: ([.methodLink RX6 236 yX6_bit, .static yX6_bit, .initialized RX6, .code yX6_bit cX6_bit 1 (some .int)])
def wsX3_placesBelow_r1 : List Cond := [Cond.static yX6_isIn, Cond.initialized RX6, Cond.code yX6_isIn cX6_isIn 2 (some .boolean), Cond.methodLink RX6 236 yX6_bit, Cond.static yX6_bit, Cond.code yX6_bit cX6_bit 1 (some .int), Cond.static yX6_pinAt, Cond.code yX6_pinAt cX6_pinAt 2 (some .int), Cond.methodLink RX3 46 yX2_nextPlaces, Cond.instanceMethod yX2_nextPlaces, Cond.selects RX2 yX2_nextPlaces yX2_nextPlaces, Cond.initialized RX2, Cond.code yX2_nextPlaces cX2_nextPlaces 4 (some .int), Cond.methodLink RX2 57 yX2_isOut, Cond.instanceMethod yX2_isOut, Cond.selects RX2 yX2_isOut yX2_isOut, Cond.code yX2_isOut cX2_isOut 2 (some .boolean), Cond.fieldLink RX2 20 "BentPins$Pins" "outs" "LBentPins$Row;", Cond.methodLink RX2 46 yX4_at, Cond.instanceMethod yX4_at, Cond.selects RX4 yX4_at yX4_at, Cond.initialized RX4, Cond.code yX4_at cX4_at 2 (some .int), Cond.fieldLink RX4 13 "BentPins$Row" "cells" "[I"]
def wsX3_placesBelow_r2 : List Cond := [Cond.methodLink RX2 80 yX2_leanOf, Cond.instanceMethod yX2_leanOf, Cond.selects RX2 yX2_leanOf yX2_leanOf, Cond.code yX2_leanOf cX2_leanOf 3 (some .int), Cond.fieldLink RX2 14 "BentPins$Pins" "bends" "LBentPins$Row;", Cond.fieldLink RX2 32 "BentPins$Pins" "tilt" "I", Cond.static yX6_placeBeside, Cond.code yX6_placeBeside cX6_placeBeside 2 (some .int), Cond.methodLink RX6 239 Lib.Math.min.name, Cond.static Lib.Math.min.name, Cond.initialized "java/lang/Math", Cond.code Lib.Math.min.name Lib.Math.min.code 2 (some .int), Cond.methodLink RX6 244 Lib.Math.max.name, Cond.static Lib.Math.max.name, Cond.code Lib.Math.max.name Lib.Math.max.code 2 (some .int)]
def wsX3_placesBelow : List Cond := .code yX3_placesBelow cX3_placesBelow 6 (some .int) :: ((wsX3_placesBelow_r1 ++ wsX3_placesBelow_r2) ++ wsX20 ++ wsX40)
def wsX3_placesInRow_r1 : List Cond := [Cond.methodLink RX3 38 yX3_placesBelow, Cond.instanceMethod yX3_placesBelow, Cond.selects RX3 yX3_placesBelow yX3_placesBelow, Cond.initialized RX3, Cond.code yX3_placesBelow cX3_placesBelow 6 (some .int), Cond.static yX6_isIn, Cond.initialized RX6, Cond.code yX6_isIn cX6_isIn 2 (some .boolean), Cond.methodLink RX6 236 yX6_bit, Cond.static yX6_bit, Cond.code yX6_bit cX6_bit 1 (some .int), Cond.static yX6_pinAt, Cond.code yX6_pinAt cX6_pinAt 2 (some .int), Cond.methodLink RX3 46 yX2_nextPlaces, Cond.instanceMethod yX2_nextPlaces, Cond.selects RX2 yX2_nextPlaces yX2_nextPlaces, Cond.initialized RX2, Cond.code yX2_nextPlaces cX2_nextPlaces 4 (some .int), Cond.methodLink RX2 57 yX2_isOut, Cond.instanceMethod yX2_isOut, Cond.selects RX2 yX2_isOut yX2_isOut, Cond.code yX2_isOut cX2_isOut 2 (some .boolean), Cond.fieldLink RX2 20 "BentPins$Pins" "outs" "LBentPins$Row;", Cond.methodLink RX2 46 yX4_at]
def wsX3_placesInRow_r2 : List Cond := [Cond.instanceMethod yX4_at, Cond.selects RX4 yX4_at yX4_at, Cond.initialized RX4, Cond.code yX4_at cX4_at 2 (some .int), Cond.fieldLink RX4 13 "BentPins$Row" "cells" "[I", Cond.methodLink RX2 80 yX2_leanOf, Cond.instanceMethod yX2_leanOf, Cond.selects RX2 yX2_leanOf yX2_leanOf, Cond.code yX2_leanOf cX2_leanOf 3 (some .int), Cond.fieldLink RX2 14 "BentPins$Pins" "bends" "LBentPins$Row;", Cond.fieldLink RX2 32 "BentPins$Pins" "tilt" "I", Cond.static yX6_placeBeside, Cond.code yX6_placeBeside cX6_placeBeside 2 (some .int), Cond.methodLink RX6 239 Lib.Math.min.name, Cond.static Lib.Math.min.name, Cond.initialized "java/lang/Math", Cond.code Lib.Math.min.name Lib.Math.min.code 2 (some .int), Cond.methodLink RX6 244 Lib.Math.max.name, Cond.static Lib.Math.max.name, Cond.code Lib.Math.max.name Lib.Math.max.code 2 (some .int)]
def wsX3_placesInRow : List Cond := .code yX3_placesInRow cX3_placesInRow 5 (some .int) :: ((wsX3_placesInRow_r1 ++ wsX3_placesInRow_r2) ++ wsX20 ++ wsX40)
def wsX3_pocketsForward_r1 : List Cond := [Cond.methodLink RX3 23 yX3_placesInRow, Cond.instanceMethod yX3_placesInRow, Cond.selects RX3 yX3_placesInRow yX3_placesInRow, Cond.initialized RX3, Cond.code yX3_placesInRow cX3_placesInRow 5 (some .int), Cond.methodLink RX3 38 yX3_placesBelow, Cond.instanceMethod yX3_placesBelow, Cond.selects RX3 yX3_placesBelow yX3_placesBelow, Cond.code yX3_placesBelow cX3_placesBelow 6 (some .int), Cond.static yX6_isIn, Cond.initialized RX6, Cond.code yX6_isIn cX6_isIn 2 (some .boolean), Cond.methodLink RX6 236 yX6_bit, Cond.static yX6_bit, Cond.code yX6_bit cX6_bit 1 (some .int), Cond.static yX6_pinAt, Cond.code yX6_pinAt cX6_pinAt 2 (some .int), Cond.methodLink RX3 46 yX2_nextPlaces, Cond.instanceMethod yX2_nextPlaces, Cond.selects RX2 yX2_nextPlaces yX2_nextPlaces, Cond.initialized RX2, Cond.code yX2_nextPlaces cX2_nextPlaces 4 (some .int), Cond.methodLink RX2 57 yX2_isOut, Cond.instanceMethod yX2_isOut]
def wsX3_pocketsForward_r2 : List Cond := [Cond.selects RX2 yX2_isOut yX2_isOut, Cond.code yX2_isOut cX2_isOut 2 (some .boolean), Cond.fieldLink RX2 20 "BentPins$Pins" "outs" "LBentPins$Row;", Cond.methodLink RX2 46 yX4_at, Cond.instanceMethod yX4_at, Cond.selects RX4 yX4_at yX4_at, Cond.initialized RX4, Cond.code yX4_at cX4_at 2 (some .int), Cond.fieldLink RX4 13 "BentPins$Row" "cells" "[I", Cond.methodLink RX2 80 yX2_leanOf, Cond.instanceMethod yX2_leanOf, Cond.selects RX2 yX2_leanOf yX2_leanOf, Cond.code yX2_leanOf cX2_leanOf 3 (some .int), Cond.fieldLink RX2 14 "BentPins$Pins" "bends" "LBentPins$Row;", Cond.fieldLink RX2 32 "BentPins$Pins" "tilt" "I", Cond.static yX6_placeBeside, Cond.code yX6_placeBeside cX6_placeBeside 2 (some .int), Cond.methodLink RX6 239 Lib.Math.min.name, Cond.static Lib.Math.min.name, Cond.initialized "java/lang/Math", Cond.code Lib.Math.min.name Lib.Math.min.code 2 (some .int), Cond.methodLink RX6 244 Lib.Math.max.name, Cond.static Lib.Math.max.name, Cond.code Lib.Math.max.name Lib.Math.max.code 2 (some .int)]
def wsX3_pocketsForward : List Cond := .code yX3_pocketsForward cX3_pocketsForward 2 (some .int) :: ((wsX3_pocketsForward_r1 ++ wsX3_pocketsForward_r2) ++ wsX20 ++ wsX40)
def wsX3_placesAbove_r1 : List Cond := [Cond.static yX6_pinAt, Cond.initialized RX6, Cond.code yX6_pinAt cX6_pinAt 2 (some .int), Cond.methodLink RX3 46 yX2_nextPlaces, Cond.instanceMethod yX2_nextPlaces, Cond.selects RX2 yX2_nextPlaces yX2_nextPlaces, Cond.initialized RX2, Cond.code yX2_nextPlaces cX2_nextPlaces 4 (some .int), Cond.methodLink RX2 57 yX2_isOut, Cond.instanceMethod yX2_isOut, Cond.selects RX2 yX2_isOut yX2_isOut, Cond.code yX2_isOut cX2_isOut 2 (some .boolean), Cond.fieldLink RX2 20 "BentPins$Pins" "outs" "LBentPins$Row;", Cond.methodLink RX2 46 yX4_at, Cond.instanceMethod yX4_at, Cond.selects RX4 yX4_at yX4_at, Cond.initialized RX4, Cond.code yX4_at cX4_at 2 (some .int), Cond.fieldLink RX4 13 "BentPins$Row" "cells" "[I", Cond.static yX6_bit, Cond.code yX6_bit cX6_bit 1 (some .int), Cond.methodLink RX2 80 yX2_leanOf, Cond.instanceMethod yX2_leanOf, Cond.selects RX2 yX2_leanOf yX2_leanOf]
def wsX3_placesAbove_r2 : List Cond := [Cond.code yX2_leanOf cX2_leanOf 3 (some .int), Cond.fieldLink RX2 14 "BentPins$Pins" "bends" "LBentPins$Row;", Cond.fieldLink RX2 32 "BentPins$Pins" "tilt" "I", Cond.static yX6_placeBeside, Cond.code yX6_placeBeside cX6_placeBeside 2 (some .int), Cond.methodLink RX6 239 Lib.Math.min.name, Cond.static Lib.Math.min.name, Cond.initialized "java/lang/Math", Cond.code Lib.Math.min.name Lib.Math.min.code 2 (some .int), Cond.methodLink RX6 244 Lib.Math.max.name, Cond.static Lib.Math.max.name, Cond.code Lib.Math.max.name Lib.Math.max.code 2 (some .int)]
def wsX3_placesAbove : List Cond := .code yX3_placesAbove cX3_placesAbove 6 (some .int) :: ((wsX3_placesAbove_r1 ++ wsX3_placesAbove_r2) ++ wsX20 ++ wsX40)
def wsX3_startsTo_r1 : List Cond := [Cond.static yX6_bit, Cond.initialized RX6, Cond.code yX6_bit cX6_bit 1 (some .int), Cond.methodLink RX3 51 yX3_placesAbove, Cond.instanceMethod yX3_placesAbove, Cond.selects RX3 yX3_placesAbove yX3_placesAbove, Cond.initialized RX3, Cond.code yX3_placesAbove cX3_placesAbove 6 (some .int), Cond.static yX6_pinAt, Cond.code yX6_pinAt cX6_pinAt 2 (some .int), Cond.methodLink RX3 46 yX2_nextPlaces, Cond.instanceMethod yX2_nextPlaces, Cond.selects RX2 yX2_nextPlaces yX2_nextPlaces, Cond.initialized RX2, Cond.code yX2_nextPlaces cX2_nextPlaces 4 (some .int), Cond.methodLink RX2 57 yX2_isOut, Cond.instanceMethod yX2_isOut, Cond.selects RX2 yX2_isOut yX2_isOut, Cond.code yX2_isOut cX2_isOut 2 (some .boolean), Cond.fieldLink RX2 20 "BentPins$Pins" "outs" "LBentPins$Row;", Cond.methodLink RX2 46 yX4_at, Cond.instanceMethod yX4_at, Cond.selects RX4 yX4_at yX4_at, Cond.initialized RX4]
def wsX3_startsTo_r2 : List Cond := [Cond.code yX4_at cX4_at 2 (some .int), Cond.fieldLink RX4 13 "BentPins$Row" "cells" "[I", Cond.methodLink RX2 80 yX2_leanOf, Cond.instanceMethod yX2_leanOf, Cond.selects RX2 yX2_leanOf yX2_leanOf, Cond.code yX2_leanOf cX2_leanOf 3 (some .int), Cond.fieldLink RX2 14 "BentPins$Pins" "bends" "LBentPins$Row;", Cond.fieldLink RX2 32 "BentPins$Pins" "tilt" "I", Cond.static yX6_placeBeside, Cond.code yX6_placeBeside cX6_placeBeside 2 (some .int), Cond.methodLink RX6 239 Lib.Math.min.name, Cond.static Lib.Math.min.name, Cond.initialized "java/lang/Math", Cond.code Lib.Math.min.name Lib.Math.min.code 2 (some .int), Cond.methodLink RX6 244 Lib.Math.max.name, Cond.static Lib.Math.max.name, Cond.code Lib.Math.max.name Lib.Math.max.code 2 (some .int)]
def wsX3_startsTo : List Cond := .code yX3_startsTo cX3_startsTo 5 (some .int) :: ((wsX3_startsTo_r1 ++ wsX3_startsTo_r2) ++ wsX20 ++ wsX40)
def wsX3_pocketsBackward_r1 : List Cond := [Cond.methodLink RX3 27 yX3_startsTo, Cond.instanceMethod yX3_startsTo, Cond.selects RX3 yX3_startsTo yX3_startsTo, Cond.initialized RX3, Cond.code yX3_startsTo cX3_startsTo 5 (some .int), Cond.static yX6_bit, Cond.initialized RX6, Cond.code yX6_bit cX6_bit 1 (some .int), Cond.methodLink RX3 51 yX3_placesAbove, Cond.instanceMethod yX3_placesAbove, Cond.selects RX3 yX3_placesAbove yX3_placesAbove, Cond.code yX3_placesAbove cX3_placesAbove 6 (some .int), Cond.static yX6_pinAt, Cond.code yX6_pinAt cX6_pinAt 2 (some .int), Cond.methodLink RX3 46 yX2_nextPlaces, Cond.instanceMethod yX2_nextPlaces, Cond.selects RX2 yX2_nextPlaces yX2_nextPlaces, Cond.initialized RX2, Cond.code yX2_nextPlaces cX2_nextPlaces 4 (some .int), Cond.methodLink RX2 57 yX2_isOut, Cond.instanceMethod yX2_isOut, Cond.selects RX2 yX2_isOut yX2_isOut, Cond.code yX2_isOut cX2_isOut 2 (some .boolean), Cond.fieldLink RX2 20 "BentPins$Pins" "outs" "LBentPins$Row;"]
def wsX3_pocketsBackward_r2 : List Cond := [Cond.methodLink RX2 46 yX4_at, Cond.instanceMethod yX4_at, Cond.selects RX4 yX4_at yX4_at, Cond.initialized RX4, Cond.code yX4_at cX4_at 2 (some .int), Cond.fieldLink RX4 13 "BentPins$Row" "cells" "[I", Cond.methodLink RX2 80 yX2_leanOf, Cond.instanceMethod yX2_leanOf, Cond.selects RX2 yX2_leanOf yX2_leanOf, Cond.code yX2_leanOf cX2_leanOf 3 (some .int), Cond.fieldLink RX2 14 "BentPins$Pins" "bends" "LBentPins$Row;", Cond.fieldLink RX2 32 "BentPins$Pins" "tilt" "I", Cond.static yX6_placeBeside, Cond.code yX6_placeBeside cX6_placeBeside 2 (some .int), Cond.methodLink RX6 239 Lib.Math.min.name, Cond.static Lib.Math.min.name, Cond.initialized "java/lang/Math", Cond.code Lib.Math.min.name Lib.Math.min.code 2 (some .int), Cond.methodLink RX6 244 Lib.Math.max.name, Cond.static Lib.Math.max.name, Cond.code Lib.Math.max.name Lib.Math.max.code 2 (some .int)]
def wsX3_pocketsBackward : List Cond := .code yX3_pocketsBackward cX3_pocketsBackward 4 (some .int) :: ((wsX3_pocketsBackward_r1 ++ wsX3_pocketsBackward_r2) ++ wsX20 ++ wsX40)
def wsX3_isOpenTo_r1 : List Cond := [Cond.methodLink RX3 23 yX3_placesInRow, Cond.instanceMethod yX3_placesInRow, Cond.selects RX3 yX3_placesInRow yX3_placesInRow, Cond.initialized RX3, Cond.code yX3_placesInRow cX3_placesInRow 5 (some .int), Cond.methodLink RX3 38 yX3_placesBelow, Cond.instanceMethod yX3_placesBelow, Cond.selects RX3 yX3_placesBelow yX3_placesBelow, Cond.code yX3_placesBelow cX3_placesBelow 6 (some .int), Cond.static yX6_isIn, Cond.initialized RX6, Cond.code yX6_isIn cX6_isIn 2 (some .boolean), Cond.methodLink RX6 236 yX6_bit, Cond.static yX6_bit, Cond.code yX6_bit cX6_bit 1 (some .int), Cond.static yX6_pinAt, Cond.code yX6_pinAt cX6_pinAt 2 (some .int), Cond.methodLink RX3 46 yX2_nextPlaces, Cond.instanceMethod yX2_nextPlaces, Cond.selects RX2 yX2_nextPlaces yX2_nextPlaces, Cond.initialized RX2, Cond.code yX2_nextPlaces cX2_nextPlaces 4 (some .int), Cond.methodLink RX2 57 yX2_isOut, Cond.instanceMethod yX2_isOut]
def wsX3_isOpenTo_r2 : List Cond := [Cond.selects RX2 yX2_isOut yX2_isOut, Cond.code yX2_isOut cX2_isOut 2 (some .boolean), Cond.fieldLink RX2 20 "BentPins$Pins" "outs" "LBentPins$Row;", Cond.methodLink RX2 46 yX4_at, Cond.instanceMethod yX4_at, Cond.selects RX4 yX4_at yX4_at, Cond.initialized RX4, Cond.code yX4_at cX4_at 2 (some .int), Cond.fieldLink RX4 13 "BentPins$Row" "cells" "[I", Cond.methodLink RX2 80 yX2_leanOf, Cond.instanceMethod yX2_leanOf, Cond.selects RX2 yX2_leanOf yX2_leanOf, Cond.code yX2_leanOf cX2_leanOf 3 (some .int), Cond.fieldLink RX2 14 "BentPins$Pins" "bends" "LBentPins$Row;", Cond.fieldLink RX2 32 "BentPins$Pins" "tilt" "I", Cond.static yX6_placeBeside, Cond.code yX6_placeBeside cX6_placeBeside 2 (some .int), Cond.methodLink RX6 239 Lib.Math.min.name, Cond.static Lib.Math.min.name, Cond.initialized "java/lang/Math", Cond.code Lib.Math.min.name Lib.Math.min.code 2 (some .int), Cond.methodLink RX6 244 Lib.Math.max.name, Cond.static Lib.Math.max.name, Cond.code Lib.Math.max.name Lib.Math.max.code 2 (some .int)]
def wsX3_isOpenTo : List Cond := .code yX3_isOpenTo cX3_isOpenTo 3 (some .boolean) :: ((wsX3_isOpenTo_r1 ++ wsX3_isOpenTo_r2) ++ wsX20 ++ wsX40)
def wsJ7_fill_53178 : List Cond := .code yJ7_fill_53178 cJ7_fill_53178 4 none :: ([])
def wsX4_fillWith : List Cond := .code yX4_fillWith cX4_fillWith 2 none :: ([.fieldLink RX4 13 "BentPins$Row" "cells" "[I", .methodLink RX4 19 yJ7_fill_53178, .static yJ7_fill_53178, .initialized RJ7, .code yJ7_fill_53178 cJ7_fill_53178 4 none] ++ wsX40)
def wsX3_passWaysOn : List Cond := .code yX3_passWaysOn cX3_passWaysOn 4 none :: ([.fieldLink RX3 20 "BentPins$Roads" "waysBelow" "LBentPins$Row;", .static yX6_isIn, .initialized RX6, .code yX6_isIn cX6_isIn 2 (some .boolean), .methodLink RX6 236 yX6_bit, .static yX6_bit, .code yX6_bit cX6_bit 1 (some .int), .methodLink RX3 68 yX4_raise, .instanceMethod yX4_raise, .selects RX4 yX4_raise yX4_raise, .initialized RX4, .code yX4_raise cX4_raise 3 none, .fieldLink RX4 13 "BentPins$Row" "cells" "[I"] ++ wsX30 ++ wsX40)
def wsX3_waysRowByRow_r1 : List Cond := [Cond.fieldLink RX3 14 "BentPins$Roads" "waysHere" "LBentPins$Row;", Cond.fieldLink RX3 20 "BentPins$Roads" "waysBelow" "LBentPins$Row;", Cond.methodLink RX3 54 yX4_fillWith, Cond.instanceMethod yX4_fillWith, Cond.selects RX4 yX4_fillWith yX4_fillWith, Cond.initialized RX4, Cond.code yX4_fillWith cX4_fillWith 2 none, Cond.fieldLink RX4 13 "BentPins$Row" "cells" "[I", Cond.methodLink RX4 19 yJ7_fill_53178, Cond.static yJ7_fill_53178, Cond.initialized RJ7, Cond.code yJ7_fill_53178 cJ7_fill_53178 4 none, Cond.static yX6_pinAt, Cond.initialized RX6, Cond.code yX6_pinAt cX6_pinAt 2 (some .int), Cond.methodLink RX3 46 yX2_nextPlaces, Cond.instanceMethod yX2_nextPlaces, Cond.selects RX2 yX2_nextPlaces yX2_nextPlaces, Cond.initialized RX2, Cond.code yX2_nextPlaces cX2_nextPlaces 4 (some .int), Cond.methodLink RX2 57 yX2_isOut, Cond.instanceMethod yX2_isOut, Cond.selects RX2 yX2_isOut yX2_isOut, Cond.code yX2_isOut cX2_isOut 2 (some .boolean)]
def wsX3_waysRowByRow_r2 : List Cond := [Cond.fieldLink RX2 20 "BentPins$Pins" "outs" "LBentPins$Row;", Cond.methodLink RX2 46 yX4_at, Cond.instanceMethod yX4_at, Cond.selects RX4 yX4_at yX4_at, Cond.code yX4_at cX4_at 2 (some .int), Cond.static yX6_bit, Cond.code yX6_bit cX6_bit 1 (some .int), Cond.methodLink RX2 80 yX2_leanOf, Cond.instanceMethod yX2_leanOf, Cond.selects RX2 yX2_leanOf yX2_leanOf, Cond.code yX2_leanOf cX2_leanOf 3 (some .int), Cond.fieldLink RX2 14 "BentPins$Pins" "bends" "LBentPins$Row;", Cond.fieldLink RX2 32 "BentPins$Pins" "tilt" "I", Cond.static yX6_placeBeside, Cond.code yX6_placeBeside cX6_placeBeside 2 (some .int), Cond.methodLink RX6 239 Lib.Math.min.name, Cond.static Lib.Math.min.name, Cond.initialized "java/lang/Math", Cond.code Lib.Math.min.name Lib.Math.min.code 2 (some .int), Cond.methodLink RX6 244 Lib.Math.max.name, Cond.static Lib.Math.max.name, Cond.code Lib.Math.max.name Lib.Math.max.code 2 (some .int), Cond.methodLink RX3 57 yX4_at, Cond.methodLink RX3 60 yX3_passWaysOn]
def wsX3_waysRowByRow_r3 : List Cond := [Cond.instanceMethod yX3_passWaysOn, Cond.selects RX3 yX3_passWaysOn yX3_passWaysOn, Cond.initialized RX3, Cond.code yX3_passWaysOn cX3_passWaysOn 4 none, Cond.static yX6_isIn, Cond.code yX6_isIn cX6_isIn 2 (some .boolean), Cond.methodLink RX6 236 yX6_bit, Cond.methodLink RX3 68 yX4_raise, Cond.instanceMethod yX4_raise, Cond.selects RX4 yX4_raise yX4_raise, Cond.code yX4_raise cX4_raise 3 none, Cond.methodLink RX3 64 yX4_copyFrom, Cond.instanceMethod yX4_copyFrom, Cond.selects RX4 yX4_copyFrom yX4_copyFrom, Cond.code yX4_copyFrom cX4_copyFrom 2 none, Cond.methodLink RX4 25 Lib.Math.min.name, Cond.methodLink RX4 28 arraycopyName, Cond.native arraycopyName, Cond.static arraycopyName, Cond.initialized "java/lang/System"]
def wsX3_waysRowByRow : List Cond := .code yX3_waysRowByRow cX3_waysRowByRow 5 (some .int) :: ((wsX3_waysRowByRow_r1 ++ (wsX3_waysRowByRow_r2 ++ wsX3_waysRowByRow_r3)) ++ wsX30 ++ wsX40 ++ wsX20)
def wsX5_isFull : List Cond := .code yX5_isFull cX5_isFull 2 (some .boolean) :: ([.fieldLink RX5 27 "BentPins$Table" "held" "LBentPins$Row;", .fieldLink RX5 33 "BentPins$Table" "full" "I", .methodLink RX5 72 yX4_at, .instanceMethod yX4_at, .selects RX4 yX4_at yX4_at, .initialized RX4, .code yX4_at cX4_at 2 (some .int), .fieldLink RX4 13 "BentPins$Row" "cells" "[I"] ++ wsX50 ++ wsX40)
def wsX5_fullPockets : List Cond := .code yX5_fullPockets cX5_fullPockets 3 (some .int) :: ([.methodLink RX5 76 yX5_isFull, .instanceMethod yX5_isFull, .selects RX5 yX5_isFull yX5_isFull, .initialized RX5, .code yX5_isFull cX5_isFull 2 (some .boolean), .fieldLink RX5 27 "BentPins$Table" "held" "LBentPins$Row;", .fieldLink RX5 33 "BentPins$Table" "full" "I", .methodLink RX5 72 yX4_at, .instanceMethod yX4_at, .selects RX4 yX4_at yX4_at, .initialized RX4, .code yX4_at cX4_at 2 (some .int), .fieldLink RX4 13 "BentPins$Row" "cells" "[I"] ++ wsX50 ++ wsX40)
def wsX5_takeBall : List Cond := .code yX5_takeBall cX5_takeBall 2 (some .int) :: ([.fieldLink RX5 30 "BentPins$Table" "ended" "LBentPins$Row;", .fieldLink RX5 40 "BentPins$Table" "lost" "I", .fieldLink RX5 27 "BentPins$Table" "held" "LBentPins$Row;", .fieldLink RX5 23 "BentPins$Table" "worths" "LBentPins$Row;", .methodLink RX5 90 yX4_raise, .instanceMethod yX4_raise, .selects RX4 yX4_raise yX4_raise, .initialized RX4, .code yX4_raise cX4_raise 3 none, .fieldLink RX4 13 "BentPins$Row" "cells" "[I", .methodLink RX5 76 yX5_isFull, .instanceMethod yX5_isFull, .selects RX5 yX5_isFull yX5_isFull, .initialized RX5, .code yX5_isFull cX5_isFull 2 (some .boolean), .fieldLink RX5 33 "BentPins$Table" "full" "I", .methodLink RX5 72 yX4_at, .instanceMethod yX4_at, .selects RX4 yX4_at yX4_at, .code yX4_at cX4_at 2 (some .int)] ++ wsX50 ++ wsX40)
def wsX5_shootBall_r1 : List Cond := [Cond.fieldLink RX5 37 "BentPins$Table" "left" "I", Cond.fieldLink RX5 52 "BentPins$Table" "refusals" "I", Cond.fieldLink RX5 46 "BentPins$Table" "shots" "I", Cond.fieldLink RX5 49 "BentPins$Table" "hardShots" "I", Cond.fieldLink RX5 12 "BentPins$Table" "pins" "LBentPins$Pins;", Cond.fieldLink RX5 80 "BentPins$Pins" "rings" "I", Cond.fieldLink RX5 43 "BentPins$Table" "points" "I", Cond.methodLink RX5 83 yX2_rollBall, Cond.instanceMethod yX2_rollBall, Cond.selects RX2 yX2_rollBall yX2_rollBall, Cond.initialized RX2, Cond.code yX2_rollBall cX2_rollBall 7 (some .int), Cond.static yX6_pinAt, Cond.initialized RX6, Cond.code yX6_pinAt cX6_pinAt 2 (some .int), Cond.methodLink RX2 90 yX2_nextDirection, Cond.instanceMethod yX2_nextDirection, Cond.selects RX2 yX2_nextDirection yX2_nextDirection, Cond.code yX2_nextDirection cX2_nextDirection 3 (some .int), Cond.fieldLink RX2 26 "BentPins$Pins" "sides" "LBentPins$Row;", Cond.methodLink RX2 57 yX2_isOut, Cond.instanceMethod yX2_isOut, Cond.selects RX2 yX2_isOut yX2_isOut, Cond.code yX2_isOut cX2_isOut 2 (some .boolean)]
def wsX5_shootBall_r2 : List Cond := [Cond.fieldLink RX2 20 "BentPins$Pins" "outs" "LBentPins$Row;", Cond.methodLink RX2 46 yX4_at, Cond.instanceMethod yX4_at, Cond.selects RX4 yX4_at yX4_at, Cond.initialized RX4, Cond.code yX4_at cX4_at 2 (some .int), Cond.fieldLink RX4 13 "BentPins$Row" "cells" "[I", Cond.methodLink RX2 80 yX2_leanOf, Cond.instanceMethod yX2_leanOf, Cond.selects RX2 yX2_leanOf yX2_leanOf, Cond.code yX2_leanOf cX2_leanOf 3 (some .int), Cond.fieldLink RX2 14 "BentPins$Pins" "bends" "LBentPins$Row;", Cond.fieldLink RX2 32 "BentPins$Pins" "tilt" "I", Cond.methodLink RX2 93 yX2_meetBall, Cond.instanceMethod yX2_meetBall, Cond.selects RX2 yX2_meetBall yX2_meetBall, Cond.code yX2_meetBall cX2_meetBall 4 none, Cond.fieldLink RX2 29 "BentPins$Pins" "visits" "LBentPins$Row;", Cond.fieldLink RX2 36 "BentPins$Pins" "rings" "I", Cond.fieldLink RX2 23 "BentPins$Pins" "bells" "LBentPins$Row;", Cond.fieldLink RX2 39 "BentPins$Pins" "bendsByBalls" "I", Cond.methodLink RX2 74 yX4_raise, Cond.instanceMethod yX4_raise, Cond.selects RX4 yX4_raise yX4_raise]
def wsX5_shootBall_r3 : List Cond := [Cond.code yX4_raise cX4_raise 3 none, Cond.methodLink RX2 66 yX4_put, Cond.instanceMethod yX4_put, Cond.selects RX4 yX4_put yX4_put, Cond.code yX4_put cX4_put 3 none, Cond.methodLink RX2 97 yX2_canBend, Cond.instanceMethod yX2_canBend, Cond.selects RX2 yX2_canBend yX2_canBend, Cond.code yX2_canBend cX2_canBend 3 (some .boolean), Cond.static yX6_isWithin, Cond.code yX6_isWithin cX6_isWithin 3 (some .boolean), Cond.methodLink RX2 101 yX2_bendBy, Cond.instanceMethod yX2_bendBy, Cond.selects RX2 yX2_bendBy yX2_bendBy, Cond.code yX2_bendBy cX2_bendBy 3 none, Cond.static yX6_placeBeside, Cond.code yX6_placeBeside cX6_placeBeside 2 (some .int), Cond.methodLink RX6 239 Lib.Math.min.name, Cond.static Lib.Math.min.name, Cond.initialized "java/lang/Math", Cond.code Lib.Math.min.name Lib.Math.min.code 2 (some .int), Cond.methodLink RX6 244 Lib.Math.max.name, Cond.static Lib.Math.max.name, Cond.code Lib.Math.max.name Lib.Math.max.code 2 (some .int)]
def wsX5_shootBall_r4 : List Cond := [Cond.methodLink RX5 87 yX5_takeBall, Cond.instanceMethod yX5_takeBall, Cond.selects RX5 yX5_takeBall yX5_takeBall, Cond.initialized RX5, Cond.code yX5_takeBall cX5_takeBall 2 (some .int), Cond.fieldLink RX5 30 "BentPins$Table" "ended" "LBentPins$Row;", Cond.fieldLink RX5 40 "BentPins$Table" "lost" "I", Cond.fieldLink RX5 27 "BentPins$Table" "held" "LBentPins$Row;", Cond.fieldLink RX5 23 "BentPins$Table" "worths" "LBentPins$Row;", Cond.methodLink RX5 90 yX4_raise, Cond.methodLink RX5 76 yX5_isFull, Cond.instanceMethod yX5_isFull, Cond.selects RX5 yX5_isFull yX5_isFull, Cond.code yX5_isFull cX5_isFull 2 (some .boolean), Cond.fieldLink RX5 33 "BentPins$Table" "full" "I", Cond.methodLink RX5 72 yX4_at]
def wsX5_shootBall : List Cond := .code yX5_shootBall cX5_shootBall 6 (some .int) :: ((wsX5_shootBall_r1 ++ (wsX5_shootBall_r2 ++ (wsX5_shootBall_r3 ++ wsX5_shootBall_r4))) ++ wsX50 ++ wsX20 ++ wsX40)
def wsX5_bendByHand_r1 : List Cond := [Cond.fieldLink RX5 12 "BentPins$Table" "pins" "LBentPins$Pins;", Cond.fieldLink RX5 52 "BentPins$Table" "refusals" "I", Cond.fieldLink RX5 103 "BentPins$Pins" "bends" "LBentPins$Row;", Cond.methodLink RX5 93 yX2_isOut, Cond.instanceMethod yX2_isOut, Cond.selects RX2 yX2_isOut yX2_isOut, Cond.initialized RX2, Cond.code yX2_isOut cX2_isOut 2 (some .boolean), Cond.fieldLink RX2 20 "BentPins$Pins" "outs" "LBentPins$Row;", Cond.methodLink RX2 46 yX4_at, Cond.instanceMethod yX4_at, Cond.selects RX4 yX4_at yX4_at, Cond.initialized RX4, Cond.code yX4_at cX4_at 2 (some .int), Cond.fieldLink RX4 13 "BentPins$Row" "cells" "[I", Cond.methodLink RX5 96 yX2_canBend, Cond.instanceMethod yX2_canBend, Cond.selects RX2 yX2_canBend yX2_canBend, Cond.code yX2_canBend cX2_canBend 3 (some .boolean), Cond.fieldLink RX2 14 "BentPins$Pins" "bends" "LBentPins$Row;", Cond.static yX6_isWithin, Cond.initialized RX6, Cond.code yX6_isWithin cX6_isWithin 3 (some .boolean), Cond.methodLink RX5 100 yX2_bendBy]
def wsX5_bendByHand_r2 : List Cond := [Cond.instanceMethod yX2_bendBy, Cond.selects RX2 yX2_bendBy yX2_bendBy, Cond.code yX2_bendBy cX2_bendBy 3 none, Cond.methodLink RX2 74 yX4_raise, Cond.instanceMethod yX4_raise, Cond.selects RX4 yX4_raise yX4_raise, Cond.code yX4_raise cX4_raise 3 none, Cond.methodLink RX5 72 yX4_at]
def wsX5_bendByHand : List Cond := .code yX5_bendByHand cX5_bendByHand 3 (some .int) :: ((wsX5_bendByHand_r1 ++ wsX5_bendByHand_r2) ++ wsX50 ++ wsX20 ++ wsX40)
def wsX5_emptyPockets : List Cond := .code yX5_emptyPockets cX5_emptyPockets 1 none :: ([.fieldLink RX5 37 "BentPins$Table" "left" "I", .fieldLink RX5 27 "BentPins$Table" "held" "LBentPins$Row;", .fieldLink RX5 40 "BentPins$Table" "lost" "I", .methodLink RX5 106 yX4_total, .instanceMethod yX4_total, .selects RX4 yX4_total yX4_total, .initialized RX4, .code yX4_total cX4_total 6 (some .int), .fieldLink RX4 13 "BentPins$Row" "cells" "[I", .methodLink RX5 110 yX4_fillWith, .instanceMethod yX4_fillWith, .selects RX4 yX4_fillWith yX4_fillWith, .code yX4_fillWith cX4_fillWith 2 none, .methodLink RX4 19 yJ7_fill_53178, .static yJ7_fill_53178, .initialized RJ7, .code yJ7_fill_53178 cJ7_fill_53178 4 none] ++ wsX50 ++ wsX40)
def wsX6_init_r1 : List Cond := [Cond.methodLink RX6 1 objectInit, Cond.instanceMethod objectInit, Cond.code objectInit ⟨#[0xb1]⟩ 1 none, Cond.classLink RX6 7 RX5, Cond.instantiable RX5 11, Cond.initialized RX5, Cond.fieldLink RX6 10 "BentPins" "table" "LBentPins$Table;", Cond.fieldLink RX6 16 "BentPins" "trial" "LBentPins$Table;", Cond.fieldLink RX6 19 "BentPins" "snapshot" "LBentPins$Table;", Cond.fieldLink RX6 22 "BentPins" "snapshotTaken" "Z", Cond.classLink RX6 26 RX0, Cond.instantiable RX0 2, Cond.initialized RX0, Cond.fieldLink RX6 29 "BentPins" "history" "LBentPins$History;", Cond.classLink RX6 33 RX3, Cond.instantiable RX3 2, Cond.initialized RX3, Cond.fieldLink RX6 36 "BentPins" "roads" "LBentPins$Roads;", Cond.classLink RX6 40 RX1, Cond.instantiable RX1 2, Cond.initialized RX1, Cond.fieldLink RX6 43 "BentPins" "pad" "LBentPins$Pad;", Cond.fieldLink RX6 47 "BentPins" "stopReason" "I", Cond.fieldLink RX6 51 "BentPins" "stopPart" "I"]
def wsX6_init_r2 : List Cond := [Cond.fieldLink RX6 54 "BentPins" "stopPosition" "I", Cond.methodLink RX6 9 yX5_init, Cond.instanceMethod yX5_init, Cond.code yX5_init cX5_init 2 none, Cond.methodLink RX5 3 objectInit, Cond.classLink RX5 9 RX2, Cond.instantiable RX2 8, Cond.initialized RX2, Cond.fieldLink RX5 12 "BentPins$Table" "pins" "LBentPins$Pins;", Cond.classLink RX5 18 RX4, Cond.instantiable RX4 1, Cond.initialized RX4, Cond.fieldLink RX5 23 "BentPins$Table" "worths" "LBentPins$Row;", Cond.fieldLink RX5 27 "BentPins$Table" "held" "LBentPins$Row;", Cond.fieldLink RX5 30 "BentPins$Table" "ended" "LBentPins$Row;", Cond.fieldLink RX5 33 "BentPins$Table" "full" "I", Cond.fieldLink RX5 37 "BentPins$Table" "left" "I", Cond.fieldLink RX5 40 "BentPins$Table" "lost" "I", Cond.fieldLink RX5 43 "BentPins$Table" "points" "I", Cond.fieldLink RX5 46 "BentPins$Table" "shots" "I", Cond.fieldLink RX5 49 "BentPins$Table" "hardShots" "I", Cond.fieldLink RX5 52 "BentPins$Table" "refusals" "I", Cond.methodLink RX5 55 Lib.Math.max.name, Cond.static Lib.Math.max.name]
def wsX6_init_r3 : List Cond := [Cond.initialized "java/lang/Math", Cond.code Lib.Math.max.name Lib.Math.max.code 2 (some .int), Cond.instanceMethod yX2_init, Cond.code yX2_init cX2_init 1 none, Cond.methodLink RX2 3 objectInit, Cond.classLink RX2 9 RX4, Cond.fieldLink RX2 14 "BentPins$Pins" "bends" "LBentPins$Row;", Cond.fieldLink RX2 20 "BentPins$Pins" "outs" "LBentPins$Row;", Cond.fieldLink RX2 23 "BentPins$Pins" "bells" "LBentPins$Row;", Cond.fieldLink RX2 26 "BentPins$Pins" "sides" "LBentPins$Row;", Cond.fieldLink RX2 29 "BentPins$Pins" "visits" "LBentPins$Row;", Cond.fieldLink RX2 32 "BentPins$Pins" "tilt" "I", Cond.fieldLink RX2 36 "BentPins$Pins" "rings" "I", Cond.fieldLink RX2 39 "BentPins$Pins" "bendsByBalls" "I", Cond.methodLink RX2 11 yX4_init, Cond.instanceMethod yX4_init, Cond.code yX4_init cX4_init 2 none, Cond.methodLink RX4 1 objectInit, Cond.methodLink RX4 7 Lib.Math.max.name, Cond.arrayClass .int, Cond.fieldLink RX4 13 "BentPins$Row" "cells" "[I", Cond.methodLink RX5 20 yX4_init, Cond.methodLink RX5 61 yX4_put, Cond.instanceMethod yX4_put]
def wsX6_init_r4 : List Cond := [Cond.selects RX4 yX4_put yX4_put, Cond.code yX4_put cX4_put 3 none, Cond.methodLink RX6 28 yX0_init, Cond.instanceMethod yX0_init, Cond.code yX0_init cX0_init 2 none, Cond.methodLink RX0 3 objectInit, Cond.classLink RX0 9 RX5, Cond.fieldLink RX0 11 "BentPins$History" "states" "[LBentPins$Table;", Cond.fieldLink RX0 17 "BentPins$History" "size" "I", Cond.methodLink RX0 21 yX5_init, Cond.instanceMethod yX3_init, Cond.code yX3_init cX3_init 1 none, Cond.methodLink RX3 3 objectInit, Cond.classLink RX3 9 RX4, Cond.fieldLink RX3 14 "BentPins$Roads" "waysHere" "LBentPins$Row;", Cond.fieldLink RX3 20 "BentPins$Roads" "waysBelow" "LBentPins$Row;", Cond.methodLink RX3 11 yX4_init, Cond.instanceMethod yX1_init, Cond.code yX1_init cX1_init 1 none, Cond.methodLink RX1 3 objectInit, Cond.classLink RX1 9 RX4, Cond.fieldLink RX1 14 "BentPins$Pad" "codes" "LBentPins$Row;", Cond.fieldLink RX1 20 "BentPins$Pad" "length" "I", Cond.methodLink RX1 11 yX4_init]
def wsX6_init : List Cond := .code yX6_init cX6_init 1 none :: ((wsX6_init_r1 ++ (wsX6_init_r2 ++ (wsX6_init_r3 ++ wsX6_init_r4))) ++ wsX50 ++ wsX60 ++ wsX00 ++ wsX30 ++ wsX10 ++ wsX20 ++ wsX40)
def wsX6_shoot_r1 : List Cond := [Cond.fieldLink RX6 29 "BentPins" "history" "LBentPins$History;", Cond.fieldLink RX6 10 "BentPins" "table" "LBentPins$Table;", Cond.methodLink RX6 57 yX6_isWithin, Cond.static yX6_isWithin, Cond.initialized RX6, Cond.code yX6_isWithin cX6_isWithin 3 (some .boolean), Cond.methodLink RX6 61 yX0_record, Cond.instanceMethod yX0_record, Cond.selects RX0 yX0_record yX0_record, Cond.initialized RX0, Cond.code yX0_record cX0_record 3 none, Cond.fieldLink RX0 17 "BentPins$History" "size" "I", Cond.fieldLink RX0 11 "BentPins$History" "states" "[LBentPins$Table;", Cond.methodLink RX0 22 yX0_dropOldest, Cond.instanceMethod yX0_dropOldest, Cond.selects RX0 yX0_dropOldest yX0_dropOldest, Cond.code yX0_dropOldest cX0_dropOldest 3 none, Cond.methodLink RX0 25 yX0_stateAt, Cond.instanceMethod yX0_stateAt, Cond.selects RX0 yX0_stateAt yX0_stateAt, Cond.code yX0_stateAt cX0_stateAt 2 (some (.object "BentPins$Table")), Cond.methodLink RX0 29 yX5_copyFrom, Cond.instanceMethod yX5_copyFrom, Cond.selects RX5 yX5_copyFrom yX5_copyFrom]
def wsX6_shoot_r2 : List Cond := [Cond.initialized RX5, Cond.code yX5_copyFrom cX5_copyFrom 2 none, Cond.fieldLink RX5 12 "BentPins$Table" "pins" "LBentPins$Pins;", Cond.fieldLink RX5 23 "BentPins$Table" "worths" "LBentPins$Row;", Cond.fieldLink RX5 27 "BentPins$Table" "held" "LBentPins$Row;", Cond.fieldLink RX5 30 "BentPins$Table" "ended" "LBentPins$Row;", Cond.fieldLink RX5 33 "BentPins$Table" "full" "I", Cond.fieldLink RX5 37 "BentPins$Table" "left" "I", Cond.fieldLink RX5 40 "BentPins$Table" "lost" "I", Cond.fieldLink RX5 43 "BentPins$Table" "points" "I", Cond.fieldLink RX5 46 "BentPins$Table" "shots" "I", Cond.fieldLink RX5 49 "BentPins$Table" "hardShots" "I", Cond.fieldLink RX5 52 "BentPins$Table" "refusals" "I", Cond.methodLink RX5 65 yX2_copyFrom, Cond.instanceMethod yX2_copyFrom, Cond.selects RX2 yX2_copyFrom yX2_copyFrom, Cond.initialized RX2, Cond.code yX2_copyFrom cX2_copyFrom 2 none, Cond.fieldLink RX2 14 "BentPins$Pins" "bends" "LBentPins$Row;", Cond.fieldLink RX2 20 "BentPins$Pins" "outs" "LBentPins$Row;", Cond.fieldLink RX2 23 "BentPins$Pins" "bells" "LBentPins$Row;", Cond.fieldLink RX2 26 "BentPins$Pins" "sides" "LBentPins$Row;", Cond.fieldLink RX2 29 "BentPins$Pins" "visits" "LBentPins$Row;", Cond.fieldLink RX2 32 "BentPins$Pins" "tilt" "I"]
def wsX6_shoot_r3 : List Cond := [Cond.fieldLink RX2 36 "BentPins$Pins" "rings" "I", Cond.fieldLink RX2 39 "BentPins$Pins" "bendsByBalls" "I", Cond.methodLink RX2 42 yX4_copyFrom, Cond.instanceMethod yX4_copyFrom, Cond.selects RX4 yX4_copyFrom yX4_copyFrom, Cond.initialized RX4, Cond.code yX4_copyFrom cX4_copyFrom 2 none, Cond.fieldLink RX4 13 "BentPins$Row" "cells" "[I", Cond.methodLink RX4 25 Lib.Math.min.name, Cond.static Lib.Math.min.name, Cond.initialized "java/lang/Math", Cond.code Lib.Math.min.name Lib.Math.min.code 2 (some .int), Cond.methodLink RX4 28 arraycopyName, Cond.native arraycopyName, Cond.static arraycopyName, Cond.initialized "java/lang/System", Cond.methodLink RX5 69 yX4_copyFrom, Cond.methodLink RX6 65 yX5_shootBall, Cond.instanceMethod yX5_shootBall, Cond.selects RX5 yX5_shootBall yX5_shootBall, Cond.code yX5_shootBall cX5_shootBall 6 (some .int), Cond.fieldLink RX5 80 "BentPins$Pins" "rings" "I", Cond.methodLink RX5 83 yX2_rollBall, Cond.instanceMethod yX2_rollBall]
def wsX6_shoot_r4 : List Cond := [Cond.selects RX2 yX2_rollBall yX2_rollBall, Cond.code yX2_rollBall cX2_rollBall 7 (some .int), Cond.static yX6_pinAt, Cond.code yX6_pinAt cX6_pinAt 2 (some .int), Cond.methodLink RX2 90 yX2_nextDirection, Cond.instanceMethod yX2_nextDirection, Cond.selects RX2 yX2_nextDirection yX2_nextDirection, Cond.code yX2_nextDirection cX2_nextDirection 3 (some .int), Cond.methodLink RX2 57 yX2_isOut, Cond.instanceMethod yX2_isOut, Cond.selects RX2 yX2_isOut yX2_isOut, Cond.code yX2_isOut cX2_isOut 2 (some .boolean), Cond.methodLink RX2 46 yX4_at, Cond.instanceMethod yX4_at, Cond.selects RX4 yX4_at yX4_at, Cond.code yX4_at cX4_at 2 (some .int), Cond.methodLink RX2 80 yX2_leanOf, Cond.instanceMethod yX2_leanOf, Cond.selects RX2 yX2_leanOf yX2_leanOf, Cond.code yX2_leanOf cX2_leanOf 3 (some .int), Cond.methodLink RX2 93 yX2_meetBall, Cond.instanceMethod yX2_meetBall, Cond.selects RX2 yX2_meetBall yX2_meetBall, Cond.code yX2_meetBall cX2_meetBall 4 none]
def wsX6_shoot_r5 : List Cond := [Cond.methodLink RX2 74 yX4_raise, Cond.instanceMethod yX4_raise, Cond.selects RX4 yX4_raise yX4_raise, Cond.code yX4_raise cX4_raise 3 none, Cond.methodLink RX2 66 yX4_put, Cond.instanceMethod yX4_put, Cond.selects RX4 yX4_put yX4_put, Cond.code yX4_put cX4_put 3 none, Cond.methodLink RX2 97 yX2_canBend, Cond.instanceMethod yX2_canBend, Cond.selects RX2 yX2_canBend yX2_canBend, Cond.code yX2_canBend cX2_canBend 3 (some .boolean), Cond.methodLink RX2 101 yX2_bendBy, Cond.instanceMethod yX2_bendBy, Cond.selects RX2 yX2_bendBy yX2_bendBy, Cond.code yX2_bendBy cX2_bendBy 3 none, Cond.static yX6_placeBeside, Cond.code yX6_placeBeside cX6_placeBeside 2 (some .int), Cond.methodLink RX6 239 Lib.Math.min.name, Cond.methodLink RX6 244 Lib.Math.max.name, Cond.static Lib.Math.max.name, Cond.code Lib.Math.max.name Lib.Math.max.code 2 (some .int), Cond.methodLink RX5 87 yX5_takeBall, Cond.instanceMethod yX5_takeBall]
def wsX6_shoot_r6 : List Cond := [Cond.selects RX5 yX5_takeBall yX5_takeBall, Cond.code yX5_takeBall cX5_takeBall 2 (some .int), Cond.methodLink RX5 90 yX4_raise, Cond.methodLink RX5 76 yX5_isFull, Cond.instanceMethod yX5_isFull, Cond.selects RX5 yX5_isFull yX5_isFull, Cond.code yX5_isFull cX5_isFull 2 (some .boolean), Cond.methodLink RX5 72 yX4_at]
def wsX6_shoot : List Cond := .code yX6_shoot cX6_shoot 3 (some .int) :: ((wsX6_shoot_r1 ++ (wsX6_shoot_r2 ++ (wsX6_shoot_r3 ++ (wsX6_shoot_r4 ++ (wsX6_shoot_r5 ++ wsX6_shoot_r6))))) ++ wsX60 ++ wsX00 ++ wsX50 ++ wsX20 ++ wsX40)
def wsX6_bend_r1 : List Cond := [Cond.fieldLink RX6 29 "BentPins" "history" "LBentPins$History;", Cond.fieldLink RX6 10 "BentPins" "table" "LBentPins$Table;", Cond.methodLink RX6 57 yX6_isWithin, Cond.static yX6_isWithin, Cond.initialized RX6, Cond.code yX6_isWithin cX6_isWithin 3 (some .boolean), Cond.methodLink RX6 61 yX0_record, Cond.instanceMethod yX0_record, Cond.selects RX0 yX0_record yX0_record, Cond.initialized RX0, Cond.code yX0_record cX0_record 3 none, Cond.fieldLink RX0 17 "BentPins$History" "size" "I", Cond.fieldLink RX0 11 "BentPins$History" "states" "[LBentPins$Table;", Cond.methodLink RX0 22 yX0_dropOldest, Cond.instanceMethod yX0_dropOldest, Cond.selects RX0 yX0_dropOldest yX0_dropOldest, Cond.code yX0_dropOldest cX0_dropOldest 3 none, Cond.methodLink RX0 25 yX0_stateAt, Cond.instanceMethod yX0_stateAt, Cond.selects RX0 yX0_stateAt yX0_stateAt, Cond.code yX0_stateAt cX0_stateAt 2 (some (.object "BentPins$Table")), Cond.methodLink RX0 29 yX5_copyFrom, Cond.instanceMethod yX5_copyFrom, Cond.selects RX5 yX5_copyFrom yX5_copyFrom]
def wsX6_bend_r2 : List Cond := [Cond.initialized RX5, Cond.code yX5_copyFrom cX5_copyFrom 2 none, Cond.fieldLink RX5 12 "BentPins$Table" "pins" "LBentPins$Pins;", Cond.fieldLink RX5 23 "BentPins$Table" "worths" "LBentPins$Row;", Cond.fieldLink RX5 27 "BentPins$Table" "held" "LBentPins$Row;", Cond.fieldLink RX5 30 "BentPins$Table" "ended" "LBentPins$Row;", Cond.fieldLink RX5 33 "BentPins$Table" "full" "I", Cond.fieldLink RX5 37 "BentPins$Table" "left" "I", Cond.fieldLink RX5 40 "BentPins$Table" "lost" "I", Cond.fieldLink RX5 43 "BentPins$Table" "points" "I", Cond.fieldLink RX5 46 "BentPins$Table" "shots" "I", Cond.fieldLink RX5 49 "BentPins$Table" "hardShots" "I", Cond.fieldLink RX5 52 "BentPins$Table" "refusals" "I", Cond.methodLink RX5 65 yX2_copyFrom, Cond.instanceMethod yX2_copyFrom, Cond.selects RX2 yX2_copyFrom yX2_copyFrom, Cond.initialized RX2, Cond.code yX2_copyFrom cX2_copyFrom 2 none, Cond.fieldLink RX2 14 "BentPins$Pins" "bends" "LBentPins$Row;", Cond.fieldLink RX2 20 "BentPins$Pins" "outs" "LBentPins$Row;", Cond.fieldLink RX2 23 "BentPins$Pins" "bells" "LBentPins$Row;", Cond.fieldLink RX2 26 "BentPins$Pins" "sides" "LBentPins$Row;", Cond.fieldLink RX2 29 "BentPins$Pins" "visits" "LBentPins$Row;", Cond.fieldLink RX2 32 "BentPins$Pins" "tilt" "I"]
def wsX6_bend_r3 : List Cond := [Cond.fieldLink RX2 36 "BentPins$Pins" "rings" "I", Cond.fieldLink RX2 39 "BentPins$Pins" "bendsByBalls" "I", Cond.methodLink RX2 42 yX4_copyFrom, Cond.instanceMethod yX4_copyFrom, Cond.selects RX4 yX4_copyFrom yX4_copyFrom, Cond.initialized RX4, Cond.code yX4_copyFrom cX4_copyFrom 2 none, Cond.fieldLink RX4 13 "BentPins$Row" "cells" "[I", Cond.methodLink RX4 25 Lib.Math.min.name, Cond.static Lib.Math.min.name, Cond.initialized "java/lang/Math", Cond.code Lib.Math.min.name Lib.Math.min.code 2 (some .int), Cond.methodLink RX4 28 arraycopyName, Cond.native arraycopyName, Cond.static arraycopyName, Cond.initialized "java/lang/System", Cond.methodLink RX5 69 yX4_copyFrom, Cond.methodLink RX6 69 yX5_bendByHand, Cond.instanceMethod yX5_bendByHand, Cond.selects RX5 yX5_bendByHand yX5_bendByHand, Cond.code yX5_bendByHand cX5_bendByHand 3 (some .int), Cond.fieldLink RX5 103 "BentPins$Pins" "bends" "LBentPins$Row;", Cond.methodLink RX5 93 yX2_isOut, Cond.instanceMethod yX2_isOut]
def wsX6_bend_r4 : List Cond := [Cond.selects RX2 yX2_isOut yX2_isOut, Cond.code yX2_isOut cX2_isOut 2 (some .boolean), Cond.methodLink RX2 46 yX4_at, Cond.instanceMethod yX4_at, Cond.selects RX4 yX4_at yX4_at, Cond.code yX4_at cX4_at 2 (some .int), Cond.methodLink RX5 96 yX2_canBend, Cond.instanceMethod yX2_canBend, Cond.selects RX2 yX2_canBend yX2_canBend, Cond.code yX2_canBend cX2_canBend 3 (some .boolean), Cond.methodLink RX5 100 yX2_bendBy, Cond.instanceMethod yX2_bendBy, Cond.selects RX2 yX2_bendBy yX2_bendBy, Cond.code yX2_bendBy cX2_bendBy 3 none, Cond.methodLink RX2 74 yX4_raise, Cond.instanceMethod yX4_raise, Cond.selects RX4 yX4_raise yX4_raise, Cond.code yX4_raise cX4_raise 3 none, Cond.methodLink RX5 72 yX4_at]
def wsX6_bend : List Cond := .code yX6_bend cX6_bend 3 (some .int) :: ((wsX6_bend_r1 ++ (wsX6_bend_r2 ++ (wsX6_bend_r3 ++ wsX6_bend_r4))) ++ wsX60 ++ wsX00 ++ wsX50 ++ wsX20 ++ wsX40)
def wsX6_pull_r1 : List Cond := [Cond.fieldLink RX6 29 "BentPins" "history" "LBentPins$History;", Cond.fieldLink RX6 10 "BentPins" "table" "LBentPins$Table;", Cond.fieldLink RX6 73 "BentPins$Table" "pins" "LBentPins$Pins;", Cond.methodLink RX6 57 yX6_isWithin, Cond.static yX6_isWithin, Cond.initialized RX6, Cond.code yX6_isWithin cX6_isWithin 3 (some .boolean), Cond.methodLink RX6 61 yX0_record, Cond.instanceMethod yX0_record, Cond.selects RX0 yX0_record yX0_record, Cond.initialized RX0, Cond.code yX0_record cX0_record 3 none, Cond.fieldLink RX0 17 "BentPins$History" "size" "I", Cond.fieldLink RX0 11 "BentPins$History" "states" "[LBentPins$Table;", Cond.methodLink RX0 22 yX0_dropOldest, Cond.instanceMethod yX0_dropOldest, Cond.selects RX0 yX0_dropOldest yX0_dropOldest, Cond.code yX0_dropOldest cX0_dropOldest 3 none, Cond.methodLink RX0 25 yX0_stateAt, Cond.instanceMethod yX0_stateAt, Cond.selects RX0 yX0_stateAt yX0_stateAt, Cond.code yX0_stateAt cX0_stateAt 2 (some (.object "BentPins$Table")), Cond.methodLink RX0 29 yX5_copyFrom, Cond.instanceMethod yX5_copyFrom]
def wsX6_pull_r2 : List Cond := [Cond.selects RX5 yX5_copyFrom yX5_copyFrom, Cond.initialized RX5, Cond.code yX5_copyFrom cX5_copyFrom 2 none, Cond.fieldLink RX5 12 "BentPins$Table" "pins" "LBentPins$Pins;", Cond.fieldLink RX5 23 "BentPins$Table" "worths" "LBentPins$Row;", Cond.fieldLink RX5 27 "BentPins$Table" "held" "LBentPins$Row;", Cond.fieldLink RX5 30 "BentPins$Table" "ended" "LBentPins$Row;", Cond.fieldLink RX5 33 "BentPins$Table" "full" "I", Cond.fieldLink RX5 37 "BentPins$Table" "left" "I", Cond.fieldLink RX5 40 "BentPins$Table" "lost" "I", Cond.fieldLink RX5 43 "BentPins$Table" "points" "I", Cond.fieldLink RX5 46 "BentPins$Table" "shots" "I", Cond.fieldLink RX5 49 "BentPins$Table" "hardShots" "I", Cond.fieldLink RX5 52 "BentPins$Table" "refusals" "I", Cond.methodLink RX5 65 yX2_copyFrom, Cond.instanceMethod yX2_copyFrom, Cond.selects RX2 yX2_copyFrom yX2_copyFrom, Cond.initialized RX2, Cond.code yX2_copyFrom cX2_copyFrom 2 none, Cond.fieldLink RX2 14 "BentPins$Pins" "bends" "LBentPins$Row;", Cond.fieldLink RX2 20 "BentPins$Pins" "outs" "LBentPins$Row;", Cond.fieldLink RX2 23 "BentPins$Pins" "bells" "LBentPins$Row;", Cond.fieldLink RX2 26 "BentPins$Pins" "sides" "LBentPins$Row;", Cond.fieldLink RX2 29 "BentPins$Pins" "visits" "LBentPins$Row;"]
def wsX6_pull_r3 : List Cond := [Cond.fieldLink RX2 32 "BentPins$Pins" "tilt" "I", Cond.fieldLink RX2 36 "BentPins$Pins" "rings" "I", Cond.fieldLink RX2 39 "BentPins$Pins" "bendsByBalls" "I", Cond.methodLink RX2 42 yX4_copyFrom, Cond.instanceMethod yX4_copyFrom, Cond.selects RX4 yX4_copyFrom yX4_copyFrom, Cond.initialized RX4, Cond.code yX4_copyFrom cX4_copyFrom 2 none, Cond.fieldLink RX4 13 "BentPins$Row" "cells" "[I", Cond.methodLink RX4 25 Lib.Math.min.name, Cond.static Lib.Math.min.name, Cond.initialized "java/lang/Math", Cond.code Lib.Math.min.name Lib.Math.min.code 2 (some .int), Cond.methodLink RX4 28 arraycopyName, Cond.native arraycopyName, Cond.static arraycopyName, Cond.initialized "java/lang/System", Cond.methodLink RX5 69 yX4_copyFrom, Cond.methodLink RX6 77 yX2_pullOrSet, Cond.instanceMethod yX2_pullOrSet, Cond.selects RX2 yX2_pullOrSet yX2_pullOrSet, Cond.code yX2_pullOrSet cX2_pullOrSet 2 none, Cond.methodLink RX2 46 yX4_at, Cond.instanceMethod yX4_at]
def wsX6_pull_r4 : List Cond := [Cond.selects RX4 yX4_at yX4_at, Cond.code yX4_at cX4_at 2 (some .int), Cond.methodLink RX2 66 yX4_put, Cond.instanceMethod yX4_put, Cond.selects RX4 yX4_put yX4_put, Cond.code yX4_put cX4_put 3 none, Cond.methodLink RX6 83 yX2_pulledOut, Cond.instanceMethod yX2_pulledOut, Cond.selects RX2 yX2_pulledOut yX2_pulledOut, Cond.code yX2_pulledOut cX2_pulledOut 1 (some .int), Cond.methodLink RX2 50 yX4_total, Cond.instanceMethod yX4_total, Cond.selects RX4 yX4_total yX4_total, Cond.code yX4_total cX4_total 6 (some .int)]
def wsX6_pull : List Cond := .code yX6_pull cX6_pull 2 (some .int) :: ((wsX6_pull_r1 ++ (wsX6_pull_r2 ++ (wsX6_pull_r3 ++ wsX6_pull_r4))) ++ wsX60 ++ wsX50 ++ wsX00 ++ wsX20 ++ wsX40)
def wsX6_bell_r1 : List Cond := [Cond.fieldLink RX6 29 "BentPins" "history" "LBentPins$History;", Cond.fieldLink RX6 10 "BentPins" "table" "LBentPins$Table;", Cond.fieldLink RX6 73 "BentPins$Table" "pins" "LBentPins$Pins;", Cond.methodLink RX6 57 yX6_isWithin, Cond.static yX6_isWithin, Cond.initialized RX6, Cond.code yX6_isWithin cX6_isWithin 3 (some .boolean), Cond.methodLink RX6 61 yX0_record, Cond.instanceMethod yX0_record, Cond.selects RX0 yX0_record yX0_record, Cond.initialized RX0, Cond.code yX0_record cX0_record 3 none, Cond.fieldLink RX0 17 "BentPins$History" "size" "I", Cond.fieldLink RX0 11 "BentPins$History" "states" "[LBentPins$Table;", Cond.methodLink RX0 22 yX0_dropOldest, Cond.instanceMethod yX0_dropOldest, Cond.selects RX0 yX0_dropOldest yX0_dropOldest, Cond.code yX0_dropOldest cX0_dropOldest 3 none, Cond.methodLink RX0 25 yX0_stateAt, Cond.instanceMethod yX0_stateAt, Cond.selects RX0 yX0_stateAt yX0_stateAt, Cond.code yX0_stateAt cX0_stateAt 2 (some (.object "BentPins$Table")), Cond.methodLink RX0 29 yX5_copyFrom, Cond.instanceMethod yX5_copyFrom]
def wsX6_bell_r2 : List Cond := [Cond.selects RX5 yX5_copyFrom yX5_copyFrom, Cond.initialized RX5, Cond.code yX5_copyFrom cX5_copyFrom 2 none, Cond.fieldLink RX5 12 "BentPins$Table" "pins" "LBentPins$Pins;", Cond.fieldLink RX5 23 "BentPins$Table" "worths" "LBentPins$Row;", Cond.fieldLink RX5 27 "BentPins$Table" "held" "LBentPins$Row;", Cond.fieldLink RX5 30 "BentPins$Table" "ended" "LBentPins$Row;", Cond.fieldLink RX5 33 "BentPins$Table" "full" "I", Cond.fieldLink RX5 37 "BentPins$Table" "left" "I", Cond.fieldLink RX5 40 "BentPins$Table" "lost" "I", Cond.fieldLink RX5 43 "BentPins$Table" "points" "I", Cond.fieldLink RX5 46 "BentPins$Table" "shots" "I", Cond.fieldLink RX5 49 "BentPins$Table" "hardShots" "I", Cond.fieldLink RX5 52 "BentPins$Table" "refusals" "I", Cond.methodLink RX5 65 yX2_copyFrom, Cond.instanceMethod yX2_copyFrom, Cond.selects RX2 yX2_copyFrom yX2_copyFrom, Cond.initialized RX2, Cond.code yX2_copyFrom cX2_copyFrom 2 none, Cond.fieldLink RX2 14 "BentPins$Pins" "bends" "LBentPins$Row;", Cond.fieldLink RX2 20 "BentPins$Pins" "outs" "LBentPins$Row;", Cond.fieldLink RX2 23 "BentPins$Pins" "bells" "LBentPins$Row;", Cond.fieldLink RX2 26 "BentPins$Pins" "sides" "LBentPins$Row;", Cond.fieldLink RX2 29 "BentPins$Pins" "visits" "LBentPins$Row;"]
def wsX6_bell_r3 : List Cond := [Cond.fieldLink RX2 32 "BentPins$Pins" "tilt" "I", Cond.fieldLink RX2 36 "BentPins$Pins" "rings" "I", Cond.fieldLink RX2 39 "BentPins$Pins" "bendsByBalls" "I", Cond.methodLink RX2 42 yX4_copyFrom, Cond.instanceMethod yX4_copyFrom, Cond.selects RX4 yX4_copyFrom yX4_copyFrom, Cond.initialized RX4, Cond.code yX4_copyFrom cX4_copyFrom 2 none, Cond.fieldLink RX4 13 "BentPins$Row" "cells" "[I", Cond.methodLink RX4 25 Lib.Math.min.name, Cond.static Lib.Math.min.name, Cond.initialized "java/lang/Math", Cond.code Lib.Math.min.name Lib.Math.min.code 2 (some .int), Cond.methodLink RX4 28 arraycopyName, Cond.native arraycopyName, Cond.static arraycopyName, Cond.initialized "java/lang/System", Cond.methodLink RX5 69 yX4_copyFrom, Cond.methodLink RX6 87 yX2_hangOrTakeBell, Cond.instanceMethod yX2_hangOrTakeBell, Cond.selects RX2 yX2_hangOrTakeBell yX2_hangOrTakeBell, Cond.code yX2_hangOrTakeBell cX2_hangOrTakeBell 2 none, Cond.methodLink RX2 46 yX4_at, Cond.instanceMethod yX4_at]
def wsX6_bell_r4 : List Cond := [Cond.selects RX4 yX4_at yX4_at, Cond.code yX4_at cX4_at 2 (some .int), Cond.methodLink RX2 66 yX4_put, Cond.instanceMethod yX4_put, Cond.selects RX4 yX4_put yX4_put, Cond.code yX4_put cX4_put 3 none, Cond.methodLink RX6 90 yX2_allBells, Cond.instanceMethod yX2_allBells, Cond.selects RX2 yX2_allBells yX2_allBells, Cond.code yX2_allBells cX2_allBells 1 (some .int), Cond.methodLink RX2 50 yX4_total, Cond.instanceMethod yX4_total, Cond.selects RX4 yX4_total yX4_total, Cond.code yX4_total cX4_total 6 (some .int)]
def wsX6_bell : List Cond := .code yX6_bell cX6_bell 2 (some .int) :: ((wsX6_bell_r1 ++ (wsX6_bell_r2 ++ (wsX6_bell_r3 ++ wsX6_bell_r4))) ++ wsX60 ++ wsX50 ++ wsX00 ++ wsX20 ++ wsX40)
def wsX6_worth_r1 : List Cond := [Cond.fieldLink RX6 29 "BentPins" "history" "LBentPins$History;", Cond.fieldLink RX6 10 "BentPins" "table" "LBentPins$Table;", Cond.fieldLink RX6 93 "BentPins$Table" "worths" "LBentPins$Row;", Cond.methodLink RX6 57 yX6_isWithin, Cond.static yX6_isWithin, Cond.initialized RX6, Cond.code yX6_isWithin cX6_isWithin 3 (some .boolean), Cond.methodLink RX6 61 yX0_record, Cond.instanceMethod yX0_record, Cond.selects RX0 yX0_record yX0_record, Cond.initialized RX0, Cond.code yX0_record cX0_record 3 none, Cond.fieldLink RX0 17 "BentPins$History" "size" "I", Cond.fieldLink RX0 11 "BentPins$History" "states" "[LBentPins$Table;", Cond.methodLink RX0 22 yX0_dropOldest, Cond.instanceMethod yX0_dropOldest, Cond.selects RX0 yX0_dropOldest yX0_dropOldest, Cond.code yX0_dropOldest cX0_dropOldest 3 none, Cond.methodLink RX0 25 yX0_stateAt, Cond.instanceMethod yX0_stateAt, Cond.selects RX0 yX0_stateAt yX0_stateAt, Cond.code yX0_stateAt cX0_stateAt 2 (some (.object "BentPins$Table")), Cond.methodLink RX0 29 yX5_copyFrom, Cond.instanceMethod yX5_copyFrom]
def wsX6_worth_r2 : List Cond := [Cond.selects RX5 yX5_copyFrom yX5_copyFrom, Cond.initialized RX5, Cond.code yX5_copyFrom cX5_copyFrom 2 none, Cond.fieldLink RX5 12 "BentPins$Table" "pins" "LBentPins$Pins;", Cond.fieldLink RX5 23 "BentPins$Table" "worths" "LBentPins$Row;", Cond.fieldLink RX5 27 "BentPins$Table" "held" "LBentPins$Row;", Cond.fieldLink RX5 30 "BentPins$Table" "ended" "LBentPins$Row;", Cond.fieldLink RX5 33 "BentPins$Table" "full" "I", Cond.fieldLink RX5 37 "BentPins$Table" "left" "I", Cond.fieldLink RX5 40 "BentPins$Table" "lost" "I", Cond.fieldLink RX5 43 "BentPins$Table" "points" "I", Cond.fieldLink RX5 46 "BentPins$Table" "shots" "I", Cond.fieldLink RX5 49 "BentPins$Table" "hardShots" "I", Cond.fieldLink RX5 52 "BentPins$Table" "refusals" "I", Cond.methodLink RX5 65 yX2_copyFrom, Cond.instanceMethod yX2_copyFrom, Cond.selects RX2 yX2_copyFrom yX2_copyFrom, Cond.initialized RX2, Cond.code yX2_copyFrom cX2_copyFrom 2 none, Cond.fieldLink RX2 14 "BentPins$Pins" "bends" "LBentPins$Row;", Cond.fieldLink RX2 20 "BentPins$Pins" "outs" "LBentPins$Row;", Cond.fieldLink RX2 23 "BentPins$Pins" "bells" "LBentPins$Row;", Cond.fieldLink RX2 26 "BentPins$Pins" "sides" "LBentPins$Row;", Cond.fieldLink RX2 29 "BentPins$Pins" "visits" "LBentPins$Row;"]
def wsX6_worth_r3 : List Cond := [Cond.fieldLink RX2 32 "BentPins$Pins" "tilt" "I", Cond.fieldLink RX2 36 "BentPins$Pins" "rings" "I", Cond.fieldLink RX2 39 "BentPins$Pins" "bendsByBalls" "I", Cond.methodLink RX2 42 yX4_copyFrom, Cond.instanceMethod yX4_copyFrom, Cond.selects RX4 yX4_copyFrom yX4_copyFrom, Cond.initialized RX4, Cond.code yX4_copyFrom cX4_copyFrom 2 none, Cond.fieldLink RX4 13 "BentPins$Row" "cells" "[I", Cond.methodLink RX4 25 Lib.Math.min.name, Cond.static Lib.Math.min.name, Cond.initialized "java/lang/Math", Cond.code Lib.Math.min.name Lib.Math.min.code 2 (some .int), Cond.methodLink RX4 28 arraycopyName, Cond.native arraycopyName, Cond.static arraycopyName, Cond.initialized "java/lang/System", Cond.methodLink RX5 69 yX4_copyFrom, Cond.methodLink RX6 97 yX4_at, Cond.instanceMethod yX4_at, Cond.selects RX4 yX4_at yX4_at, Cond.code yX4_at cX4_at 2 (some .int), Cond.methodLink RX6 103 yX4_put, Cond.instanceMethod yX4_put]
def wsX6_worth_r4 : List Cond := [Cond.selects RX4 yX4_put yX4_put, Cond.code yX4_put cX4_put 3 none]
def wsX6_worth : List Cond := .code yX6_worth cX6_worth 4 (some .int) :: ((wsX6_worth_r1 ++ (wsX6_worth_r2 ++ (wsX6_worth_r3 ++ wsX6_worth_r4))) ++ wsX60 ++ wsX50 ++ wsX00 ++ wsX20 ++ wsX40)
def wsX6_set_r1 : List Cond := [Cond.fieldLink RX6 29 "BentPins" "history" "LBentPins$History;", Cond.fieldLink RX6 10 "BentPins" "table" "LBentPins$Table;", Cond.fieldLink RX6 73 "BentPins$Table" "pins" "LBentPins$Pins;", Cond.fieldLink RX6 107 "BentPins$Pins" "tilt" "I", Cond.fieldLink RX6 110 "BentPins$Table" "full" "I", Cond.methodLink RX6 57 yX6_isWithin, Cond.static yX6_isWithin, Cond.initialized RX6, Cond.code yX6_isWithin cX6_isWithin 3 (some .boolean), Cond.methodLink RX6 61 yX0_record, Cond.instanceMethod yX0_record, Cond.selects RX0 yX0_record yX0_record, Cond.initialized RX0, Cond.code yX0_record cX0_record 3 none, Cond.fieldLink RX0 17 "BentPins$History" "size" "I", Cond.fieldLink RX0 11 "BentPins$History" "states" "[LBentPins$Table;", Cond.methodLink RX0 22 yX0_dropOldest, Cond.instanceMethod yX0_dropOldest, Cond.selects RX0 yX0_dropOldest yX0_dropOldest, Cond.code yX0_dropOldest cX0_dropOldest 3 none, Cond.methodLink RX0 25 yX0_stateAt, Cond.instanceMethod yX0_stateAt, Cond.selects RX0 yX0_stateAt yX0_stateAt, Cond.code yX0_stateAt cX0_stateAt 2 (some (.object "BentPins$Table"))]
def wsX6_set_r2 : List Cond := [Cond.methodLink RX0 29 yX5_copyFrom, Cond.instanceMethod yX5_copyFrom, Cond.selects RX5 yX5_copyFrom yX5_copyFrom, Cond.initialized RX5, Cond.code yX5_copyFrom cX5_copyFrom 2 none, Cond.fieldLink RX5 12 "BentPins$Table" "pins" "LBentPins$Pins;", Cond.fieldLink RX5 23 "BentPins$Table" "worths" "LBentPins$Row;", Cond.fieldLink RX5 27 "BentPins$Table" "held" "LBentPins$Row;", Cond.fieldLink RX5 30 "BentPins$Table" "ended" "LBentPins$Row;", Cond.fieldLink RX5 33 "BentPins$Table" "full" "I", Cond.fieldLink RX5 37 "BentPins$Table" "left" "I", Cond.fieldLink RX5 40 "BentPins$Table" "lost" "I", Cond.fieldLink RX5 43 "BentPins$Table" "points" "I", Cond.fieldLink RX5 46 "BentPins$Table" "shots" "I", Cond.fieldLink RX5 49 "BentPins$Table" "hardShots" "I", Cond.fieldLink RX5 52 "BentPins$Table" "refusals" "I", Cond.methodLink RX5 65 yX2_copyFrom, Cond.instanceMethod yX2_copyFrom, Cond.selects RX2 yX2_copyFrom yX2_copyFrom, Cond.initialized RX2, Cond.code yX2_copyFrom cX2_copyFrom 2 none, Cond.fieldLink RX2 14 "BentPins$Pins" "bends" "LBentPins$Row;", Cond.fieldLink RX2 20 "BentPins$Pins" "outs" "LBentPins$Row;", Cond.fieldLink RX2 23 "BentPins$Pins" "bells" "LBentPins$Row;"]
def wsX6_set_r3 : List Cond := [Cond.fieldLink RX2 26 "BentPins$Pins" "sides" "LBentPins$Row;", Cond.fieldLink RX2 29 "BentPins$Pins" "visits" "LBentPins$Row;", Cond.fieldLink RX2 32 "BentPins$Pins" "tilt" "I", Cond.fieldLink RX2 36 "BentPins$Pins" "rings" "I", Cond.fieldLink RX2 39 "BentPins$Pins" "bendsByBalls" "I", Cond.methodLink RX2 42 yX4_copyFrom, Cond.instanceMethod yX4_copyFrom, Cond.selects RX4 yX4_copyFrom yX4_copyFrom, Cond.initialized RX4, Cond.code yX4_copyFrom cX4_copyFrom 2 none, Cond.fieldLink RX4 13 "BentPins$Row" "cells" "[I", Cond.methodLink RX4 25 Lib.Math.min.name, Cond.static Lib.Math.min.name, Cond.initialized "java/lang/Math", Cond.code Lib.Math.min.name Lib.Math.min.code 2 (some .int), Cond.methodLink RX4 28 arraycopyName, Cond.native arraycopyName, Cond.static arraycopyName, Cond.initialized "java/lang/System", Cond.methodLink RX5 69 yX4_copyFrom]
def wsX6_set : List Cond := .code yX6_set cX6_set 4 (some .int) :: ((wsX6_set_r1 ++ (wsX6_set_r2 ++ wsX6_set_r3)) ++ wsX60 ++ wsX50 ++ wsX20 ++ wsX00 ++ wsX40)
def wsX6_empty_r1 : List Cond := [Cond.fieldLink RX6 29 "BentPins" "history" "LBentPins$History;", Cond.fieldLink RX6 10 "BentPins" "table" "LBentPins$Table;", Cond.fieldLink RX6 116 "BentPins$Table" "left" "I", Cond.methodLink RX6 61 yX0_record, Cond.instanceMethod yX0_record, Cond.selects RX0 yX0_record yX0_record, Cond.initialized RX0, Cond.code yX0_record cX0_record 3 none, Cond.fieldLink RX0 17 "BentPins$History" "size" "I", Cond.fieldLink RX0 11 "BentPins$History" "states" "[LBentPins$Table;", Cond.methodLink RX0 22 yX0_dropOldest, Cond.instanceMethod yX0_dropOldest, Cond.selects RX0 yX0_dropOldest yX0_dropOldest, Cond.code yX0_dropOldest cX0_dropOldest 3 none, Cond.methodLink RX0 25 yX0_stateAt, Cond.instanceMethod yX0_stateAt, Cond.selects RX0 yX0_stateAt yX0_stateAt, Cond.code yX0_stateAt cX0_stateAt 2 (some (.object "BentPins$Table")), Cond.methodLink RX0 29 yX5_copyFrom, Cond.instanceMethod yX5_copyFrom, Cond.selects RX5 yX5_copyFrom yX5_copyFrom, Cond.initialized RX5, Cond.code yX5_copyFrom cX5_copyFrom 2 none, Cond.fieldLink RX5 12 "BentPins$Table" "pins" "LBentPins$Pins;"]
def wsX6_empty_r2 : List Cond := [Cond.fieldLink RX5 23 "BentPins$Table" "worths" "LBentPins$Row;", Cond.fieldLink RX5 27 "BentPins$Table" "held" "LBentPins$Row;", Cond.fieldLink RX5 30 "BentPins$Table" "ended" "LBentPins$Row;", Cond.fieldLink RX5 33 "BentPins$Table" "full" "I", Cond.fieldLink RX5 37 "BentPins$Table" "left" "I", Cond.fieldLink RX5 40 "BentPins$Table" "lost" "I", Cond.fieldLink RX5 43 "BentPins$Table" "points" "I", Cond.fieldLink RX5 46 "BentPins$Table" "shots" "I", Cond.fieldLink RX5 49 "BentPins$Table" "hardShots" "I", Cond.fieldLink RX5 52 "BentPins$Table" "refusals" "I", Cond.methodLink RX5 65 yX2_copyFrom, Cond.instanceMethod yX2_copyFrom, Cond.selects RX2 yX2_copyFrom yX2_copyFrom, Cond.initialized RX2, Cond.code yX2_copyFrom cX2_copyFrom 2 none, Cond.fieldLink RX2 14 "BentPins$Pins" "bends" "LBentPins$Row;", Cond.fieldLink RX2 20 "BentPins$Pins" "outs" "LBentPins$Row;", Cond.fieldLink RX2 23 "BentPins$Pins" "bells" "LBentPins$Row;", Cond.fieldLink RX2 26 "BentPins$Pins" "sides" "LBentPins$Row;", Cond.fieldLink RX2 29 "BentPins$Pins" "visits" "LBentPins$Row;", Cond.fieldLink RX2 32 "BentPins$Pins" "tilt" "I", Cond.fieldLink RX2 36 "BentPins$Pins" "rings" "I", Cond.fieldLink RX2 39 "BentPins$Pins" "bendsByBalls" "I", Cond.methodLink RX2 42 yX4_copyFrom]
def wsX6_empty_r3 : List Cond := [Cond.instanceMethod yX4_copyFrom, Cond.selects RX4 yX4_copyFrom yX4_copyFrom, Cond.initialized RX4, Cond.code yX4_copyFrom cX4_copyFrom 2 none, Cond.fieldLink RX4 13 "BentPins$Row" "cells" "[I", Cond.methodLink RX4 25 Lib.Math.min.name, Cond.static Lib.Math.min.name, Cond.initialized "java/lang/Math", Cond.code Lib.Math.min.name Lib.Math.min.code 2 (some .int), Cond.methodLink RX4 28 arraycopyName, Cond.native arraycopyName, Cond.static arraycopyName, Cond.initialized "java/lang/System", Cond.methodLink RX5 69 yX4_copyFrom, Cond.methodLink RX6 113 yX5_emptyPockets, Cond.instanceMethod yX5_emptyPockets, Cond.selects RX5 yX5_emptyPockets yX5_emptyPockets, Cond.code yX5_emptyPockets cX5_emptyPockets 1 none, Cond.methodLink RX5 106 yX4_total, Cond.instanceMethod yX4_total, Cond.selects RX4 yX4_total yX4_total, Cond.code yX4_total cX4_total 6 (some .int), Cond.methodLink RX5 110 yX4_fillWith, Cond.instanceMethod yX4_fillWith]
def wsX6_empty_r4 : List Cond := [Cond.selects RX4 yX4_fillWith yX4_fillWith, Cond.code yX4_fillWith cX4_fillWith 2 none, Cond.methodLink RX4 19 yJ7_fill_53178, Cond.static yJ7_fill_53178, Cond.initialized RJ7, Cond.code yJ7_fill_53178 cJ7_fill_53178 4 none]
def wsX6_empty : List Cond := .code yX6_empty cX6_empty 1 (some .int) :: ((wsX6_empty_r1 ++ (wsX6_empty_r2 ++ (wsX6_empty_r3 ++ wsX6_empty_r4))) ++ wsX60 ++ wsX50 ++ wsX00 ++ wsX20 ++ wsX40)
def wsX6_append : List Cond := .code yX6_append cX6_append 2 (some .int) :: ([.fieldLink RX6 43 "BentPins" "pad" "LBentPins$Pad;", .fieldLink RX6 119 "BentPins$Pad" "length" "I", .methodLink RX6 57 yX6_isWithin, .static yX6_isWithin, .initialized RX6, .code yX6_isWithin cX6_isWithin 3 (some .boolean), .methodLink RX6 122 yX1_write, .instanceMethod yX1_write, .selects RX1 yX1_write yX1_write, .initialized RX1, .code yX1_write cX1_write 2 none, .fieldLink RX1 14 "BentPins$Pad" "codes" "LBentPins$Row;", .fieldLink RX1 20 "BentPins$Pad" "length" "I", .methodLink RX1 24 yX4_put, .instanceMethod yX4_put, .selects RX4 yX4_put yX4_put, .initialized RX4, .code yX4_put cX4_put 3 none, .fieldLink RX4 13 "BentPins$Row" "cells" "[I"] ++ wsX60 ++ wsX10 ++ wsX40)
def wsX6_clear : List Cond := .code yX6_clear cX6_clear 2 (some .int) :: ([.fieldLink RX6 43 "BentPins" "pad" "LBentPins$Pad;", .fieldLink RX6 119 "BentPins$Pad" "length" "I", .methodLink RX6 125 yX1_wipe, .instanceMethod yX1_wipe, .selects RX1 yX1_wipe yX1_wipe, .initialized RX1, .code yX1_wipe cX1_wipe 1 none, .fieldLink RX1 20 "BentPins$Pad" "length" "I"] ++ wsX60 ++ wsX10)
def wsX6_fault_r1 : List Cond := [Cond.fieldLink RX6 43 "BentPins" "pad" "LBentPins$Pad;", Cond.methodLink RX6 128 yX1_faultAsBoard, Cond.instanceMethod yX1_faultAsBoard, Cond.selects RX1 yX1_faultAsBoard yX1_faultAsBoard, Cond.initialized RX1, Cond.code yX1_faultAsBoard cX1_faultAsBoard 2 (some .int), Cond.fieldLink RX1 20 "BentPins$Pad" "length" "I", Cond.methodLink RX1 32 yX1_codeAt, Cond.instanceMethod yX1_codeAt, Cond.selects RX1 yX1_codeAt yX1_codeAt, Cond.code yX1_codeAt cX1_codeAt 2 (some .int), Cond.fieldLink RX1 14 "BentPins$Pad" "codes" "LBentPins$Row;", Cond.methodLink RX1 28 yX4_at, Cond.instanceMethod yX4_at, Cond.selects RX4 yX4_at yX4_at, Cond.initialized RX4, Cond.code yX4_at cX4_at 2 (some .int), Cond.fieldLink RX4 13 "BentPins$Row" "cells" "[I", Cond.methodLink RX1 35 yX1_isPinSign, Cond.static yX1_isPinSign, Cond.code yX1_isPinSign cX1_isPinSign 1 (some .boolean), Cond.methodLink RX6 131 yX1_faultAsShots, Cond.instanceMethod yX1_faultAsShots, Cond.selects RX1 yX1_faultAsShots yX1_faultAsShots]
def wsX6_fault_r2 : List Cond := [Cond.code yX1_faultAsShots cX1_faultAsShots 4 (some .int), Cond.methodLink RX1 39 yX1_mayFollow, Cond.static yX1_mayFollow, Cond.code yX1_mayFollow cX1_mayFollow 2 (some .boolean), Cond.methodLink RX1 47 yX1_isPlace, Cond.static yX1_isPlace, Cond.code yX1_isPlace cX1_isPlace 1 (some .boolean), Cond.static yX6_isWithin, Cond.initialized RX6, Cond.code yX6_isWithin cX6_isWithin 3 (some .boolean)]
def wsX6_fault : List Cond := .code yX6_fault cX6_fault 2 (some .int) :: ((wsX6_fault_r1 ++ wsX6_fault_r2) ++ wsX60 ++ wsX10 ++ wsX40)
def wsX6_board_r1 : List Cond := [Cond.fieldLink RX6 43 "BentPins" "pad" "LBentPins$Pad;", Cond.fieldLink RX6 29 "BentPins" "history" "LBentPins$History;", Cond.fieldLink RX6 10 "BentPins" "table" "LBentPins$Table;", Cond.fieldLink RX6 73 "BentPins$Table" "pins" "LBentPins$Pins;", Cond.methodLink RX6 128 yX1_faultAsBoard, Cond.instanceMethod yX1_faultAsBoard, Cond.selects RX1 yX1_faultAsBoard yX1_faultAsBoard, Cond.initialized RX1, Cond.code yX1_faultAsBoard cX1_faultAsBoard 2 (some .int), Cond.fieldLink RX1 20 "BentPins$Pad" "length" "I", Cond.methodLink RX1 32 yX1_codeAt, Cond.instanceMethod yX1_codeAt, Cond.selects RX1 yX1_codeAt yX1_codeAt, Cond.code yX1_codeAt cX1_codeAt 2 (some .int), Cond.fieldLink RX1 14 "BentPins$Pad" "codes" "LBentPins$Row;", Cond.methodLink RX1 28 yX4_at, Cond.instanceMethod yX4_at, Cond.selects RX4 yX4_at yX4_at, Cond.initialized RX4, Cond.code yX4_at cX4_at 2 (some .int), Cond.fieldLink RX4 13 "BentPins$Row" "cells" "[I", Cond.methodLink RX1 35 yX1_isPinSign, Cond.static yX1_isPinSign, Cond.code yX1_isPinSign cX1_isPinSign 1 (some .boolean)]
def wsX6_board_r2 : List Cond := [Cond.methodLink RX6 61 yX0_record, Cond.instanceMethod yX0_record, Cond.selects RX0 yX0_record yX0_record, Cond.initialized RX0, Cond.code yX0_record cX0_record 3 none, Cond.fieldLink RX0 17 "BentPins$History" "size" "I", Cond.fieldLink RX0 11 "BentPins$History" "states" "[LBentPins$Table;", Cond.methodLink RX0 22 yX0_dropOldest, Cond.instanceMethod yX0_dropOldest, Cond.selects RX0 yX0_dropOldest yX0_dropOldest, Cond.code yX0_dropOldest cX0_dropOldest 3 none, Cond.methodLink RX0 25 yX0_stateAt, Cond.instanceMethod yX0_stateAt, Cond.selects RX0 yX0_stateAt yX0_stateAt, Cond.code yX0_stateAt cX0_stateAt 2 (some (.object "BentPins$Table")), Cond.methodLink RX0 29 yX5_copyFrom, Cond.instanceMethod yX5_copyFrom, Cond.selects RX5 yX5_copyFrom yX5_copyFrom, Cond.initialized RX5, Cond.code yX5_copyFrom cX5_copyFrom 2 none, Cond.fieldLink RX5 12 "BentPins$Table" "pins" "LBentPins$Pins;", Cond.fieldLink RX5 23 "BentPins$Table" "worths" "LBentPins$Row;", Cond.fieldLink RX5 27 "BentPins$Table" "held" "LBentPins$Row;", Cond.fieldLink RX5 30 "BentPins$Table" "ended" "LBentPins$Row;"]
def wsX6_board_r3 : List Cond := [Cond.fieldLink RX5 33 "BentPins$Table" "full" "I", Cond.fieldLink RX5 37 "BentPins$Table" "left" "I", Cond.fieldLink RX5 40 "BentPins$Table" "lost" "I", Cond.fieldLink RX5 43 "BentPins$Table" "points" "I", Cond.fieldLink RX5 46 "BentPins$Table" "shots" "I", Cond.fieldLink RX5 49 "BentPins$Table" "hardShots" "I", Cond.fieldLink RX5 52 "BentPins$Table" "refusals" "I", Cond.methodLink RX5 65 yX2_copyFrom, Cond.instanceMethod yX2_copyFrom, Cond.selects RX2 yX2_copyFrom yX2_copyFrom, Cond.initialized RX2, Cond.code yX2_copyFrom cX2_copyFrom 2 none, Cond.fieldLink RX2 14 "BentPins$Pins" "bends" "LBentPins$Row;", Cond.fieldLink RX2 20 "BentPins$Pins" "outs" "LBentPins$Row;", Cond.fieldLink RX2 23 "BentPins$Pins" "bells" "LBentPins$Row;", Cond.fieldLink RX2 26 "BentPins$Pins" "sides" "LBentPins$Row;", Cond.fieldLink RX2 29 "BentPins$Pins" "visits" "LBentPins$Row;", Cond.fieldLink RX2 32 "BentPins$Pins" "tilt" "I", Cond.fieldLink RX2 36 "BentPins$Pins" "rings" "I", Cond.fieldLink RX2 39 "BentPins$Pins" "bendsByBalls" "I", Cond.methodLink RX2 42 yX4_copyFrom, Cond.instanceMethod yX4_copyFrom, Cond.selects RX4 yX4_copyFrom yX4_copyFrom, Cond.code yX4_copyFrom cX4_copyFrom 2 none]
def wsX6_board_r4 : List Cond := [Cond.methodLink RX4 25 Lib.Math.min.name, Cond.static Lib.Math.min.name, Cond.initialized "java/lang/Math", Cond.code Lib.Math.min.name Lib.Math.min.code 2 (some .int), Cond.methodLink RX4 28 arraycopyName, Cond.native arraycopyName, Cond.static arraycopyName, Cond.initialized "java/lang/System", Cond.methodLink RX5 69 yX4_copyFrom, Cond.methodLink RX6 134 yX1_codeAt, Cond.methodLink RX6 137 yX2_readSign, Cond.instanceMethod yX2_readSign, Cond.selects RX2 yX2_readSign yX2_readSign, Cond.code yX2_readSign cX2_readSign 3 none, Cond.methodLink RX2 66 yX4_put, Cond.instanceMethod yX4_put, Cond.selects RX4 yX4_put yX4_put, Cond.code yX4_put cX4_put 3 none, Cond.methodLink RX6 125 yX1_wipe, Cond.instanceMethod yX1_wipe, Cond.selects RX1 yX1_wipe yX1_wipe, Cond.code yX1_wipe cX1_wipe 1 none, Cond.methodLink RX6 140 yX2_allPins, Cond.instanceMethod yX2_allPins]
def wsX6_board_r5 : List Cond := [Cond.selects RX2 yX2_allPins yX2_allPins, Cond.code yX2_allPins cX2_allPins 1 (some .int), Cond.methodLink RX2 54 yX2_pulledOut, Cond.instanceMethod yX2_pulledOut, Cond.selects RX2 yX2_pulledOut yX2_pulledOut, Cond.code yX2_pulledOut cX2_pulledOut 1 (some .int), Cond.methodLink RX2 50 yX4_total, Cond.instanceMethod yX4_total, Cond.selects RX4 yX4_total yX4_total, Cond.code yX4_total cX4_total 6 (some .int)]
def wsX6_board : List Cond := .code yX6_board cX6_board 2 (some .int) :: ((wsX6_board_r1 ++ (wsX6_board_r2 ++ (wsX6_board_r3 ++ (wsX6_board_r4 ++ wsX6_board_r5)))) ++ wsX60 ++ wsX50 ++ wsX10 ++ wsX40 ++ wsX00 ++ wsX20)
def wsX6_noteStop : List Cond := .code yX6_noteStop cX6_noteStop 4 none :: ([.fieldLink RX6 47 "BentPins" "stopReason" "I", .fieldLink RX6 51 "BentPins" "stopPart" "I", .fieldLink RX6 54 "BentPins" "stopPosition" "I"] ++ wsX60)
def wsX6_shootAsThePadTells_r1 : List Cond := [Cond.fieldLink RX6 47 "BentPins" "stopReason" "I", Cond.fieldLink RX6 43 "BentPins" "pad" "LBentPins$Pad;", Cond.fieldLink RX6 119 "BentPins$Pad" "length" "I", Cond.fieldLink RX6 10 "BentPins" "table" "LBentPins$Table;", Cond.methodLink RX6 134 yX1_codeAt, Cond.instanceMethod yX1_codeAt, Cond.selects RX1 yX1_codeAt yX1_codeAt, Cond.initialized RX1, Cond.code yX1_codeAt cX1_codeAt 2 (some .int), Cond.fieldLink RX1 20 "BentPins$Pad" "length" "I", Cond.fieldLink RX1 14 "BentPins$Pad" "codes" "LBentPins$Row;", Cond.methodLink RX1 28 yX4_at, Cond.instanceMethod yX4_at, Cond.selects RX4 yX4_at yX4_at, Cond.initialized RX4, Cond.code yX4_at cX4_at 2 (some .int), Cond.fieldLink RX4 13 "BentPins$Row" "cells" "[I", Cond.methodLink RX6 113 yX5_emptyPockets, Cond.instanceMethod yX5_emptyPockets, Cond.selects RX5 yX5_emptyPockets yX5_emptyPockets, Cond.initialized RX5, Cond.code yX5_emptyPockets cX5_emptyPockets 1 none, Cond.fieldLink RX5 37 "BentPins$Table" "left" "I", Cond.fieldLink RX5 27 "BentPins$Table" "held" "LBentPins$Row;"]
def wsX6_shootAsThePadTells_r2 : List Cond := [Cond.fieldLink RX5 40 "BentPins$Table" "lost" "I", Cond.methodLink RX5 106 yX4_total, Cond.instanceMethod yX4_total, Cond.selects RX4 yX4_total yX4_total, Cond.code yX4_total cX4_total 6 (some .int), Cond.methodLink RX5 110 yX4_fillWith, Cond.instanceMethod yX4_fillWith, Cond.selects RX4 yX4_fillWith yX4_fillWith, Cond.code yX4_fillWith cX4_fillWith 2 none, Cond.methodLink RX4 19 yJ7_fill_53178, Cond.static yJ7_fill_53178, Cond.initialized RJ7, Cond.code yJ7_fill_53178 cJ7_fill_53178 4 none, Cond.methodLink RX6 259 yX1_isPlace, Cond.static yX1_isPlace, Cond.code yX1_isPlace cX1_isPlace 1 (some .boolean), Cond.static yX6_isWithin, Cond.initialized RX6, Cond.code yX6_isWithin cX6_isWithin 3 (some .boolean), Cond.methodLink RX6 65 yX5_shootBall, Cond.instanceMethod yX5_shootBall, Cond.selects RX5 yX5_shootBall yX5_shootBall, Cond.code yX5_shootBall cX5_shootBall 6 (some .int), Cond.fieldLink RX5 52 "BentPins$Table" "refusals" "I"]
def wsX6_shootAsThePadTells_r3 : List Cond := [Cond.fieldLink RX5 46 "BentPins$Table" "shots" "I", Cond.fieldLink RX5 49 "BentPins$Table" "hardShots" "I", Cond.fieldLink RX5 12 "BentPins$Table" "pins" "LBentPins$Pins;", Cond.fieldLink RX5 80 "BentPins$Pins" "rings" "I", Cond.fieldLink RX5 43 "BentPins$Table" "points" "I", Cond.methodLink RX5 83 yX2_rollBall, Cond.instanceMethod yX2_rollBall, Cond.selects RX2 yX2_rollBall yX2_rollBall, Cond.initialized RX2, Cond.code yX2_rollBall cX2_rollBall 7 (some .int), Cond.static yX6_pinAt, Cond.code yX6_pinAt cX6_pinAt 2 (some .int), Cond.methodLink RX2 90 yX2_nextDirection, Cond.instanceMethod yX2_nextDirection, Cond.selects RX2 yX2_nextDirection yX2_nextDirection, Cond.code yX2_nextDirection cX2_nextDirection 3 (some .int), Cond.fieldLink RX2 26 "BentPins$Pins" "sides" "LBentPins$Row;", Cond.methodLink RX2 57 yX2_isOut, Cond.instanceMethod yX2_isOut, Cond.selects RX2 yX2_isOut yX2_isOut, Cond.code yX2_isOut cX2_isOut 2 (some .boolean), Cond.fieldLink RX2 20 "BentPins$Pins" "outs" "LBentPins$Row;", Cond.methodLink RX2 46 yX4_at, Cond.methodLink RX2 80 yX2_leanOf]
def wsX6_shootAsThePadTells_r4 : List Cond := [Cond.instanceMethod yX2_leanOf, Cond.selects RX2 yX2_leanOf yX2_leanOf, Cond.code yX2_leanOf cX2_leanOf 3 (some .int), Cond.fieldLink RX2 14 "BentPins$Pins" "bends" "LBentPins$Row;", Cond.fieldLink RX2 32 "BentPins$Pins" "tilt" "I", Cond.methodLink RX2 93 yX2_meetBall, Cond.instanceMethod yX2_meetBall, Cond.selects RX2 yX2_meetBall yX2_meetBall, Cond.code yX2_meetBall cX2_meetBall 4 none, Cond.fieldLink RX2 29 "BentPins$Pins" "visits" "LBentPins$Row;", Cond.fieldLink RX2 36 "BentPins$Pins" "rings" "I", Cond.fieldLink RX2 23 "BentPins$Pins" "bells" "LBentPins$Row;", Cond.fieldLink RX2 39 "BentPins$Pins" "bendsByBalls" "I", Cond.methodLink RX2 74 yX4_raise, Cond.instanceMethod yX4_raise, Cond.selects RX4 yX4_raise yX4_raise, Cond.code yX4_raise cX4_raise 3 none, Cond.methodLink RX2 66 yX4_put, Cond.instanceMethod yX4_put, Cond.selects RX4 yX4_put yX4_put, Cond.code yX4_put cX4_put 3 none, Cond.methodLink RX2 97 yX2_canBend, Cond.instanceMethod yX2_canBend, Cond.selects RX2 yX2_canBend yX2_canBend]
def wsX6_shootAsThePadTells_r5 : List Cond := [Cond.code yX2_canBend cX2_canBend 3 (some .boolean), Cond.methodLink RX2 101 yX2_bendBy, Cond.instanceMethod yX2_bendBy, Cond.selects RX2 yX2_bendBy yX2_bendBy, Cond.code yX2_bendBy cX2_bendBy 3 none, Cond.static yX6_placeBeside, Cond.code yX6_placeBeside cX6_placeBeside 2 (some .int), Cond.methodLink RX6 239 Lib.Math.min.name, Cond.static Lib.Math.min.name, Cond.initialized "java/lang/Math", Cond.code Lib.Math.min.name Lib.Math.min.code 2 (some .int), Cond.methodLink RX6 244 Lib.Math.max.name, Cond.static Lib.Math.max.name, Cond.code Lib.Math.max.name Lib.Math.max.code 2 (some .int), Cond.methodLink RX5 87 yX5_takeBall, Cond.instanceMethod yX5_takeBall, Cond.selects RX5 yX5_takeBall yX5_takeBall, Cond.code yX5_takeBall cX5_takeBall 2 (some .int), Cond.fieldLink RX5 30 "BentPins$Table" "ended" "LBentPins$Row;", Cond.fieldLink RX5 23 "BentPins$Table" "worths" "LBentPins$Row;", Cond.methodLink RX5 90 yX4_raise, Cond.methodLink RX5 76 yX5_isFull, Cond.instanceMethod yX5_isFull, Cond.selects RX5 yX5_isFull yX5_isFull]
def wsX6_shootAsThePadTells_r6 : List Cond := [Cond.code yX5_isFull cX5_isFull 2 (some .boolean), Cond.fieldLink RX5 33 "BentPins$Table" "full" "I", Cond.methodLink RX5 72 yX4_at, Cond.methodLink RX6 262 yX6_noteStop, Cond.instanceMethod yX6_noteStop, Cond.selects RX6 yX6_noteStop yX6_noteStop, Cond.code yX6_noteStop cX6_noteStop 4 none, Cond.fieldLink RX6 51 "BentPins" "stopPart" "I", Cond.fieldLink RX6 54 "BentPins" "stopPosition" "I"]
def wsX6_shootAsThePadTells : List Cond := .code yX6_shootAsThePadTells cX6_shootAsThePadTells 5 none :: ((wsX6_shootAsThePadTells_r1 ++ (wsX6_shootAsThePadTells_r2 ++ (wsX6_shootAsThePadTells_r3 ++ (wsX6_shootAsThePadTells_r4 ++ (wsX6_shootAsThePadTells_r5 ++ wsX6_shootAsThePadTells_r6))))) ++ wsX60 ++ wsX10 ++ wsX40 ++ wsX50 ++ wsX20)
def wsX6_shots_r1 : List Cond := [Cond.fieldLink RX6 43 "BentPins" "pad" "LBentPins$Pad;", Cond.fieldLink RX6 29 "BentPins" "history" "LBentPins$History;", Cond.fieldLink RX6 10 "BentPins" "table" "LBentPins$Table;", Cond.fieldLink RX6 143 "BentPins$Table" "points" "I", Cond.methodLink RX6 131 yX1_faultAsShots, Cond.instanceMethod yX1_faultAsShots, Cond.selects RX1 yX1_faultAsShots yX1_faultAsShots, Cond.initialized RX1, Cond.code yX1_faultAsShots cX1_faultAsShots 4 (some .int), Cond.fieldLink RX1 20 "BentPins$Pad" "length" "I", Cond.methodLink RX1 32 yX1_codeAt, Cond.instanceMethod yX1_codeAt, Cond.selects RX1 yX1_codeAt yX1_codeAt, Cond.code yX1_codeAt cX1_codeAt 2 (some .int), Cond.fieldLink RX1 14 "BentPins$Pad" "codes" "LBentPins$Row;", Cond.methodLink RX1 28 yX4_at, Cond.instanceMethod yX4_at, Cond.selects RX4 yX4_at yX4_at, Cond.initialized RX4, Cond.code yX4_at cX4_at 2 (some .int), Cond.fieldLink RX4 13 "BentPins$Row" "cells" "[I", Cond.methodLink RX1 39 yX1_mayFollow, Cond.static yX1_mayFollow, Cond.code yX1_mayFollow cX1_mayFollow 2 (some .boolean)]
def wsX6_shots_r2 : List Cond := [Cond.methodLink RX1 47 yX1_isPlace, Cond.static yX1_isPlace, Cond.code yX1_isPlace cX1_isPlace 1 (some .boolean), Cond.static yX6_isWithin, Cond.initialized RX6, Cond.code yX6_isWithin cX6_isWithin 3 (some .boolean), Cond.methodLink RX6 61 yX0_record, Cond.instanceMethod yX0_record, Cond.selects RX0 yX0_record yX0_record, Cond.initialized RX0, Cond.code yX0_record cX0_record 3 none, Cond.fieldLink RX0 17 "BentPins$History" "size" "I", Cond.fieldLink RX0 11 "BentPins$History" "states" "[LBentPins$Table;", Cond.methodLink RX0 22 yX0_dropOldest, Cond.instanceMethod yX0_dropOldest, Cond.selects RX0 yX0_dropOldest yX0_dropOldest, Cond.code yX0_dropOldest cX0_dropOldest 3 none, Cond.methodLink RX0 25 yX0_stateAt, Cond.instanceMethod yX0_stateAt, Cond.selects RX0 yX0_stateAt yX0_stateAt, Cond.code yX0_stateAt cX0_stateAt 2 (some (.object "BentPins$Table")), Cond.methodLink RX0 29 yX5_copyFrom, Cond.instanceMethod yX5_copyFrom, Cond.selects RX5 yX5_copyFrom yX5_copyFrom]
def wsX6_shots_r3 : List Cond := [Cond.initialized RX5, Cond.code yX5_copyFrom cX5_copyFrom 2 none, Cond.fieldLink RX5 12 "BentPins$Table" "pins" "LBentPins$Pins;", Cond.fieldLink RX5 23 "BentPins$Table" "worths" "LBentPins$Row;", Cond.fieldLink RX5 27 "BentPins$Table" "held" "LBentPins$Row;", Cond.fieldLink RX5 30 "BentPins$Table" "ended" "LBentPins$Row;", Cond.fieldLink RX5 33 "BentPins$Table" "full" "I", Cond.fieldLink RX5 37 "BentPins$Table" "left" "I", Cond.fieldLink RX5 40 "BentPins$Table" "lost" "I", Cond.fieldLink RX5 43 "BentPins$Table" "points" "I", Cond.fieldLink RX5 46 "BentPins$Table" "shots" "I", Cond.fieldLink RX5 49 "BentPins$Table" "hardShots" "I", Cond.fieldLink RX5 52 "BentPins$Table" "refusals" "I", Cond.methodLink RX5 65 yX2_copyFrom, Cond.instanceMethod yX2_copyFrom, Cond.selects RX2 yX2_copyFrom yX2_copyFrom, Cond.initialized RX2, Cond.code yX2_copyFrom cX2_copyFrom 2 none, Cond.fieldLink RX2 14 "BentPins$Pins" "bends" "LBentPins$Row;", Cond.fieldLink RX2 20 "BentPins$Pins" "outs" "LBentPins$Row;", Cond.fieldLink RX2 23 "BentPins$Pins" "bells" "LBentPins$Row;", Cond.fieldLink RX2 26 "BentPins$Pins" "sides" "LBentPins$Row;", Cond.fieldLink RX2 29 "BentPins$Pins" "visits" "LBentPins$Row;", Cond.fieldLink RX2 32 "BentPins$Pins" "tilt" "I"]
def wsX6_shots_r4 : List Cond := [Cond.fieldLink RX2 36 "BentPins$Pins" "rings" "I", Cond.fieldLink RX2 39 "BentPins$Pins" "bendsByBalls" "I", Cond.methodLink RX2 42 yX4_copyFrom, Cond.instanceMethod yX4_copyFrom, Cond.selects RX4 yX4_copyFrom yX4_copyFrom, Cond.code yX4_copyFrom cX4_copyFrom 2 none, Cond.methodLink RX4 25 Lib.Math.min.name, Cond.static Lib.Math.min.name, Cond.initialized "java/lang/Math", Cond.code Lib.Math.min.name Lib.Math.min.code 2 (some .int), Cond.methodLink RX4 28 arraycopyName, Cond.native arraycopyName, Cond.static arraycopyName, Cond.initialized "java/lang/System", Cond.methodLink RX5 69 yX4_copyFrom, Cond.methodLink RX6 146 yX6_shootAsThePadTells, Cond.instanceMethod yX6_shootAsThePadTells, Cond.selects RX6 yX6_shootAsThePadTells yX6_shootAsThePadTells, Cond.code yX6_shootAsThePadTells cX6_shootAsThePadTells 5 none, Cond.fieldLink RX6 47 "BentPins" "stopReason" "I", Cond.fieldLink RX6 119 "BentPins$Pad" "length" "I", Cond.methodLink RX6 134 yX1_codeAt, Cond.methodLink RX6 113 yX5_emptyPockets, Cond.instanceMethod yX5_emptyPockets]
def wsX6_shots_r5 : List Cond := [Cond.selects RX5 yX5_emptyPockets yX5_emptyPockets, Cond.code yX5_emptyPockets cX5_emptyPockets 1 none, Cond.methodLink RX5 106 yX4_total, Cond.instanceMethod yX4_total, Cond.selects RX4 yX4_total yX4_total, Cond.code yX4_total cX4_total 6 (some .int), Cond.methodLink RX5 110 yX4_fillWith, Cond.instanceMethod yX4_fillWith, Cond.selects RX4 yX4_fillWith yX4_fillWith, Cond.code yX4_fillWith cX4_fillWith 2 none, Cond.methodLink RX4 19 yJ7_fill_53178, Cond.static yJ7_fill_53178, Cond.initialized RJ7, Cond.code yJ7_fill_53178 cJ7_fill_53178 4 none, Cond.methodLink RX6 259 yX1_isPlace, Cond.methodLink RX6 65 yX5_shootBall, Cond.instanceMethod yX5_shootBall, Cond.selects RX5 yX5_shootBall yX5_shootBall, Cond.code yX5_shootBall cX5_shootBall 6 (some .int), Cond.fieldLink RX5 80 "BentPins$Pins" "rings" "I", Cond.methodLink RX5 83 yX2_rollBall, Cond.instanceMethod yX2_rollBall, Cond.selects RX2 yX2_rollBall yX2_rollBall, Cond.code yX2_rollBall cX2_rollBall 7 (some .int)]
def wsX6_shots_r6 : List Cond := [Cond.static yX6_pinAt, Cond.code yX6_pinAt cX6_pinAt 2 (some .int), Cond.methodLink RX2 90 yX2_nextDirection, Cond.instanceMethod yX2_nextDirection, Cond.selects RX2 yX2_nextDirection yX2_nextDirection, Cond.code yX2_nextDirection cX2_nextDirection 3 (some .int), Cond.methodLink RX2 57 yX2_isOut, Cond.instanceMethod yX2_isOut, Cond.selects RX2 yX2_isOut yX2_isOut, Cond.code yX2_isOut cX2_isOut 2 (some .boolean), Cond.methodLink RX2 46 yX4_at, Cond.methodLink RX2 80 yX2_leanOf, Cond.instanceMethod yX2_leanOf, Cond.selects RX2 yX2_leanOf yX2_leanOf, Cond.code yX2_leanOf cX2_leanOf 3 (some .int), Cond.methodLink RX2 93 yX2_meetBall, Cond.instanceMethod yX2_meetBall, Cond.selects RX2 yX2_meetBall yX2_meetBall, Cond.code yX2_meetBall cX2_meetBall 4 none, Cond.methodLink RX2 74 yX4_raise, Cond.instanceMethod yX4_raise, Cond.selects RX4 yX4_raise yX4_raise, Cond.code yX4_raise cX4_raise 3 none, Cond.methodLink RX2 66 yX4_put]
def wsX6_shots_r7 : List Cond := [Cond.instanceMethod yX4_put, Cond.selects RX4 yX4_put yX4_put, Cond.code yX4_put cX4_put 3 none, Cond.methodLink RX2 97 yX2_canBend, Cond.instanceMethod yX2_canBend, Cond.selects RX2 yX2_canBend yX2_canBend, Cond.code yX2_canBend cX2_canBend 3 (some .boolean), Cond.methodLink RX2 101 yX2_bendBy, Cond.instanceMethod yX2_bendBy, Cond.selects RX2 yX2_bendBy yX2_bendBy, Cond.code yX2_bendBy cX2_bendBy 3 none, Cond.static yX6_placeBeside, Cond.code yX6_placeBeside cX6_placeBeside 2 (some .int), Cond.methodLink RX6 239 Lib.Math.min.name, Cond.methodLink RX6 244 Lib.Math.max.name, Cond.static Lib.Math.max.name, Cond.code Lib.Math.max.name Lib.Math.max.code 2 (some .int), Cond.methodLink RX5 87 yX5_takeBall, Cond.instanceMethod yX5_takeBall, Cond.selects RX5 yX5_takeBall yX5_takeBall, Cond.code yX5_takeBall cX5_takeBall 2 (some .int), Cond.methodLink RX5 90 yX4_raise, Cond.methodLink RX5 76 yX5_isFull, Cond.instanceMethod yX5_isFull]
def wsX6_shots_r8 : List Cond := [Cond.selects RX5 yX5_isFull yX5_isFull, Cond.code yX5_isFull cX5_isFull 2 (some .boolean), Cond.methodLink RX5 72 yX4_at, Cond.methodLink RX6 262 yX6_noteStop, Cond.instanceMethod yX6_noteStop, Cond.selects RX6 yX6_noteStop yX6_noteStop, Cond.code yX6_noteStop cX6_noteStop 4 none, Cond.fieldLink RX6 51 "BentPins" "stopPart" "I", Cond.fieldLink RX6 54 "BentPins" "stopPosition" "I", Cond.methodLink RX6 125 yX1_wipe, Cond.instanceMethod yX1_wipe, Cond.selects RX1 yX1_wipe yX1_wipe, Cond.code yX1_wipe cX1_wipe 1 none]
def wsX6_shots : List Cond := .code yX6_shots cX6_shots 2 (some .int) :: ((wsX6_shots_r1 ++ (wsX6_shots_r2 ++ (wsX6_shots_r3 ++ (wsX6_shots_r4 ++ (wsX6_shots_r5 ++ (wsX6_shots_r6 ++ (wsX6_shots_r7 ++ wsX6_shots_r8))))))) ++ wsX60 ++ wsX50 ++ wsX10 ++ wsX40 ++ wsX00 ++ wsX20)
def wsX6_why : List Cond := .code yX6_why cX6_why 2 (some .int) :: ([.fieldLink RX6 47 "BentPins" "stopReason" "I", .fieldLink RX6 51 "BentPins" "stopPart" "I", .fieldLink RX6 54 "BentPins" "stopPosition" "I", .methodLink RX6 57 yX6_isWithin, .static yX6_isWithin, .initialized RX6, .code yX6_isWithin cX6_isWithin 3 (some .boolean)] ++ wsX60)
def wsX6_sign : List Cond := .code yX6_sign cX6_sign 2 (some .int) :: ([.fieldLink RX6 10 "BentPins" "table" "LBentPins$Table;", .fieldLink RX6 73 "BentPins$Table" "pins" "LBentPins$Pins;", .methodLink RX6 57 yX6_isWithin, .static yX6_isWithin, .initialized RX6, .code yX6_isWithin cX6_isWithin 3 (some .boolean), .methodLink RX6 149 yX2_signOf, .instanceMethod yX2_signOf, .selects RX2 yX2_signOf yX2_signOf, .initialized RX2, .code yX2_signOf cX2_signOf 3 (some .int), .fieldLink RX2 23 "BentPins$Pins" "bells" "LBentPins$Row;", .fieldLink RX2 14 "BentPins$Pins" "bends" "LBentPins$Row;", .methodLink RX2 57 yX2_isOut, .instanceMethod yX2_isOut, .selects RX2 yX2_isOut yX2_isOut, .code yX2_isOut cX2_isOut 2 (some .boolean), .fieldLink RX2 20 "BentPins$Pins" "outs" "LBentPins$Row;", .methodLink RX2 46 yX4_at, .instanceMethod yX4_at, .selects RX4 yX4_at yX4_at, .initialized RX4, .code yX4_at cX4_at 2 (some .int), .fieldLink RX4 13 "BentPins$Row" "cells" "[I"] ++ wsX60 ++ wsX50 ++ wsX20 ++ wsX40)
def wsX6_pin_r1 : List Cond := [Cond.fieldLink RX6 10 "BentPins" "table" "LBentPins$Table;", Cond.fieldLink RX6 73 "BentPins$Table" "pins" "LBentPins$Pins;", Cond.fieldLink RX6 156 "BentPins$Pins" "bends" "LBentPins$Row;", Cond.fieldLink RX6 159 "BentPins$Pins" "bells" "LBentPins$Row;", Cond.fieldLink RX6 162 "BentPins$Pins" "sides" "LBentPins$Row;", Cond.fieldLink RX6 165 "BentPins$Pins" "visits" "LBentPins$Row;", Cond.fieldLink RX6 36 "BentPins" "roads" "LBentPins$Roads;", Cond.methodLink RX6 57 yX6_isWithin, Cond.static yX6_isWithin, Cond.initialized RX6, Cond.code yX6_isWithin cX6_isWithin 3 (some .boolean), Cond.methodLink RX6 152 yX2_isOut, Cond.instanceMethod yX2_isOut, Cond.selects RX2 yX2_isOut yX2_isOut, Cond.initialized RX2, Cond.code yX2_isOut cX2_isOut 2 (some .boolean), Cond.fieldLink RX2 20 "BentPins$Pins" "outs" "LBentPins$Row;", Cond.methodLink RX2 46 yX4_at, Cond.instanceMethod yX4_at, Cond.selects RX4 yX4_at yX4_at, Cond.initialized RX4, Cond.code yX4_at cX4_at 2 (some .int), Cond.fieldLink RX4 13 "BentPins$Row" "cells" "[I", Cond.methodLink RX6 97 yX4_at]
def wsX6_pin_r2 : List Cond := [Cond.methodLink RX6 168 yX3_isOpenTo, Cond.instanceMethod yX3_isOpenTo, Cond.selects RX3 yX3_isOpenTo yX3_isOpenTo, Cond.initialized RX3, Cond.code yX3_isOpenTo cX3_isOpenTo 3 (some .boolean), Cond.methodLink RX3 23 yX3_placesInRow, Cond.instanceMethod yX3_placesInRow, Cond.selects RX3 yX3_placesInRow yX3_placesInRow, Cond.code yX3_placesInRow cX3_placesInRow 5 (some .int), Cond.methodLink RX3 38 yX3_placesBelow, Cond.instanceMethod yX3_placesBelow, Cond.selects RX3 yX3_placesBelow yX3_placesBelow, Cond.code yX3_placesBelow cX3_placesBelow 6 (some .int), Cond.static yX6_isIn, Cond.code yX6_isIn cX6_isIn 2 (some .boolean), Cond.methodLink RX6 236 yX6_bit, Cond.static yX6_bit, Cond.code yX6_bit cX6_bit 1 (some .int), Cond.static yX6_pinAt, Cond.code yX6_pinAt cX6_pinAt 2 (some .int), Cond.methodLink RX3 46 yX2_nextPlaces, Cond.instanceMethod yX2_nextPlaces, Cond.selects RX2 yX2_nextPlaces yX2_nextPlaces, Cond.code yX2_nextPlaces cX2_nextPlaces 4 (some .int)]
def wsX6_pin_r3 : List Cond := [Cond.methodLink RX2 57 yX2_isOut, Cond.methodLink RX2 80 yX2_leanOf, Cond.instanceMethod yX2_leanOf, Cond.selects RX2 yX2_leanOf yX2_leanOf, Cond.code yX2_leanOf cX2_leanOf 3 (some .int), Cond.fieldLink RX2 14 "BentPins$Pins" "bends" "LBentPins$Row;", Cond.fieldLink RX2 32 "BentPins$Pins" "tilt" "I", Cond.static yX6_placeBeside, Cond.code yX6_placeBeside cX6_placeBeside 2 (some .int), Cond.methodLink RX6 239 Lib.Math.min.name, Cond.static Lib.Math.min.name, Cond.initialized "java/lang/Math", Cond.code Lib.Math.min.name Lib.Math.min.code 2 (some .int), Cond.methodLink RX6 244 Lib.Math.max.name, Cond.static Lib.Math.max.name, Cond.code Lib.Math.max.name Lib.Math.max.code 2 (some .int)]
def wsX6_pin : List Cond := .code yX6_pin cX6_pin 4 (some .int) :: ((wsX6_pin_r1 ++ (wsX6_pin_r2 ++ wsX6_pin_r3)) ++ wsX60 ++ wsX50 ++ wsX20 ++ wsX40)
def wsJ6_bitCount_0f7a4 : List Cond := .code yJ6_bitCount_0f7a4 cJ6_bitCount_0f7a4 1 (some .int) :: ([.constant RJ6 265 (1431655765), .constant RJ6 266 (858993459), .constant RJ6 267 (252645135)])
def wsX6_pocket_r1 : List Cond := [Cond.fieldLink RX6 10 "BentPins" "table" "LBentPins$Table;", Cond.fieldLink RX6 93 "BentPins$Table" "worths" "LBentPins$Row;", Cond.fieldLink RX6 172 "BentPins$Table" "held" "LBentPins$Row;", Cond.fieldLink RX6 178 "BentPins$Table" "ended" "LBentPins$Row;", Cond.fieldLink RX6 36 "BentPins" "roads" "LBentPins$Roads;", Cond.fieldLink RX6 73 "BentPins$Table" "pins" "LBentPins$Pins;", Cond.methodLink RX6 57 yX6_isWithin, Cond.static yX6_isWithin, Cond.initialized RX6, Cond.code yX6_isWithin cX6_isWithin 3 (some .boolean), Cond.methodLink RX6 97 yX4_at, Cond.instanceMethod yX4_at, Cond.selects RX4 yX4_at yX4_at, Cond.initialized RX4, Cond.code yX4_at cX4_at 2 (some .int), Cond.fieldLink RX4 13 "BentPins$Row" "cells" "[I", Cond.methodLink RX6 175 yX5_isFull, Cond.instanceMethod yX5_isFull, Cond.selects RX5 yX5_isFull yX5_isFull, Cond.initialized RX5, Cond.code yX5_isFull cX5_isFull 2 (some .boolean), Cond.fieldLink RX5 27 "BentPins$Table" "held" "LBentPins$Row;", Cond.fieldLink RX5 33 "BentPins$Table" "full" "I", Cond.methodLink RX5 72 yX4_at]
def wsX6_pocket_r2 : List Cond := [Cond.methodLink RX6 181 yX3_startsTo, Cond.instanceMethod yX3_startsTo, Cond.selects RX3 yX3_startsTo yX3_startsTo, Cond.initialized RX3, Cond.code yX3_startsTo cX3_startsTo 5 (some .int), Cond.static yX6_bit, Cond.code yX6_bit cX6_bit 1 (some .int), Cond.methodLink RX3 51 yX3_placesAbove, Cond.instanceMethod yX3_placesAbove, Cond.selects RX3 yX3_placesAbove yX3_placesAbove, Cond.code yX3_placesAbove cX3_placesAbove 6 (some .int), Cond.static yX6_pinAt, Cond.code yX6_pinAt cX6_pinAt 2 (some .int), Cond.methodLink RX3 46 yX2_nextPlaces, Cond.instanceMethod yX2_nextPlaces, Cond.selects RX2 yX2_nextPlaces yX2_nextPlaces, Cond.initialized RX2, Cond.code yX2_nextPlaces cX2_nextPlaces 4 (some .int), Cond.methodLink RX2 57 yX2_isOut, Cond.instanceMethod yX2_isOut, Cond.selects RX2 yX2_isOut yX2_isOut, Cond.code yX2_isOut cX2_isOut 2 (some .boolean), Cond.fieldLink RX2 20 "BentPins$Pins" "outs" "LBentPins$Row;", Cond.methodLink RX2 46 yX4_at]
def wsX6_pocket_r3 : List Cond := [Cond.methodLink RX2 80 yX2_leanOf, Cond.instanceMethod yX2_leanOf, Cond.selects RX2 yX2_leanOf yX2_leanOf, Cond.code yX2_leanOf cX2_leanOf 3 (some .int), Cond.fieldLink RX2 14 "BentPins$Pins" "bends" "LBentPins$Row;", Cond.fieldLink RX2 32 "BentPins$Pins" "tilt" "I", Cond.static yX6_placeBeside, Cond.code yX6_placeBeside cX6_placeBeside 2 (some .int), Cond.methodLink RX6 239 Lib.Math.min.name, Cond.static Lib.Math.min.name, Cond.initialized "java/lang/Math", Cond.code Lib.Math.min.name Lib.Math.min.code 2 (some .int), Cond.methodLink RX6 244 Lib.Math.max.name, Cond.static Lib.Math.max.name, Cond.code Lib.Math.max.name Lib.Math.max.code 2 (some .int), Cond.methodLink RX6 185 yJ6_bitCount_0f7a4, Cond.static yJ6_bitCount_0f7a4, Cond.initialized RJ6, Cond.code yJ6_bitCount_0f7a4 cJ6_bitCount_0f7a4 1 (some .int), Cond.constant RJ6 265 (1431655765), Cond.constant RJ6 266 (858993459), Cond.constant RJ6 267 (252645135)]
def wsX6_pocket : List Cond := .code yX6_pocket cX6_pocket 3 (some .int) :: ((wsX6_pocket_r1 ++ (wsX6_pocket_r2 ++ wsX6_pocket_r3)) ++ wsX60 ++ wsX50 ++ wsX40 ++ wsX20)
def wsX6_reach_r1 : List Cond := [Cond.fieldLink RX6 36 "BentPins" "roads" "LBentPins$Roads;", Cond.fieldLink RX6 10 "BentPins" "table" "LBentPins$Table;", Cond.fieldLink RX6 73 "BentPins$Table" "pins" "LBentPins$Pins;", Cond.methodLink RX6 190 yX3_pocketsForward, Cond.instanceMethod yX3_pocketsForward, Cond.selects RX3 yX3_pocketsForward yX3_pocketsForward, Cond.initialized RX3, Cond.code yX3_pocketsForward cX3_pocketsForward 2 (some .int), Cond.methodLink RX3 23 yX3_placesInRow, Cond.instanceMethod yX3_placesInRow, Cond.selects RX3 yX3_placesInRow yX3_placesInRow, Cond.code yX3_placesInRow cX3_placesInRow 5 (some .int), Cond.methodLink RX3 38 yX3_placesBelow, Cond.instanceMethod yX3_placesBelow, Cond.selects RX3 yX3_placesBelow yX3_placesBelow, Cond.code yX3_placesBelow cX3_placesBelow 6 (some .int), Cond.static yX6_isIn, Cond.initialized RX6, Cond.code yX6_isIn cX6_isIn 2 (some .boolean), Cond.methodLink RX6 236 yX6_bit, Cond.static yX6_bit, Cond.code yX6_bit cX6_bit 1 (some .int), Cond.static yX6_pinAt, Cond.code yX6_pinAt cX6_pinAt 2 (some .int)]
def wsX6_reach_r2 : List Cond := [Cond.methodLink RX3 46 yX2_nextPlaces, Cond.instanceMethod yX2_nextPlaces, Cond.selects RX2 yX2_nextPlaces yX2_nextPlaces, Cond.initialized RX2, Cond.code yX2_nextPlaces cX2_nextPlaces 4 (some .int), Cond.methodLink RX2 57 yX2_isOut, Cond.instanceMethod yX2_isOut, Cond.selects RX2 yX2_isOut yX2_isOut, Cond.code yX2_isOut cX2_isOut 2 (some .boolean), Cond.fieldLink RX2 20 "BentPins$Pins" "outs" "LBentPins$Row;", Cond.methodLink RX2 46 yX4_at, Cond.instanceMethod yX4_at, Cond.selects RX4 yX4_at yX4_at, Cond.initialized RX4, Cond.code yX4_at cX4_at 2 (some .int), Cond.fieldLink RX4 13 "BentPins$Row" "cells" "[I", Cond.methodLink RX2 80 yX2_leanOf, Cond.instanceMethod yX2_leanOf, Cond.selects RX2 yX2_leanOf yX2_leanOf, Cond.code yX2_leanOf cX2_leanOf 3 (some .int), Cond.fieldLink RX2 14 "BentPins$Pins" "bends" "LBentPins$Row;", Cond.fieldLink RX2 32 "BentPins$Pins" "tilt" "I", Cond.static yX6_placeBeside, Cond.code yX6_placeBeside cX6_placeBeside 2 (some .int)]
def wsX6_reach_r3 : List Cond := [Cond.methodLink RX6 239 Lib.Math.min.name, Cond.static Lib.Math.min.name, Cond.initialized "java/lang/Math", Cond.code Lib.Math.min.name Lib.Math.min.code 2 (some .int), Cond.methodLink RX6 244 Lib.Math.max.name, Cond.static Lib.Math.max.name, Cond.code Lib.Math.max.name Lib.Math.max.code 2 (some .int), Cond.methodLink RX6 194 yX3_pocketsBackward, Cond.instanceMethod yX3_pocketsBackward, Cond.selects RX3 yX3_pocketsBackward yX3_pocketsBackward, Cond.code yX3_pocketsBackward cX3_pocketsBackward 4 (some .int), Cond.methodLink RX3 27 yX3_startsTo, Cond.instanceMethod yX3_startsTo, Cond.selects RX3 yX3_startsTo yX3_startsTo, Cond.code yX3_startsTo cX3_startsTo 5 (some .int), Cond.methodLink RX3 51 yX3_placesAbove, Cond.instanceMethod yX3_placesAbove, Cond.selects RX3 yX3_placesAbove yX3_placesAbove, Cond.code yX3_placesAbove cX3_placesAbove 6 (some .int)]
def wsX6_reach : List Cond := .code yX6_reach cX6_reach 2 (some .int) :: ((wsX6_reach_r1 ++ (wsX6_reach_r2 ++ wsX6_reach_r3)) ++ wsX60 ++ wsX50 ++ wsX20 ++ wsX40)
def wsX6_waysFrom_r1 : List Cond := [Cond.methodLink RX6 270 yX6_pinAt, Cond.static yX6_pinAt, Cond.initialized RX6, Cond.code yX6_pinAt cX6_pinAt 2 (some .int), Cond.methodLink RX6 273 yX2_nextPlaces, Cond.instanceMethod yX2_nextPlaces, Cond.selects RX2 yX2_nextPlaces yX2_nextPlaces, Cond.initialized RX2, Cond.code yX2_nextPlaces cX2_nextPlaces 4 (some .int), Cond.methodLink RX2 57 yX2_isOut, Cond.instanceMethod yX2_isOut, Cond.selects RX2 yX2_isOut yX2_isOut, Cond.code yX2_isOut cX2_isOut 2 (some .boolean), Cond.fieldLink RX2 20 "BentPins$Pins" "outs" "LBentPins$Row;", Cond.methodLink RX2 46 yX4_at, Cond.instanceMethod yX4_at, Cond.selects RX4 yX4_at yX4_at, Cond.initialized RX4, Cond.code yX4_at cX4_at 2 (some .int), Cond.fieldLink RX4 13 "BentPins$Row" "cells" "[I", Cond.static yX6_bit, Cond.code yX6_bit cX6_bit 1 (some .int), Cond.methodLink RX2 80 yX2_leanOf, Cond.instanceMethod yX2_leanOf]
def wsX6_waysFrom_r2 : List Cond := [Cond.selects RX2 yX2_leanOf yX2_leanOf, Cond.code yX2_leanOf cX2_leanOf 3 (some .int), Cond.fieldLink RX2 14 "BentPins$Pins" "bends" "LBentPins$Row;", Cond.fieldLink RX2 32 "BentPins$Pins" "tilt" "I", Cond.static yX6_placeBeside, Cond.code yX6_placeBeside cX6_placeBeside 2 (some .int), Cond.methodLink RX6 239 Lib.Math.min.name, Cond.static Lib.Math.min.name, Cond.initialized "java/lang/Math", Cond.code Lib.Math.min.name Lib.Math.min.code 2 (some .int), Cond.methodLink RX6 244 Lib.Math.max.name, Cond.static Lib.Math.max.name, Cond.code Lib.Math.max.name Lib.Math.max.code 2 (some .int), Cond.methodLink RX6 276 yX6_isIn, Cond.static yX6_isIn, Cond.code yX6_isIn cX6_isIn 2 (some .boolean), Cond.methodLink RX6 236 yX6_bit, Cond.methodLink RX6 266 yX6_waysFrom, Cond.static yX6_waysFrom]
def wsX6_waysFrom : List Cond := .code yX6_waysFrom cX6_waysFrom 7 (some .int) :: ((wsX6_waysFrom_r1 ++ wsX6_waysFrom_r2) ++ wsX20 ++ wsX40)
def wsX6_waysFromAllPlaces_r1 : List Cond := [Cond.methodLink RX6 266 yX6_waysFrom, Cond.static yX6_waysFrom, Cond.initialized RX6, Cond.code yX6_waysFrom cX6_waysFrom 7 (some .int), Cond.methodLink RX6 270 yX6_pinAt, Cond.static yX6_pinAt, Cond.code yX6_pinAt cX6_pinAt 2 (some .int), Cond.methodLink RX6 273 yX2_nextPlaces, Cond.instanceMethod yX2_nextPlaces, Cond.selects RX2 yX2_nextPlaces yX2_nextPlaces, Cond.initialized RX2, Cond.code yX2_nextPlaces cX2_nextPlaces 4 (some .int), Cond.methodLink RX2 57 yX2_isOut, Cond.instanceMethod yX2_isOut, Cond.selects RX2 yX2_isOut yX2_isOut, Cond.code yX2_isOut cX2_isOut 2 (some .boolean), Cond.fieldLink RX2 20 "BentPins$Pins" "outs" "LBentPins$Row;", Cond.methodLink RX2 46 yX4_at, Cond.instanceMethod yX4_at, Cond.selects RX4 yX4_at yX4_at, Cond.initialized RX4, Cond.code yX4_at cX4_at 2 (some .int), Cond.fieldLink RX4 13 "BentPins$Row" "cells" "[I", Cond.static yX6_bit]
def wsX6_waysFromAllPlaces_r2 : List Cond := [Cond.code yX6_bit cX6_bit 1 (some .int), Cond.methodLink RX2 80 yX2_leanOf, Cond.instanceMethod yX2_leanOf, Cond.selects RX2 yX2_leanOf yX2_leanOf, Cond.code yX2_leanOf cX2_leanOf 3 (some .int), Cond.fieldLink RX2 14 "BentPins$Pins" "bends" "LBentPins$Row;", Cond.fieldLink RX2 32 "BentPins$Pins" "tilt" "I", Cond.static yX6_placeBeside, Cond.code yX6_placeBeside cX6_placeBeside 2 (some .int), Cond.methodLink RX6 239 Lib.Math.min.name, Cond.static Lib.Math.min.name, Cond.initialized "java/lang/Math", Cond.code Lib.Math.min.name Lib.Math.min.code 2 (some .int), Cond.methodLink RX6 244 Lib.Math.max.name, Cond.static Lib.Math.max.name, Cond.code Lib.Math.max.name Lib.Math.max.code 2 (some .int), Cond.methodLink RX6 276 yX6_isIn, Cond.static yX6_isIn, Cond.code yX6_isIn cX6_isIn 2 (some .boolean), Cond.methodLink RX6 236 yX6_bit]
def wsX6_waysFromAllPlaces : List Cond := .code yX6_waysFromAllPlaces cX6_waysFromAllPlaces 4 (some .int) :: ((wsX6_waysFromAllPlaces_r1 ++ wsX6_waysFromAllPlaces_r2) ++ wsX20 ++ wsX40)
def wsX6_ways_r1 : List Cond := [Cond.fieldLink RX6 36 "BentPins" "roads" "LBentPins$Roads;", Cond.fieldLink RX6 10 "BentPins" "table" "LBentPins$Table;", Cond.fieldLink RX6 73 "BentPins$Table" "pins" "LBentPins$Pins;", Cond.methodLink RX6 57 yX6_isWithin, Cond.static yX6_isWithin, Cond.initialized RX6, Cond.code yX6_isWithin cX6_isWithin 3 (some .boolean), Cond.methodLink RX6 197 yX3_waysRowByRow, Cond.instanceMethod yX3_waysRowByRow, Cond.selects RX3 yX3_waysRowByRow yX3_waysRowByRow, Cond.initialized RX3, Cond.code yX3_waysRowByRow cX3_waysRowByRow 5 (some .int), Cond.fieldLink RX3 14 "BentPins$Roads" "waysHere" "LBentPins$Row;", Cond.fieldLink RX3 20 "BentPins$Roads" "waysBelow" "LBentPins$Row;", Cond.methodLink RX3 54 yX4_fillWith, Cond.instanceMethod yX4_fillWith, Cond.selects RX4 yX4_fillWith yX4_fillWith, Cond.initialized RX4, Cond.code yX4_fillWith cX4_fillWith 2 none, Cond.fieldLink RX4 13 "BentPins$Row" "cells" "[I", Cond.methodLink RX4 19 yJ7_fill_53178, Cond.static yJ7_fill_53178, Cond.initialized RJ7, Cond.code yJ7_fill_53178 cJ7_fill_53178 4 none]
def wsX6_ways_r2 : List Cond := [Cond.static yX6_pinAt, Cond.code yX6_pinAt cX6_pinAt 2 (some .int), Cond.methodLink RX3 46 yX2_nextPlaces, Cond.instanceMethod yX2_nextPlaces, Cond.selects RX2 yX2_nextPlaces yX2_nextPlaces, Cond.initialized RX2, Cond.code yX2_nextPlaces cX2_nextPlaces 4 (some .int), Cond.methodLink RX2 57 yX2_isOut, Cond.instanceMethod yX2_isOut, Cond.selects RX2 yX2_isOut yX2_isOut, Cond.code yX2_isOut cX2_isOut 2 (some .boolean), Cond.fieldLink RX2 20 "BentPins$Pins" "outs" "LBentPins$Row;", Cond.methodLink RX2 46 yX4_at, Cond.instanceMethod yX4_at, Cond.selects RX4 yX4_at yX4_at, Cond.code yX4_at cX4_at 2 (some .int), Cond.static yX6_bit, Cond.code yX6_bit cX6_bit 1 (some .int), Cond.methodLink RX2 80 yX2_leanOf, Cond.instanceMethod yX2_leanOf, Cond.selects RX2 yX2_leanOf yX2_leanOf, Cond.code yX2_leanOf cX2_leanOf 3 (some .int), Cond.fieldLink RX2 14 "BentPins$Pins" "bends" "LBentPins$Row;", Cond.fieldLink RX2 32 "BentPins$Pins" "tilt" "I"]
def wsX6_ways_r3 : List Cond := [Cond.static yX6_placeBeside, Cond.code yX6_placeBeside cX6_placeBeside 2 (some .int), Cond.methodLink RX6 239 Lib.Math.min.name, Cond.static Lib.Math.min.name, Cond.initialized "java/lang/Math", Cond.code Lib.Math.min.name Lib.Math.min.code 2 (some .int), Cond.methodLink RX6 244 Lib.Math.max.name, Cond.static Lib.Math.max.name, Cond.code Lib.Math.max.name Lib.Math.max.code 2 (some .int), Cond.methodLink RX3 57 yX4_at, Cond.methodLink RX3 60 yX3_passWaysOn, Cond.instanceMethod yX3_passWaysOn, Cond.selects RX3 yX3_passWaysOn yX3_passWaysOn, Cond.code yX3_passWaysOn cX3_passWaysOn 4 none, Cond.static yX6_isIn, Cond.code yX6_isIn cX6_isIn 2 (some .boolean), Cond.methodLink RX6 236 yX6_bit, Cond.methodLink RX3 68 yX4_raise, Cond.instanceMethod yX4_raise, Cond.selects RX4 yX4_raise yX4_raise, Cond.code yX4_raise cX4_raise 3 none, Cond.methodLink RX3 64 yX4_copyFrom, Cond.instanceMethod yX4_copyFrom, Cond.selects RX4 yX4_copyFrom yX4_copyFrom]
def wsX6_ways_r4 : List Cond := [Cond.code yX4_copyFrom cX4_copyFrom 2 none, Cond.methodLink RX4 25 Lib.Math.min.name, Cond.methodLink RX4 28 arraycopyName, Cond.native arraycopyName, Cond.static arraycopyName, Cond.initialized "java/lang/System", Cond.methodLink RX6 200 yX6_waysFromAllPlaces, Cond.static yX6_waysFromAllPlaces, Cond.code yX6_waysFromAllPlaces cX6_waysFromAllPlaces 4 (some .int), Cond.methodLink RX6 266 yX6_waysFrom, Cond.static yX6_waysFrom, Cond.code yX6_waysFrom cX6_waysFrom 7 (some .int), Cond.methodLink RX6 270 yX6_pinAt, Cond.methodLink RX6 273 yX2_nextPlaces, Cond.methodLink RX6 276 yX6_isIn]
def wsX6_ways : List Cond := .code yX6_ways cX6_ways 3 (some .int) :: ((wsX6_ways_r1 ++ (wsX6_ways_r2 ++ (wsX6_ways_r3 ++ wsX6_ways_r4))) ++ wsX60 ++ wsX50 ++ wsX30 ++ wsX40 ++ wsX20)
def wsX6_countSoFar : List Cond := .code yX6_countSoFar cX6_countSoFar 2 (some .int) :: ([.fieldLink RX6 10 "BentPins" "table" "LBentPins$Table;", .fieldLink RX6 221 "BentPins$Table" "shots" "I", .fieldLink RX6 247 "BentPins$Table" "hardShots" "I", .fieldLink RX6 73 "BentPins$Table" "pins" "LBentPins$Pins;", .fieldLink RX6 250 "BentPins$Pins" "rings" "I", .fieldLink RX6 253 "BentPins$Pins" "bendsByBalls" "I", .fieldLink RX6 256 "BentPins$Table" "refusals" "I", .fieldLink RX6 107 "BentPins$Pins" "tilt" "I", .fieldLink RX6 110 "BentPins$Table" "full" "I", .fieldLink RX6 43 "BentPins" "pad" "LBentPins$Pad;", .fieldLink RX6 119 "BentPins$Pad" "length" "I", .fieldLink RX6 29 "BentPins" "history" "LBentPins$History;", .fieldLink RX6 230 "BentPins$History" "size" "I"] ++ wsX60 ++ wsX50 ++ wsX20 ++ wsX10 ++ wsX00)
def wsX6_count_r1 : List Cond := [Cond.fieldLink RX6 10 "BentPins" "table" "LBentPins$Table;", Cond.fieldLink RX6 143 "BentPins$Table" "points" "I", Cond.fieldLink RX6 116 "BentPins$Table" "left" "I", Cond.fieldLink RX6 172 "BentPins$Table" "held" "LBentPins$Row;", Cond.fieldLink RX6 206 "BentPins$Table" "lost" "I", Cond.fieldLink RX6 73 "BentPins$Table" "pins" "LBentPins$Pins;", Cond.fieldLink RX6 36 "BentPins" "roads" "LBentPins$Roads;", Cond.methodLink RX6 203 yX4_total, Cond.instanceMethod yX4_total, Cond.selects RX4 yX4_total yX4_total, Cond.initialized RX4, Cond.code yX4_total cX4_total 6 (some .int), Cond.fieldLink RX4 13 "BentPins$Row" "cells" "[I", Cond.methodLink RX6 140 yX2_allPins, Cond.instanceMethod yX2_allPins, Cond.selects RX2 yX2_allPins yX2_allPins, Cond.initialized RX2, Cond.code yX2_allPins cX2_allPins 1 (some .int), Cond.methodLink RX2 54 yX2_pulledOut, Cond.instanceMethod yX2_pulledOut, Cond.selects RX2 yX2_pulledOut yX2_pulledOut, Cond.code yX2_pulledOut cX2_pulledOut 1 (some .int), Cond.fieldLink RX2 20 "BentPins$Pins" "outs" "LBentPins$Row;", Cond.methodLink RX2 50 yX4_total]
def wsX6_count_r2 : List Cond := [Cond.methodLink RX6 209 yX2_straightOnes, Cond.instanceMethod yX2_straightOnes, Cond.selects RX2 yX2_straightOnes yX2_straightOnes, Cond.code yX2_straightOnes cX2_straightOnes 3 (some .int), Cond.fieldLink RX2 14 "BentPins$Pins" "bends" "LBentPins$Row;", Cond.methodLink RX2 57 yX2_isOut, Cond.instanceMethod yX2_isOut, Cond.selects RX2 yX2_isOut yX2_isOut, Cond.code yX2_isOut cX2_isOut 2 (some .boolean), Cond.methodLink RX2 46 yX4_at, Cond.instanceMethod yX4_at, Cond.selects RX4 yX4_at yX4_at, Cond.code yX4_at cX4_at 2 (some .int), Cond.methodLink RX6 212 yX2_bendsTogether, Cond.instanceMethod yX2_bendsTogether, Cond.selects RX2 yX2_bendsTogether yX2_bendsTogether, Cond.code yX2_bendsTogether cX2_bendsTogether 3 (some .int), Cond.methodLink RX2 61 Lib.Math.abs.name, Cond.static Lib.Math.abs.name, Cond.initialized "java/lang/Math", Cond.code Lib.Math.abs.name Lib.Math.abs.code 1 (some .int), Cond.methodLink RX6 90 yX2_allBells, Cond.instanceMethod yX2_allBells, Cond.selects RX2 yX2_allBells yX2_allBells]
def wsX6_count_r3 : List Cond := [Cond.code yX2_allBells cX2_allBells 1 (some .int), Cond.fieldLink RX2 23 "BentPins$Pins" "bells" "LBentPins$Row;", Cond.methodLink RX6 215 yX5_fullPockets, Cond.instanceMethod yX5_fullPockets, Cond.selects RX5 yX5_fullPockets yX5_fullPockets, Cond.initialized RX5, Cond.code yX5_fullPockets cX5_fullPockets 3 (some .int), Cond.methodLink RX5 76 yX5_isFull, Cond.instanceMethod yX5_isFull, Cond.selects RX5 yX5_isFull yX5_isFull, Cond.code yX5_isFull cX5_isFull 2 (some .boolean), Cond.fieldLink RX5 27 "BentPins$Table" "held" "LBentPins$Row;", Cond.fieldLink RX5 33 "BentPins$Table" "full" "I", Cond.methodLink RX5 72 yX4_at, Cond.methodLink RX6 190 yX3_pocketsForward, Cond.instanceMethod yX3_pocketsForward, Cond.selects RX3 yX3_pocketsForward yX3_pocketsForward, Cond.initialized RX3, Cond.code yX3_pocketsForward cX3_pocketsForward 2 (some .int), Cond.methodLink RX3 23 yX3_placesInRow, Cond.instanceMethod yX3_placesInRow, Cond.selects RX3 yX3_placesInRow yX3_placesInRow, Cond.code yX3_placesInRow cX3_placesInRow 5 (some .int), Cond.methodLink RX3 38 yX3_placesBelow]
def wsX6_count_r4 : List Cond := [Cond.instanceMethod yX3_placesBelow, Cond.selects RX3 yX3_placesBelow yX3_placesBelow, Cond.code yX3_placesBelow cX3_placesBelow 6 (some .int), Cond.static yX6_isIn, Cond.initialized RX6, Cond.code yX6_isIn cX6_isIn 2 (some .boolean), Cond.methodLink RX6 236 yX6_bit, Cond.static yX6_bit, Cond.code yX6_bit cX6_bit 1 (some .int), Cond.static yX6_pinAt, Cond.code yX6_pinAt cX6_pinAt 2 (some .int), Cond.methodLink RX3 46 yX2_nextPlaces, Cond.instanceMethod yX2_nextPlaces, Cond.selects RX2 yX2_nextPlaces yX2_nextPlaces, Cond.code yX2_nextPlaces cX2_nextPlaces 4 (some .int), Cond.methodLink RX2 80 yX2_leanOf, Cond.instanceMethod yX2_leanOf, Cond.selects RX2 yX2_leanOf yX2_leanOf, Cond.code yX2_leanOf cX2_leanOf 3 (some .int), Cond.fieldLink RX2 32 "BentPins$Pins" "tilt" "I", Cond.static yX6_placeBeside, Cond.code yX6_placeBeside cX6_placeBeside 2 (some .int), Cond.methodLink RX6 239 Lib.Math.min.name, Cond.static Lib.Math.min.name]
def wsX6_count_r5 : List Cond := [Cond.code Lib.Math.min.name Lib.Math.min.code 2 (some .int), Cond.methodLink RX6 244 Lib.Math.max.name, Cond.static Lib.Math.max.name, Cond.code Lib.Math.max.name Lib.Math.max.code 2 (some .int), Cond.methodLink RX6 185 yJ6_bitCount_0f7a4, Cond.static yJ6_bitCount_0f7a4, Cond.initialized RJ6, Cond.code yJ6_bitCount_0f7a4 cJ6_bitCount_0f7a4 1 (some .int), Cond.constant RJ6 265 (1431655765), Cond.constant RJ6 266 (858993459), Cond.constant RJ6 267 (252645135), Cond.methodLink RX6 218 yX6_countSoFar, Cond.instanceMethod yX6_countSoFar, Cond.selects RX6 yX6_countSoFar yX6_countSoFar, Cond.code yX6_countSoFar cX6_countSoFar 2 (some .int), Cond.fieldLink RX6 221 "BentPins$Table" "shots" "I", Cond.fieldLink RX6 247 "BentPins$Table" "hardShots" "I", Cond.fieldLink RX6 250 "BentPins$Pins" "rings" "I", Cond.fieldLink RX6 253 "BentPins$Pins" "bendsByBalls" "I", Cond.fieldLink RX6 256 "BentPins$Table" "refusals" "I", Cond.fieldLink RX6 107 "BentPins$Pins" "tilt" "I", Cond.fieldLink RX6 110 "BentPins$Table" "full" "I", Cond.fieldLink RX6 43 "BentPins" "pad" "LBentPins$Pad;", Cond.fieldLink RX6 119 "BentPins$Pad" "length" "I"]
def wsX6_count_r6 : List Cond := [Cond.fieldLink RX6 29 "BentPins" "history" "LBentPins$History;", Cond.fieldLink RX6 230 "BentPins$History" "size" "I"]
def wsX6_count : List Cond := .code yX6_count cX6_count 2 (some .int) :: ((wsX6_count_r1 ++ (wsX6_count_r2 ++ (wsX6_count_r3 ++ (wsX6_count_r4 ++ (wsX6_count_r5 ++ wsX6_count_r6))))) ++ wsX60 ++ wsX50 ++ wsX40 ++ wsX20 ++ wsX10 ++ wsX00)
def wsX6_mean : List Cond := .code yX6_mean cX6_mean 1 (some .double) :: ([.fieldLink RX6 10 "BentPins" "table" "LBentPins$Table;", .fieldLink RX6 221 "BentPins$Table" "shots" "I", .fieldLink RX6 143 "BentPins$Table" "points" "I"] ++ wsX60 ++ wsX50)
def wsX6_ends_r1 : List Cond := [Cond.fieldLink RX6 10 "BentPins" "table" "LBentPins$Table;", Cond.fieldLink RX6 73 "BentPins$Table" "pins" "LBentPins$Pins;", Cond.methodLink RX6 57 yX6_isWithin, Cond.static yX6_isWithin, Cond.initialized RX6, Cond.code yX6_isWithin cX6_isWithin 3 (some .boolean), Cond.methodLink RX6 224 yX2_endFrom, Cond.instanceMethod yX2_endFrom, Cond.selects RX2 yX2_endFrom yX2_endFrom, Cond.initialized RX2, Cond.code yX2_endFrom cX2_endFrom 4 (some .int), Cond.static yX6_pinAt, Cond.code yX6_pinAt cX6_pinAt 2 (some .int), Cond.methodLink RX2 90 yX2_nextDirection, Cond.instanceMethod yX2_nextDirection, Cond.selects RX2 yX2_nextDirection yX2_nextDirection, Cond.code yX2_nextDirection cX2_nextDirection 3 (some .int), Cond.fieldLink RX2 26 "BentPins$Pins" "sides" "LBentPins$Row;", Cond.methodLink RX2 57 yX2_isOut, Cond.instanceMethod yX2_isOut, Cond.selects RX2 yX2_isOut yX2_isOut, Cond.code yX2_isOut cX2_isOut 2 (some .boolean), Cond.fieldLink RX2 20 "BentPins$Pins" "outs" "LBentPins$Row;", Cond.methodLink RX2 46 yX4_at]
def wsX6_ends_r2 : List Cond := [Cond.instanceMethod yX4_at, Cond.selects RX4 yX4_at yX4_at, Cond.initialized RX4, Cond.code yX4_at cX4_at 2 (some .int), Cond.fieldLink RX4 13 "BentPins$Row" "cells" "[I", Cond.methodLink RX2 80 yX2_leanOf, Cond.instanceMethod yX2_leanOf, Cond.selects RX2 yX2_leanOf yX2_leanOf, Cond.code yX2_leanOf cX2_leanOf 3 (some .int), Cond.fieldLink RX2 14 "BentPins$Pins" "bends" "LBentPins$Row;", Cond.fieldLink RX2 32 "BentPins$Pins" "tilt" "I", Cond.static yX6_placeBeside, Cond.code yX6_placeBeside cX6_placeBeside 2 (some .int), Cond.methodLink RX6 239 Lib.Math.min.name, Cond.static Lib.Math.min.name, Cond.initialized "java/lang/Math", Cond.code Lib.Math.min.name Lib.Math.min.code 2 (some .int), Cond.methodLink RX6 244 Lib.Math.max.name, Cond.static Lib.Math.max.name, Cond.code Lib.Math.max.name Lib.Math.max.code 2 (some .int)]
def wsX6_ends : List Cond := .code yX6_ends cX6_ends 2 (some .int) :: ((wsX6_ends_r1 ++ wsX6_ends_r2) ++ wsX60 ++ wsX50 ++ wsX20 ++ wsX40)
def wsX6_ifShot_r1 : List Cond := [Cond.fieldLink RX6 16 "BentPins" "trial" "LBentPins$Table;", Cond.fieldLink RX6 10 "BentPins" "table" "LBentPins$Table;", Cond.fieldLink RX6 116 "BentPins$Table" "left" "I", Cond.fieldLink RX6 143 "BentPins$Table" "points" "I", Cond.fieldLink RX6 206 "BentPins$Table" "lost" "I", Cond.fieldLink RX6 36 "BentPins" "roads" "LBentPins$Roads;", Cond.fieldLink RX6 73 "BentPins$Table" "pins" "LBentPins$Pins;", Cond.methodLink RX6 57 yX6_isWithin, Cond.static yX6_isWithin, Cond.initialized RX6, Cond.code yX6_isWithin cX6_isWithin 3 (some .boolean), Cond.methodLink RX6 227 yX5_copyFrom, Cond.instanceMethod yX5_copyFrom, Cond.selects RX5 yX5_copyFrom yX5_copyFrom, Cond.initialized RX5, Cond.code yX5_copyFrom cX5_copyFrom 2 none, Cond.fieldLink RX5 12 "BentPins$Table" "pins" "LBentPins$Pins;", Cond.fieldLink RX5 23 "BentPins$Table" "worths" "LBentPins$Row;", Cond.fieldLink RX5 27 "BentPins$Table" "held" "LBentPins$Row;", Cond.fieldLink RX5 30 "BentPins$Table" "ended" "LBentPins$Row;", Cond.fieldLink RX5 33 "BentPins$Table" "full" "I", Cond.fieldLink RX5 37 "BentPins$Table" "left" "I", Cond.fieldLink RX5 40 "BentPins$Table" "lost" "I", Cond.fieldLink RX5 43 "BentPins$Table" "points" "I"]
def wsX6_ifShot_r2 : List Cond := [Cond.fieldLink RX5 46 "BentPins$Table" "shots" "I", Cond.fieldLink RX5 49 "BentPins$Table" "hardShots" "I", Cond.fieldLink RX5 52 "BentPins$Table" "refusals" "I", Cond.methodLink RX5 65 yX2_copyFrom, Cond.instanceMethod yX2_copyFrom, Cond.selects RX2 yX2_copyFrom yX2_copyFrom, Cond.initialized RX2, Cond.code yX2_copyFrom cX2_copyFrom 2 none, Cond.fieldLink RX2 14 "BentPins$Pins" "bends" "LBentPins$Row;", Cond.fieldLink RX2 20 "BentPins$Pins" "outs" "LBentPins$Row;", Cond.fieldLink RX2 23 "BentPins$Pins" "bells" "LBentPins$Row;", Cond.fieldLink RX2 26 "BentPins$Pins" "sides" "LBentPins$Row;", Cond.fieldLink RX2 29 "BentPins$Pins" "visits" "LBentPins$Row;", Cond.fieldLink RX2 32 "BentPins$Pins" "tilt" "I", Cond.fieldLink RX2 36 "BentPins$Pins" "rings" "I", Cond.fieldLink RX2 39 "BentPins$Pins" "bendsByBalls" "I", Cond.methodLink RX2 42 yX4_copyFrom, Cond.instanceMethod yX4_copyFrom, Cond.selects RX4 yX4_copyFrom yX4_copyFrom, Cond.initialized RX4, Cond.code yX4_copyFrom cX4_copyFrom 2 none, Cond.fieldLink RX4 13 "BentPins$Row" "cells" "[I", Cond.methodLink RX4 25 Lib.Math.min.name, Cond.static Lib.Math.min.name]
def wsX6_ifShot_r3 : List Cond := [Cond.initialized "java/lang/Math", Cond.code Lib.Math.min.name Lib.Math.min.code 2 (some .int), Cond.methodLink RX4 28 arraycopyName, Cond.native arraycopyName, Cond.static arraycopyName, Cond.initialized "java/lang/System", Cond.methodLink RX5 69 yX4_copyFrom, Cond.methodLink RX6 65 yX5_shootBall, Cond.instanceMethod yX5_shootBall, Cond.selects RX5 yX5_shootBall yX5_shootBall, Cond.code yX5_shootBall cX5_shootBall 6 (some .int), Cond.fieldLink RX5 80 "BentPins$Pins" "rings" "I", Cond.methodLink RX5 83 yX2_rollBall, Cond.instanceMethod yX2_rollBall, Cond.selects RX2 yX2_rollBall yX2_rollBall, Cond.code yX2_rollBall cX2_rollBall 7 (some .int), Cond.static yX6_pinAt, Cond.code yX6_pinAt cX6_pinAt 2 (some .int), Cond.methodLink RX2 90 yX2_nextDirection, Cond.instanceMethod yX2_nextDirection, Cond.selects RX2 yX2_nextDirection yX2_nextDirection, Cond.code yX2_nextDirection cX2_nextDirection 3 (some .int), Cond.methodLink RX2 57 yX2_isOut, Cond.instanceMethod yX2_isOut]
def wsX6_ifShot_r4 : List Cond := [Cond.selects RX2 yX2_isOut yX2_isOut, Cond.code yX2_isOut cX2_isOut 2 (some .boolean), Cond.methodLink RX2 46 yX4_at, Cond.instanceMethod yX4_at, Cond.selects RX4 yX4_at yX4_at, Cond.code yX4_at cX4_at 2 (some .int), Cond.methodLink RX2 80 yX2_leanOf, Cond.instanceMethod yX2_leanOf, Cond.selects RX2 yX2_leanOf yX2_leanOf, Cond.code yX2_leanOf cX2_leanOf 3 (some .int), Cond.methodLink RX2 93 yX2_meetBall, Cond.instanceMethod yX2_meetBall, Cond.selects RX2 yX2_meetBall yX2_meetBall, Cond.code yX2_meetBall cX2_meetBall 4 none, Cond.methodLink RX2 74 yX4_raise, Cond.instanceMethod yX4_raise, Cond.selects RX4 yX4_raise yX4_raise, Cond.code yX4_raise cX4_raise 3 none, Cond.methodLink RX2 66 yX4_put, Cond.instanceMethod yX4_put, Cond.selects RX4 yX4_put yX4_put, Cond.code yX4_put cX4_put 3 none, Cond.methodLink RX2 97 yX2_canBend, Cond.instanceMethod yX2_canBend]
def wsX6_ifShot_r5 : List Cond := [Cond.selects RX2 yX2_canBend yX2_canBend, Cond.code yX2_canBend cX2_canBend 3 (some .boolean), Cond.methodLink RX2 101 yX2_bendBy, Cond.instanceMethod yX2_bendBy, Cond.selects RX2 yX2_bendBy yX2_bendBy, Cond.code yX2_bendBy cX2_bendBy 3 none, Cond.static yX6_placeBeside, Cond.code yX6_placeBeside cX6_placeBeside 2 (some .int), Cond.methodLink RX6 239 Lib.Math.min.name, Cond.methodLink RX6 244 Lib.Math.max.name, Cond.static Lib.Math.max.name, Cond.code Lib.Math.max.name Lib.Math.max.code 2 (some .int), Cond.methodLink RX5 87 yX5_takeBall, Cond.instanceMethod yX5_takeBall, Cond.selects RX5 yX5_takeBall yX5_takeBall, Cond.code yX5_takeBall cX5_takeBall 2 (some .int), Cond.methodLink RX5 90 yX4_raise, Cond.methodLink RX5 76 yX5_isFull, Cond.instanceMethod yX5_isFull, Cond.selects RX5 yX5_isFull yX5_isFull, Cond.code yX5_isFull cX5_isFull 2 (some .boolean), Cond.methodLink RX5 72 yX4_at, Cond.methodLink RX6 190 yX3_pocketsForward, Cond.instanceMethod yX3_pocketsForward]
def wsX6_ifShot_r6 : List Cond := [Cond.selects RX3 yX3_pocketsForward yX3_pocketsForward, Cond.initialized RX3, Cond.code yX3_pocketsForward cX3_pocketsForward 2 (some .int), Cond.methodLink RX3 23 yX3_placesInRow, Cond.instanceMethod yX3_placesInRow, Cond.selects RX3 yX3_placesInRow yX3_placesInRow, Cond.code yX3_placesInRow cX3_placesInRow 5 (some .int), Cond.methodLink RX3 38 yX3_placesBelow, Cond.instanceMethod yX3_placesBelow, Cond.selects RX3 yX3_placesBelow yX3_placesBelow, Cond.code yX3_placesBelow cX3_placesBelow 6 (some .int), Cond.static yX6_isIn, Cond.code yX6_isIn cX6_isIn 2 (some .boolean), Cond.methodLink RX6 236 yX6_bit, Cond.static yX6_bit, Cond.code yX6_bit cX6_bit 1 (some .int), Cond.methodLink RX3 46 yX2_nextPlaces, Cond.instanceMethod yX2_nextPlaces, Cond.selects RX2 yX2_nextPlaces yX2_nextPlaces, Cond.code yX2_nextPlaces cX2_nextPlaces 4 (some .int)]
def wsX6_ifShot : List Cond := .code yX6_ifShot cX6_ifShot 6 (some .int) :: ((wsX6_ifShot_r1 ++ (wsX6_ifShot_r2 ++ (wsX6_ifShot_r3 ++ (wsX6_ifShot_r4 ++ (wsX6_ifShot_r5 ++ wsX6_ifShot_r6))))) ++ wsX60 ++ wsX50 ++ wsX20 ++ wsX40)
def wsX6_best_r1 : List Cond := [Cond.fieldLink RX6 10 "BentPins" "table" "LBentPins$Table;", Cond.fieldLink RX6 116 "BentPins$Table" "left" "I", Cond.fieldLink RX6 16 "BentPins" "trial" "LBentPins$Table;", Cond.fieldLink RX6 143 "BentPins$Table" "points" "I", Cond.fieldLink RX6 36 "BentPins" "roads" "LBentPins$Roads;", Cond.fieldLink RX6 73 "BentPins$Table" "pins" "LBentPins$Pins;", Cond.methodLink RX6 227 yX5_copyFrom, Cond.instanceMethod yX5_copyFrom, Cond.selects RX5 yX5_copyFrom yX5_copyFrom, Cond.initialized RX5, Cond.code yX5_copyFrom cX5_copyFrom 2 none, Cond.fieldLink RX5 12 "BentPins$Table" "pins" "LBentPins$Pins;", Cond.fieldLink RX5 23 "BentPins$Table" "worths" "LBentPins$Row;", Cond.fieldLink RX5 27 "BentPins$Table" "held" "LBentPins$Row;", Cond.fieldLink RX5 30 "BentPins$Table" "ended" "LBentPins$Row;", Cond.fieldLink RX5 33 "BentPins$Table" "full" "I", Cond.fieldLink RX5 37 "BentPins$Table" "left" "I", Cond.fieldLink RX5 40 "BentPins$Table" "lost" "I", Cond.fieldLink RX5 43 "BentPins$Table" "points" "I", Cond.fieldLink RX5 46 "BentPins$Table" "shots" "I", Cond.fieldLink RX5 49 "BentPins$Table" "hardShots" "I", Cond.fieldLink RX5 52 "BentPins$Table" "refusals" "I", Cond.methodLink RX5 65 yX2_copyFrom, Cond.instanceMethod yX2_copyFrom]
def wsX6_best_r2 : List Cond := [Cond.selects RX2 yX2_copyFrom yX2_copyFrom, Cond.initialized RX2, Cond.code yX2_copyFrom cX2_copyFrom 2 none, Cond.fieldLink RX2 14 "BentPins$Pins" "bends" "LBentPins$Row;", Cond.fieldLink RX2 20 "BentPins$Pins" "outs" "LBentPins$Row;", Cond.fieldLink RX2 23 "BentPins$Pins" "bells" "LBentPins$Row;", Cond.fieldLink RX2 26 "BentPins$Pins" "sides" "LBentPins$Row;", Cond.fieldLink RX2 29 "BentPins$Pins" "visits" "LBentPins$Row;", Cond.fieldLink RX2 32 "BentPins$Pins" "tilt" "I", Cond.fieldLink RX2 36 "BentPins$Pins" "rings" "I", Cond.fieldLink RX2 39 "BentPins$Pins" "bendsByBalls" "I", Cond.methodLink RX2 42 yX4_copyFrom, Cond.instanceMethod yX4_copyFrom, Cond.selects RX4 yX4_copyFrom yX4_copyFrom, Cond.initialized RX4, Cond.code yX4_copyFrom cX4_copyFrom 2 none, Cond.fieldLink RX4 13 "BentPins$Row" "cells" "[I", Cond.methodLink RX4 25 Lib.Math.min.name, Cond.static Lib.Math.min.name, Cond.initialized "java/lang/Math", Cond.code Lib.Math.min.name Lib.Math.min.code 2 (some .int), Cond.methodLink RX4 28 arraycopyName, Cond.native arraycopyName, Cond.static arraycopyName]
def wsX6_best_r3 : List Cond := [Cond.initialized "java/lang/System", Cond.methodLink RX5 69 yX4_copyFrom, Cond.methodLink RX6 65 yX5_shootBall, Cond.instanceMethod yX5_shootBall, Cond.selects RX5 yX5_shootBall yX5_shootBall, Cond.code yX5_shootBall cX5_shootBall 6 (some .int), Cond.fieldLink RX5 80 "BentPins$Pins" "rings" "I", Cond.methodLink RX5 83 yX2_rollBall, Cond.instanceMethod yX2_rollBall, Cond.selects RX2 yX2_rollBall yX2_rollBall, Cond.code yX2_rollBall cX2_rollBall 7 (some .int), Cond.static yX6_pinAt, Cond.initialized RX6, Cond.code yX6_pinAt cX6_pinAt 2 (some .int), Cond.methodLink RX2 90 yX2_nextDirection, Cond.instanceMethod yX2_nextDirection, Cond.selects RX2 yX2_nextDirection yX2_nextDirection, Cond.code yX2_nextDirection cX2_nextDirection 3 (some .int), Cond.methodLink RX2 57 yX2_isOut, Cond.instanceMethod yX2_isOut, Cond.selects RX2 yX2_isOut yX2_isOut, Cond.code yX2_isOut cX2_isOut 2 (some .boolean), Cond.methodLink RX2 46 yX4_at, Cond.instanceMethod yX4_at]
def wsX6_best_r4 : List Cond := [Cond.selects RX4 yX4_at yX4_at, Cond.code yX4_at cX4_at 2 (some .int), Cond.methodLink RX2 80 yX2_leanOf, Cond.instanceMethod yX2_leanOf, Cond.selects RX2 yX2_leanOf yX2_leanOf, Cond.code yX2_leanOf cX2_leanOf 3 (some .int), Cond.methodLink RX2 93 yX2_meetBall, Cond.instanceMethod yX2_meetBall, Cond.selects RX2 yX2_meetBall yX2_meetBall, Cond.code yX2_meetBall cX2_meetBall 4 none, Cond.methodLink RX2 74 yX4_raise, Cond.instanceMethod yX4_raise, Cond.selects RX4 yX4_raise yX4_raise, Cond.code yX4_raise cX4_raise 3 none, Cond.methodLink RX2 66 yX4_put, Cond.instanceMethod yX4_put, Cond.selects RX4 yX4_put yX4_put, Cond.code yX4_put cX4_put 3 none, Cond.methodLink RX2 97 yX2_canBend, Cond.instanceMethod yX2_canBend, Cond.selects RX2 yX2_canBend yX2_canBend, Cond.code yX2_canBend cX2_canBend 3 (some .boolean), Cond.static yX6_isWithin, Cond.code yX6_isWithin cX6_isWithin 3 (some .boolean)]
def wsX6_best_r5 : List Cond := [Cond.methodLink RX2 101 yX2_bendBy, Cond.instanceMethod yX2_bendBy, Cond.selects RX2 yX2_bendBy yX2_bendBy, Cond.code yX2_bendBy cX2_bendBy 3 none, Cond.static yX6_placeBeside, Cond.code yX6_placeBeside cX6_placeBeside 2 (some .int), Cond.methodLink RX6 239 Lib.Math.min.name, Cond.methodLink RX6 244 Lib.Math.max.name, Cond.static Lib.Math.max.name, Cond.code Lib.Math.max.name Lib.Math.max.code 2 (some .int), Cond.methodLink RX5 87 yX5_takeBall, Cond.instanceMethod yX5_takeBall, Cond.selects RX5 yX5_takeBall yX5_takeBall, Cond.code yX5_takeBall cX5_takeBall 2 (some .int), Cond.methodLink RX5 90 yX4_raise, Cond.methodLink RX5 76 yX5_isFull, Cond.instanceMethod yX5_isFull, Cond.selects RX5 yX5_isFull yX5_isFull, Cond.code yX5_isFull cX5_isFull 2 (some .boolean), Cond.methodLink RX5 72 yX4_at, Cond.methodLink RX6 190 yX3_pocketsForward, Cond.instanceMethod yX3_pocketsForward, Cond.selects RX3 yX3_pocketsForward yX3_pocketsForward, Cond.initialized RX3]
def wsX6_best_r6 : List Cond := [Cond.code yX3_pocketsForward cX3_pocketsForward 2 (some .int), Cond.methodLink RX3 23 yX3_placesInRow, Cond.instanceMethod yX3_placesInRow, Cond.selects RX3 yX3_placesInRow yX3_placesInRow, Cond.code yX3_placesInRow cX3_placesInRow 5 (some .int), Cond.methodLink RX3 38 yX3_placesBelow, Cond.instanceMethod yX3_placesBelow, Cond.selects RX3 yX3_placesBelow yX3_placesBelow, Cond.code yX3_placesBelow cX3_placesBelow 6 (some .int), Cond.static yX6_isIn, Cond.code yX6_isIn cX6_isIn 2 (some .boolean), Cond.methodLink RX6 236 yX6_bit, Cond.static yX6_bit, Cond.code yX6_bit cX6_bit 1 (some .int), Cond.methodLink RX3 46 yX2_nextPlaces, Cond.instanceMethod yX2_nextPlaces, Cond.selects RX2 yX2_nextPlaces yX2_nextPlaces, Cond.code yX2_nextPlaces cX2_nextPlaces 4 (some .int), Cond.methodLink RX6 185 yJ6_bitCount_0f7a4, Cond.static yJ6_bitCount_0f7a4, Cond.initialized RJ6, Cond.code yJ6_bitCount_0f7a4 cJ6_bitCount_0f7a4 1 (some .int), Cond.constant RJ6 265 (1431655765), Cond.constant RJ6 266 (858993459)]
def wsX6_best_r7 : List Cond := [Cond.constant RJ6 267 (252645135)]
def wsX6_best : List Cond := .code yX6_best cX6_best 8 (some .int) :: ((wsX6_best_r1 ++ (wsX6_best_r2 ++ (wsX6_best_r3 ++ (wsX6_best_r4 ++ (wsX6_best_r5 ++ (wsX6_best_r6 ++ wsX6_best_r7)))))) ++ wsX60 ++ wsX50 ++ wsX20 ++ wsX40)
def wsX6_undo_r1 : List Cond := [Cond.fieldLink RX6 29 "BentPins" "history" "LBentPins$History;", Cond.fieldLink RX6 230 "BentPins$History" "size" "I", Cond.fieldLink RX6 10 "BentPins" "table" "LBentPins$Table;", Cond.methodLink RX6 233 yX0_takeBack, Cond.instanceMethod yX0_takeBack, Cond.selects RX0 yX0_takeBack yX0_takeBack, Cond.initialized RX0, Cond.code yX0_takeBack cX0_takeBack 3 none, Cond.fieldLink RX0 17 "BentPins$History" "size" "I", Cond.methodLink RX0 25 yX0_stateAt, Cond.instanceMethod yX0_stateAt, Cond.selects RX0 yX0_stateAt yX0_stateAt, Cond.code yX0_stateAt cX0_stateAt 2 (some (.object "BentPins$Table")), Cond.fieldLink RX0 11 "BentPins$History" "states" "[LBentPins$Table;", Cond.methodLink RX0 29 yX5_copyFrom, Cond.instanceMethod yX5_copyFrom, Cond.selects RX5 yX5_copyFrom yX5_copyFrom, Cond.initialized RX5, Cond.code yX5_copyFrom cX5_copyFrom 2 none, Cond.fieldLink RX5 12 "BentPins$Table" "pins" "LBentPins$Pins;", Cond.fieldLink RX5 23 "BentPins$Table" "worths" "LBentPins$Row;", Cond.fieldLink RX5 27 "BentPins$Table" "held" "LBentPins$Row;", Cond.fieldLink RX5 30 "BentPins$Table" "ended" "LBentPins$Row;", Cond.fieldLink RX5 33 "BentPins$Table" "full" "I"]
def wsX6_undo_r2 : List Cond := [Cond.fieldLink RX5 37 "BentPins$Table" "left" "I", Cond.fieldLink RX5 40 "BentPins$Table" "lost" "I", Cond.fieldLink RX5 43 "BentPins$Table" "points" "I", Cond.fieldLink RX5 46 "BentPins$Table" "shots" "I", Cond.fieldLink RX5 49 "BentPins$Table" "hardShots" "I", Cond.fieldLink RX5 52 "BentPins$Table" "refusals" "I", Cond.methodLink RX5 65 yX2_copyFrom, Cond.instanceMethod yX2_copyFrom, Cond.selects RX2 yX2_copyFrom yX2_copyFrom, Cond.initialized RX2, Cond.code yX2_copyFrom cX2_copyFrom 2 none, Cond.fieldLink RX2 14 "BentPins$Pins" "bends" "LBentPins$Row;", Cond.fieldLink RX2 20 "BentPins$Pins" "outs" "LBentPins$Row;", Cond.fieldLink RX2 23 "BentPins$Pins" "bells" "LBentPins$Row;", Cond.fieldLink RX2 26 "BentPins$Pins" "sides" "LBentPins$Row;", Cond.fieldLink RX2 29 "BentPins$Pins" "visits" "LBentPins$Row;", Cond.fieldLink RX2 32 "BentPins$Pins" "tilt" "I", Cond.fieldLink RX2 36 "BentPins$Pins" "rings" "I", Cond.fieldLink RX2 39 "BentPins$Pins" "bendsByBalls" "I", Cond.methodLink RX2 42 yX4_copyFrom, Cond.instanceMethod yX4_copyFrom, Cond.selects RX4 yX4_copyFrom yX4_copyFrom, Cond.initialized RX4, Cond.code yX4_copyFrom cX4_copyFrom 2 none]
def wsX6_undo_r3 : List Cond := [Cond.fieldLink RX4 13 "BentPins$Row" "cells" "[I", Cond.methodLink RX4 25 Lib.Math.min.name, Cond.static Lib.Math.min.name, Cond.initialized "java/lang/Math", Cond.code Lib.Math.min.name Lib.Math.min.code 2 (some .int), Cond.methodLink RX4 28 arraycopyName, Cond.native arraycopyName, Cond.static arraycopyName, Cond.initialized "java/lang/System", Cond.methodLink RX5 69 yX4_copyFrom]
def wsX6_undo : List Cond := .code yX6_undo cX6_undo 1 (some .int) :: ((wsX6_undo_r1 ++ (wsX6_undo_r2 ++ wsX6_undo_r3)) ++ wsX60 ++ wsX00 ++ wsX50 ++ wsX20 ++ wsX40)
def wsX6_save_r1 : List Cond := [Cond.fieldLink RX6 19 "BentPins" "snapshot" "LBentPins$Table;", Cond.fieldLink RX6 10 "BentPins" "table" "LBentPins$Table;", Cond.fieldLink RX6 22 "BentPins" "snapshotTaken" "Z", Cond.fieldLink RX6 143 "BentPins$Table" "points" "I", Cond.methodLink RX6 227 yX5_copyFrom, Cond.instanceMethod yX5_copyFrom, Cond.selects RX5 yX5_copyFrom yX5_copyFrom, Cond.initialized RX5, Cond.code yX5_copyFrom cX5_copyFrom 2 none, Cond.fieldLink RX5 12 "BentPins$Table" "pins" "LBentPins$Pins;", Cond.fieldLink RX5 23 "BentPins$Table" "worths" "LBentPins$Row;", Cond.fieldLink RX5 27 "BentPins$Table" "held" "LBentPins$Row;", Cond.fieldLink RX5 30 "BentPins$Table" "ended" "LBentPins$Row;", Cond.fieldLink RX5 33 "BentPins$Table" "full" "I", Cond.fieldLink RX5 37 "BentPins$Table" "left" "I", Cond.fieldLink RX5 40 "BentPins$Table" "lost" "I", Cond.fieldLink RX5 43 "BentPins$Table" "points" "I", Cond.fieldLink RX5 46 "BentPins$Table" "shots" "I", Cond.fieldLink RX5 49 "BentPins$Table" "hardShots" "I", Cond.fieldLink RX5 52 "BentPins$Table" "refusals" "I", Cond.methodLink RX5 65 yX2_copyFrom, Cond.instanceMethod yX2_copyFrom, Cond.selects RX2 yX2_copyFrom yX2_copyFrom, Cond.initialized RX2]
def wsX6_save_r2 : List Cond := [Cond.code yX2_copyFrom cX2_copyFrom 2 none, Cond.fieldLink RX2 14 "BentPins$Pins" "bends" "LBentPins$Row;", Cond.fieldLink RX2 20 "BentPins$Pins" "outs" "LBentPins$Row;", Cond.fieldLink RX2 23 "BentPins$Pins" "bells" "LBentPins$Row;", Cond.fieldLink RX2 26 "BentPins$Pins" "sides" "LBentPins$Row;", Cond.fieldLink RX2 29 "BentPins$Pins" "visits" "LBentPins$Row;", Cond.fieldLink RX2 32 "BentPins$Pins" "tilt" "I", Cond.fieldLink RX2 36 "BentPins$Pins" "rings" "I", Cond.fieldLink RX2 39 "BentPins$Pins" "bendsByBalls" "I", Cond.methodLink RX2 42 yX4_copyFrom, Cond.instanceMethod yX4_copyFrom, Cond.selects RX4 yX4_copyFrom yX4_copyFrom, Cond.initialized RX4, Cond.code yX4_copyFrom cX4_copyFrom 2 none, Cond.fieldLink RX4 13 "BentPins$Row" "cells" "[I", Cond.methodLink RX4 25 Lib.Math.min.name, Cond.static Lib.Math.min.name, Cond.initialized "java/lang/Math", Cond.code Lib.Math.min.name Lib.Math.min.code 2 (some .int), Cond.methodLink RX4 28 arraycopyName, Cond.native arraycopyName, Cond.static arraycopyName, Cond.initialized "java/lang/System", Cond.methodLink RX5 69 yX4_copyFrom]
def wsX6_save : List Cond := .code yX6_save cX6_save 1 (some .int) :: ((wsX6_save_r1 ++ wsX6_save_r2) ++ wsX60 ++ wsX50 ++ wsX20 ++ wsX40)
def wsX6_restore_r1 : List Cond := [Cond.fieldLink RX6 22 "BentPins" "snapshotTaken" "Z", Cond.fieldLink RX6 29 "BentPins" "history" "LBentPins$History;", Cond.fieldLink RX6 10 "BentPins" "table" "LBentPins$Table;", Cond.fieldLink RX6 19 "BentPins" "snapshot" "LBentPins$Table;", Cond.fieldLink RX6 143 "BentPins$Table" "points" "I", Cond.methodLink RX6 61 yX0_record, Cond.instanceMethod yX0_record, Cond.selects RX0 yX0_record yX0_record, Cond.initialized RX0, Cond.code yX0_record cX0_record 3 none, Cond.fieldLink RX0 17 "BentPins$History" "size" "I", Cond.fieldLink RX0 11 "BentPins$History" "states" "[LBentPins$Table;", Cond.methodLink RX0 22 yX0_dropOldest, Cond.instanceMethod yX0_dropOldest, Cond.selects RX0 yX0_dropOldest yX0_dropOldest, Cond.code yX0_dropOldest cX0_dropOldest 3 none, Cond.methodLink RX0 25 yX0_stateAt, Cond.instanceMethod yX0_stateAt, Cond.selects RX0 yX0_stateAt yX0_stateAt, Cond.code yX0_stateAt cX0_stateAt 2 (some (.object "BentPins$Table")), Cond.methodLink RX0 29 yX5_copyFrom, Cond.instanceMethod yX5_copyFrom, Cond.selects RX5 yX5_copyFrom yX5_copyFrom, Cond.initialized RX5]
def wsX6_restore_r2 : List Cond := [Cond.code yX5_copyFrom cX5_copyFrom 2 none, Cond.fieldLink RX5 12 "BentPins$Table" "pins" "LBentPins$Pins;", Cond.fieldLink RX5 23 "BentPins$Table" "worths" "LBentPins$Row;", Cond.fieldLink RX5 27 "BentPins$Table" "held" "LBentPins$Row;", Cond.fieldLink RX5 30 "BentPins$Table" "ended" "LBentPins$Row;", Cond.fieldLink RX5 33 "BentPins$Table" "full" "I", Cond.fieldLink RX5 37 "BentPins$Table" "left" "I", Cond.fieldLink RX5 40 "BentPins$Table" "lost" "I", Cond.fieldLink RX5 43 "BentPins$Table" "points" "I", Cond.fieldLink RX5 46 "BentPins$Table" "shots" "I", Cond.fieldLink RX5 49 "BentPins$Table" "hardShots" "I", Cond.fieldLink RX5 52 "BentPins$Table" "refusals" "I", Cond.methodLink RX5 65 yX2_copyFrom, Cond.instanceMethod yX2_copyFrom, Cond.selects RX2 yX2_copyFrom yX2_copyFrom, Cond.initialized RX2, Cond.code yX2_copyFrom cX2_copyFrom 2 none, Cond.fieldLink RX2 14 "BentPins$Pins" "bends" "LBentPins$Row;", Cond.fieldLink RX2 20 "BentPins$Pins" "outs" "LBentPins$Row;", Cond.fieldLink RX2 23 "BentPins$Pins" "bells" "LBentPins$Row;", Cond.fieldLink RX2 26 "BentPins$Pins" "sides" "LBentPins$Row;", Cond.fieldLink RX2 29 "BentPins$Pins" "visits" "LBentPins$Row;", Cond.fieldLink RX2 32 "BentPins$Pins" "tilt" "I", Cond.fieldLink RX2 36 "BentPins$Pins" "rings" "I"]
def wsX6_restore_r3 : List Cond := [Cond.fieldLink RX2 39 "BentPins$Pins" "bendsByBalls" "I", Cond.methodLink RX2 42 yX4_copyFrom, Cond.instanceMethod yX4_copyFrom, Cond.selects RX4 yX4_copyFrom yX4_copyFrom, Cond.initialized RX4, Cond.code yX4_copyFrom cX4_copyFrom 2 none, Cond.fieldLink RX4 13 "BentPins$Row" "cells" "[I", Cond.methodLink RX4 25 Lib.Math.min.name, Cond.static Lib.Math.min.name, Cond.initialized "java/lang/Math", Cond.code Lib.Math.min.name Lib.Math.min.code 2 (some .int), Cond.methodLink RX4 28 arraycopyName, Cond.native arraycopyName, Cond.static arraycopyName, Cond.initialized "java/lang/System", Cond.methodLink RX5 69 yX4_copyFrom, Cond.methodLink RX6 227 yX5_copyFrom]
def wsX6_restore : List Cond := .code yX6_restore cX6_restore 1 (some .int) :: ((wsX6_restore_r1 ++ (wsX6_restore_r2 ++ wsX6_restore_r3)) ++ wsX60 ++ wsX50 ++ wsX00 ++ wsX20 ++ wsX40)
def wsX7_init : List Cond := .code yX7_init cX7_init 2 none :: ([.methodLink RX7 1 objectInit, .instanceMethod objectInit, .code objectInit ⟨#[0xb1]⟩ 1 none, .arrayClass .int, .fieldLink RX7 7 "BentPinsModel" "s" "[I", .fieldLink RX7 13 "BentPinsModel" "aside" "[I", .fieldLink RX7 16 "BentPinsModel" "past" "[I", .fieldLink RX7 19 "BentPinsModel" "kept" "[I", .fieldLink RX7 22 "BentPinsModel" "pad" "[I", .fieldLink RX7 25 "BentPinsModel" "stop" "[I", .fieldLink RX7 28 "BentPinsModel" "many" "[I", .fieldLink RX7 31 "BentPinsModel" "then" "[I"] ++ wsX70)
def wsX7_in : List Cond := .code yX7_in cX7_in 3 (some .boolean) :: ([])
def wsX7_copies : List Cond := .code yX7_copies cX7_copies 5 none :: ([])
def wsX7_records : List Cond := .code yX7_records cX7_records 2 none :: ([.fieldLink RX7 34 "BentPinsModel" "known" "I", .fieldLink RX7 16 "BentPinsModel" "past" "[I", .fieldLink RX7 7 "BentPinsModel" "s" "[I", .methodLink RX7 38 yX7_copies, .static yX7_copies, .initialized RX7, .code yX7_copies cX7_copies 5 none] ++ wsX70)
def wsX7_ones : List Cond := .code yX7_ones cX7_ones 3 (some .int) :: ([])
def wsX7_isPin : List Cond := .code yX7_isPin cX7_isPin 1 (some .boolean) :: ([.methodLink RX7 42 yX7_in, .static yX7_in, .initialized RX7, .code yX7_in cX7_in 3 (some .boolean)])
def wsX7_isPlace : List Cond := .code yX7_isPlace cX7_isPlace 1 (some .boolean) :: ([.methodLink RX7 42 yX7_in, .static yX7_in, .initialized RX7, .code yX7_in cX7_in 3 (some .boolean)])
def wsX7_of : List Cond := .code yX7_of cX7_of 3 (some .int) :: ([.fieldLink RX7 7 "BentPinsModel" "s" "[I"] ++ wsX70)
def wsX7_lays : List Cond := .code yX7_lays cX7_lays 4 none :: ([.fieldLink RX7 7 "BentPinsModel" "s" "[I"] ++ wsX70)
def wsX7_inPocket : List Cond := .code yX7_inPocket cX7_inPocket 3 (some .int) :: ([.fieldLink RX7 7 "BentPinsModel" "s" "[I"] ++ wsX70)
def wsX7_adds : List Cond := .code yX7_adds cX7_adds 4 none :: ([.fieldLink RX7 7 "BentPinsModel" "s" "[I"] ++ wsX70)
def wsX7_isFull : List Cond := .code yX7_isFull cX7_isFull 2 (some .boolean) :: ([.fieldLink RX7 7 "BentPinsModel" "s" "[I", .methodLink RX7 46 yX7_inPocket, .instanceMethod yX7_inPocket, .selects RX7 yX7_inPocket yX7_inPocket, .initialized RX7, .code yX7_inPocket cX7_inPocket 3 (some .int)] ++ wsX70)
def wsX7_sends : List Cond := .code yX7_sends cX7_sends 3 (some .int) :: ([.fieldLink RX7 7 "BentPinsModel" "s" "[I", .methodLink RX7 50 yX7_of, .instanceMethod yX7_of, .selects RX7 yX7_of yX7_of, .initialized RX7, .code yX7_of cX7_of 3 (some .int)] ++ wsX70)
def wsX7_moved : List Cond := .code yX7_moved cX7_moved 2 (some .int) :: ([.methodLink RX7 42 yX7_in, .static yX7_in, .initialized RX7, .code yX7_in cX7_in 3 (some .boolean)])
def wsX7_bends : List Cond := .code yX7_bends cX7_bends 4 none :: ([.fieldLink RX7 7 "BentPinsModel" "s" "[I", .methodLink RX7 50 yX7_of, .instanceMethod yX7_of, .selects RX7 yX7_of yX7_of, .initialized RX7, .code yX7_of cX7_of 3 (some .int), .methodLink RX7 42 yX7_in, .static yX7_in, .code yX7_in cX7_in 3 (some .boolean), .methodLink RX7 53 yX7_lays, .instanceMethod yX7_lays, .selects RX7 yX7_lays yX7_lays, .code yX7_lays cX7_lays 4 none] ++ wsX70)
def wsX7_falls_r1 : List Cond := [Cond.fieldLink RX7 57 "BentPinsModel" "bells" "I", Cond.methodLink RX7 50 yX7_of, Cond.instanceMethod yX7_of, Cond.selects RX7 yX7_of yX7_of, Cond.initialized RX7, Cond.code yX7_of cX7_of 3 (some .int), Cond.fieldLink RX7 7 "BentPinsModel" "s" "[I", Cond.methodLink RX7 53 yX7_lays, Cond.instanceMethod yX7_lays, Cond.selects RX7 yX7_lays yX7_lays, Cond.code yX7_lays cX7_lays 4 none, Cond.methodLink RX7 60 yX7_sends, Cond.instanceMethod yX7_sends, Cond.selects RX7 yX7_sends yX7_sends, Cond.code yX7_sends cX7_sends 3 (some .int), Cond.methodLink RX7 64 yX7_bends, Cond.instanceMethod yX7_bends, Cond.selects RX7 yX7_bends yX7_bends, Cond.code yX7_bends cX7_bends 4 none, Cond.methodLink RX7 42 yX7_in, Cond.static yX7_in, Cond.code yX7_in cX7_in 3 (some .boolean), Cond.methodLink RX7 68 yX7_moved, Cond.static yX7_moved]
def wsX7_falls_r2 : List Cond := [Cond.code yX7_moved cX7_moved 2 (some .int)]
def wsX7_falls : List Cond := .code yX7_falls cX7_falls 5 (some .int) :: ((wsX7_falls_r1 ++ wsX7_falls_r2) ++ wsX70)
def wsX7_fallsAll_r1 : List Cond := [Cond.fieldLink RX7 57 "BentPinsModel" "bells" "I", Cond.methodLink RX7 71 yX7_falls, Cond.instanceMethod yX7_falls, Cond.selects RX7 yX7_falls yX7_falls, Cond.initialized RX7, Cond.code yX7_falls cX7_falls 5 (some .int), Cond.methodLink RX7 50 yX7_of, Cond.instanceMethod yX7_of, Cond.selects RX7 yX7_of yX7_of, Cond.code yX7_of cX7_of 3 (some .int), Cond.fieldLink RX7 7 "BentPinsModel" "s" "[I", Cond.methodLink RX7 53 yX7_lays, Cond.instanceMethod yX7_lays, Cond.selects RX7 yX7_lays yX7_lays, Cond.code yX7_lays cX7_lays 4 none, Cond.methodLink RX7 60 yX7_sends, Cond.instanceMethod yX7_sends, Cond.selects RX7 yX7_sends yX7_sends, Cond.code yX7_sends cX7_sends 3 (some .int), Cond.methodLink RX7 64 yX7_bends, Cond.instanceMethod yX7_bends, Cond.selects RX7 yX7_bends yX7_bends, Cond.code yX7_bends cX7_bends 4 none, Cond.methodLink RX7 42 yX7_in]
def wsX7_fallsAll_r2 : List Cond := [Cond.static yX7_in, Cond.code yX7_in cX7_in 3 (some .boolean), Cond.methodLink RX7 68 yX7_moved, Cond.static yX7_moved, Cond.code yX7_moved cX7_moved 2 (some .int)]
def wsX7_fallsAll : List Cond := .code yX7_fallsAll cX7_fallsAll 5 (some .int) :: ((wsX7_fallsAll_r1 ++ wsX7_fallsAll_r2) ++ wsX70)
def wsX7_goShoot_r1 : List Cond := [Cond.fieldLink RX7 7 "BentPinsModel" "s" "[I", Cond.fieldLink RX7 57 "BentPinsModel" "bells" "I", Cond.methodLink RX7 75 yX7_fallsAll, Cond.instanceMethod yX7_fallsAll, Cond.selects RX7 yX7_fallsAll yX7_fallsAll, Cond.initialized RX7, Cond.code yX7_fallsAll cX7_fallsAll 5 (some .int), Cond.methodLink RX7 71 yX7_falls, Cond.instanceMethod yX7_falls, Cond.selects RX7 yX7_falls yX7_falls, Cond.code yX7_falls cX7_falls 5 (some .int), Cond.methodLink RX7 50 yX7_of, Cond.instanceMethod yX7_of, Cond.selects RX7 yX7_of yX7_of, Cond.code yX7_of cX7_of 3 (some .int), Cond.methodLink RX7 53 yX7_lays, Cond.instanceMethod yX7_lays, Cond.selects RX7 yX7_lays yX7_lays, Cond.code yX7_lays cX7_lays 4 none, Cond.methodLink RX7 60 yX7_sends, Cond.instanceMethod yX7_sends, Cond.selects RX7 yX7_sends yX7_sends, Cond.code yX7_sends cX7_sends 3 (some .int), Cond.methodLink RX7 64 yX7_bends]
def wsX7_goShoot_r2 : List Cond := [Cond.instanceMethod yX7_bends, Cond.selects RX7 yX7_bends yX7_bends, Cond.code yX7_bends cX7_bends 4 none, Cond.methodLink RX7 42 yX7_in, Cond.static yX7_in, Cond.code yX7_in cX7_in 3 (some .boolean), Cond.methodLink RX7 68 yX7_moved, Cond.static yX7_moved, Cond.code yX7_moved cX7_moved 2 (some .int), Cond.methodLink RX7 79 yX7_adds, Cond.instanceMethod yX7_adds, Cond.selects RX7 yX7_adds yX7_adds, Cond.code yX7_adds cX7_adds 4 none, Cond.methodLink RX7 82 yX7_isFull, Cond.instanceMethod yX7_isFull, Cond.selects RX7 yX7_isFull yX7_isFull, Cond.code yX7_isFull cX7_isFull 2 (some .boolean), Cond.methodLink RX7 46 yX7_inPocket, Cond.instanceMethod yX7_inPocket, Cond.selects RX7 yX7_inPocket yX7_inPocket, Cond.code yX7_inPocket cX7_inPocket 3 (some .int)]
def wsX7_goShoot : List Cond := .code yX7_goShoot cX7_goShoot 5 (some .int) :: ((wsX7_goShoot_r1 ++ wsX7_goShoot_r2) ++ wsX70)
def wsX7_goEmpty : List Cond := .code yX7_goEmpty cX7_goEmpty 2 (some .int) :: ([.fieldLink RX7 7 "BentPinsModel" "s" "[I", .methodLink RX7 46 yX7_inPocket, .instanceMethod yX7_inPocket, .selects RX7 yX7_inPocket yX7_inPocket, .initialized RX7, .code yX7_inPocket cX7_inPocket 3 (some .int), .methodLink RX7 79 yX7_adds, .instanceMethod yX7_adds, .selects RX7 yX7_adds yX7_adds, .code yX7_adds cX7_adds 4 none] ++ wsX70)
def wsX7_shoot_r1 : List Cond := [Cond.methodLink RX7 86 yX7_isPlace, Cond.static yX7_isPlace, Cond.initialized RX7, Cond.code yX7_isPlace cX7_isPlace 1 (some .boolean), Cond.methodLink RX7 42 yX7_in, Cond.static yX7_in, Cond.code yX7_in cX7_in 3 (some .boolean), Cond.methodLink RX7 89 yX7_records, Cond.instanceMethod yX7_records, Cond.selects RX7 yX7_records yX7_records, Cond.code yX7_records cX7_records 2 none, Cond.fieldLink RX7 34 "BentPinsModel" "known" "I", Cond.fieldLink RX7 16 "BentPinsModel" "past" "[I", Cond.fieldLink RX7 7 "BentPinsModel" "s" "[I", Cond.methodLink RX7 38 yX7_copies, Cond.static yX7_copies, Cond.code yX7_copies cX7_copies 5 none, Cond.methodLink RX7 92 yX7_goShoot, Cond.instanceMethod yX7_goShoot, Cond.selects RX7 yX7_goShoot yX7_goShoot, Cond.code yX7_goShoot cX7_goShoot 5 (some .int), Cond.fieldLink RX7 57 "BentPinsModel" "bells" "I", Cond.methodLink RX7 75 yX7_fallsAll, Cond.instanceMethod yX7_fallsAll]
def wsX7_shoot_r2 : List Cond := [Cond.selects RX7 yX7_fallsAll yX7_fallsAll, Cond.code yX7_fallsAll cX7_fallsAll 5 (some .int), Cond.methodLink RX7 71 yX7_falls, Cond.instanceMethod yX7_falls, Cond.selects RX7 yX7_falls yX7_falls, Cond.code yX7_falls cX7_falls 5 (some .int), Cond.methodLink RX7 50 yX7_of, Cond.instanceMethod yX7_of, Cond.selects RX7 yX7_of yX7_of, Cond.code yX7_of cX7_of 3 (some .int), Cond.methodLink RX7 53 yX7_lays, Cond.instanceMethod yX7_lays, Cond.selects RX7 yX7_lays yX7_lays, Cond.code yX7_lays cX7_lays 4 none, Cond.methodLink RX7 60 yX7_sends, Cond.instanceMethod yX7_sends, Cond.selects RX7 yX7_sends yX7_sends, Cond.code yX7_sends cX7_sends 3 (some .int), Cond.methodLink RX7 64 yX7_bends, Cond.instanceMethod yX7_bends, Cond.selects RX7 yX7_bends yX7_bends, Cond.code yX7_bends cX7_bends 4 none, Cond.methodLink RX7 68 yX7_moved, Cond.static yX7_moved]
def wsX7_shoot_r3 : List Cond := [Cond.code yX7_moved cX7_moved 2 (some .int), Cond.methodLink RX7 79 yX7_adds, Cond.instanceMethod yX7_adds, Cond.selects RX7 yX7_adds yX7_adds, Cond.code yX7_adds cX7_adds 4 none, Cond.methodLink RX7 82 yX7_isFull, Cond.instanceMethod yX7_isFull, Cond.selects RX7 yX7_isFull yX7_isFull, Cond.code yX7_isFull cX7_isFull 2 (some .boolean), Cond.methodLink RX7 46 yX7_inPocket, Cond.instanceMethod yX7_inPocket, Cond.selects RX7 yX7_inPocket yX7_inPocket, Cond.code yX7_inPocket cX7_inPocket 3 (some .int)]
def wsX7_shoot : List Cond := .code yX7_shoot cX7_shoot 3 (some .int) :: ((wsX7_shoot_r1 ++ (wsX7_shoot_r2 ++ wsX7_shoot_r3)) ++ wsX70)
def wsX7_bend_r1 : List Cond := [Cond.fieldLink RX7 7 "BentPinsModel" "s" "[I", Cond.methodLink RX7 95 yX7_isPin, Cond.static yX7_isPin, Cond.initialized RX7, Cond.code yX7_isPin cX7_isPin 1 (some .boolean), Cond.methodLink RX7 42 yX7_in, Cond.static yX7_in, Cond.code yX7_in cX7_in 3 (some .boolean), Cond.methodLink RX7 89 yX7_records, Cond.instanceMethod yX7_records, Cond.selects RX7 yX7_records yX7_records, Cond.code yX7_records cX7_records 2 none, Cond.fieldLink RX7 34 "BentPinsModel" "known" "I", Cond.fieldLink RX7 16 "BentPinsModel" "past" "[I", Cond.methodLink RX7 38 yX7_copies, Cond.static yX7_copies, Cond.code yX7_copies cX7_copies 5 none, Cond.methodLink RX7 50 yX7_of, Cond.instanceMethod yX7_of, Cond.selects RX7 yX7_of yX7_of, Cond.code yX7_of cX7_of 3 (some .int), Cond.methodLink RX7 53 yX7_lays, Cond.instanceMethod yX7_lays, Cond.selects RX7 yX7_lays yX7_lays]
def wsX7_bend_r2 : List Cond := [Cond.code yX7_lays cX7_lays 4 none]
def wsX7_bend : List Cond := .code yX7_bend cX7_bend 5 (some .int) :: ((wsX7_bend_r1 ++ wsX7_bend_r2) ++ wsX70)
def wsX7_outOnes : List Cond := .code yX7_outOnes cX7_outOnes 3 (some .int) :: ([.methodLink RX7 50 yX7_of, .instanceMethod yX7_of, .selects RX7 yX7_of yX7_of, .initialized RX7, .code yX7_of cX7_of 3 (some .int), .fieldLink RX7 7 "BentPinsModel" "s" "[I"] ++ wsX70)
def wsX7_pull_r1 : List Cond := [Cond.methodLink RX7 95 yX7_isPin, Cond.static yX7_isPin, Cond.initialized RX7, Cond.code yX7_isPin cX7_isPin 1 (some .boolean), Cond.methodLink RX7 42 yX7_in, Cond.static yX7_in, Cond.code yX7_in cX7_in 3 (some .boolean), Cond.methodLink RX7 89 yX7_records, Cond.instanceMethod yX7_records, Cond.selects RX7 yX7_records yX7_records, Cond.code yX7_records cX7_records 2 none, Cond.fieldLink RX7 34 "BentPinsModel" "known" "I", Cond.fieldLink RX7 16 "BentPinsModel" "past" "[I", Cond.fieldLink RX7 7 "BentPinsModel" "s" "[I", Cond.methodLink RX7 38 yX7_copies, Cond.static yX7_copies, Cond.code yX7_copies cX7_copies 5 none, Cond.methodLink RX7 50 yX7_of, Cond.instanceMethod yX7_of, Cond.selects RX7 yX7_of yX7_of, Cond.code yX7_of cX7_of 3 (some .int), Cond.methodLink RX7 53 yX7_lays, Cond.instanceMethod yX7_lays, Cond.selects RX7 yX7_lays yX7_lays]
def wsX7_pull_r2 : List Cond := [Cond.code yX7_lays cX7_lays 4 none, Cond.methodLink RX7 98 yX7_outOnes, Cond.instanceMethod yX7_outOnes, Cond.selects RX7 yX7_outOnes yX7_outOnes, Cond.code yX7_outOnes cX7_outOnes 3 (some .int)]
def wsX7_pull : List Cond := .code yX7_pull cX7_pull 2 (some .int) :: ((wsX7_pull_r1 ++ wsX7_pull_r2) ++ wsX70)
def wsX7_allBells : List Cond := .code yX7_allBells cX7_allBells 3 (some .int) :: ([.methodLink RX7 50 yX7_of, .instanceMethod yX7_of, .selects RX7 yX7_of yX7_of, .initialized RX7, .code yX7_of cX7_of 3 (some .int), .fieldLink RX7 7 "BentPinsModel" "s" "[I"] ++ wsX70)
def wsX7_bell_r1 : List Cond := [Cond.methodLink RX7 95 yX7_isPin, Cond.static yX7_isPin, Cond.initialized RX7, Cond.code yX7_isPin cX7_isPin 1 (some .boolean), Cond.methodLink RX7 42 yX7_in, Cond.static yX7_in, Cond.code yX7_in cX7_in 3 (some .boolean), Cond.methodLink RX7 89 yX7_records, Cond.instanceMethod yX7_records, Cond.selects RX7 yX7_records yX7_records, Cond.code yX7_records cX7_records 2 none, Cond.fieldLink RX7 34 "BentPinsModel" "known" "I", Cond.fieldLink RX7 16 "BentPinsModel" "past" "[I", Cond.fieldLink RX7 7 "BentPinsModel" "s" "[I", Cond.methodLink RX7 38 yX7_copies, Cond.static yX7_copies, Cond.code yX7_copies cX7_copies 5 none, Cond.methodLink RX7 50 yX7_of, Cond.instanceMethod yX7_of, Cond.selects RX7 yX7_of yX7_of, Cond.code yX7_of cX7_of 3 (some .int), Cond.methodLink RX7 53 yX7_lays, Cond.instanceMethod yX7_lays, Cond.selects RX7 yX7_lays yX7_lays]
def wsX7_bell_r2 : List Cond := [Cond.code yX7_lays cX7_lays 4 none, Cond.methodLink RX7 102 yX7_allBells, Cond.instanceMethod yX7_allBells, Cond.selects RX7 yX7_allBells yX7_allBells, Cond.code yX7_allBells cX7_allBells 3 (some .int)]
def wsX7_bell : List Cond := .code yX7_bell cX7_bell 2 (some .int) :: ((wsX7_bell_r1 ++ wsX7_bell_r2) ++ wsX70)
def wsX7_worth_r1 : List Cond := [Cond.methodLink RX7 86 yX7_isPlace, Cond.static yX7_isPlace, Cond.initialized RX7, Cond.code yX7_isPlace cX7_isPlace 1 (some .boolean), Cond.methodLink RX7 42 yX7_in, Cond.static yX7_in, Cond.code yX7_in cX7_in 3 (some .boolean), Cond.methodLink RX7 89 yX7_records, Cond.instanceMethod yX7_records, Cond.selects RX7 yX7_records yX7_records, Cond.code yX7_records cX7_records 2 none, Cond.fieldLink RX7 34 "BentPinsModel" "known" "I", Cond.fieldLink RX7 16 "BentPinsModel" "past" "[I", Cond.fieldLink RX7 7 "BentPinsModel" "s" "[I", Cond.methodLink RX7 38 yX7_copies, Cond.static yX7_copies, Cond.code yX7_copies cX7_copies 5 none, Cond.methodLink RX7 46 yX7_inPocket, Cond.instanceMethod yX7_inPocket, Cond.selects RX7 yX7_inPocket yX7_inPocket, Cond.code yX7_inPocket cX7_inPocket 3 (some .int), Cond.methodLink RX7 79 yX7_adds, Cond.instanceMethod yX7_adds, Cond.selects RX7 yX7_adds yX7_adds]
def wsX7_worth_r2 : List Cond := [Cond.code yX7_adds cX7_adds 4 none]
def wsX7_worth : List Cond := .code yX7_worth cX7_worth 4 (some .int) :: ((wsX7_worth_r1 ++ wsX7_worth_r2) ++ wsX70)
def wsX7_set : List Cond := .code yX7_set cX7_set 4 (some .int) :: ([.fieldLink RX7 7 "BentPinsModel" "s" "[I", .methodLink RX7 42 yX7_in, .static yX7_in, .initialized RX7, .code yX7_in cX7_in 3 (some .boolean), .methodLink RX7 89 yX7_records, .instanceMethod yX7_records, .selects RX7 yX7_records yX7_records, .code yX7_records cX7_records 2 none, .fieldLink RX7 34 "BentPinsModel" "known" "I", .fieldLink RX7 16 "BentPinsModel" "past" "[I", .methodLink RX7 38 yX7_copies, .static yX7_copies, .code yX7_copies cX7_copies 5 none] ++ wsX70)
def wsX7_empty : List Cond := .code yX7_empty cX7_empty 1 (some .int) :: ([.methodLink RX7 89 yX7_records, .instanceMethod yX7_records, .selects RX7 yX7_records yX7_records, .initialized RX7, .code yX7_records cX7_records 2 none, .fieldLink RX7 34 "BentPinsModel" "known" "I", .fieldLink RX7 16 "BentPinsModel" "past" "[I", .fieldLink RX7 7 "BentPinsModel" "s" "[I", .methodLink RX7 38 yX7_copies, .static yX7_copies, .code yX7_copies cX7_copies 5 none, .methodLink RX7 105 yX7_goEmpty, .instanceMethod yX7_goEmpty, .selects RX7 yX7_goEmpty yX7_goEmpty, .code yX7_goEmpty cX7_goEmpty 2 (some .int), .methodLink RX7 46 yX7_inPocket, .instanceMethod yX7_inPocket, .selects RX7 yX7_inPocket yX7_inPocket, .code yX7_inPocket cX7_inPocket 3 (some .int), .methodLink RX7 79 yX7_adds, .instanceMethod yX7_adds, .selects RX7 yX7_adds yX7_adds, .code yX7_adds cX7_adds 4 none] ++ wsX70)
def wsX7_append : List Cond := .code yX7_append cX7_append 2 (some .int) :: ([.fieldLink RX7 108 "BentPinsModel" "length" "I", .fieldLink RX7 22 "BentPinsModel" "pad" "[I", .methodLink RX7 42 yX7_in, .static yX7_in, .initialized RX7, .code yX7_in cX7_in 3 (some .boolean)] ++ wsX70)
def wsX7_clear : List Cond := .code yX7_clear cX7_clear 2 (some .int) :: ([.fieldLink RX7 108 "BentPinsModel" "length" "I"] ++ wsX70)
def wsX7_here : List Cond := .code yX7_here cX7_here 1 (some .int) :: ([.fieldLink RX7 111 "BentPinsModel" "spot" "I", .fieldLink RX7 108 "BentPinsModel" "length" "I", .fieldLink RX7 22 "BentPinsModel" "pad" "[I"] ++ wsX70)
def wsX7_takes : List Cond := .code yX7_takes cX7_takes 2 none :: ([.fieldLink RX7 114 "BentPinsModel" "isForm" "Z", .fieldLink RX7 111 "BentPinsModel" "spot" "I"] ++ wsX70)
def wsX7_isSign : List Cond := .code yX7_isSign cX7_isSign 1 (some .boolean) :: ([])
def wsX7_isBoard : List Cond := .code yX7_isBoard cX7_isBoard 1 (some .boolean) :: ([.fieldLink RX7 111 "BentPinsModel" "spot" "I", .fieldLink RX7 108 "BentPinsModel" "length" "I", .methodLink RX7 118 yX7_here, .instanceMethod yX7_here, .selects RX7 yX7_here yX7_here, .initialized RX7, .code yX7_here cX7_here 1 (some .int), .fieldLink RX7 22 "BentPinsModel" "pad" "[I", .methodLink RX7 121 yX7_isSign, .static yX7_isSign, .code yX7_isSign cX7_isSign 1 (some .boolean)] ++ wsX70)
def wsX7_takesShot : List Cond := .code yX7_takesShot cX7_takesShot 1 none :: ([.fieldLink RX7 124 "BentPinsModel" "isHard" "Z", .fieldLink RX7 127 "BentPinsModel" "ofPlace" "I", .fieldLink RX7 111 "BentPinsModel" "spot" "I", .fieldLink RX7 114 "BentPinsModel" "isForm" "Z", .methodLink RX7 118 yX7_here, .instanceMethod yX7_here, .selects RX7 yX7_here yX7_here, .initialized RX7, .code yX7_here cX7_here 1 (some .int), .fieldLink RX7 108 "BentPinsModel" "length" "I", .fieldLink RX7 22 "BentPinsModel" "pad" "[I", .methodLink RX7 86 yX7_isPlace, .static yX7_isPlace, .code yX7_isPlace cX7_isPlace 1 (some .boolean), .methodLink RX7 42 yX7_in, .static yX7_in, .code yX7_in cX7_in 3 (some .boolean), .methodLink RX7 130 yX7_takes, .instanceMethod yX7_takes, .selects RX7 yX7_takes yX7_takes, .code yX7_takes cX7_takes 2 none] ++ wsX70)
def wsX7_areShots_r1 : List Cond := [Cond.fieldLink RX7 111 "BentPinsModel" "spot" "I", Cond.fieldLink RX7 114 "BentPinsModel" "isForm" "Z", Cond.fieldLink RX7 108 "BentPinsModel" "length" "I", Cond.methodLink RX7 134 yX7_takesShot, Cond.instanceMethod yX7_takesShot, Cond.selects RX7 yX7_takesShot yX7_takesShot, Cond.initialized RX7, Cond.code yX7_takesShot cX7_takesShot 1 none, Cond.fieldLink RX7 124 "BentPinsModel" "isHard" "Z", Cond.fieldLink RX7 127 "BentPinsModel" "ofPlace" "I", Cond.methodLink RX7 118 yX7_here, Cond.instanceMethod yX7_here, Cond.selects RX7 yX7_here yX7_here, Cond.code yX7_here cX7_here 1 (some .int), Cond.fieldLink RX7 22 "BentPinsModel" "pad" "[I", Cond.methodLink RX7 86 yX7_isPlace, Cond.static yX7_isPlace, Cond.code yX7_isPlace cX7_isPlace 1 (some .boolean), Cond.methodLink RX7 42 yX7_in, Cond.static yX7_in, Cond.code yX7_in cX7_in 3 (some .boolean), Cond.methodLink RX7 130 yX7_takes, Cond.instanceMethod yX7_takes, Cond.selects RX7 yX7_takes yX7_takes]
def wsX7_areShots_r2 : List Cond := [Cond.code yX7_takes cX7_takes 2 none]
def wsX7_areShots : List Cond := .code yX7_areShots cX7_areShots 1 (some .boolean) :: ((wsX7_areShots_r1 ++ wsX7_areShots_r2) ++ wsX70)
def wsX7_fault_r1 : List Cond := [Cond.fieldLink RX7 111 "BentPinsModel" "spot" "I", Cond.methodLink RX7 42 yX7_in, Cond.static yX7_in, Cond.initialized RX7, Cond.code yX7_in cX7_in 3 (some .boolean), Cond.methodLink RX7 137 yX7_isBoard, Cond.instanceMethod yX7_isBoard, Cond.selects RX7 yX7_isBoard yX7_isBoard, Cond.code yX7_isBoard cX7_isBoard 1 (some .boolean), Cond.fieldLink RX7 108 "BentPinsModel" "length" "I", Cond.methodLink RX7 118 yX7_here, Cond.instanceMethod yX7_here, Cond.selects RX7 yX7_here yX7_here, Cond.code yX7_here cX7_here 1 (some .int), Cond.fieldLink RX7 22 "BentPinsModel" "pad" "[I", Cond.methodLink RX7 121 yX7_isSign, Cond.static yX7_isSign, Cond.code yX7_isSign cX7_isSign 1 (some .boolean), Cond.methodLink RX7 141 yX7_areShots, Cond.instanceMethod yX7_areShots, Cond.selects RX7 yX7_areShots yX7_areShots, Cond.code yX7_areShots cX7_areShots 1 (some .boolean), Cond.fieldLink RX7 114 "BentPinsModel" "isForm" "Z", Cond.methodLink RX7 134 yX7_takesShot]
def wsX7_fault_r2 : List Cond := [Cond.instanceMethod yX7_takesShot, Cond.selects RX7 yX7_takesShot yX7_takesShot, Cond.code yX7_takesShot cX7_takesShot 1 none, Cond.fieldLink RX7 124 "BentPinsModel" "isHard" "Z", Cond.fieldLink RX7 127 "BentPinsModel" "ofPlace" "I", Cond.methodLink RX7 86 yX7_isPlace, Cond.static yX7_isPlace, Cond.code yX7_isPlace cX7_isPlace 1 (some .boolean), Cond.methodLink RX7 130 yX7_takes, Cond.instanceMethod yX7_takes, Cond.selects RX7 yX7_takes yX7_takes, Cond.code yX7_takes cX7_takes 2 none]
def wsX7_fault : List Cond := .code yX7_fault cX7_fault 2 (some .int) :: ((wsX7_fault_r1 ++ wsX7_fault_r2) ++ wsX70)
def wsX7_board_r1 : List Cond := [Cond.fieldLink RX7 22 "BentPinsModel" "pad" "[I", Cond.fieldLink RX7 108 "BentPinsModel" "length" "I", Cond.methodLink RX7 137 yX7_isBoard, Cond.instanceMethod yX7_isBoard, Cond.selects RX7 yX7_isBoard yX7_isBoard, Cond.initialized RX7, Cond.code yX7_isBoard cX7_isBoard 1 (some .boolean), Cond.fieldLink RX7 111 "BentPinsModel" "spot" "I", Cond.methodLink RX7 118 yX7_here, Cond.instanceMethod yX7_here, Cond.selects RX7 yX7_here yX7_here, Cond.code yX7_here cX7_here 1 (some .int), Cond.methodLink RX7 121 yX7_isSign, Cond.static yX7_isSign, Cond.code yX7_isSign cX7_isSign 1 (some .boolean), Cond.methodLink RX7 89 yX7_records, Cond.instanceMethod yX7_records, Cond.selects RX7 yX7_records yX7_records, Cond.code yX7_records cX7_records 2 none, Cond.fieldLink RX7 34 "BentPinsModel" "known" "I", Cond.fieldLink RX7 16 "BentPinsModel" "past" "[I", Cond.fieldLink RX7 7 "BentPinsModel" "s" "[I", Cond.methodLink RX7 38 yX7_copies, Cond.static yX7_copies]
def wsX7_board_r2 : List Cond := [Cond.code yX7_copies cX7_copies 5 none, Cond.methodLink RX7 53 yX7_lays, Cond.instanceMethod yX7_lays, Cond.selects RX7 yX7_lays yX7_lays, Cond.code yX7_lays cX7_lays 4 none, Cond.methodLink RX7 98 yX7_outOnes, Cond.instanceMethod yX7_outOnes, Cond.selects RX7 yX7_outOnes yX7_outOnes, Cond.code yX7_outOnes cX7_outOnes 3 (some .int), Cond.methodLink RX7 50 yX7_of, Cond.instanceMethod yX7_of, Cond.selects RX7 yX7_of yX7_of, Cond.code yX7_of cX7_of 3 (some .int)]
def wsX7_board : List Cond := .code yX7_board cX7_board 3 (some .int) :: ((wsX7_board_r1 ++ wsX7_board_r2) ++ wsX70)
def wsX7_shots_r1 : List Cond := [Cond.fieldLink RX7 7 "BentPinsModel" "s" "[I", Cond.fieldLink RX7 111 "BentPinsModel" "spot" "I", Cond.fieldLink RX7 144 "BentPinsModel" "isStopped" "Z", Cond.fieldLink RX7 108 "BentPinsModel" "length" "I", Cond.fieldLink RX7 127 "BentPinsModel" "ofPlace" "I", Cond.fieldLink RX7 124 "BentPinsModel" "isHard" "Z", Cond.fieldLink RX7 25 "BentPinsModel" "stop" "[I", Cond.methodLink RX7 141 yX7_areShots, Cond.instanceMethod yX7_areShots, Cond.selects RX7 yX7_areShots yX7_areShots, Cond.initialized RX7, Cond.code yX7_areShots cX7_areShots 1 (some .boolean), Cond.fieldLink RX7 114 "BentPinsModel" "isForm" "Z", Cond.methodLink RX7 134 yX7_takesShot, Cond.instanceMethod yX7_takesShot, Cond.selects RX7 yX7_takesShot yX7_takesShot, Cond.code yX7_takesShot cX7_takesShot 1 none, Cond.methodLink RX7 118 yX7_here, Cond.instanceMethod yX7_here, Cond.selects RX7 yX7_here yX7_here, Cond.code yX7_here cX7_here 1 (some .int), Cond.fieldLink RX7 22 "BentPinsModel" "pad" "[I", Cond.methodLink RX7 86 yX7_isPlace, Cond.static yX7_isPlace]
def wsX7_shots_r2 : List Cond := [Cond.code yX7_isPlace cX7_isPlace 1 (some .boolean), Cond.methodLink RX7 42 yX7_in, Cond.static yX7_in, Cond.code yX7_in cX7_in 3 (some .boolean), Cond.methodLink RX7 130 yX7_takes, Cond.instanceMethod yX7_takes, Cond.selects RX7 yX7_takes yX7_takes, Cond.code yX7_takes cX7_takes 2 none, Cond.methodLink RX7 89 yX7_records, Cond.instanceMethod yX7_records, Cond.selects RX7 yX7_records yX7_records, Cond.code yX7_records cX7_records 2 none, Cond.fieldLink RX7 34 "BentPinsModel" "known" "I", Cond.fieldLink RX7 16 "BentPinsModel" "past" "[I", Cond.methodLink RX7 38 yX7_copies, Cond.static yX7_copies, Cond.code yX7_copies cX7_copies 5 none, Cond.methodLink RX7 105 yX7_goEmpty, Cond.instanceMethod yX7_goEmpty, Cond.selects RX7 yX7_goEmpty yX7_goEmpty, Cond.code yX7_goEmpty cX7_goEmpty 2 (some .int), Cond.methodLink RX7 46 yX7_inPocket, Cond.instanceMethod yX7_inPocket, Cond.selects RX7 yX7_inPocket yX7_inPocket]
def wsX7_shots_r3 : List Cond := [Cond.code yX7_inPocket cX7_inPocket 3 (some .int), Cond.methodLink RX7 79 yX7_adds, Cond.instanceMethod yX7_adds, Cond.selects RX7 yX7_adds yX7_adds, Cond.code yX7_adds cX7_adds 4 none, Cond.methodLink RX7 92 yX7_goShoot, Cond.instanceMethod yX7_goShoot, Cond.selects RX7 yX7_goShoot yX7_goShoot, Cond.code yX7_goShoot cX7_goShoot 5 (some .int), Cond.fieldLink RX7 57 "BentPinsModel" "bells" "I", Cond.methodLink RX7 75 yX7_fallsAll, Cond.instanceMethod yX7_fallsAll, Cond.selects RX7 yX7_fallsAll yX7_fallsAll, Cond.code yX7_fallsAll cX7_fallsAll 5 (some .int), Cond.methodLink RX7 71 yX7_falls, Cond.instanceMethod yX7_falls, Cond.selects RX7 yX7_falls yX7_falls, Cond.code yX7_falls cX7_falls 5 (some .int), Cond.methodLink RX7 50 yX7_of, Cond.instanceMethod yX7_of, Cond.selects RX7 yX7_of yX7_of, Cond.code yX7_of cX7_of 3 (some .int), Cond.methodLink RX7 53 yX7_lays, Cond.instanceMethod yX7_lays]
def wsX7_shots_r4 : List Cond := [Cond.selects RX7 yX7_lays yX7_lays, Cond.code yX7_lays cX7_lays 4 none, Cond.methodLink RX7 60 yX7_sends, Cond.instanceMethod yX7_sends, Cond.selects RX7 yX7_sends yX7_sends, Cond.code yX7_sends cX7_sends 3 (some .int), Cond.methodLink RX7 64 yX7_bends, Cond.instanceMethod yX7_bends, Cond.selects RX7 yX7_bends yX7_bends, Cond.code yX7_bends cX7_bends 4 none, Cond.methodLink RX7 68 yX7_moved, Cond.static yX7_moved, Cond.code yX7_moved cX7_moved 2 (some .int), Cond.methodLink RX7 82 yX7_isFull, Cond.instanceMethod yX7_isFull, Cond.selects RX7 yX7_isFull yX7_isFull, Cond.code yX7_isFull cX7_isFull 2 (some .boolean)]
def wsX7_shots : List Cond := .code yX7_shots cX7_shots 5 (some .int) :: ((wsX7_shots_r1 ++ (wsX7_shots_r2 ++ (wsX7_shots_r3 ++ wsX7_shots_r4))) ++ wsX70)
def wsX7_why : List Cond := .code yX7_why cX7_why 2 (some .int) :: ([.fieldLink RX7 144 "BentPinsModel" "isStopped" "Z", .fieldLink RX7 25 "BentPinsModel" "stop" "[I", .methodLink RX7 42 yX7_in, .static yX7_in, .initialized RX7, .code yX7_in cX7_in 3 (some .boolean)] ++ wsX70)
def wsX7_sign : List Cond := .code yX7_sign cX7_sign 3 (some .int) :: ([.methodLink RX7 95 yX7_isPin, .static yX7_isPin, .initialized RX7, .code yX7_isPin cX7_isPin 1 (some .boolean), .methodLink RX7 42 yX7_in, .static yX7_in, .code yX7_in cX7_in 3 (some .boolean), .methodLink RX7 50 yX7_of, .instanceMethod yX7_of, .selects RX7 yX7_of yX7_of, .code yX7_of cX7_of 3 (some .int), .fieldLink RX7 7 "BentPinsModel" "s" "[I"] ++ wsX70)
def wsX7_nextOf : List Cond := .code yX7_nextOf cX7_nextOf 4 (some .int) :: ([.methodLink RX7 50 yX7_of, .instanceMethod yX7_of, .selects RX7 yX7_of yX7_of, .initialized RX7, .code yX7_of cX7_of 3 (some .int), .fieldLink RX7 7 "BentPinsModel" "s" "[I", .methodLink RX7 60 yX7_sends, .instanceMethod yX7_sends, .selects RX7 yX7_sends yX7_sends, .code yX7_sends cX7_sends 3 (some .int), .methodLink RX7 68 yX7_moved, .static yX7_moved, .code yX7_moved cX7_moved 2 (some .int), .methodLink RX7 42 yX7_in, .static yX7_in, .code yX7_in cX7_in 3 (some .boolean)] ++ wsX70)
def wsX7_comesTo : List Cond := .code yX7_comesTo cX7_comesTo 7 (some .int) :: ([.methodLink RX7 147 yX7_nextOf, .instanceMethod yX7_nextOf, .selects RX7 yX7_nextOf yX7_nextOf, .initialized RX7, .code yX7_nextOf cX7_nextOf 4 (some .int), .methodLink RX7 50 yX7_of, .instanceMethod yX7_of, .selects RX7 yX7_of yX7_of, .code yX7_of cX7_of 3 (some .int), .fieldLink RX7 7 "BentPinsModel" "s" "[I", .methodLink RX7 60 yX7_sends, .instanceMethod yX7_sends, .selects RX7 yX7_sends yX7_sends, .code yX7_sends cX7_sends 3 (some .int), .methodLink RX7 68 yX7_moved, .static yX7_moved, .code yX7_moved cX7_moved 2 (some .int), .methodLink RX7 42 yX7_in, .static yX7_in, .code yX7_in cX7_in 3 (some .boolean)] ++ wsX70)
def wsX7_reached : List Cond := .code yX7_reached cX7_reached 1 (some .int) :: ([.methodLink RX7 150 yX7_comesTo, .instanceMethod yX7_comesTo, .selects RX7 yX7_comesTo yX7_comesTo, .initialized RX7, .code yX7_comesTo cX7_comesTo 7 (some .int), .methodLink RX7 147 yX7_nextOf, .instanceMethod yX7_nextOf, .selects RX7 yX7_nextOf yX7_nextOf, .code yX7_nextOf cX7_nextOf 4 (some .int), .methodLink RX7 50 yX7_of, .instanceMethod yX7_of, .selects RX7 yX7_of yX7_of, .code yX7_of cX7_of 3 (some .int), .fieldLink RX7 7 "BentPinsModel" "s" "[I", .methodLink RX7 60 yX7_sends, .instanceMethod yX7_sends, .selects RX7 yX7_sends yX7_sends, .code yX7_sends cX7_sends 3 (some .int), .methodLink RX7 68 yX7_moved, .static yX7_moved, .code yX7_moved cX7_moved 2 (some .int), .methodLink RX7 42 yX7_in, .static yX7_in, .code yX7_in cX7_in 3 (some .boolean)] ++ wsX70)
def wsX7_pin_r1 : List Cond := [Cond.methodLink RX7 95 yX7_isPin, Cond.static yX7_isPin, Cond.initialized RX7, Cond.code yX7_isPin cX7_isPin 1 (some .boolean), Cond.methodLink RX7 42 yX7_in, Cond.static yX7_in, Cond.code yX7_in cX7_in 3 (some .boolean), Cond.methodLink RX7 50 yX7_of, Cond.instanceMethod yX7_of, Cond.selects RX7 yX7_of yX7_of, Cond.code yX7_of cX7_of 3 (some .int), Cond.fieldLink RX7 7 "BentPinsModel" "s" "[I", Cond.methodLink RX7 150 yX7_comesTo, Cond.instanceMethod yX7_comesTo, Cond.selects RX7 yX7_comesTo yX7_comesTo, Cond.code yX7_comesTo cX7_comesTo 7 (some .int), Cond.methodLink RX7 147 yX7_nextOf, Cond.instanceMethod yX7_nextOf, Cond.selects RX7 yX7_nextOf yX7_nextOf, Cond.code yX7_nextOf cX7_nextOf 4 (some .int), Cond.methodLink RX7 60 yX7_sends, Cond.instanceMethod yX7_sends, Cond.selects RX7 yX7_sends yX7_sends, Cond.code yX7_sends cX7_sends 3 (some .int)]
def wsX7_pin_r2 : List Cond := [Cond.methodLink RX7 68 yX7_moved, Cond.static yX7_moved, Cond.code yX7_moved cX7_moved 2 (some .int)]
def wsX7_pin : List Cond := .code yX7_pin cX7_pin 4 (some .int) :: ((wsX7_pin_r1 ++ wsX7_pin_r2) ++ wsX70)
def wsX7_startsOf : List Cond := .code yX7_startsOf cX7_startsOf 4 (some .int) :: ([.methodLink RX7 150 yX7_comesTo, .instanceMethod yX7_comesTo, .selects RX7 yX7_comesTo yX7_comesTo, .initialized RX7, .code yX7_comesTo cX7_comesTo 7 (some .int), .methodLink RX7 147 yX7_nextOf, .instanceMethod yX7_nextOf, .selects RX7 yX7_nextOf yX7_nextOf, .code yX7_nextOf cX7_nextOf 4 (some .int), .methodLink RX7 50 yX7_of, .instanceMethod yX7_of, .selects RX7 yX7_of yX7_of, .code yX7_of cX7_of 3 (some .int), .fieldLink RX7 7 "BentPinsModel" "s" "[I", .methodLink RX7 60 yX7_sends, .instanceMethod yX7_sends, .selects RX7 yX7_sends yX7_sends, .code yX7_sends cX7_sends 3 (some .int), .methodLink RX7 68 yX7_moved, .static yX7_moved, .code yX7_moved cX7_moved 2 (some .int), .methodLink RX7 42 yX7_in, .static yX7_in, .code yX7_in cX7_in 3 (some .boolean)] ++ wsX70)
def wsX7_pocket_r1 : List Cond := [Cond.methodLink RX7 86 yX7_isPlace, Cond.static yX7_isPlace, Cond.initialized RX7, Cond.code yX7_isPlace cX7_isPlace 1 (some .boolean), Cond.methodLink RX7 42 yX7_in, Cond.static yX7_in, Cond.code yX7_in cX7_in 3 (some .boolean), Cond.methodLink RX7 46 yX7_inPocket, Cond.instanceMethod yX7_inPocket, Cond.selects RX7 yX7_inPocket yX7_inPocket, Cond.code yX7_inPocket cX7_inPocket 3 (some .int), Cond.fieldLink RX7 7 "BentPinsModel" "s" "[I", Cond.methodLink RX7 82 yX7_isFull, Cond.instanceMethod yX7_isFull, Cond.selects RX7 yX7_isFull yX7_isFull, Cond.code yX7_isFull cX7_isFull 2 (some .boolean), Cond.methodLink RX7 153 yX7_startsOf, Cond.instanceMethod yX7_startsOf, Cond.selects RX7 yX7_startsOf yX7_startsOf, Cond.code yX7_startsOf cX7_startsOf 4 (some .int), Cond.methodLink RX7 150 yX7_comesTo, Cond.instanceMethod yX7_comesTo, Cond.selects RX7 yX7_comesTo yX7_comesTo, Cond.code yX7_comesTo cX7_comesTo 7 (some .int)]
def wsX7_pocket_r2 : List Cond := [Cond.methodLink RX7 147 yX7_nextOf, Cond.instanceMethod yX7_nextOf, Cond.selects RX7 yX7_nextOf yX7_nextOf, Cond.code yX7_nextOf cX7_nextOf 4 (some .int), Cond.methodLink RX7 50 yX7_of, Cond.instanceMethod yX7_of, Cond.selects RX7 yX7_of yX7_of, Cond.code yX7_of cX7_of 3 (some .int), Cond.methodLink RX7 60 yX7_sends, Cond.instanceMethod yX7_sends, Cond.selects RX7 yX7_sends yX7_sends, Cond.code yX7_sends cX7_sends 3 (some .int), Cond.methodLink RX7 68 yX7_moved, Cond.static yX7_moved, Cond.code yX7_moved cX7_moved 2 (some .int)]
def wsX7_pocket : List Cond := .code yX7_pocket cX7_pocket 3 (some .int) :: ((wsX7_pocket_r1 ++ wsX7_pocket_r2) ++ wsX70)
def wsX7_reach_r1 : List Cond := [Cond.methodLink RX7 42 yX7_in, Cond.static yX7_in, Cond.initialized RX7, Cond.code yX7_in cX7_in 3 (some .boolean), Cond.methodLink RX7 156 yX7_reached, Cond.instanceMethod yX7_reached, Cond.selects RX7 yX7_reached yX7_reached, Cond.code yX7_reached cX7_reached 1 (some .int), Cond.methodLink RX7 150 yX7_comesTo, Cond.instanceMethod yX7_comesTo, Cond.selects RX7 yX7_comesTo yX7_comesTo, Cond.code yX7_comesTo cX7_comesTo 7 (some .int), Cond.methodLink RX7 147 yX7_nextOf, Cond.instanceMethod yX7_nextOf, Cond.selects RX7 yX7_nextOf yX7_nextOf, Cond.code yX7_nextOf cX7_nextOf 4 (some .int), Cond.methodLink RX7 50 yX7_of, Cond.instanceMethod yX7_of, Cond.selects RX7 yX7_of yX7_of, Cond.code yX7_of cX7_of 3 (some .int), Cond.fieldLink RX7 7 "BentPinsModel" "s" "[I", Cond.methodLink RX7 60 yX7_sends, Cond.instanceMethod yX7_sends, Cond.selects RX7 yX7_sends yX7_sends]
def wsX7_reach_r2 : List Cond := [Cond.code yX7_sends cX7_sends 3 (some .int), Cond.methodLink RX7 68 yX7_moved, Cond.static yX7_moved, Cond.code yX7_moved cX7_moved 2 (some .int)]
def wsX7_reach : List Cond := .code yX7_reach cX7_reach 2 (some .int) :: ((wsX7_reach_r1 ++ wsX7_reach_r2) ++ wsX70)
def wsX7_spreads : List Cond := .code yX7_spreads cX7_spreads 6 none :: ([.fieldLink RX7 31 "BentPinsModel" "then" "[I", .fieldLink RX7 28 "BentPinsModel" "many" "[I", .methodLink RX7 50 yX7_of, .instanceMethod yX7_of, .selects RX7 yX7_of yX7_of, .initialized RX7, .code yX7_of cX7_of 3 (some .int), .fieldLink RX7 7 "BentPinsModel" "s" "[I", .methodLink RX7 60 yX7_sends, .instanceMethod yX7_sends, .selects RX7 yX7_sends yX7_sends, .code yX7_sends cX7_sends 3 (some .int), .methodLink RX7 68 yX7_moved, .static yX7_moved, .code yX7_moved cX7_moved 2 (some .int), .methodLink RX7 42 yX7_in, .static yX7_in, .code yX7_in cX7_in 3 (some .boolean)] ++ wsX70)
def wsX7_waysTo : List Cond := .code yX7_waysTo cX7_waysTo 3 (some .int) :: ([.fieldLink RX7 28 "BentPinsModel" "many" "[I", .methodLink RX7 159 yX7_spreads, .instanceMethod yX7_spreads, .selects RX7 yX7_spreads yX7_spreads, .initialized RX7, .code yX7_spreads cX7_spreads 6 none, .fieldLink RX7 31 "BentPinsModel" "then" "[I", .methodLink RX7 50 yX7_of, .instanceMethod yX7_of, .selects RX7 yX7_of yX7_of, .code yX7_of cX7_of 3 (some .int), .fieldLink RX7 7 "BentPinsModel" "s" "[I", .methodLink RX7 60 yX7_sends, .instanceMethod yX7_sends, .selects RX7 yX7_sends yX7_sends, .code yX7_sends cX7_sends 3 (some .int), .methodLink RX7 68 yX7_moved, .static yX7_moved, .code yX7_moved cX7_moved 2 (some .int), .methodLink RX7 42 yX7_in, .static yX7_in, .code yX7_in cX7_in 3 (some .boolean)] ++ wsX70)
def wsX7_ways_r1 : List Cond := [Cond.methodLink RX7 86 yX7_isPlace, Cond.static yX7_isPlace, Cond.initialized RX7, Cond.code yX7_isPlace cX7_isPlace 1 (some .boolean), Cond.methodLink RX7 42 yX7_in, Cond.static yX7_in, Cond.code yX7_in cX7_in 3 (some .boolean), Cond.methodLink RX7 163 yX7_waysTo, Cond.instanceMethod yX7_waysTo, Cond.selects RX7 yX7_waysTo yX7_waysTo, Cond.code yX7_waysTo cX7_waysTo 3 (some .int), Cond.fieldLink RX7 28 "BentPinsModel" "many" "[I", Cond.methodLink RX7 159 yX7_spreads, Cond.instanceMethod yX7_spreads, Cond.selects RX7 yX7_spreads yX7_spreads, Cond.code yX7_spreads cX7_spreads 6 none, Cond.fieldLink RX7 31 "BentPinsModel" "then" "[I", Cond.methodLink RX7 50 yX7_of, Cond.instanceMethod yX7_of, Cond.selects RX7 yX7_of yX7_of, Cond.code yX7_of cX7_of 3 (some .int), Cond.fieldLink RX7 7 "BentPinsModel" "s" "[I", Cond.methodLink RX7 60 yX7_sends, Cond.instanceMethod yX7_sends]
def wsX7_ways_r2 : List Cond := [Cond.selects RX7 yX7_sends yX7_sends, Cond.code yX7_sends cX7_sends 3 (some .int), Cond.methodLink RX7 68 yX7_moved, Cond.static yX7_moved, Cond.code yX7_moved cX7_moved 2 (some .int)]
def wsX7_ways : List Cond := .code yX7_ways cX7_ways 3 (some .int) :: ((wsX7_ways_r1 ++ wsX7_ways_r2) ++ wsX70)
def wsX7_straightOnes : List Cond := .code yX7_straightOnes cX7_straightOnes 3 (some .int) :: ([.methodLink RX7 50 yX7_of, .instanceMethod yX7_of, .selects RX7 yX7_of yX7_of, .initialized RX7, .code yX7_of cX7_of 3 (some .int), .fieldLink RX7 7 "BentPinsModel" "s" "[I"] ++ wsX70)
def wsX7_allBends : List Cond := .code yX7_allBends cX7_allBends 4 (some .int) :: ([.methodLink RX7 50 yX7_of, .instanceMethod yX7_of, .selects RX7 yX7_of yX7_of, .initialized RX7, .code yX7_of cX7_of 3 (some .int), .fieldLink RX7 7 "BentPinsModel" "s" "[I"] ++ wsX70)
def wsX7_inPockets : List Cond := .code yX7_inPockets cX7_inPockets 3 (some .int) :: ([.methodLink RX7 46 yX7_inPocket, .instanceMethod yX7_inPocket, .selects RX7 yX7_inPocket yX7_inPocket, .initialized RX7, .code yX7_inPocket cX7_inPocket 3 (some .int), .fieldLink RX7 7 "BentPinsModel" "s" "[I"] ++ wsX70)
def wsX7_fullOnes : List Cond := .code yX7_fullOnes cX7_fullOnes 3 (some .int) :: ([.methodLink RX7 82 yX7_isFull, .instanceMethod yX7_isFull, .selects RX7 yX7_isFull yX7_isFull, .initialized RX7, .code yX7_isFull cX7_isFull 2 (some .boolean), .fieldLink RX7 7 "BentPinsModel" "s" "[I", .methodLink RX7 46 yX7_inPocket, .instanceMethod yX7_inPocket, .selects RX7 yX7_inPocket yX7_inPocket, .code yX7_inPocket cX7_inPocket 3 (some .int)] ++ wsX70)
def wsX7_count_r1 : List Cond := [Cond.fieldLink RX7 7 "BentPinsModel" "s" "[I", Cond.fieldLink RX7 108 "BentPinsModel" "length" "I", Cond.fieldLink RX7 34 "BentPinsModel" "known" "I", Cond.methodLink RX7 166 yX7_inPockets, Cond.instanceMethod yX7_inPockets, Cond.selects RX7 yX7_inPockets yX7_inPockets, Cond.initialized RX7, Cond.code yX7_inPockets cX7_inPockets 3 (some .int), Cond.methodLink RX7 46 yX7_inPocket, Cond.instanceMethod yX7_inPocket, Cond.selects RX7 yX7_inPocket yX7_inPocket, Cond.code yX7_inPocket cX7_inPocket 3 (some .int), Cond.methodLink RX7 98 yX7_outOnes, Cond.instanceMethod yX7_outOnes, Cond.selects RX7 yX7_outOnes yX7_outOnes, Cond.code yX7_outOnes cX7_outOnes 3 (some .int), Cond.methodLink RX7 50 yX7_of, Cond.instanceMethod yX7_of, Cond.selects RX7 yX7_of yX7_of, Cond.code yX7_of cX7_of 3 (some .int), Cond.methodLink RX7 169 yX7_straightOnes, Cond.instanceMethod yX7_straightOnes, Cond.selects RX7 yX7_straightOnes yX7_straightOnes, Cond.code yX7_straightOnes cX7_straightOnes 3 (some .int)]
def wsX7_count_r2 : List Cond := [Cond.methodLink RX7 172 yX7_allBends, Cond.instanceMethod yX7_allBends, Cond.selects RX7 yX7_allBends yX7_allBends, Cond.code yX7_allBends cX7_allBends 4 (some .int), Cond.methodLink RX7 102 yX7_allBells, Cond.instanceMethod yX7_allBells, Cond.selects RX7 yX7_allBells yX7_allBells, Cond.code yX7_allBells cX7_allBells 3 (some .int), Cond.methodLink RX7 175 yX7_fullOnes, Cond.instanceMethod yX7_fullOnes, Cond.selects RX7 yX7_fullOnes yX7_fullOnes, Cond.code yX7_fullOnes cX7_fullOnes 3 (some .int), Cond.methodLink RX7 82 yX7_isFull, Cond.instanceMethod yX7_isFull, Cond.selects RX7 yX7_isFull yX7_isFull, Cond.code yX7_isFull cX7_isFull 2 (some .boolean), Cond.methodLink RX7 156 yX7_reached, Cond.instanceMethod yX7_reached, Cond.selects RX7 yX7_reached yX7_reached, Cond.code yX7_reached cX7_reached 1 (some .int), Cond.methodLink RX7 150 yX7_comesTo, Cond.instanceMethod yX7_comesTo, Cond.selects RX7 yX7_comesTo yX7_comesTo, Cond.code yX7_comesTo cX7_comesTo 7 (some .int)]
def wsX7_count_r3 : List Cond := [Cond.methodLink RX7 147 yX7_nextOf, Cond.instanceMethod yX7_nextOf, Cond.selects RX7 yX7_nextOf yX7_nextOf, Cond.code yX7_nextOf cX7_nextOf 4 (some .int), Cond.methodLink RX7 60 yX7_sends, Cond.instanceMethod yX7_sends, Cond.selects RX7 yX7_sends yX7_sends, Cond.code yX7_sends cX7_sends 3 (some .int), Cond.methodLink RX7 68 yX7_moved, Cond.static yX7_moved, Cond.code yX7_moved cX7_moved 2 (some .int), Cond.methodLink RX7 42 yX7_in, Cond.static yX7_in, Cond.code yX7_in cX7_in 3 (some .boolean), Cond.methodLink RX7 178 yX7_ones, Cond.static yX7_ones, Cond.code yX7_ones cX7_ones 3 (some .int)]
def wsX7_count : List Cond := .code yX7_count cX7_count 2 (some .int) :: ((wsX7_count_r1 ++ (wsX7_count_r2 ++ wsX7_count_r3)) ++ wsX70)
def wsX7_mean : List Cond := .code yX7_mean cX7_mean 1 (some .double) :: ([.fieldLink RX7 7 "BentPinsModel" "s" "[I"] ++ wsX70)
def wsX7_ends_r1 : List Cond := [Cond.fieldLink RX7 7 "BentPinsModel" "s" "[I", Cond.fieldLink RX7 13 "BentPinsModel" "aside" "[I", Cond.methodLink RX7 86 yX7_isPlace, Cond.static yX7_isPlace, Cond.initialized RX7, Cond.code yX7_isPlace cX7_isPlace 1 (some .boolean), Cond.methodLink RX7 42 yX7_in, Cond.static yX7_in, Cond.code yX7_in cX7_in 3 (some .boolean), Cond.methodLink RX7 38 yX7_copies, Cond.static yX7_copies, Cond.code yX7_copies cX7_copies 5 none, Cond.methodLink RX7 75 yX7_fallsAll, Cond.instanceMethod yX7_fallsAll, Cond.selects RX7 yX7_fallsAll yX7_fallsAll, Cond.code yX7_fallsAll cX7_fallsAll 5 (some .int), Cond.fieldLink RX7 57 "BentPinsModel" "bells" "I", Cond.methodLink RX7 71 yX7_falls, Cond.instanceMethod yX7_falls, Cond.selects RX7 yX7_falls yX7_falls, Cond.code yX7_falls cX7_falls 5 (some .int), Cond.methodLink RX7 50 yX7_of, Cond.instanceMethod yX7_of, Cond.selects RX7 yX7_of yX7_of]
def wsX7_ends_r2 : List Cond := [Cond.code yX7_of cX7_of 3 (some .int), Cond.methodLink RX7 53 yX7_lays, Cond.instanceMethod yX7_lays, Cond.selects RX7 yX7_lays yX7_lays, Cond.code yX7_lays cX7_lays 4 none, Cond.methodLink RX7 60 yX7_sends, Cond.instanceMethod yX7_sends, Cond.selects RX7 yX7_sends yX7_sends, Cond.code yX7_sends cX7_sends 3 (some .int), Cond.methodLink RX7 64 yX7_bends, Cond.instanceMethod yX7_bends, Cond.selects RX7 yX7_bends yX7_bends, Cond.code yX7_bends cX7_bends 4 none, Cond.methodLink RX7 68 yX7_moved, Cond.static yX7_moved, Cond.code yX7_moved cX7_moved 2 (some .int)]
def wsX7_ends : List Cond := .code yX7_ends cX7_ends 3 (some .int) :: ((wsX7_ends_r1 ++ wsX7_ends_r2) ++ wsX70)
def wsX7_tries_r1 : List Cond := [Cond.fieldLink RX7 7 "BentPinsModel" "s" "[I", Cond.fieldLink RX7 13 "BentPinsModel" "aside" "[I", Cond.methodLink RX7 38 yX7_copies, Cond.static yX7_copies, Cond.initialized RX7, Cond.code yX7_copies cX7_copies 5 none, Cond.methodLink RX7 92 yX7_goShoot, Cond.instanceMethod yX7_goShoot, Cond.selects RX7 yX7_goShoot yX7_goShoot, Cond.code yX7_goShoot cX7_goShoot 5 (some .int), Cond.fieldLink RX7 57 "BentPinsModel" "bells" "I", Cond.methodLink RX7 75 yX7_fallsAll, Cond.instanceMethod yX7_fallsAll, Cond.selects RX7 yX7_fallsAll yX7_fallsAll, Cond.code yX7_fallsAll cX7_fallsAll 5 (some .int), Cond.methodLink RX7 71 yX7_falls, Cond.instanceMethod yX7_falls, Cond.selects RX7 yX7_falls yX7_falls, Cond.code yX7_falls cX7_falls 5 (some .int), Cond.methodLink RX7 50 yX7_of, Cond.instanceMethod yX7_of, Cond.selects RX7 yX7_of yX7_of, Cond.code yX7_of cX7_of 3 (some .int), Cond.methodLink RX7 53 yX7_lays]
def wsX7_tries_r2 : List Cond := [Cond.instanceMethod yX7_lays, Cond.selects RX7 yX7_lays yX7_lays, Cond.code yX7_lays cX7_lays 4 none, Cond.methodLink RX7 60 yX7_sends, Cond.instanceMethod yX7_sends, Cond.selects RX7 yX7_sends yX7_sends, Cond.code yX7_sends cX7_sends 3 (some .int), Cond.methodLink RX7 64 yX7_bends, Cond.instanceMethod yX7_bends, Cond.selects RX7 yX7_bends yX7_bends, Cond.code yX7_bends cX7_bends 4 none, Cond.methodLink RX7 42 yX7_in, Cond.static yX7_in, Cond.code yX7_in cX7_in 3 (some .boolean), Cond.methodLink RX7 68 yX7_moved, Cond.static yX7_moved, Cond.code yX7_moved cX7_moved 2 (some .int), Cond.methodLink RX7 79 yX7_adds, Cond.instanceMethod yX7_adds, Cond.selects RX7 yX7_adds yX7_adds, Cond.code yX7_adds cX7_adds 4 none, Cond.methodLink RX7 82 yX7_isFull, Cond.instanceMethod yX7_isFull, Cond.selects RX7 yX7_isFull yX7_isFull]
def wsX7_tries_r3 : List Cond := [Cond.code yX7_isFull cX7_isFull 2 (some .boolean), Cond.methodLink RX7 46 yX7_inPocket, Cond.instanceMethod yX7_inPocket, Cond.selects RX7 yX7_inPocket yX7_inPocket, Cond.code yX7_inPocket cX7_inPocket 3 (some .int), Cond.methodLink RX7 156 yX7_reached, Cond.instanceMethod yX7_reached, Cond.selects RX7 yX7_reached yX7_reached, Cond.code yX7_reached cX7_reached 1 (some .int), Cond.methodLink RX7 150 yX7_comesTo, Cond.instanceMethod yX7_comesTo, Cond.selects RX7 yX7_comesTo yX7_comesTo, Cond.code yX7_comesTo cX7_comesTo 7 (some .int), Cond.methodLink RX7 147 yX7_nextOf, Cond.instanceMethod yX7_nextOf, Cond.selects RX7 yX7_nextOf yX7_nextOf, Cond.code yX7_nextOf cX7_nextOf 4 (some .int)]
def wsX7_tries : List Cond := .code yX7_tries cX7_tries 7 (some .int) :: ((wsX7_tries_r1 ++ (wsX7_tries_r2 ++ wsX7_tries_r3)) ++ wsX70)
def wsX7_ifShot_r1 : List Cond := [Cond.methodLink RX7 86 yX7_isPlace, Cond.static yX7_isPlace, Cond.initialized RX7, Cond.code yX7_isPlace cX7_isPlace 1 (some .boolean), Cond.methodLink RX7 42 yX7_in, Cond.static yX7_in, Cond.code yX7_in cX7_in 3 (some .boolean), Cond.methodLink RX7 181 yX7_tries, Cond.instanceMethod yX7_tries, Cond.selects RX7 yX7_tries yX7_tries, Cond.code yX7_tries cX7_tries 7 (some .int), Cond.fieldLink RX7 7 "BentPinsModel" "s" "[I", Cond.fieldLink RX7 13 "BentPinsModel" "aside" "[I", Cond.methodLink RX7 38 yX7_copies, Cond.static yX7_copies, Cond.code yX7_copies cX7_copies 5 none, Cond.methodLink RX7 92 yX7_goShoot, Cond.instanceMethod yX7_goShoot, Cond.selects RX7 yX7_goShoot yX7_goShoot, Cond.code yX7_goShoot cX7_goShoot 5 (some .int), Cond.fieldLink RX7 57 "BentPinsModel" "bells" "I", Cond.methodLink RX7 75 yX7_fallsAll, Cond.instanceMethod yX7_fallsAll, Cond.selects RX7 yX7_fallsAll yX7_fallsAll]
def wsX7_ifShot_r2 : List Cond := [Cond.code yX7_fallsAll cX7_fallsAll 5 (some .int), Cond.methodLink RX7 71 yX7_falls, Cond.instanceMethod yX7_falls, Cond.selects RX7 yX7_falls yX7_falls, Cond.code yX7_falls cX7_falls 5 (some .int), Cond.methodLink RX7 50 yX7_of, Cond.instanceMethod yX7_of, Cond.selects RX7 yX7_of yX7_of, Cond.code yX7_of cX7_of 3 (some .int), Cond.methodLink RX7 53 yX7_lays, Cond.instanceMethod yX7_lays, Cond.selects RX7 yX7_lays yX7_lays, Cond.code yX7_lays cX7_lays 4 none, Cond.methodLink RX7 60 yX7_sends, Cond.instanceMethod yX7_sends, Cond.selects RX7 yX7_sends yX7_sends, Cond.code yX7_sends cX7_sends 3 (some .int), Cond.methodLink RX7 64 yX7_bends, Cond.instanceMethod yX7_bends, Cond.selects RX7 yX7_bends yX7_bends, Cond.code yX7_bends cX7_bends 4 none, Cond.methodLink RX7 68 yX7_moved, Cond.static yX7_moved, Cond.code yX7_moved cX7_moved 2 (some .int)]
def wsX7_ifShot_r3 : List Cond := [Cond.methodLink RX7 79 yX7_adds, Cond.instanceMethod yX7_adds, Cond.selects RX7 yX7_adds yX7_adds, Cond.code yX7_adds cX7_adds 4 none, Cond.methodLink RX7 82 yX7_isFull, Cond.instanceMethod yX7_isFull, Cond.selects RX7 yX7_isFull yX7_isFull, Cond.code yX7_isFull cX7_isFull 2 (some .boolean), Cond.methodLink RX7 46 yX7_inPocket, Cond.instanceMethod yX7_inPocket, Cond.selects RX7 yX7_inPocket yX7_inPocket, Cond.code yX7_inPocket cX7_inPocket 3 (some .int), Cond.methodLink RX7 156 yX7_reached, Cond.instanceMethod yX7_reached, Cond.selects RX7 yX7_reached yX7_reached, Cond.code yX7_reached cX7_reached 1 (some .int), Cond.methodLink RX7 150 yX7_comesTo, Cond.instanceMethod yX7_comesTo, Cond.selects RX7 yX7_comesTo yX7_comesTo, Cond.code yX7_comesTo cX7_comesTo 7 (some .int), Cond.methodLink RX7 147 yX7_nextOf, Cond.instanceMethod yX7_nextOf, Cond.selects RX7 yX7_nextOf yX7_nextOf, Cond.code yX7_nextOf cX7_nextOf 4 (some .int)]
def wsX7_ifShot : List Cond := .code yX7_ifShot cX7_ifShot 5 (some .int) :: ((wsX7_ifShot_r1 ++ (wsX7_ifShot_r2 ++ wsX7_ifShot_r3)) ++ wsX70)
def wsX7_best_r1 : List Cond := [Cond.fieldLink RX7 7 "BentPinsModel" "s" "[I", Cond.methodLink RX7 181 yX7_tries, Cond.instanceMethod yX7_tries, Cond.selects RX7 yX7_tries yX7_tries, Cond.initialized RX7, Cond.code yX7_tries cX7_tries 7 (some .int), Cond.fieldLink RX7 13 "BentPinsModel" "aside" "[I", Cond.methodLink RX7 38 yX7_copies, Cond.static yX7_copies, Cond.code yX7_copies cX7_copies 5 none, Cond.methodLink RX7 92 yX7_goShoot, Cond.instanceMethod yX7_goShoot, Cond.selects RX7 yX7_goShoot yX7_goShoot, Cond.code yX7_goShoot cX7_goShoot 5 (some .int), Cond.fieldLink RX7 57 "BentPinsModel" "bells" "I", Cond.methodLink RX7 75 yX7_fallsAll, Cond.instanceMethod yX7_fallsAll, Cond.selects RX7 yX7_fallsAll yX7_fallsAll, Cond.code yX7_fallsAll cX7_fallsAll 5 (some .int), Cond.methodLink RX7 71 yX7_falls, Cond.instanceMethod yX7_falls, Cond.selects RX7 yX7_falls yX7_falls, Cond.code yX7_falls cX7_falls 5 (some .int), Cond.methodLink RX7 50 yX7_of]
def wsX7_best_r2 : List Cond := [Cond.instanceMethod yX7_of, Cond.selects RX7 yX7_of yX7_of, Cond.code yX7_of cX7_of 3 (some .int), Cond.methodLink RX7 53 yX7_lays, Cond.instanceMethod yX7_lays, Cond.selects RX7 yX7_lays yX7_lays, Cond.code yX7_lays cX7_lays 4 none, Cond.methodLink RX7 60 yX7_sends, Cond.instanceMethod yX7_sends, Cond.selects RX7 yX7_sends yX7_sends, Cond.code yX7_sends cX7_sends 3 (some .int), Cond.methodLink RX7 64 yX7_bends, Cond.instanceMethod yX7_bends, Cond.selects RX7 yX7_bends yX7_bends, Cond.code yX7_bends cX7_bends 4 none, Cond.methodLink RX7 42 yX7_in, Cond.static yX7_in, Cond.code yX7_in cX7_in 3 (some .boolean), Cond.methodLink RX7 68 yX7_moved, Cond.static yX7_moved, Cond.code yX7_moved cX7_moved 2 (some .int), Cond.methodLink RX7 79 yX7_adds, Cond.instanceMethod yX7_adds, Cond.selects RX7 yX7_adds yX7_adds]
def wsX7_best_r3 : List Cond := [Cond.code yX7_adds cX7_adds 4 none, Cond.methodLink RX7 82 yX7_isFull, Cond.instanceMethod yX7_isFull, Cond.selects RX7 yX7_isFull yX7_isFull, Cond.code yX7_isFull cX7_isFull 2 (some .boolean), Cond.methodLink RX7 46 yX7_inPocket, Cond.instanceMethod yX7_inPocket, Cond.selects RX7 yX7_inPocket yX7_inPocket, Cond.code yX7_inPocket cX7_inPocket 3 (some .int), Cond.methodLink RX7 156 yX7_reached, Cond.instanceMethod yX7_reached, Cond.selects RX7 yX7_reached yX7_reached, Cond.code yX7_reached cX7_reached 1 (some .int), Cond.methodLink RX7 150 yX7_comesTo, Cond.instanceMethod yX7_comesTo, Cond.selects RX7 yX7_comesTo yX7_comesTo, Cond.code yX7_comesTo cX7_comesTo 7 (some .int), Cond.methodLink RX7 147 yX7_nextOf, Cond.instanceMethod yX7_nextOf, Cond.selects RX7 yX7_nextOf yX7_nextOf, Cond.code yX7_nextOf cX7_nextOf 4 (some .int), Cond.methodLink RX7 178 yX7_ones, Cond.static yX7_ones, Cond.code yX7_ones cX7_ones 3 (some .int)]
def wsX7_best : List Cond := .code yX7_best cX7_best 6 (some .int) :: ((wsX7_best_r1 ++ (wsX7_best_r2 ++ wsX7_best_r3)) ++ wsX70)
def wsX7_undo : List Cond := .code yX7_undo cX7_undo 1 (some .int) :: ([.fieldLink RX7 34 "BentPinsModel" "known" "I", .fieldLink RX7 16 "BentPinsModel" "past" "[I", .fieldLink RX7 7 "BentPinsModel" "s" "[I", .methodLink RX7 38 yX7_copies, .static yX7_copies, .initialized RX7, .code yX7_copies cX7_copies 5 none] ++ wsX70)
def wsX7_save : List Cond := .code yX7_save cX7_save 1 (some .int) :: ([.fieldLink RX7 7 "BentPinsModel" "s" "[I", .fieldLink RX7 19 "BentPinsModel" "kept" "[I", .fieldLink RX7 185 "BentPinsModel" "isKept" "Z", .methodLink RX7 38 yX7_copies, .static yX7_copies, .initialized RX7, .code yX7_copies cX7_copies 5 none] ++ wsX70)
def wsX7_restore : List Cond := .code yX7_restore cX7_restore 1 (some .int) :: ([.fieldLink RX7 185 "BentPinsModel" "isKept" "Z", .fieldLink RX7 19 "BentPinsModel" "kept" "[I", .fieldLink RX7 7 "BentPinsModel" "s" "[I", .methodLink RX7 89 yX7_records, .instanceMethod yX7_records, .selects RX7 yX7_records yX7_records, .initialized RX7, .code yX7_records cX7_records 2 none, .fieldLink RX7 34 "BentPinsModel" "known" "I", .fieldLink RX7 16 "BentPinsModel" "past" "[I", .methodLink RX7 38 yX7_copies, .static yX7_copies, .code yX7_copies cX7_copies 5 none] ++ wsX70)
def wsJ9_abs_0f7a4 : List Cond := .code yJ9_abs_0f7a4 cJ9_abs_0f7a4 1 (some .int) :: ([])
def wsJ9_max_7cf53 : List Cond := .code yJ9_max_7cf53 cJ9_max_7cf53 2 (some .int) :: ([])
def wsJ9_min_7cf53 : List Cond := .code yJ9_min_7cf53 cJ9_min_7cf53 2 (some .int) :: ([])
def wsL_law_r1 : List Cond := [Cond.classLink RL 7 RX6, Cond.instantiable RX6 10, Cond.initialized RX6, Cond.classLink RL 10 RX7, Cond.instantiable RX7 17, Cond.initialized RX7, Cond.methodLink RL 9 yX6_init, Cond.instanceMethod yX6_init, Cond.code yX6_init cX6_init 1 none, Cond.methodLink RX6 1 objectInit, Cond.instanceMethod objectInit, Cond.code objectInit ⟨#[0xb1]⟩ 1 none, Cond.classLink RX6 7 RX5, Cond.instantiable RX5 11, Cond.initialized RX5, Cond.fieldLink RX6 10 "BentPins" "table" "LBentPins$Table;", Cond.fieldLink RX6 16 "BentPins" "trial" "LBentPins$Table;", Cond.fieldLink RX6 19 "BentPins" "snapshot" "LBentPins$Table;", Cond.fieldLink RX6 22 "BentPins" "snapshotTaken" "Z", Cond.classLink RX6 26 RX0, Cond.instantiable RX0 2, Cond.initialized RX0, Cond.fieldLink RX6 29 "BentPins" "history" "LBentPins$History;", Cond.classLink RX6 33 RX3]
def wsL_law_r2 : List Cond := [Cond.instantiable RX3 2, Cond.initialized RX3, Cond.fieldLink RX6 36 "BentPins" "roads" "LBentPins$Roads;", Cond.classLink RX6 40 RX1, Cond.instantiable RX1 2, Cond.initialized RX1, Cond.fieldLink RX6 43 "BentPins" "pad" "LBentPins$Pad;", Cond.fieldLink RX6 47 "BentPins" "stopReason" "I", Cond.fieldLink RX6 51 "BentPins" "stopPart" "I", Cond.fieldLink RX6 54 "BentPins" "stopPosition" "I", Cond.methodLink RX6 9 yX5_init, Cond.instanceMethod yX5_init, Cond.code yX5_init cX5_init 2 none, Cond.methodLink RX5 3 objectInit, Cond.classLink RX5 9 RX2, Cond.instantiable RX2 8, Cond.initialized RX2, Cond.fieldLink RX5 12 "BentPins$Table" "pins" "LBentPins$Pins;", Cond.classLink RX5 18 RX4, Cond.instantiable RX4 1, Cond.initialized RX4, Cond.fieldLink RX5 23 "BentPins$Table" "worths" "LBentPins$Row;", Cond.fieldLink RX5 27 "BentPins$Table" "held" "LBentPins$Row;", Cond.fieldLink RX5 30 "BentPins$Table" "ended" "LBentPins$Row;"]
def wsL_law_r3 : List Cond := [Cond.fieldLink RX5 33 "BentPins$Table" "full" "I", Cond.fieldLink RX5 37 "BentPins$Table" "left" "I", Cond.fieldLink RX5 40 "BentPins$Table" "lost" "I", Cond.fieldLink RX5 43 "BentPins$Table" "points" "I", Cond.fieldLink RX5 46 "BentPins$Table" "shots" "I", Cond.fieldLink RX5 49 "BentPins$Table" "hardShots" "I", Cond.fieldLink RX5 52 "BentPins$Table" "refusals" "I", Cond.methodLink RX5 55 Lib.Math.max.name, Cond.static Lib.Math.max.name, Cond.initialized "java/lang/Math", Cond.code Lib.Math.max.name Lib.Math.max.code 2 (some .int), Cond.instanceMethod yX2_init, Cond.code yX2_init cX2_init 1 none, Cond.methodLink RX2 3 objectInit, Cond.classLink RX2 9 RX4, Cond.fieldLink RX2 14 "BentPins$Pins" "bends" "LBentPins$Row;", Cond.fieldLink RX2 20 "BentPins$Pins" "outs" "LBentPins$Row;", Cond.fieldLink RX2 23 "BentPins$Pins" "bells" "LBentPins$Row;", Cond.fieldLink RX2 26 "BentPins$Pins" "sides" "LBentPins$Row;", Cond.fieldLink RX2 29 "BentPins$Pins" "visits" "LBentPins$Row;", Cond.fieldLink RX2 32 "BentPins$Pins" "tilt" "I", Cond.fieldLink RX2 36 "BentPins$Pins" "rings" "I", Cond.fieldLink RX2 39 "BentPins$Pins" "bendsByBalls" "I", Cond.methodLink RX2 11 yX4_init]
def wsL_law_r4 : List Cond := [Cond.instanceMethod yX4_init, Cond.code yX4_init cX4_init 2 none, Cond.methodLink RX4 1 objectInit, Cond.methodLink RX4 7 Lib.Math.max.name, Cond.arrayClass .int, Cond.fieldLink RX4 13 "BentPins$Row" "cells" "[I", Cond.methodLink RX5 20 yX4_init, Cond.methodLink RX5 61 yX4_put, Cond.instanceMethod yX4_put, Cond.selects RX4 yX4_put yX4_put, Cond.code yX4_put cX4_put 3 none, Cond.methodLink RX6 28 yX0_init, Cond.instanceMethod yX0_init, Cond.code yX0_init cX0_init 2 none, Cond.methodLink RX0 3 objectInit, Cond.classLink RX0 9 RX5, Cond.fieldLink RX0 11 "BentPins$History" "states" "[LBentPins$Table;", Cond.fieldLink RX0 17 "BentPins$History" "size" "I", Cond.methodLink RX0 21 yX5_init, Cond.instanceMethod yX3_init, Cond.code yX3_init cX3_init 1 none, Cond.methodLink RX3 3 objectInit, Cond.classLink RX3 9 RX4, Cond.fieldLink RX3 14 "BentPins$Roads" "waysHere" "LBentPins$Row;"]
def wsL_law_r5 : List Cond := [Cond.fieldLink RX3 20 "BentPins$Roads" "waysBelow" "LBentPins$Row;", Cond.methodLink RX3 11 yX4_init, Cond.instanceMethod yX1_init, Cond.code yX1_init cX1_init 1 none, Cond.methodLink RX1 3 objectInit, Cond.classLink RX1 9 RX4, Cond.fieldLink RX1 14 "BentPins$Pad" "codes" "LBentPins$Row;", Cond.fieldLink RX1 20 "BentPins$Pad" "length" "I", Cond.methodLink RX1 11 yX4_init, Cond.methodLink RL 12 yX7_init, Cond.instanceMethod yX7_init, Cond.code yX7_init cX7_init 2 none, Cond.methodLink RX7 1 objectInit, Cond.fieldLink RX7 7 "BentPinsModel" "s" "[I", Cond.fieldLink RX7 13 "BentPinsModel" "aside" "[I", Cond.fieldLink RX7 16 "BentPinsModel" "past" "[I", Cond.fieldLink RX7 19 "BentPinsModel" "kept" "[I", Cond.fieldLink RX7 22 "BentPinsModel" "pad" "[I", Cond.fieldLink RX7 25 "BentPinsModel" "stop" "[I", Cond.fieldLink RX7 28 "BentPinsModel" "many" "[I", Cond.fieldLink RX7 31 "BentPinsModel" "then" "[I", Cond.methodLink RL 13 yX6_shoot, Cond.instanceMethod yX6_shoot, Cond.selects RX6 yX6_shoot yX6_shoot]
def wsL_law_r6 : List Cond := [Cond.code yX6_shoot cX6_shoot 3 (some .int), Cond.methodLink RX6 57 yX6_isWithin, Cond.static yX6_isWithin, Cond.code yX6_isWithin cX6_isWithin 3 (some .boolean), Cond.methodLink RX6 61 yX0_record, Cond.instanceMethod yX0_record, Cond.selects RX0 yX0_record yX0_record, Cond.code yX0_record cX0_record 3 none, Cond.methodLink RX0 22 yX0_dropOldest, Cond.instanceMethod yX0_dropOldest, Cond.selects RX0 yX0_dropOldest yX0_dropOldest, Cond.code yX0_dropOldest cX0_dropOldest 3 none, Cond.methodLink RX0 25 yX0_stateAt, Cond.instanceMethod yX0_stateAt, Cond.selects RX0 yX0_stateAt yX0_stateAt, Cond.code yX0_stateAt cX0_stateAt 2 (some (.object "BentPins$Table")), Cond.methodLink RX0 29 yX5_copyFrom, Cond.instanceMethod yX5_copyFrom, Cond.selects RX5 yX5_copyFrom yX5_copyFrom, Cond.code yX5_copyFrom cX5_copyFrom 2 none, Cond.methodLink RX5 65 yX2_copyFrom, Cond.instanceMethod yX2_copyFrom, Cond.selects RX2 yX2_copyFrom yX2_copyFrom, Cond.code yX2_copyFrom cX2_copyFrom 2 none]
def wsL_law_r7 : List Cond := [Cond.methodLink RX2 42 yX4_copyFrom, Cond.instanceMethod yX4_copyFrom, Cond.selects RX4 yX4_copyFrom yX4_copyFrom, Cond.code yX4_copyFrom cX4_copyFrom 2 none, Cond.methodLink RX4 25 Lib.Math.min.name, Cond.static Lib.Math.min.name, Cond.code Lib.Math.min.name Lib.Math.min.code 2 (some .int), Cond.methodLink RX4 28 arraycopyName, Cond.native arraycopyName, Cond.static arraycopyName, Cond.initialized "java/lang/System", Cond.methodLink RX5 69 yX4_copyFrom, Cond.methodLink RX6 65 yX5_shootBall, Cond.instanceMethod yX5_shootBall, Cond.selects RX5 yX5_shootBall yX5_shootBall, Cond.code yX5_shootBall cX5_shootBall 6 (some .int), Cond.fieldLink RX5 80 "BentPins$Pins" "rings" "I", Cond.methodLink RX5 83 yX2_rollBall, Cond.instanceMethod yX2_rollBall, Cond.selects RX2 yX2_rollBall yX2_rollBall, Cond.code yX2_rollBall cX2_rollBall 7 (some .int), Cond.static yX6_pinAt, Cond.code yX6_pinAt cX6_pinAt 2 (some .int), Cond.methodLink RX2 90 yX2_nextDirection]
def wsL_law_r8 : List Cond := [Cond.instanceMethod yX2_nextDirection, Cond.selects RX2 yX2_nextDirection yX2_nextDirection, Cond.code yX2_nextDirection cX2_nextDirection 3 (some .int), Cond.methodLink RX2 57 yX2_isOut, Cond.instanceMethod yX2_isOut, Cond.selects RX2 yX2_isOut yX2_isOut, Cond.code yX2_isOut cX2_isOut 2 (some .boolean), Cond.methodLink RX2 46 yX4_at, Cond.instanceMethod yX4_at, Cond.selects RX4 yX4_at yX4_at, Cond.code yX4_at cX4_at 2 (some .int), Cond.methodLink RX2 80 yX2_leanOf, Cond.instanceMethod yX2_leanOf, Cond.selects RX2 yX2_leanOf yX2_leanOf, Cond.code yX2_leanOf cX2_leanOf 3 (some .int), Cond.methodLink RX2 93 yX2_meetBall, Cond.instanceMethod yX2_meetBall, Cond.selects RX2 yX2_meetBall yX2_meetBall, Cond.code yX2_meetBall cX2_meetBall 4 none, Cond.methodLink RX2 74 yX4_raise, Cond.instanceMethod yX4_raise, Cond.selects RX4 yX4_raise yX4_raise, Cond.code yX4_raise cX4_raise 3 none, Cond.methodLink RX2 66 yX4_put]
def wsL_law_r9 : List Cond := [Cond.methodLink RX2 97 yX2_canBend, Cond.instanceMethod yX2_canBend, Cond.selects RX2 yX2_canBend yX2_canBend, Cond.code yX2_canBend cX2_canBend 3 (some .boolean), Cond.methodLink RX2 101 yX2_bendBy, Cond.instanceMethod yX2_bendBy, Cond.selects RX2 yX2_bendBy yX2_bendBy, Cond.code yX2_bendBy cX2_bendBy 3 none, Cond.static yX6_placeBeside, Cond.code yX6_placeBeside cX6_placeBeside 2 (some .int), Cond.methodLink RX6 239 Lib.Math.min.name, Cond.methodLink RX6 244 Lib.Math.max.name, Cond.methodLink RX5 87 yX5_takeBall, Cond.instanceMethod yX5_takeBall, Cond.selects RX5 yX5_takeBall yX5_takeBall, Cond.code yX5_takeBall cX5_takeBall 2 (some .int), Cond.methodLink RX5 90 yX4_raise, Cond.methodLink RX5 76 yX5_isFull, Cond.instanceMethod yX5_isFull, Cond.selects RX5 yX5_isFull yX5_isFull, Cond.code yX5_isFull cX5_isFull 2 (some .boolean), Cond.methodLink RX5 72 yX4_at, Cond.methodLink RL 17 yX7_shoot, Cond.instanceMethod yX7_shoot]
def wsL_law_r10 : List Cond := [Cond.selects RX7 yX7_shoot yX7_shoot, Cond.code yX7_shoot cX7_shoot 3 (some .int), Cond.methodLink RX7 86 yX7_isPlace, Cond.static yX7_isPlace, Cond.code yX7_isPlace cX7_isPlace 1 (some .boolean), Cond.methodLink RX7 42 yX7_in, Cond.static yX7_in, Cond.code yX7_in cX7_in 3 (some .boolean), Cond.methodLink RX7 89 yX7_records, Cond.instanceMethod yX7_records, Cond.selects RX7 yX7_records yX7_records, Cond.code yX7_records cX7_records 2 none, Cond.fieldLink RX7 34 "BentPinsModel" "known" "I", Cond.methodLink RX7 38 yX7_copies, Cond.static yX7_copies, Cond.code yX7_copies cX7_copies 5 none, Cond.methodLink RX7 92 yX7_goShoot, Cond.instanceMethod yX7_goShoot, Cond.selects RX7 yX7_goShoot yX7_goShoot, Cond.code yX7_goShoot cX7_goShoot 5 (some .int), Cond.fieldLink RX7 57 "BentPinsModel" "bells" "I", Cond.methodLink RX7 75 yX7_fallsAll, Cond.instanceMethod yX7_fallsAll, Cond.selects RX7 yX7_fallsAll yX7_fallsAll]
def wsL_law_r11 : List Cond := [Cond.code yX7_fallsAll cX7_fallsAll 5 (some .int), Cond.methodLink RX7 71 yX7_falls, Cond.instanceMethod yX7_falls, Cond.selects RX7 yX7_falls yX7_falls, Cond.code yX7_falls cX7_falls 5 (some .int), Cond.methodLink RX7 50 yX7_of, Cond.instanceMethod yX7_of, Cond.selects RX7 yX7_of yX7_of, Cond.code yX7_of cX7_of 3 (some .int), Cond.methodLink RX7 53 yX7_lays, Cond.instanceMethod yX7_lays, Cond.selects RX7 yX7_lays yX7_lays, Cond.code yX7_lays cX7_lays 4 none, Cond.methodLink RX7 60 yX7_sends, Cond.instanceMethod yX7_sends, Cond.selects RX7 yX7_sends yX7_sends, Cond.code yX7_sends cX7_sends 3 (some .int), Cond.methodLink RX7 64 yX7_bends, Cond.instanceMethod yX7_bends, Cond.selects RX7 yX7_bends yX7_bends, Cond.code yX7_bends cX7_bends 4 none, Cond.methodLink RX7 68 yX7_moved, Cond.static yX7_moved, Cond.code yX7_moved cX7_moved 2 (some .int)]
def wsL_law_r12 : List Cond := [Cond.methodLink RX7 79 yX7_adds, Cond.instanceMethod yX7_adds, Cond.selects RX7 yX7_adds yX7_adds, Cond.code yX7_adds cX7_adds 4 none, Cond.methodLink RX7 82 yX7_isFull, Cond.instanceMethod yX7_isFull, Cond.selects RX7 yX7_isFull yX7_isFull, Cond.code yX7_isFull cX7_isFull 2 (some .boolean), Cond.methodLink RX7 46 yX7_inPocket, Cond.instanceMethod yX7_inPocket, Cond.selects RX7 yX7_inPocket yX7_inPocket, Cond.code yX7_inPocket cX7_inPocket 3 (some .int), Cond.methodLink RL 18 yX6_bend, Cond.instanceMethod yX6_bend, Cond.selects RX6 yX6_bend yX6_bend, Cond.code yX6_bend cX6_bend 3 (some .int), Cond.methodLink RX6 69 yX5_bendByHand, Cond.instanceMethod yX5_bendByHand, Cond.selects RX5 yX5_bendByHand yX5_bendByHand, Cond.code yX5_bendByHand cX5_bendByHand 3 (some .int), Cond.fieldLink RX5 103 "BentPins$Pins" "bends" "LBentPins$Row;", Cond.methodLink RX5 93 yX2_isOut, Cond.methodLink RX5 96 yX2_canBend, Cond.methodLink RX5 100 yX2_bendBy]
def wsL_law_r13 : List Cond := [Cond.methodLink RL 21 yX7_bend, Cond.instanceMethod yX7_bend, Cond.selects RX7 yX7_bend yX7_bend, Cond.code yX7_bend cX7_bend 5 (some .int), Cond.methodLink RX7 95 yX7_isPin, Cond.static yX7_isPin, Cond.code yX7_isPin cX7_isPin 1 (some .boolean), Cond.methodLink RL 22 yX6_pull, Cond.instanceMethod yX6_pull, Cond.selects RX6 yX6_pull yX6_pull, Cond.code yX6_pull cX6_pull 2 (some .int), Cond.fieldLink RX6 73 "BentPins$Table" "pins" "LBentPins$Pins;", Cond.methodLink RX6 77 yX2_pullOrSet, Cond.instanceMethod yX2_pullOrSet, Cond.selects RX2 yX2_pullOrSet yX2_pullOrSet, Cond.code yX2_pullOrSet cX2_pullOrSet 2 none, Cond.methodLink RX6 83 yX2_pulledOut, Cond.instanceMethod yX2_pulledOut, Cond.selects RX2 yX2_pulledOut yX2_pulledOut, Cond.code yX2_pulledOut cX2_pulledOut 1 (some .int), Cond.methodLink RX2 50 yX4_total, Cond.instanceMethod yX4_total, Cond.selects RX4 yX4_total yX4_total, Cond.code yX4_total cX4_total 6 (some .int)]
def wsL_law_r14 : List Cond := [Cond.methodLink RL 26 yX7_pull, Cond.instanceMethod yX7_pull, Cond.selects RX7 yX7_pull yX7_pull, Cond.code yX7_pull cX7_pull 2 (some .int), Cond.methodLink RX7 98 yX7_outOnes, Cond.instanceMethod yX7_outOnes, Cond.selects RX7 yX7_outOnes yX7_outOnes, Cond.code yX7_outOnes cX7_outOnes 3 (some .int), Cond.methodLink RL 27 yX6_bell, Cond.instanceMethod yX6_bell, Cond.selects RX6 yX6_bell yX6_bell, Cond.code yX6_bell cX6_bell 2 (some .int), Cond.methodLink RX6 87 yX2_hangOrTakeBell, Cond.instanceMethod yX2_hangOrTakeBell, Cond.selects RX2 yX2_hangOrTakeBell yX2_hangOrTakeBell, Cond.code yX2_hangOrTakeBell cX2_hangOrTakeBell 2 none, Cond.methodLink RX6 90 yX2_allBells, Cond.instanceMethod yX2_allBells, Cond.selects RX2 yX2_allBells yX2_allBells, Cond.code yX2_allBells cX2_allBells 1 (some .int), Cond.methodLink RL 30 yX7_bell, Cond.instanceMethod yX7_bell, Cond.selects RX7 yX7_bell yX7_bell, Cond.code yX7_bell cX7_bell 2 (some .int)]
def wsL_law_r15 : List Cond := [Cond.methodLink RX7 102 yX7_allBells, Cond.instanceMethod yX7_allBells, Cond.selects RX7 yX7_allBells yX7_allBells, Cond.code yX7_allBells cX7_allBells 3 (some .int), Cond.methodLink RL 31 yX6_worth, Cond.instanceMethod yX6_worth, Cond.selects RX6 yX6_worth yX6_worth, Cond.code yX6_worth cX6_worth 4 (some .int), Cond.fieldLink RX6 93 "BentPins$Table" "worths" "LBentPins$Row;", Cond.methodLink RX6 97 yX4_at, Cond.methodLink RX6 103 yX4_put, Cond.methodLink RL 35 yX7_worth, Cond.instanceMethod yX7_worth, Cond.selects RX7 yX7_worth yX7_worth, Cond.code yX7_worth cX7_worth 4 (some .int), Cond.methodLink RL 36 yX6_set, Cond.instanceMethod yX6_set, Cond.selects RX6 yX6_set yX6_set, Cond.code yX6_set cX6_set 4 (some .int), Cond.fieldLink RX6 107 "BentPins$Pins" "tilt" "I", Cond.fieldLink RX6 110 "BentPins$Table" "full" "I", Cond.methodLink RL 39 yX7_set, Cond.instanceMethod yX7_set, Cond.selects RX7 yX7_set yX7_set]
def wsL_law_r16 : List Cond := [Cond.code yX7_set cX7_set 4 (some .int), Cond.methodLink RL 40 yX6_empty, Cond.instanceMethod yX6_empty, Cond.selects RX6 yX6_empty yX6_empty, Cond.code yX6_empty cX6_empty 1 (some .int), Cond.fieldLink RX6 116 "BentPins$Table" "left" "I", Cond.methodLink RX6 113 yX5_emptyPockets, Cond.instanceMethod yX5_emptyPockets, Cond.selects RX5 yX5_emptyPockets yX5_emptyPockets, Cond.code yX5_emptyPockets cX5_emptyPockets 1 none, Cond.methodLink RX5 106 yX4_total, Cond.methodLink RX5 110 yX4_fillWith, Cond.instanceMethod yX4_fillWith, Cond.selects RX4 yX4_fillWith yX4_fillWith, Cond.code yX4_fillWith cX4_fillWith 2 none, Cond.methodLink RX4 19 yJ7_fill_53178, Cond.static yJ7_fill_53178, Cond.initialized RJ7, Cond.code yJ7_fill_53178 cJ7_fill_53178 4 none, Cond.methodLink RL 44 yX7_empty, Cond.instanceMethod yX7_empty, Cond.selects RX7 yX7_empty yX7_empty, Cond.code yX7_empty cX7_empty 1 (some .int), Cond.methodLink RX7 105 yX7_goEmpty]
def wsL_law_r17 : List Cond := [Cond.instanceMethod yX7_goEmpty, Cond.selects RX7 yX7_goEmpty yX7_goEmpty, Cond.code yX7_goEmpty cX7_goEmpty 2 (some .int), Cond.methodLink RL 45 yX6_append, Cond.instanceMethod yX6_append, Cond.selects RX6 yX6_append yX6_append, Cond.code yX6_append cX6_append 2 (some .int), Cond.fieldLink RX6 119 "BentPins$Pad" "length" "I", Cond.methodLink RX6 122 yX1_write, Cond.instanceMethod yX1_write, Cond.selects RX1 yX1_write yX1_write, Cond.code yX1_write cX1_write 2 none, Cond.methodLink RX1 24 yX4_put, Cond.methodLink RL 48 yX7_append, Cond.instanceMethod yX7_append, Cond.selects RX7 yX7_append yX7_append, Cond.code yX7_append cX7_append 2 (some .int), Cond.fieldLink RX7 108 "BentPinsModel" "length" "I", Cond.methodLink RL 49 yX6_clear, Cond.instanceMethod yX6_clear, Cond.selects RX6 yX6_clear yX6_clear, Cond.code yX6_clear cX6_clear 2 (some .int), Cond.methodLink RX6 125 yX1_wipe, Cond.instanceMethod yX1_wipe]
def wsL_law_r18 : List Cond := [Cond.selects RX1 yX1_wipe yX1_wipe, Cond.code yX1_wipe cX1_wipe 1 none, Cond.methodLink RL 52 yX7_clear, Cond.instanceMethod yX7_clear, Cond.selects RX7 yX7_clear yX7_clear, Cond.code yX7_clear cX7_clear 2 (some .int), Cond.methodLink RL 53 yX6_fault, Cond.instanceMethod yX6_fault, Cond.selects RX6 yX6_fault yX6_fault, Cond.code yX6_fault cX6_fault 2 (some .int), Cond.methodLink RX6 128 yX1_faultAsBoard, Cond.instanceMethod yX1_faultAsBoard, Cond.selects RX1 yX1_faultAsBoard yX1_faultAsBoard, Cond.code yX1_faultAsBoard cX1_faultAsBoard 2 (some .int), Cond.methodLink RX1 32 yX1_codeAt, Cond.instanceMethod yX1_codeAt, Cond.selects RX1 yX1_codeAt yX1_codeAt, Cond.code yX1_codeAt cX1_codeAt 2 (some .int), Cond.methodLink RX1 28 yX4_at, Cond.methodLink RX1 35 yX1_isPinSign, Cond.static yX1_isPinSign, Cond.code yX1_isPinSign cX1_isPinSign 1 (some .boolean), Cond.methodLink RX6 131 yX1_faultAsShots, Cond.instanceMethod yX1_faultAsShots]
def wsL_law_r19 : List Cond := [Cond.selects RX1 yX1_faultAsShots yX1_faultAsShots, Cond.code yX1_faultAsShots cX1_faultAsShots 4 (some .int), Cond.methodLink RX1 39 yX1_mayFollow, Cond.static yX1_mayFollow, Cond.code yX1_mayFollow cX1_mayFollow 2 (some .boolean), Cond.methodLink RX1 47 yX1_isPlace, Cond.static yX1_isPlace, Cond.code yX1_isPlace cX1_isPlace 1 (some .boolean), Cond.methodLink RL 56 yX7_fault, Cond.instanceMethod yX7_fault, Cond.selects RX7 yX7_fault yX7_fault, Cond.code yX7_fault cX7_fault 2 (some .int), Cond.fieldLink RX7 111 "BentPinsModel" "spot" "I", Cond.methodLink RX7 137 yX7_isBoard, Cond.instanceMethod yX7_isBoard, Cond.selects RX7 yX7_isBoard yX7_isBoard, Cond.code yX7_isBoard cX7_isBoard 1 (some .boolean), Cond.methodLink RX7 118 yX7_here, Cond.instanceMethod yX7_here, Cond.selects RX7 yX7_here yX7_here, Cond.code yX7_here cX7_here 1 (some .int), Cond.methodLink RX7 121 yX7_isSign, Cond.static yX7_isSign, Cond.code yX7_isSign cX7_isSign 1 (some .boolean)]
def wsL_law_r20 : List Cond := [Cond.methodLink RX7 141 yX7_areShots, Cond.instanceMethod yX7_areShots, Cond.selects RX7 yX7_areShots yX7_areShots, Cond.code yX7_areShots cX7_areShots 1 (some .boolean), Cond.fieldLink RX7 114 "BentPinsModel" "isForm" "Z", Cond.methodLink RX7 134 yX7_takesShot, Cond.instanceMethod yX7_takesShot, Cond.selects RX7 yX7_takesShot yX7_takesShot, Cond.code yX7_takesShot cX7_takesShot 1 none, Cond.fieldLink RX7 124 "BentPinsModel" "isHard" "Z", Cond.fieldLink RX7 127 "BentPinsModel" "ofPlace" "I", Cond.methodLink RX7 130 yX7_takes, Cond.instanceMethod yX7_takes, Cond.selects RX7 yX7_takes yX7_takes, Cond.code yX7_takes cX7_takes 2 none, Cond.methodLink RL 57 yX6_board, Cond.instanceMethod yX6_board, Cond.selects RX6 yX6_board yX6_board, Cond.code yX6_board cX6_board 2 (some .int), Cond.methodLink RX6 134 yX1_codeAt, Cond.methodLink RX6 137 yX2_readSign, Cond.instanceMethod yX2_readSign, Cond.selects RX2 yX2_readSign yX2_readSign, Cond.code yX2_readSign cX2_readSign 3 none]
def wsL_law_r21 : List Cond := [Cond.methodLink RX6 140 yX2_allPins, Cond.instanceMethod yX2_allPins, Cond.selects RX2 yX2_allPins yX2_allPins, Cond.code yX2_allPins cX2_allPins 1 (some .int), Cond.methodLink RX2 54 yX2_pulledOut, Cond.methodLink RL 60 yX7_board, Cond.instanceMethod yX7_board, Cond.selects RX7 yX7_board yX7_board, Cond.code yX7_board cX7_board 3 (some .int), Cond.methodLink RL 61 yX6_shots, Cond.instanceMethod yX6_shots, Cond.selects RX6 yX6_shots yX6_shots, Cond.code yX6_shots cX6_shots 2 (some .int), Cond.fieldLink RX6 143 "BentPins$Table" "points" "I", Cond.methodLink RX6 146 yX6_shootAsThePadTells, Cond.instanceMethod yX6_shootAsThePadTells, Cond.selects RX6 yX6_shootAsThePadTells yX6_shootAsThePadTells, Cond.code yX6_shootAsThePadTells cX6_shootAsThePadTells 5 none, Cond.methodLink RX6 259 yX1_isPlace, Cond.methodLink RX6 262 yX6_noteStop, Cond.instanceMethod yX6_noteStop, Cond.selects RX6 yX6_noteStop yX6_noteStop, Cond.code yX6_noteStop cX6_noteStop 4 none, Cond.methodLink RL 64 yX7_shots]
def wsL_law_r22 : List Cond := [Cond.instanceMethod yX7_shots, Cond.selects RX7 yX7_shots yX7_shots, Cond.code yX7_shots cX7_shots 5 (some .int), Cond.fieldLink RX7 144 "BentPinsModel" "isStopped" "Z", Cond.methodLink RL 65 yX6_why, Cond.instanceMethod yX6_why, Cond.selects RX6 yX6_why yX6_why, Cond.code yX6_why cX6_why 2 (some .int), Cond.methodLink RL 68 yX7_why, Cond.instanceMethod yX7_why, Cond.selects RX7 yX7_why yX7_why, Cond.code yX7_why cX7_why 2 (some .int), Cond.methodLink RL 69 yX6_sign, Cond.instanceMethod yX6_sign, Cond.selects RX6 yX6_sign yX6_sign, Cond.code yX6_sign cX6_sign 2 (some .int), Cond.methodLink RX6 149 yX2_signOf, Cond.instanceMethod yX2_signOf, Cond.selects RX2 yX2_signOf yX2_signOf, Cond.code yX2_signOf cX2_signOf 3 (some .int), Cond.methodLink RL 72 yX7_sign, Cond.instanceMethod yX7_sign, Cond.selects RX7 yX7_sign yX7_sign, Cond.code yX7_sign cX7_sign 3 (some .int)]
def wsL_law_r23 : List Cond := [Cond.methodLink RL 73 yX6_pin, Cond.instanceMethod yX6_pin, Cond.selects RX6 yX6_pin yX6_pin, Cond.code yX6_pin cX6_pin 4 (some .int), Cond.fieldLink RX6 156 "BentPins$Pins" "bends" "LBentPins$Row;", Cond.fieldLink RX6 159 "BentPins$Pins" "bells" "LBentPins$Row;", Cond.fieldLink RX6 162 "BentPins$Pins" "sides" "LBentPins$Row;", Cond.fieldLink RX6 165 "BentPins$Pins" "visits" "LBentPins$Row;", Cond.methodLink RX6 152 yX2_isOut, Cond.methodLink RX6 168 yX3_isOpenTo, Cond.instanceMethod yX3_isOpenTo, Cond.selects RX3 yX3_isOpenTo yX3_isOpenTo, Cond.code yX3_isOpenTo cX3_isOpenTo 3 (some .boolean), Cond.methodLink RX3 23 yX3_placesInRow, Cond.instanceMethod yX3_placesInRow, Cond.selects RX3 yX3_placesInRow yX3_placesInRow, Cond.code yX3_placesInRow cX3_placesInRow 5 (some .int), Cond.methodLink RX3 38 yX3_placesBelow, Cond.instanceMethod yX3_placesBelow, Cond.selects RX3 yX3_placesBelow yX3_placesBelow, Cond.code yX3_placesBelow cX3_placesBelow 6 (some .int), Cond.static yX6_isIn, Cond.code yX6_isIn cX6_isIn 2 (some .boolean), Cond.methodLink RX6 236 yX6_bit]
def wsL_law_r24 : List Cond := [Cond.static yX6_bit, Cond.code yX6_bit cX6_bit 1 (some .int), Cond.methodLink RX3 46 yX2_nextPlaces, Cond.instanceMethod yX2_nextPlaces, Cond.selects RX2 yX2_nextPlaces yX2_nextPlaces, Cond.code yX2_nextPlaces cX2_nextPlaces 4 (some .int), Cond.methodLink RL 76 yX7_pin, Cond.instanceMethod yX7_pin, Cond.selects RX7 yX7_pin yX7_pin, Cond.code yX7_pin cX7_pin 4 (some .int), Cond.methodLink RX7 150 yX7_comesTo, Cond.instanceMethod yX7_comesTo, Cond.selects RX7 yX7_comesTo yX7_comesTo, Cond.code yX7_comesTo cX7_comesTo 7 (some .int), Cond.methodLink RX7 147 yX7_nextOf, Cond.instanceMethod yX7_nextOf, Cond.selects RX7 yX7_nextOf yX7_nextOf, Cond.code yX7_nextOf cX7_nextOf 4 (some .int), Cond.methodLink RL 77 yX6_pocket, Cond.instanceMethod yX6_pocket, Cond.selects RX6 yX6_pocket yX6_pocket, Cond.code yX6_pocket cX6_pocket 3 (some .int), Cond.fieldLink RX6 172 "BentPins$Table" "held" "LBentPins$Row;", Cond.fieldLink RX6 178 "BentPins$Table" "ended" "LBentPins$Row;"]
def wsL_law_r25 : List Cond := [Cond.methodLink RX6 175 yX5_isFull, Cond.methodLink RX6 181 yX3_startsTo, Cond.instanceMethod yX3_startsTo, Cond.selects RX3 yX3_startsTo yX3_startsTo, Cond.code yX3_startsTo cX3_startsTo 5 (some .int), Cond.methodLink RX3 51 yX3_placesAbove, Cond.instanceMethod yX3_placesAbove, Cond.selects RX3 yX3_placesAbove yX3_placesAbove, Cond.code yX3_placesAbove cX3_placesAbove 6 (some .int), Cond.methodLink RX6 185 yJ6_bitCount_0f7a4, Cond.static yJ6_bitCount_0f7a4, Cond.initialized RJ6, Cond.code yJ6_bitCount_0f7a4 cJ6_bitCount_0f7a4 1 (some .int), Cond.constant RJ6 265 (1431655765), Cond.constant RJ6 266 (858993459), Cond.constant RJ6 267 (252645135), Cond.methodLink RL 80 yX7_pocket, Cond.instanceMethod yX7_pocket, Cond.selects RX7 yX7_pocket yX7_pocket, Cond.code yX7_pocket cX7_pocket 3 (some .int), Cond.methodLink RX7 153 yX7_startsOf, Cond.instanceMethod yX7_startsOf, Cond.selects RX7 yX7_startsOf yX7_startsOf, Cond.code yX7_startsOf cX7_startsOf 4 (some .int)]
def wsL_law_r26 : List Cond := [Cond.methodLink RL 81 yX6_reach, Cond.instanceMethod yX6_reach, Cond.selects RX6 yX6_reach yX6_reach, Cond.code yX6_reach cX6_reach 2 (some .int), Cond.methodLink RX6 190 yX3_pocketsForward, Cond.instanceMethod yX3_pocketsForward, Cond.selects RX3 yX3_pocketsForward yX3_pocketsForward, Cond.code yX3_pocketsForward cX3_pocketsForward 2 (some .int), Cond.methodLink RX6 194 yX3_pocketsBackward, Cond.instanceMethod yX3_pocketsBackward, Cond.selects RX3 yX3_pocketsBackward yX3_pocketsBackward, Cond.code yX3_pocketsBackward cX3_pocketsBackward 4 (some .int), Cond.methodLink RX3 27 yX3_startsTo, Cond.methodLink RL 84 yX7_reach, Cond.instanceMethod yX7_reach, Cond.selects RX7 yX7_reach yX7_reach, Cond.code yX7_reach cX7_reach 2 (some .int), Cond.methodLink RX7 156 yX7_reached, Cond.instanceMethod yX7_reached, Cond.selects RX7 yX7_reached yX7_reached, Cond.code yX7_reached cX7_reached 1 (some .int), Cond.methodLink RL 85 yX6_ways, Cond.instanceMethod yX6_ways, Cond.selects RX6 yX6_ways yX6_ways]
def wsL_law_r27 : List Cond := [Cond.code yX6_ways cX6_ways 3 (some .int), Cond.methodLink RX6 197 yX3_waysRowByRow, Cond.instanceMethod yX3_waysRowByRow, Cond.selects RX3 yX3_waysRowByRow yX3_waysRowByRow, Cond.code yX3_waysRowByRow cX3_waysRowByRow 5 (some .int), Cond.methodLink RX3 54 yX4_fillWith, Cond.methodLink RX3 57 yX4_at, Cond.methodLink RX3 60 yX3_passWaysOn, Cond.instanceMethod yX3_passWaysOn, Cond.selects RX3 yX3_passWaysOn yX3_passWaysOn, Cond.code yX3_passWaysOn cX3_passWaysOn 4 none, Cond.methodLink RX3 68 yX4_raise, Cond.methodLink RX3 64 yX4_copyFrom, Cond.methodLink RX6 200 yX6_waysFromAllPlaces, Cond.static yX6_waysFromAllPlaces, Cond.code yX6_waysFromAllPlaces cX6_waysFromAllPlaces 4 (some .int), Cond.methodLink RX6 266 yX6_waysFrom, Cond.static yX6_waysFrom, Cond.code yX6_waysFrom cX6_waysFrom 7 (some .int), Cond.methodLink RX6 270 yX6_pinAt, Cond.methodLink RX6 273 yX2_nextPlaces, Cond.methodLink RX6 276 yX6_isIn, Cond.methodLink RL 88 yX7_ways, Cond.instanceMethod yX7_ways]
def wsL_law_r28 : List Cond := [Cond.selects RX7 yX7_ways yX7_ways, Cond.code yX7_ways cX7_ways 3 (some .int), Cond.methodLink RX7 163 yX7_waysTo, Cond.instanceMethod yX7_waysTo, Cond.selects RX7 yX7_waysTo yX7_waysTo, Cond.code yX7_waysTo cX7_waysTo 3 (some .int), Cond.methodLink RX7 159 yX7_spreads, Cond.instanceMethod yX7_spreads, Cond.selects RX7 yX7_spreads yX7_spreads, Cond.code yX7_spreads cX7_spreads 6 none, Cond.methodLink RL 89 yX6_count, Cond.instanceMethod yX6_count, Cond.selects RX6 yX6_count yX6_count, Cond.code yX6_count cX6_count 2 (some .int), Cond.fieldLink RX6 206 "BentPins$Table" "lost" "I", Cond.methodLink RX6 203 yX4_total, Cond.methodLink RX6 209 yX2_straightOnes, Cond.instanceMethod yX2_straightOnes, Cond.selects RX2 yX2_straightOnes yX2_straightOnes, Cond.code yX2_straightOnes cX2_straightOnes 3 (some .int), Cond.methodLink RX6 212 yX2_bendsTogether, Cond.instanceMethod yX2_bendsTogether, Cond.selects RX2 yX2_bendsTogether yX2_bendsTogether, Cond.code yX2_bendsTogether cX2_bendsTogether 3 (some .int)]
def wsL_law_r29 : List Cond := [Cond.methodLink RX2 61 Lib.Math.abs.name, Cond.static Lib.Math.abs.name, Cond.code Lib.Math.abs.name Lib.Math.abs.code 1 (some .int), Cond.methodLink RX6 215 yX5_fullPockets, Cond.instanceMethod yX5_fullPockets, Cond.selects RX5 yX5_fullPockets yX5_fullPockets, Cond.code yX5_fullPockets cX5_fullPockets 3 (some .int), Cond.methodLink RX6 218 yX6_countSoFar, Cond.instanceMethod yX6_countSoFar, Cond.selects RX6 yX6_countSoFar yX6_countSoFar, Cond.code yX6_countSoFar cX6_countSoFar 2 (some .int), Cond.fieldLink RX6 221 "BentPins$Table" "shots" "I", Cond.fieldLink RX6 247 "BentPins$Table" "hardShots" "I", Cond.fieldLink RX6 250 "BentPins$Pins" "rings" "I", Cond.fieldLink RX6 253 "BentPins$Pins" "bendsByBalls" "I", Cond.fieldLink RX6 256 "BentPins$Table" "refusals" "I", Cond.fieldLink RX6 230 "BentPins$History" "size" "I", Cond.methodLink RL 92 yX7_count, Cond.instanceMethod yX7_count, Cond.selects RX7 yX7_count yX7_count, Cond.code yX7_count cX7_count 2 (some .int), Cond.methodLink RX7 166 yX7_inPockets, Cond.instanceMethod yX7_inPockets, Cond.selects RX7 yX7_inPockets yX7_inPockets]
def wsL_law_r30 : List Cond := [Cond.code yX7_inPockets cX7_inPockets 3 (some .int), Cond.methodLink RX7 169 yX7_straightOnes, Cond.instanceMethod yX7_straightOnes, Cond.selects RX7 yX7_straightOnes yX7_straightOnes, Cond.code yX7_straightOnes cX7_straightOnes 3 (some .int), Cond.methodLink RX7 172 yX7_allBends, Cond.instanceMethod yX7_allBends, Cond.selects RX7 yX7_allBends yX7_allBends, Cond.code yX7_allBends cX7_allBends 4 (some .int), Cond.methodLink RX7 175 yX7_fullOnes, Cond.instanceMethod yX7_fullOnes, Cond.selects RX7 yX7_fullOnes yX7_fullOnes, Cond.code yX7_fullOnes cX7_fullOnes 3 (some .int), Cond.methodLink RX7 178 yX7_ones, Cond.static yX7_ones, Cond.code yX7_ones cX7_ones 3 (some .int), Cond.methodLink RL 93 yX6_mean, Cond.instanceMethod yX6_mean, Cond.selects RX6 yX6_mean yX6_mean, Cond.code yX6_mean cX6_mean 1 (some .double), Cond.methodLink RL 97 yX7_mean, Cond.instanceMethod yX7_mean, Cond.selects RX7 yX7_mean yX7_mean, Cond.code yX7_mean cX7_mean 1 (some .double)]
def wsL_law_r31 : List Cond := [Cond.methodLink RL 98 yX6_ends, Cond.instanceMethod yX6_ends, Cond.selects RX6 yX6_ends yX6_ends, Cond.code yX6_ends cX6_ends 2 (some .int), Cond.methodLink RX6 224 yX2_endFrom, Cond.instanceMethod yX2_endFrom, Cond.selects RX2 yX2_endFrom yX2_endFrom, Cond.code yX2_endFrom cX2_endFrom 4 (some .int), Cond.methodLink RL 101 yX7_ends, Cond.instanceMethod yX7_ends, Cond.selects RX7 yX7_ends yX7_ends, Cond.code yX7_ends cX7_ends 3 (some .int), Cond.methodLink RL 102 yX6_ifShot, Cond.instanceMethod yX6_ifShot, Cond.selects RX6 yX6_ifShot yX6_ifShot, Cond.code yX6_ifShot cX6_ifShot 6 (some .int), Cond.methodLink RX6 227 yX5_copyFrom, Cond.methodLink RL 106 yX7_ifShot, Cond.instanceMethod yX7_ifShot, Cond.selects RX7 yX7_ifShot yX7_ifShot, Cond.code yX7_ifShot cX7_ifShot 5 (some .int), Cond.methodLink RX7 181 yX7_tries, Cond.instanceMethod yX7_tries, Cond.selects RX7 yX7_tries yX7_tries]
def wsL_law_r32 : List Cond := [Cond.code yX7_tries cX7_tries 7 (some .int), Cond.methodLink RL 107 yX6_best, Cond.instanceMethod yX6_best, Cond.selects RX6 yX6_best yX6_best, Cond.code yX6_best cX6_best 8 (some .int), Cond.methodLink RL 111 yX7_best, Cond.instanceMethod yX7_best, Cond.selects RX7 yX7_best yX7_best, Cond.code yX7_best cX7_best 6 (some .int), Cond.methodLink RL 112 yX6_undo, Cond.instanceMethod yX6_undo, Cond.selects RX6 yX6_undo yX6_undo, Cond.code yX6_undo cX6_undo 1 (some .int), Cond.methodLink RX6 233 yX0_takeBack, Cond.instanceMethod yX0_takeBack, Cond.selects RX0 yX0_takeBack yX0_takeBack, Cond.code yX0_takeBack cX0_takeBack 3 none, Cond.methodLink RL 115 yX7_undo, Cond.instanceMethod yX7_undo, Cond.selects RX7 yX7_undo yX7_undo, Cond.code yX7_undo cX7_undo 1 (some .int), Cond.methodLink RL 116 yX6_save, Cond.instanceMethod yX6_save, Cond.selects RX6 yX6_save yX6_save]
def wsL_law_r33 : List Cond := [Cond.code yX6_save cX6_save 1 (some .int), Cond.methodLink RL 119 yX7_save, Cond.instanceMethod yX7_save, Cond.selects RX7 yX7_save yX7_save, Cond.code yX7_save cX7_save 1 (some .int), Cond.fieldLink RX7 185 "BentPinsModel" "isKept" "Z", Cond.methodLink RL 120 yX6_restore, Cond.instanceMethod yX6_restore, Cond.selects RX6 yX6_restore yX6_restore, Cond.code yX6_restore cX6_restore 1 (some .int), Cond.methodLink RL 123 yX7_restore, Cond.instanceMethod yX7_restore, Cond.selects RX7 yX7_restore yX7_restore, Cond.code yX7_restore cX7_restore 1 (some .int)]
def wsL_law : List Cond := (wsL_law_r1 ++ (wsL_law_r2 ++ (wsL_law_r3 ++ (wsL_law_r4 ++ (wsL_law_r5 ++ (wsL_law_r6 ++ (wsL_law_r7 ++ (wsL_law_r8 ++ (wsL_law_r9 ++ (wsL_law_r10 ++ (wsL_law_r11 ++ (wsL_law_r12 ++ (wsL_law_r13 ++ (wsL_law_r14 ++ (wsL_law_r15 ++ (wsL_law_r16 ++ (wsL_law_r17 ++ (wsL_law_r18 ++ (wsL_law_r19 ++ (wsL_law_r20 ++ (wsL_law_r21 ++ (wsL_law_r22 ++ (wsL_law_r23 ++ (wsL_law_r24 ++ (wsL_law_r25 ++ (wsL_law_r26 ++ (wsL_law_r27 ++ (wsL_law_r28 ++ (wsL_law_r29 ++ (wsL_law_r30 ++ (wsL_law_r31 ++ (wsL_law_r32 ++ wsL_law_r33)))))))))))))))))))))))))))))))) ++ wsX60 ++ wsX70 ++ wsX50 ++ wsX00 ++ wsX30 ++ wsX10 ++ wsX20 ++ wsX40 ++ ([] : List Cond)
set_option maxRecDepth 20000 in
theorem wsL_law_in : ∀ w ∈ wsL_law, w ∈ lw_tbl := fun w h => (goodIn_p wsL_law [60, 63, 68, 84, 74, 80, 130, 180, 197, 212, 653, 258, 261, 265, 269, 273, 277, 281, 285, 288, 296, 300, 303, 307, 311, 315, 319, 323, 327, 332, 337, 340, 346, 351, 710, 713, 716, 720, 723, 727, 731, 735, 739, 743, 747, 751, 754, 758, 762, 766, 356, 360, 770, 773, 367, 371, 375, 379, 777, 781, 383, 387, 391, 785, 789, 395, 793, 401, 797, 405, 409, 414, 417, 801, 805, 421, 425, 809, 430, 434, 813, 438, 442, 446, 450, 454, 457, 460, 817, 821, 825, 828, 832, 836, 840, 465, 470, 474, 844, 479, 483, 488, 848, 492, 852, 496, 500, 856, 504, 509, 513, 517, 520, 523, 528, 860, 864, 868, 533, 538, 543, 546, 872, 876, 553, 557, 561, 880, 884, 566, 570, 576, 581, 584, 888, 892, 896, 591, 596, 600, 603, 607, 611, 900, 904, 908, 912, 916, 919, 615, 923, 619, 623, 927, 627, 931, 935, 632, 939, 636, 640, 943, 644, 947, 648, 951] (by decide +kernel) (by decide +kernel) w h).1
theorem inlX0 : ∀ w ∈ wsX00, w ∈ wsL_law := fun _ h => List.mem_append_left _ (List.mem_append_left _ (List.mem_append_left _ (List.mem_append_left _ (List.mem_append_left _ (List.mem_append_right _ h)))))
theorem inX0 : ∀ w ∈ wsX00, w ∈ lw_tbl := fun w h => wsL_law_in w (inlX0 w h)
theorem inlX1 : ∀ w ∈ wsX10, w ∈ wsL_law := fun _ h => List.mem_append_left _ (List.mem_append_left _ (List.mem_append_left _ (List.mem_append_right _ h)))
theorem inX1 : ∀ w ∈ wsX10, w ∈ lw_tbl := fun w h => wsL_law_in w (inlX1 w h)
theorem inlX2 : ∀ w ∈ wsX20, w ∈ wsL_law := fun _ h => List.mem_append_left _ (List.mem_append_left _ (List.mem_append_right _ h))
theorem inX2 : ∀ w ∈ wsX20, w ∈ lw_tbl := fun w h => wsL_law_in w (inlX2 w h)
theorem inlX3 : ∀ w ∈ wsX30, w ∈ wsL_law := fun _ h => List.mem_append_left _ (List.mem_append_left _ (List.mem_append_left _ (List.mem_append_left _ (List.mem_append_right _ h))))
theorem inX3 : ∀ w ∈ wsX30, w ∈ lw_tbl := fun w h => wsL_law_in w (inlX3 w h)
theorem inlX4 : ∀ w ∈ wsX40, w ∈ wsL_law := fun _ h => List.mem_append_left _ (List.mem_append_right _ h)
theorem inX4 : ∀ w ∈ wsX40, w ∈ lw_tbl := fun w h => wsL_law_in w (inlX4 w h)
theorem inlX5 : ∀ w ∈ wsX50, w ∈ wsL_law := fun _ h => List.mem_append_left _ (List.mem_append_left _ (List.mem_append_left _ (List.mem_append_left _ (List.mem_append_left _ (List.mem_append_left _ (List.mem_append_right _ h))))))
theorem inX5 : ∀ w ∈ wsX50, w ∈ lw_tbl := fun w h => wsL_law_in w (inlX5 w h)
theorem inlX6 : ∀ w ∈ wsX60, w ∈ wsL_law := fun _ h => List.mem_append_left _ (List.mem_append_left _ (List.mem_append_left _ (List.mem_append_left _ (List.mem_append_left _ (List.mem_append_left _ (List.mem_append_left _ (List.mem_append_left _ (List.mem_append_right _ h))))))))
theorem inX6 : ∀ w ∈ wsX60, w ∈ lw_tbl := fun w h => wsL_law_in w (inlX6 w h)
theorem inlX7 : ∀ w ∈ wsX70, w ∈ wsL_law := fun _ h => List.mem_append_left _ (List.mem_append_left _ (List.mem_append_left _ (List.mem_append_left _ (List.mem_append_left _ (List.mem_append_left _ (List.mem_append_left _ (List.mem_append_right _ h)))))))
theorem inX7 : ∀ w ∈ wsX70, w ∈ lw_tbl := fun w h => wsL_law_in w (inlX7 w h)
theorem inJ6 : ∀ w ∈ wsJ60, w ∈ lw_tbl := by decide +kernel
theorem inJ9 : ∀ w ∈ wsJ90, w ∈ lw_tbl := by decide +kernel
theorem inJ10 : ∀ w ∈ wsJ100, w ∈ lw_tbl := by decide +kernel
theorem inJ7 : ∀ w ∈ wsJ70, w ∈ lw_tbl := by decide +kernel
set_option maxRecDepth 20000 in
theorem ggX0_init_X5_init : GoodIn wsX0_init wsX5_init := goodIn_r _ [11, 12, 2, 3, 13, 14, 15, 16, 17, 18, 19, 20, 21, 22, 23, 24, 25, 26, 27, 28, 29, 30, 31, 32, 33, 34, 35, 36, 37, 38, 39, 40, 41, 42, 43, 44, 45, 46, 47, 48, 49, 50, 51, 52, 53, 54, 55, 56, 57, 71, 72, 73, 74, 75, 76, 77, 78, 60, 61, 62, 63, 64, 65, 66, 67, 68, 69, 70, 79] (by decide +kernel) (by decide +kernel)
set_option maxRecDepth 20000 in
theorem gX0_init_X5_init : GoodIn wsX0_init (wsX5_init) := ggX0_init_X5_init
theorem dX0_init_0 : decode cX0_init 0 = .ok (.aload_n 0, 1) := by decide +kernel
theorem dX0_init_1 : decode cX0_init 1 = .ok (.invokespecial 3, 3) := by decide +kernel
theorem dX0_init_4 : decode cX0_init 4 = .ok (.aload_n 0, 1) := by decide +kernel
theorem dX0_init_5 : decode cX0_init 5 = .ok (.iconst 4, 1) := by decide +kernel
theorem dX0_init_6 : decode cX0_init 6 = .ok (.anewarray 9, 3) := by decide +kernel
theorem dX0_init_9 : decode cX0_init 9 = .ok (.putfield 11, 3) := by decide +kernel
theorem dX0_init_12 : decode cX0_init 12 = .ok (.aload_n 0, 1) := by decide +kernel
theorem dX0_init_13 : decode cX0_init 13 = .ok (.iconst 0, 1) := by decide +kernel
theorem dX0_init_14 : decode cX0_init 14 = .ok (.putfield 17, 3) := by decide +kernel
theorem dX0_init_17 : decode cX0_init 17 = .ok (.iconst 0, 1) := by decide +kernel
theorem dX0_init_18 : decode cX0_init 18 = .ok (.istore_n 1, 1) := by decide +kernel
theorem dX0_init_19 : decode cX0_init 19 = .ok (.iload_n 1, 1) := by decide +kernel
theorem dX0_init_20 : decode cX0_init 20 = .ok (.aload_n 0, 1) := by decide +kernel
theorem dX0_init_21 : decode cX0_init 21 = .ok (.getfield 11, 3) := by decide +kernel
theorem dX0_init_24 : decode cX0_init 24 = .ok (.arraylength, 1) := by decide +kernel
theorem dX0_init_25 : decode cX0_init 25 = .ok (.if_icmp .ge 22, 3) := by decide +kernel
theorem dX0_init_28 : decode cX0_init 28 = .ok (.aload_n 0, 1) := by decide +kernel
theorem dX0_init_29 : decode cX0_init 29 = .ok (.getfield 11, 3) := by decide +kernel
theorem dX0_init_32 : decode cX0_init 32 = .ok (.iload_n 1, 1) := by decide +kernel
theorem dX0_init_33 : decode cX0_init 33 = .ok (.new 9, 3) := by decide +kernel
theorem dX0_init_36 : decode cX0_init 36 = .ok (.dup, 1) := by decide +kernel
theorem dX0_init_37 : decode cX0_init 37 = .ok (.invokespecial 21, 3) := by decide +kernel
theorem dX0_init_40 : decode cX0_init 40 = .ok (.aastore, 1) := by decide +kernel
theorem dX0_init_41 : decode cX0_init 41 = .ok (.iinc 1 1, 3) := by decide +kernel
theorem dX0_init_44 : decode cX0_init 44 = .ok (.goto (-25), 3) := by decide +kernel
theorem dX0_init_47 : decode cX0_init 47 = .ok (.return_, 1) := by decide +kernel
set_option maxRecDepth 20000 in
theorem ggX0_record_X0_dropOldest : GoodIn wsX0_record wsX0_dropOldest := goodIn_r _ [7, 2, 1, 56, 57] (by decide +kernel) (by decide +kernel)
set_option maxRecDepth 20000 in
theorem gX0_record_X0_dropOldest : GoodIn wsX0_record (wsV RX0 22 RX0 yX0_dropOldest wsX0_dropOldest) := goodIn_app (goodIn_of _ (by decide +kernel)) ggX0_record_X0_dropOldest
set_option maxRecDepth 20000 in
theorem ggX0_record_X0_stateAt : GoodIn wsX0_record wsX0_stateAt := goodIn_r _ [11, 2, 56, 57] (by decide +kernel) (by decide +kernel)
set_option maxRecDepth 20000 in
theorem gX0_record_X0_stateAt : GoodIn wsX0_record (wsV RX0 25 RX0 yX0_stateAt wsX0_stateAt) := goodIn_app (goodIn_of _ (by decide +kernel)) ggX0_record_X0_stateAt
set_option maxRecDepth 20000 in
theorem ggX0_record_X5_copyFrom : GoodIn wsX0_record wsX5_copyFrom := goodIn_r _ [16, 17, 18, 19, 20, 21, 22, 23, 24, 25, 26, 27, 28, 29, 30, 31, 32, 33, 34, 35, 36, 37, 38, 39, 40, 41, 42, 43, 44, 45, 46, 47, 48, 49, 50, 51, 52, 53, 54, 55, 58, 59, 60, 61, 62, 63, 64, 65, 66, 67, 68, 69, 70, 71, 72, 73, 74, 75, 76, 77] (by decide +kernel) (by decide +kernel)
set_option maxRecDepth 20000 in
theorem gX0_record_X5_copyFrom : GoodIn wsX0_record (wsV RX0 29 RX5 yX5_copyFrom wsX5_copyFrom) := goodIn_app (goodIn_of _ (by decide +kernel)) ggX0_record_X5_copyFrom
theorem dX0_record_0 : decode cX0_record 0 = .ok (.aload_n 0, 1) := by decide +kernel
theorem dX0_record_1 : decode cX0_record 1 = .ok (.getfield 17, 3) := by decide +kernel
theorem dX0_record_4 : decode cX0_record 4 = .ok (.aload_n 0, 1) := by decide +kernel
theorem dX0_record_5 : decode cX0_record 5 = .ok (.getfield 11, 3) := by decide +kernel
theorem dX0_record_8 : decode cX0_record 8 = .ok (.arraylength, 1) := by decide +kernel
theorem dX0_record_9 : decode cX0_record 9 = .ok (.if_icmp .lt 7, 3) := by decide +kernel
theorem dX0_record_12 : decode cX0_record 12 = .ok (.aload_n 0, 1) := by decide +kernel
theorem dX0_record_13 : decode cX0_record 13 = .ok (.invokevirtual 22, 3) := by decide +kernel
theorem dX0_record_16 : decode cX0_record 16 = .ok (.aload_n 0, 1) := by decide +kernel
theorem dX0_record_17 : decode cX0_record 17 = .ok (.aload_n 0, 1) := by decide +kernel
theorem dX0_record_18 : decode cX0_record 18 = .ok (.getfield 17, 3) := by decide +kernel
theorem dX0_record_21 : decode cX0_record 21 = .ok (.invokevirtual 25, 3) := by decide +kernel
theorem dX0_record_24 : decode cX0_record 24 = .ok (.astore_n 2, 1) := by decide +kernel
theorem dX0_record_25 : decode cX0_record 25 = .ok (.aload_n 2, 1) := by decide +kernel
theorem dX0_record_26 : decode cX0_record 26 = .ok (.ifnull 18, 3) := by decide +kernel
theorem dX0_record_29 : decode cX0_record 29 = .ok (.aload_n 2, 1) := by decide +kernel
theorem dX0_record_30 : decode cX0_record 30 = .ok (.aload_n 1, 1) := by decide +kernel
theorem dX0_record_31 : decode cX0_record 31 = .ok (.invokevirtual 29, 3) := by decide +kernel
theorem dX0_record_34 : decode cX0_record 34 = .ok (.aload_n 0, 1) := by decide +kernel
theorem dX0_record_35 : decode cX0_record 35 = .ok (.dup, 1) := by decide +kernel
theorem dX0_record_36 : decode cX0_record 36 = .ok (.getfield 17, 3) := by decide +kernel
theorem dX0_record_39 : decode cX0_record 39 = .ok (.iconst 1, 1) := by decide +kernel
theorem dX0_record_40 : decode cX0_record 40 = .ok (.iadd, 1) := by decide +kernel
theorem dX0_record_41 : decode cX0_record 41 = .ok (.putfield 17, 3) := by decide +kernel
theorem dX0_record_44 : decode cX0_record 44 = .ok (.return_, 1) := by decide +kernel
set_option maxRecDepth 20000 in
theorem ggX0_takeBack_X0_stateAt : GoodIn wsX0_takeBack wsX0_stateAt := goodIn_r _ [6, 7, 52, 53] (by decide +kernel) (by decide +kernel)
set_option maxRecDepth 20000 in
theorem gX0_takeBack_X0_stateAt : GoodIn wsX0_takeBack (wsV RX0 25 RX0 yX0_stateAt wsX0_stateAt) := goodIn_app (goodIn_of _ (by decide +kernel)) ggX0_takeBack_X0_stateAt
set_option maxRecDepth 20000 in
theorem ggX0_takeBack_X5_copyFrom : GoodIn wsX0_takeBack wsX5_copyFrom := goodIn_r _ [12, 13, 14, 15, 16, 17, 18, 19, 20, 21, 22, 23, 24, 25, 26, 27, 28, 29, 30, 31, 32, 33, 34, 35, 36, 37, 38, 39, 40, 41, 42, 43, 44, 45, 46, 47, 48, 49, 50, 51, 54, 55, 56, 57, 58, 59, 60, 61, 62, 63, 64, 65, 66, 67, 68, 69, 70, 71, 72, 73] (by decide +kernel) (by decide +kernel)
set_option maxRecDepth 20000 in
theorem gX0_takeBack_X5_copyFrom : GoodIn wsX0_takeBack (wsV RX0 29 RX5 yX5_copyFrom wsX5_copyFrom) := goodIn_app (goodIn_of _ (by decide +kernel)) ggX0_takeBack_X5_copyFrom
theorem dX0_takeBack_0 : decode cX0_takeBack 0 = .ok (.aload_n 0, 1) := by decide +kernel
theorem dX0_takeBack_1 : decode cX0_takeBack 1 = .ok (.aload_n 0, 1) := by decide +kernel
theorem dX0_takeBack_2 : decode cX0_takeBack 2 = .ok (.getfield 17, 3) := by decide +kernel
theorem dX0_takeBack_5 : decode cX0_takeBack 5 = .ok (.iconst 1, 1) := by decide +kernel
theorem dX0_takeBack_6 : decode cX0_takeBack 6 = .ok (.isub, 1) := by decide +kernel
theorem dX0_takeBack_7 : decode cX0_takeBack 7 = .ok (.invokevirtual 25, 3) := by decide +kernel
theorem dX0_takeBack_10 : decode cX0_takeBack 10 = .ok (.astore_n 2, 1) := by decide +kernel
theorem dX0_takeBack_11 : decode cX0_takeBack 11 = .ok (.aload_n 2, 1) := by decide +kernel
theorem dX0_takeBack_12 : decode cX0_takeBack 12 = .ok (.ifnull 18, 3) := by decide +kernel
theorem dX0_takeBack_15 : decode cX0_takeBack 15 = .ok (.aload_n 1, 1) := by decide +kernel
theorem dX0_takeBack_16 : decode cX0_takeBack 16 = .ok (.aload_n 2, 1) := by decide +kernel
theorem dX0_takeBack_17 : decode cX0_takeBack 17 = .ok (.invokevirtual 29, 3) := by decide +kernel
theorem dX0_takeBack_20 : decode cX0_takeBack 20 = .ok (.aload_n 0, 1) := by decide +kernel
theorem dX0_takeBack_21 : decode cX0_takeBack 21 = .ok (.dup, 1) := by decide +kernel
theorem dX0_takeBack_22 : decode cX0_takeBack 22 = .ok (.getfield 17, 3) := by decide +kernel
theorem dX0_takeBack_25 : decode cX0_takeBack 25 = .ok (.iconst 1, 1) := by decide +kernel
theorem dX0_takeBack_26 : decode cX0_takeBack 26 = .ok (.isub, 1) := by decide +kernel
theorem dX0_takeBack_27 : decode cX0_takeBack 27 = .ok (.putfield 17, 3) := by decide +kernel
theorem dX0_takeBack_30 : decode cX0_takeBack 30 = .ok (.return_, 1) := by decide +kernel
theorem dX0_stateAt_0 : decode cX0_stateAt 0 = .ok (.iload_n 1, 1) := by decide +kernel
theorem dX0_stateAt_1 : decode cX0_stateAt 1 = .ok (.ifCond .lt 21, 3) := by decide +kernel
theorem dX0_stateAt_4 : decode cX0_stateAt 4 = .ok (.iload_n 1, 1) := by decide +kernel
theorem dX0_stateAt_5 : decode cX0_stateAt 5 = .ok (.aload_n 0, 1) := by decide +kernel
theorem dX0_stateAt_6 : decode cX0_stateAt 6 = .ok (.getfield 11, 3) := by decide +kernel
theorem dX0_stateAt_9 : decode cX0_stateAt 9 = .ok (.arraylength, 1) := by decide +kernel
theorem dX0_stateAt_10 : decode cX0_stateAt 10 = .ok (.if_icmp .ge 12, 3) := by decide +kernel
theorem dX0_stateAt_13 : decode cX0_stateAt 13 = .ok (.aload_n 0, 1) := by decide +kernel
theorem dX0_stateAt_14 : decode cX0_stateAt 14 = .ok (.getfield 11, 3) := by decide +kernel
theorem dX0_stateAt_17 : decode cX0_stateAt 17 = .ok (.iload_n 1, 1) := by decide +kernel
theorem dX0_stateAt_18 : decode cX0_stateAt 18 = .ok (.aaload, 1) := by decide +kernel
theorem dX0_stateAt_19 : decode cX0_stateAt 19 = .ok (.goto 4, 3) := by decide +kernel
theorem dX0_stateAt_22 : decode cX0_stateAt 22 = .ok (.aconst_null, 1) := by decide +kernel
theorem dX0_stateAt_23 : decode cX0_stateAt 23 = .ok (.areturn, 1) := by decide +kernel
theorem dX0_dropOldest_0 : decode cX0_dropOldest 0 = .ok (.iconst 1, 1) := by decide +kernel
theorem dX0_dropOldest_1 : decode cX0_dropOldest 1 = .ok (.istore_n 1, 1) := by decide +kernel
theorem dX0_dropOldest_2 : decode cX0_dropOldest 2 = .ok (.iload_n 1, 1) := by decide +kernel
theorem dX0_dropOldest_3 : decode cX0_dropOldest 3 = .ok (.aload_n 0, 1) := by decide +kernel
theorem dX0_dropOldest_4 : decode cX0_dropOldest 4 = .ok (.getfield 11, 3) := by decide +kernel
theorem dX0_dropOldest_7 : decode cX0_dropOldest 7 = .ok (.arraylength, 1) := by decide +kernel
theorem dX0_dropOldest_8 : decode cX0_dropOldest 8 = .ok (.if_icmp .ge 39, 3) := by decide +kernel
theorem dX0_dropOldest_11 : decode cX0_dropOldest 11 = .ok (.aload_n 0, 1) := by decide +kernel
theorem dX0_dropOldest_12 : decode cX0_dropOldest 12 = .ok (.getfield 11, 3) := by decide +kernel
theorem dX0_dropOldest_15 : decode cX0_dropOldest 15 = .ok (.iload_n 1, 1) := by decide +kernel
theorem dX0_dropOldest_16 : decode cX0_dropOldest 16 = .ok (.iconst 1, 1) := by decide +kernel
theorem dX0_dropOldest_17 : decode cX0_dropOldest 17 = .ok (.isub, 1) := by decide +kernel
theorem dX0_dropOldest_18 : decode cX0_dropOldest 18 = .ok (.aaload, 1) := by decide +kernel
theorem dX0_dropOldest_19 : decode cX0_dropOldest 19 = .ok (.astore_n 2, 1) := by decide +kernel
theorem dX0_dropOldest_20 : decode cX0_dropOldest 20 = .ok (.aload_n 0, 1) := by decide +kernel
theorem dX0_dropOldest_21 : decode cX0_dropOldest 21 = .ok (.getfield 11, 3) := by decide +kernel
theorem dX0_dropOldest_24 : decode cX0_dropOldest 24 = .ok (.iload_n 1, 1) := by decide +kernel
theorem dX0_dropOldest_25 : decode cX0_dropOldest 25 = .ok (.iconst 1, 1) := by decide +kernel
theorem dX0_dropOldest_26 : decode cX0_dropOldest 26 = .ok (.isub, 1) := by decide +kernel
theorem dX0_dropOldest_27 : decode cX0_dropOldest 27 = .ok (.aload_n 0, 1) := by decide +kernel
theorem dX0_dropOldest_28 : decode cX0_dropOldest 28 = .ok (.getfield 11, 3) := by decide +kernel
theorem dX0_dropOldest_31 : decode cX0_dropOldest 31 = .ok (.iload_n 1, 1) := by decide +kernel
theorem dX0_dropOldest_32 : decode cX0_dropOldest 32 = .ok (.aaload, 1) := by decide +kernel
theorem dX0_dropOldest_33 : decode cX0_dropOldest 33 = .ok (.aastore, 1) := by decide +kernel
theorem dX0_dropOldest_34 : decode cX0_dropOldest 34 = .ok (.aload_n 0, 1) := by decide +kernel
theorem dX0_dropOldest_35 : decode cX0_dropOldest 35 = .ok (.getfield 11, 3) := by decide +kernel
theorem dX0_dropOldest_38 : decode cX0_dropOldest 38 = .ok (.iload_n 1, 1) := by decide +kernel
theorem dX0_dropOldest_39 : decode cX0_dropOldest 39 = .ok (.aload_n 2, 1) := by decide +kernel
theorem dX0_dropOldest_40 : decode cX0_dropOldest 40 = .ok (.aastore, 1) := by decide +kernel
theorem dX0_dropOldest_41 : decode cX0_dropOldest 41 = .ok (.iinc 1 1, 3) := by decide +kernel
theorem dX0_dropOldest_44 : decode cX0_dropOldest 44 = .ok (.goto (-42), 3) := by decide +kernel
theorem dX0_dropOldest_47 : decode cX0_dropOldest 47 = .ok (.aload_n 0, 1) := by decide +kernel
theorem dX0_dropOldest_48 : decode cX0_dropOldest 48 = .ok (.dup, 1) := by decide +kernel
theorem dX0_dropOldest_49 : decode cX0_dropOldest 49 = .ok (.getfield 17, 3) := by decide +kernel
theorem dX0_dropOldest_52 : decode cX0_dropOldest 52 = .ok (.iconst 1, 1) := by decide +kernel
theorem dX0_dropOldest_53 : decode cX0_dropOldest 53 = .ok (.isub, 1) := by decide +kernel
theorem dX0_dropOldest_54 : decode cX0_dropOldest 54 = .ok (.putfield 17, 3) := by decide +kernel
theorem dX0_dropOldest_57 : decode cX0_dropOldest 57 = .ok (.return_, 1) := by decide +kernel
set_option maxRecDepth 20000 in
theorem ggX1_init_X4_init : GoodIn wsX1_init wsX4_init := goodIn_r _ [11, 12, 2, 3, 13, 14, 15, 16, 17, 18, 19] (by decide +kernel) (by decide +kernel)
set_option maxRecDepth 20000 in
theorem gX1_init_X4_init : GoodIn wsX1_init (wsX4_init) := ggX1_init_X4_init
theorem dX1_init_0 : decode cX1_init 0 = .ok (.aload_n 0, 1) := by decide +kernel
theorem dX1_init_1 : decode cX1_init 1 = .ok (.invokespecial 3, 3) := by decide +kernel
theorem dX1_init_4 : decode cX1_init 4 = .ok (.aload_n 0, 1) := by decide +kernel
theorem dX1_init_5 : decode cX1_init 5 = .ok (.new 9, 3) := by decide +kernel
theorem dX1_init_8 : decode cX1_init 8 = .ok (.dup, 1) := by decide +kernel
theorem dX1_init_9 : decode cX1_init 9 = .ok (.bipush 60, 2) := by decide +kernel
theorem dX1_init_11 : decode cX1_init 11 = .ok (.invokespecial 11, 3) := by decide +kernel
theorem dX1_init_14 : decode cX1_init 14 = .ok (.putfield 14, 3) := by decide +kernel
theorem dX1_init_17 : decode cX1_init 17 = .ok (.aload_n 0, 1) := by decide +kernel
theorem dX1_init_18 : decode cX1_init 18 = .ok (.iconst 0, 1) := by decide +kernel
theorem dX1_init_19 : decode cX1_init 19 = .ok (.putfield 20, 3) := by decide +kernel
theorem dX1_init_22 : decode cX1_init 22 = .ok (.return_, 1) := by decide +kernel
set_option maxRecDepth 20000 in
theorem ggX1_write_X4_put : GoodIn wsX1_write wsX4_put := goodIn_r _ [7, 8, 11] (by decide +kernel) (by decide +kernel)
set_option maxRecDepth 20000 in
theorem gX1_write_X4_put : GoodIn wsX1_write (wsV RX1 24 RX4 yX4_put wsX4_put) := goodIn_app (goodIn_of _ (by decide +kernel)) ggX1_write_X4_put
theorem dX1_write_0 : decode cX1_write 0 = .ok (.aload_n 0, 1) := by decide +kernel
theorem dX1_write_1 : decode cX1_write 1 = .ok (.getfield 14, 3) := by decide +kernel
theorem dX1_write_4 : decode cX1_write 4 = .ok (.aload_n 0, 1) := by decide +kernel
theorem dX1_write_5 : decode cX1_write 5 = .ok (.getfield 20, 3) := by decide +kernel
theorem dX1_write_8 : decode cX1_write 8 = .ok (.iload_n 1, 1) := by decide +kernel
theorem dX1_write_9 : decode cX1_write 9 = .ok (.invokevirtual 24, 3) := by decide +kernel
theorem dX1_write_12 : decode cX1_write 12 = .ok (.aload_n 0, 1) := by decide +kernel
theorem dX1_write_13 : decode cX1_write 13 = .ok (.dup, 1) := by decide +kernel
theorem dX1_write_14 : decode cX1_write 14 = .ok (.getfield 20, 3) := by decide +kernel
theorem dX1_write_17 : decode cX1_write 17 = .ok (.iconst 1, 1) := by decide +kernel
theorem dX1_write_18 : decode cX1_write 18 = .ok (.iadd, 1) := by decide +kernel
theorem dX1_write_19 : decode cX1_write 19 = .ok (.putfield 20, 3) := by decide +kernel
theorem dX1_write_22 : decode cX1_write 22 = .ok (.return_, 1) := by decide +kernel
theorem dX1_wipe_0 : decode cX1_wipe 0 = .ok (.aload_n 0, 1) := by decide +kernel
theorem dX1_wipe_1 : decode cX1_wipe 1 = .ok (.iconst 0, 1) := by decide +kernel
theorem dX1_wipe_2 : decode cX1_wipe 2 = .ok (.putfield 20, 3) := by decide +kernel
theorem dX1_wipe_5 : decode cX1_wipe 5 = .ok (.return_, 1) := by decide +kernel
set_option maxRecDepth 20000 in
theorem ggX1_codeAt_X4_at : GoodIn wsX1_codeAt wsX4_at := goodIn_r _ [7, 8, 11] (by decide +kernel) (by decide +kernel)
set_option maxRecDepth 20000 in
theorem gX1_codeAt_X4_at : GoodIn wsX1_codeAt (wsV RX1 28 RX4 yX4_at wsX4_at) := goodIn_app (goodIn_of _ (by decide +kernel)) ggX1_codeAt_X4_at
theorem dX1_codeAt_0 : decode cX1_codeAt 0 = .ok (.iload_n 1, 1) := by decide +kernel
theorem dX1_codeAt_1 : decode cX1_codeAt 1 = .ok (.aload_n 0, 1) := by decide +kernel
theorem dX1_codeAt_2 : decode cX1_codeAt 2 = .ok (.getfield 20, 3) := by decide +kernel
theorem dX1_codeAt_5 : decode cX1_codeAt 5 = .ok (.if_icmp .ge 14, 3) := by decide +kernel
theorem dX1_codeAt_8 : decode cX1_codeAt 8 = .ok (.aload_n 0, 1) := by decide +kernel
theorem dX1_codeAt_9 : decode cX1_codeAt 9 = .ok (.getfield 14, 3) := by decide +kernel
theorem dX1_codeAt_12 : decode cX1_codeAt 12 = .ok (.iload_n 1, 1) := by decide +kernel
theorem dX1_codeAt_13 : decode cX1_codeAt 13 = .ok (.invokevirtual 28, 3) := by decide +kernel
theorem dX1_codeAt_16 : decode cX1_codeAt 16 = .ok (.goto 4, 3) := by decide +kernel
theorem dX1_codeAt_19 : decode cX1_codeAt 19 = .ok (.iconst 0, 1) := by decide +kernel
theorem dX1_codeAt_20 : decode cX1_codeAt 20 = .ok (.ireturn, 1) := by decide +kernel
set_option maxRecDepth 20000 in
theorem ggX1_faultAsBoard_X1_codeAt : GoodIn wsX1_faultAsBoard wsX1_codeAt := goodIn_r _ [6, 1, 7, 8, 9, 10, 11, 12, 13, 17, 18, 19] (by decide +kernel) (by decide +kernel)
set_option maxRecDepth 20000 in
theorem gX1_faultAsBoard_X1_codeAt : GoodIn wsX1_faultAsBoard (wsV RX1 32 RX1 yX1_codeAt wsX1_codeAt) := goodIn_app (goodIn_of _ (by decide +kernel)) ggX1_faultAsBoard_X1_codeAt
set_option maxRecDepth 20000 in
theorem ggX1_faultAsBoard_X1_isPinSign : GoodIn wsX1_faultAsBoard wsX1_isPinSign := goodIn_r _ [16] (by decide +kernel) (by decide +kernel)
set_option maxRecDepth 20000 in
theorem gX1_faultAsBoard_X1_isPinSign : GoodIn wsX1_faultAsBoard (va_wsS RX1 35 yX1_isPinSign wsX1_isPinSign) := goodIn_app (goodIn_of _ (by decide +kernel)) ggX1_faultAsBoard_X1_isPinSign
theorem dX1_faultAsBoard_0 : decode cX1_faultAsBoard 0 = .ok (.iconst 0, 1) := by decide +kernel
theorem dX1_faultAsBoard_1 : decode cX1_faultAsBoard 1 = .ok (.istore_n 1, 1) := by decide +kernel
theorem dX1_faultAsBoard_2 : decode cX1_faultAsBoard 2 = .ok (.iload_n 1, 1) := by decide +kernel
theorem dX1_faultAsBoard_3 : decode cX1_faultAsBoard 3 = .ok (.aload_n 0, 1) := by decide +kernel
theorem dX1_faultAsBoard_4 : decode cX1_faultAsBoard 4 = .ok (.getfield 20, 3) := by decide +kernel
theorem dX1_faultAsBoard_7 : decode cX1_faultAsBoard 7 = .ok (.if_icmp .ge 28, 3) := by decide +kernel
theorem dX1_faultAsBoard_10 : decode cX1_faultAsBoard 10 = .ok (.iload_n 1, 1) := by decide +kernel
theorem dX1_faultAsBoard_11 : decode cX1_faultAsBoard 11 = .ok (.bipush 35, 2) := by decide +kernel
theorem dX1_faultAsBoard_13 : decode cX1_faultAsBoard 13 = .ok (.if_icmp .ge 14, 3) := by decide +kernel
theorem dX1_faultAsBoard_16 : decode cX1_faultAsBoard 16 = .ok (.aload_n 0, 1) := by decide +kernel
theorem dX1_faultAsBoard_17 : decode cX1_faultAsBoard 17 = .ok (.iload_n 1, 1) := by decide +kernel
theorem dX1_faultAsBoard_18 : decode cX1_faultAsBoard 18 = .ok (.invokevirtual 32, 3) := by decide +kernel
theorem dX1_faultAsBoard_21 : decode cX1_faultAsBoard 21 = .ok (.invokestatic 35, 3) := by decide +kernel
theorem dX1_faultAsBoard_24 : decode cX1_faultAsBoard 24 = .ok (.ifCond .ne 5, 3) := by decide +kernel
theorem dX1_faultAsBoard_27 : decode cX1_faultAsBoard 27 = .ok (.iload_n 1, 1) := by decide +kernel
theorem dX1_faultAsBoard_28 : decode cX1_faultAsBoard 28 = .ok (.ireturn, 1) := by decide +kernel
theorem dX1_faultAsBoard_29 : decode cX1_faultAsBoard 29 = .ok (.iinc 1 1, 3) := by decide +kernel
theorem dX1_faultAsBoard_32 : decode cX1_faultAsBoard 32 = .ok (.goto (-30), 3) := by decide +kernel
theorem dX1_faultAsBoard_35 : decode cX1_faultAsBoard 35 = .ok (.aload_n 0, 1) := by decide +kernel
theorem dX1_faultAsBoard_36 : decode cX1_faultAsBoard 36 = .ok (.getfield 20, 3) := by decide +kernel
theorem dX1_faultAsBoard_39 : decode cX1_faultAsBoard 39 = .ok (.bipush 35, 2) := by decide +kernel
theorem dX1_faultAsBoard_41 : decode cX1_faultAsBoard 41 = .ok (.if_icmp .ge 10, 3) := by decide +kernel
theorem dX1_faultAsBoard_44 : decode cX1_faultAsBoard 44 = .ok (.aload_n 0, 1) := by decide +kernel
theorem dX1_faultAsBoard_45 : decode cX1_faultAsBoard 45 = .ok (.getfield 20, 3) := by decide +kernel
theorem dX1_faultAsBoard_48 : decode cX1_faultAsBoard 48 = .ok (.goto 5, 3) := by decide +kernel
theorem dX1_faultAsBoard_51 : decode cX1_faultAsBoard 51 = .ok (.bipush (-4), 2) := by decide +kernel
theorem dX1_faultAsBoard_53 : decode cX1_faultAsBoard 53 = .ok (.ireturn, 1) := by decide +kernel
set_option maxRecDepth 20000 in
theorem ggX1_faultAsShots_X1_codeAt : GoodIn wsX1_faultAsShots wsX1_codeAt := goodIn_r _ [6, 1, 7, 8, 9, 10, 11, 12, 13, 23, 24, 25] (by decide +kernel) (by decide +kernel)
set_option maxRecDepth 20000 in
theorem gX1_faultAsShots_X1_codeAt : GoodIn wsX1_faultAsShots (wsV RX1 32 RX1 yX1_codeAt wsX1_codeAt) := goodIn_app (goodIn_of _ (by decide +kernel)) ggX1_faultAsShots_X1_codeAt
set_option maxRecDepth 20000 in
theorem ggX1_faultAsShots_X1_mayFollow : GoodIn wsX1_faultAsShots wsX1_mayFollow := goodIn_r _ [16, 17, 18, 5, 19, 20, 21, 22] (by decide +kernel) (by decide +kernel)
set_option maxRecDepth 20000 in
theorem gX1_faultAsShots_X1_mayFollow : GoodIn wsX1_faultAsShots (va_wsS RX1 39 yX1_mayFollow wsX1_mayFollow) := goodIn_app (goodIn_of _ (by decide +kernel)) ggX1_faultAsShots_X1_mayFollow
theorem dX1_faultAsShots_0 : decode cX1_faultAsShots 0 = .ok (.bipush 44, 2) := by decide +kernel
theorem dX1_faultAsShots_2 : decode cX1_faultAsShots 2 = .ok (.istore_n 1, 1) := by decide +kernel
theorem dX1_faultAsShots_3 : decode cX1_faultAsShots 3 = .ok (.iconst 0, 1) := by decide +kernel
theorem dX1_faultAsShots_4 : decode cX1_faultAsShots 4 = .ok (.istore_n 2, 1) := by decide +kernel
theorem dX1_faultAsShots_5 : decode cX1_faultAsShots 5 = .ok (.iload_n 2, 1) := by decide +kernel
theorem dX1_faultAsShots_6 : decode cX1_faultAsShots 6 = .ok (.aload_n 0, 1) := by decide +kernel
theorem dX1_faultAsShots_7 : decode cX1_faultAsShots 7 = .ok (.getfield 20, 3) := by decide +kernel
theorem dX1_faultAsShots_10 : decode cX1_faultAsShots 10 = .ok (.if_icmp .ge 27, 3) := by decide +kernel
theorem dX1_faultAsShots_13 : decode cX1_faultAsShots 13 = .ok (.aload_n 0, 1) := by decide +kernel
theorem dX1_faultAsShots_14 : decode cX1_faultAsShots 14 = .ok (.iload_n 2, 1) := by decide +kernel
theorem dX1_faultAsShots_15 : decode cX1_faultAsShots 15 = .ok (.invokevirtual 32, 3) := by decide +kernel
theorem dX1_faultAsShots_18 : decode cX1_faultAsShots 18 = .ok (.istore_n 3, 1) := by decide +kernel
theorem dX1_faultAsShots_19 : decode cX1_faultAsShots 19 = .ok (.iload_n 1, 1) := by decide +kernel
theorem dX1_faultAsShots_20 : decode cX1_faultAsShots 20 = .ok (.iload_n 3, 1) := by decide +kernel
theorem dX1_faultAsShots_21 : decode cX1_faultAsShots 21 = .ok (.invokestatic 39, 3) := by decide +kernel
theorem dX1_faultAsShots_24 : decode cX1_faultAsShots 24 = .ok (.ifCond .ne 5, 3) := by decide +kernel
theorem dX1_faultAsShots_27 : decode cX1_faultAsShots 27 = .ok (.iload_n 2, 1) := by decide +kernel
theorem dX1_faultAsShots_28 : decode cX1_faultAsShots 28 = .ok (.ireturn, 1) := by decide +kernel
theorem dX1_faultAsShots_29 : decode cX1_faultAsShots 29 = .ok (.iload_n 3, 1) := by decide +kernel
theorem dX1_faultAsShots_30 : decode cX1_faultAsShots 30 = .ok (.istore_n 1, 1) := by decide +kernel
theorem dX1_faultAsShots_31 : decode cX1_faultAsShots 31 = .ok (.iinc 2 1, 3) := by decide +kernel
theorem dX1_faultAsShots_34 : decode cX1_faultAsShots 34 = .ok (.goto (-29), 3) := by decide +kernel
theorem dX1_faultAsShots_37 : decode cX1_faultAsShots 37 = .ok (.iload_n 1, 1) := by decide +kernel
theorem dX1_faultAsShots_38 : decode cX1_faultAsShots 38 = .ok (.bipush 44, 2) := by decide +kernel
theorem dX1_faultAsShots_40 : decode cX1_faultAsShots 40 = .ok (.if_icmp .ne 10, 3) := by decide +kernel
theorem dX1_faultAsShots_43 : decode cX1_faultAsShots 43 = .ok (.aload_n 0, 1) := by decide +kernel
theorem dX1_faultAsShots_44 : decode cX1_faultAsShots 44 = .ok (.getfield 20, 3) := by decide +kernel
theorem dX1_faultAsShots_47 : decode cX1_faultAsShots 47 = .ok (.goto 5, 3) := by decide +kernel
theorem dX1_faultAsShots_50 : decode cX1_faultAsShots 50 = .ok (.bipush (-4), 2) := by decide +kernel
theorem dX1_faultAsShots_52 : decode cX1_faultAsShots 52 = .ok (.ireturn, 1) := by decide +kernel
theorem dX1_isPinSign_0 : decode cX1_isPinSign 0 = .ok (.iload_n 0, 1) := by decide +kernel
theorem dX1_isPinSign_1 : decode cX1_isPinSign 1 = .ok (.bipush 60, 2) := by decide +kernel
theorem dX1_isPinSign_3 : decode cX1_isPinSign 3 = .ok (.if_icmp .eq 27, 3) := by decide +kernel
theorem dX1_isPinSign_6 : decode cX1_isPinSign 6 = .ok (.iload_n 0, 1) := by decide +kernel
theorem dX1_isPinSign_7 : decode cX1_isPinSign 7 = .ok (.bipush 124, 2) := by decide +kernel
theorem dX1_isPinSign_9 : decode cX1_isPinSign 9 = .ok (.if_icmp .eq 21, 3) := by decide +kernel
theorem dX1_isPinSign_12 : decode cX1_isPinSign 12 = .ok (.iload_n 0, 1) := by decide +kernel
theorem dX1_isPinSign_13 : decode cX1_isPinSign 13 = .ok (.bipush 62, 2) := by decide +kernel
theorem dX1_isPinSign_15 : decode cX1_isPinSign 15 = .ok (.if_icmp .eq 15, 3) := by decide +kernel
theorem dX1_isPinSign_18 : decode cX1_isPinSign 18 = .ok (.iload_n 0, 1) := by decide +kernel
theorem dX1_isPinSign_19 : decode cX1_isPinSign 19 = .ok (.bipush 46, 2) := by decide +kernel
theorem dX1_isPinSign_21 : decode cX1_isPinSign 21 = .ok (.if_icmp .eq 9, 3) := by decide +kernel
theorem dX1_isPinSign_24 : decode cX1_isPinSign 24 = .ok (.iload_n 0, 1) := by decide +kernel
theorem dX1_isPinSign_25 : decode cX1_isPinSign 25 = .ok (.bipush 111, 2) := by decide +kernel
theorem dX1_isPinSign_27 : decode cX1_isPinSign 27 = .ok (.if_icmp .ne 7, 3) := by decide +kernel
theorem dX1_isPinSign_30 : decode cX1_isPinSign 30 = .ok (.iconst 1, 1) := by decide +kernel
theorem dX1_isPinSign_31 : decode cX1_isPinSign 31 = .ok (.goto 4, 3) := by decide +kernel
theorem dX1_isPinSign_34 : decode cX1_isPinSign 34 = .ok (.iconst 0, 1) := by decide +kernel
theorem dX1_isPinSign_35 : decode cX1_isPinSign 35 = .ok (.ireturn, 1) := by decide +kernel
set_option maxRecDepth 20000 in
theorem ggX1_isPlace_X6_isWithin : GoodIn wsX1_isPlace wsX6_isWithin := goodIn_r _ [3] (by decide +kernel) (by decide +kernel)
set_option maxRecDepth 20000 in
theorem gX1_isPlace_X6_isWithin_n43 : GoodIn wsX1_isPlace (wsX6_isWithin) := ggX1_isPlace_X6_isWithin
theorem dX1_isPlace_0 : decode cX1_isPlace 0 = .ok (.iload_n 0, 1) := by decide +kernel
theorem dX1_isPlace_1 : decode cX1_isPlace 1 = .ok (.bipush 48, 2) := by decide +kernel
theorem dX1_isPlace_3 : decode cX1_isPlace 3 = .ok (.bipush 54, 2) := by decide +kernel
theorem dX1_isPlace_5 : decode cX1_isPlace 5 = .ok (.invokestatic 43, 3) := by decide +kernel
theorem dX1_isPlace_8 : decode cX1_isPlace 8 = .ok (.ireturn, 1) := by decide +kernel
set_option maxRecDepth 20000 in
theorem ggX1_mayFollow_X1_isPlace : GoodIn wsX1_mayFollow wsX1_isPlace := goodIn_r _ [4, 5, 6, 7] (by decide +kernel) (by decide +kernel)
set_option maxRecDepth 20000 in
theorem gX1_mayFollow_X1_isPlace : GoodIn wsX1_mayFollow (va_wsS RX1 47 yX1_isPlace wsX1_isPlace) := goodIn_app (goodIn_of _ (by decide +kernel)) ggX1_mayFollow_X1_isPlace
theorem dX1_mayFollow_0 : decode cX1_mayFollow 0 = .ok (.iload_n 0, 1) := by decide +kernel
theorem dX1_mayFollow_1 : decode cX1_mayFollow 1 = .ok (.bipush 44, 2) := by decide +kernel
theorem dX1_mayFollow_3 : decode cX1_mayFollow 3 = .ok (.if_icmp .ne 22, 3) := by decide +kernel
theorem dX1_mayFollow_6 : decode cX1_mayFollow 6 = .ok (.iload_n 1, 1) := by decide +kernel
theorem dX1_mayFollow_7 : decode cX1_mayFollow 7 = .ok (.invokestatic 47, 3) := by decide +kernel
theorem dX1_mayFollow_10 : decode cX1_mayFollow 10 = .ok (.ifCond .ne 9, 3) := by decide +kernel
theorem dX1_mayFollow_13 : decode cX1_mayFollow 13 = .ok (.iload_n 1, 1) := by decide +kernel
theorem dX1_mayFollow_14 : decode cX1_mayFollow 14 = .ok (.bipush 101, 2) := by decide +kernel
theorem dX1_mayFollow_16 : decode cX1_mayFollow 16 = .ok (.if_icmp .ne 7, 3) := by decide +kernel
theorem dX1_mayFollow_19 : decode cX1_mayFollow 19 = .ok (.iconst 1, 1) := by decide +kernel
theorem dX1_mayFollow_20 : decode cX1_mayFollow 20 = .ok (.goto 4, 3) := by decide +kernel
theorem dX1_mayFollow_23 : decode cX1_mayFollow 23 = .ok (.iconst 0, 1) := by decide +kernel
theorem dX1_mayFollow_24 : decode cX1_mayFollow 24 = .ok (.ireturn, 1) := by decide +kernel
theorem dX1_mayFollow_25 : decode cX1_mayFollow 25 = .ok (.iload_n 1, 1) := by decide +kernel
theorem dX1_mayFollow_26 : decode cX1_mayFollow 26 = .ok (.bipush 44, 2) := by decide +kernel
theorem dX1_mayFollow_28 : decode cX1_mayFollow 28 = .ok (.if_icmp .eq 16, 3) := by decide +kernel
theorem dX1_mayFollow_31 : decode cX1_mayFollow 31 = .ok (.iload_n 1, 1) := by decide +kernel
theorem dX1_mayFollow_32 : decode cX1_mayFollow 32 = .ok (.bipush 33, 2) := by decide +kernel
theorem dX1_mayFollow_34 : decode cX1_mayFollow 34 = .ok (.if_icmp .ne 14, 3) := by decide +kernel
theorem dX1_mayFollow_37 : decode cX1_mayFollow 37 = .ok (.iload_n 0, 1) := by decide +kernel
theorem dX1_mayFollow_38 : decode cX1_mayFollow 38 = .ok (.invokestatic 47, 3) := by decide +kernel
theorem dX1_mayFollow_41 : decode cX1_mayFollow 41 = .ok (.ifCond .eq 7, 3) := by decide +kernel
theorem dX1_mayFollow_44 : decode cX1_mayFollow 44 = .ok (.iconst 1, 1) := by decide +kernel
theorem dX1_mayFollow_45 : decode cX1_mayFollow 45 = .ok (.goto 4, 3) := by decide +kernel
theorem dX1_mayFollow_48 : decode cX1_mayFollow 48 = .ok (.iconst 0, 1) := by decide +kernel
theorem dX1_mayFollow_49 : decode cX1_mayFollow 49 = .ok (.ireturn, 1) := by decide +kernel
set_option maxRecDepth 20000 in
theorem ggX2_init_X4_init : GoodIn wsX2_init wsX4_init := goodIn_r _ [17, 18, 2, 3, 19, 20, 21, 22, 23, 24, 25] (by decide +kernel) (by decide +kernel)
set_option maxRecDepth 20000 in
theorem gX2_init_X4_init : GoodIn wsX2_init (wsX4_init) := ggX2_init_X4_init
theorem dX2_init_0 : decode cX2_init 0 = .ok (.aload_n 0, 1) := by decide +kernel
theorem dX2_init_1 : decode cX2_init 1 = .ok (.invokespecial 3, 3) := by decide +kernel
theorem dX2_init_4 : decode cX2_init 4 = .ok (.aload_n 0, 1) := by decide +kernel
theorem dX2_init_5 : decode cX2_init 5 = .ok (.new 9, 3) := by decide +kernel
theorem dX2_init_8 : decode cX2_init 8 = .ok (.dup, 1) := by decide +kernel
theorem dX2_init_9 : decode cX2_init 9 = .ok (.bipush 35, 2) := by decide +kernel
theorem dX2_init_11 : decode cX2_init 11 = .ok (.invokespecial 11, 3) := by decide +kernel
theorem dX2_init_14 : decode cX2_init 14 = .ok (.putfield 14, 3) := by decide +kernel
theorem dX2_init_17 : decode cX2_init 17 = .ok (.aload_n 0, 1) := by decide +kernel
theorem dX2_init_18 : decode cX2_init 18 = .ok (.new 9, 3) := by decide +kernel
theorem dX2_init_21 : decode cX2_init 21 = .ok (.dup, 1) := by decide +kernel
theorem dX2_init_22 : decode cX2_init 22 = .ok (.bipush 35, 2) := by decide +kernel
theorem dX2_init_24 : decode cX2_init 24 = .ok (.invokespecial 11, 3) := by decide +kernel
theorem dX2_init_27 : decode cX2_init 27 = .ok (.putfield 20, 3) := by decide +kernel
theorem dX2_init_30 : decode cX2_init 30 = .ok (.aload_n 0, 1) := by decide +kernel
theorem dX2_init_31 : decode cX2_init 31 = .ok (.new 9, 3) := by decide +kernel
theorem dX2_init_34 : decode cX2_init 34 = .ok (.dup, 1) := by decide +kernel
theorem dX2_init_35 : decode cX2_init 35 = .ok (.bipush 35, 2) := by decide +kernel
theorem dX2_init_37 : decode cX2_init 37 = .ok (.invokespecial 11, 3) := by decide +kernel
theorem dX2_init_40 : decode cX2_init 40 = .ok (.putfield 23, 3) := by decide +kernel
theorem dX2_init_43 : decode cX2_init 43 = .ok (.aload_n 0, 1) := by decide +kernel
theorem dX2_init_44 : decode cX2_init 44 = .ok (.new 9, 3) := by decide +kernel
theorem dX2_init_47 : decode cX2_init 47 = .ok (.dup, 1) := by decide +kernel
theorem dX2_init_48 : decode cX2_init 48 = .ok (.bipush 35, 2) := by decide +kernel
theorem dX2_init_50 : decode cX2_init 50 = .ok (.invokespecial 11, 3) := by decide +kernel
theorem dX2_init_53 : decode cX2_init 53 = .ok (.putfield 26, 3) := by decide +kernel
theorem dX2_init_56 : decode cX2_init 56 = .ok (.aload_n 0, 1) := by decide +kernel
theorem dX2_init_57 : decode cX2_init 57 = .ok (.new 9, 3) := by decide +kernel
theorem dX2_init_60 : decode cX2_init 60 = .ok (.dup, 1) := by decide +kernel
theorem dX2_init_61 : decode cX2_init 61 = .ok (.bipush 35, 2) := by decide +kernel
theorem dX2_init_63 : decode cX2_init 63 = .ok (.invokespecial 11, 3) := by decide +kernel
theorem dX2_init_66 : decode cX2_init 66 = .ok (.putfield 29, 3) := by decide +kernel
theorem dX2_init_69 : decode cX2_init 69 = .ok (.aload_n 0, 1) := by decide +kernel
theorem dX2_init_70 : decode cX2_init 70 = .ok (.iconst 1, 1) := by decide +kernel
theorem dX2_init_71 : decode cX2_init 71 = .ok (.putfield 32, 3) := by decide +kernel
theorem dX2_init_74 : decode cX2_init 74 = .ok (.aload_n 0, 1) := by decide +kernel
theorem dX2_init_75 : decode cX2_init 75 = .ok (.iconst 0, 1) := by decide +kernel
theorem dX2_init_76 : decode cX2_init 76 = .ok (.putfield 36, 3) := by decide +kernel
theorem dX2_init_79 : decode cX2_init 79 = .ok (.aload_n 0, 1) := by decide +kernel
theorem dX2_init_80 : decode cX2_init 80 = .ok (.iconst 0, 1) := by decide +kernel
theorem dX2_init_81 : decode cX2_init 81 = .ok (.putfield 39, 3) := by decide +kernel
theorem dX2_init_84 : decode cX2_init 84 = .ok (.return_, 1) := by decide +kernel
set_option maxRecDepth 20000 in
theorem ggX2_copyFrom_X4_copyFrom : GoodIn wsX2_copyFrom wsX4_copyFrom := goodIn_r _ [13, 14, 15, 16, 17, 18, 19, 20, 21, 22, 31] (by decide +kernel) (by decide +kernel)
set_option maxRecDepth 20000 in
theorem gX2_copyFrom_X4_copyFrom : GoodIn wsX2_copyFrom (wsV RX2 42 RX4 yX4_copyFrom wsX4_copyFrom) := goodIn_app (goodIn_of _ (by decide +kernel)) ggX2_copyFrom_X4_copyFrom
theorem dX2_copyFrom_0 : decode cX2_copyFrom 0 = .ok (.aload_n 0, 1) := by decide +kernel
theorem dX2_copyFrom_1 : decode cX2_copyFrom 1 = .ok (.getfield 14, 3) := by decide +kernel
theorem dX2_copyFrom_4 : decode cX2_copyFrom 4 = .ok (.aload_n 1, 1) := by decide +kernel
theorem dX2_copyFrom_5 : decode cX2_copyFrom 5 = .ok (.getfield 14, 3) := by decide +kernel
theorem dX2_copyFrom_8 : decode cX2_copyFrom 8 = .ok (.invokevirtual 42, 3) := by decide +kernel
theorem dX2_copyFrom_11 : decode cX2_copyFrom 11 = .ok (.aload_n 0, 1) := by decide +kernel
theorem dX2_copyFrom_12 : decode cX2_copyFrom 12 = .ok (.getfield 20, 3) := by decide +kernel
theorem dX2_copyFrom_15 : decode cX2_copyFrom 15 = .ok (.aload_n 1, 1) := by decide +kernel
theorem dX2_copyFrom_16 : decode cX2_copyFrom 16 = .ok (.getfield 20, 3) := by decide +kernel
theorem dX2_copyFrom_19 : decode cX2_copyFrom 19 = .ok (.invokevirtual 42, 3) := by decide +kernel
theorem dX2_copyFrom_22 : decode cX2_copyFrom 22 = .ok (.aload_n 0, 1) := by decide +kernel
theorem dX2_copyFrom_23 : decode cX2_copyFrom 23 = .ok (.getfield 23, 3) := by decide +kernel
theorem dX2_copyFrom_26 : decode cX2_copyFrom 26 = .ok (.aload_n 1, 1) := by decide +kernel
theorem dX2_copyFrom_27 : decode cX2_copyFrom 27 = .ok (.getfield 23, 3) := by decide +kernel
theorem dX2_copyFrom_30 : decode cX2_copyFrom 30 = .ok (.invokevirtual 42, 3) := by decide +kernel
theorem dX2_copyFrom_33 : decode cX2_copyFrom 33 = .ok (.aload_n 0, 1) := by decide +kernel
theorem dX2_copyFrom_34 : decode cX2_copyFrom 34 = .ok (.getfield 26, 3) := by decide +kernel
theorem dX2_copyFrom_37 : decode cX2_copyFrom 37 = .ok (.aload_n 1, 1) := by decide +kernel
theorem dX2_copyFrom_38 : decode cX2_copyFrom 38 = .ok (.getfield 26, 3) := by decide +kernel
theorem dX2_copyFrom_41 : decode cX2_copyFrom 41 = .ok (.invokevirtual 42, 3) := by decide +kernel
theorem dX2_copyFrom_44 : decode cX2_copyFrom 44 = .ok (.aload_n 0, 1) := by decide +kernel
theorem dX2_copyFrom_45 : decode cX2_copyFrom 45 = .ok (.getfield 29, 3) := by decide +kernel
theorem dX2_copyFrom_48 : decode cX2_copyFrom 48 = .ok (.aload_n 1, 1) := by decide +kernel
theorem dX2_copyFrom_49 : decode cX2_copyFrom 49 = .ok (.getfield 29, 3) := by decide +kernel
theorem dX2_copyFrom_52 : decode cX2_copyFrom 52 = .ok (.invokevirtual 42, 3) := by decide +kernel
theorem dX2_copyFrom_55 : decode cX2_copyFrom 55 = .ok (.aload_n 0, 1) := by decide +kernel
theorem dX2_copyFrom_56 : decode cX2_copyFrom 56 = .ok (.aload_n 1, 1) := by decide +kernel
theorem dX2_copyFrom_57 : decode cX2_copyFrom 57 = .ok (.getfield 32, 3) := by decide +kernel
theorem dX2_copyFrom_60 : decode cX2_copyFrom 60 = .ok (.putfield 32, 3) := by decide +kernel
theorem dX2_copyFrom_63 : decode cX2_copyFrom 63 = .ok (.aload_n 0, 1) := by decide +kernel
theorem dX2_copyFrom_64 : decode cX2_copyFrom 64 = .ok (.aload_n 1, 1) := by decide +kernel
theorem dX2_copyFrom_65 : decode cX2_copyFrom 65 = .ok (.getfield 36, 3) := by decide +kernel
theorem dX2_copyFrom_68 : decode cX2_copyFrom 68 = .ok (.putfield 36, 3) := by decide +kernel
theorem dX2_copyFrom_71 : decode cX2_copyFrom 71 = .ok (.aload_n 0, 1) := by decide +kernel
theorem dX2_copyFrom_72 : decode cX2_copyFrom 72 = .ok (.aload_n 1, 1) := by decide +kernel
theorem dX2_copyFrom_73 : decode cX2_copyFrom 73 = .ok (.getfield 39, 3) := by decide +kernel
theorem dX2_copyFrom_76 : decode cX2_copyFrom 76 = .ok (.putfield 39, 3) := by decide +kernel
theorem dX2_copyFrom_79 : decode cX2_copyFrom 79 = .ok (.return_, 1) := by decide +kernel
set_option maxRecDepth 20000 in
theorem ggX2_isOut_X4_at : GoodIn wsX2_isOut wsX4_at := goodIn_r _ [6, 7, 16] (by decide +kernel) (by decide +kernel)
set_option maxRecDepth 20000 in
theorem gX2_isOut_X4_at : GoodIn wsX2_isOut (wsV RX2 46 RX4 yX4_at wsX4_at) := goodIn_app (goodIn_of _ (by decide +kernel)) ggX2_isOut_X4_at
theorem dX2_isOut_0 : decode cX2_isOut 0 = .ok (.aload_n 0, 1) := by decide +kernel
theorem dX2_isOut_1 : decode cX2_isOut 1 = .ok (.getfield 20, 3) := by decide +kernel
theorem dX2_isOut_4 : decode cX2_isOut 4 = .ok (.iload_n 1, 1) := by decide +kernel
theorem dX2_isOut_5 : decode cX2_isOut 5 = .ok (.invokevirtual 46, 3) := by decide +kernel
theorem dX2_isOut_8 : decode cX2_isOut 8 = .ok (.ifCond .eq 7, 3) := by decide +kernel
theorem dX2_isOut_11 : decode cX2_isOut 11 = .ok (.iconst 1, 1) := by decide +kernel
theorem dX2_isOut_12 : decode cX2_isOut 12 = .ok (.goto 4, 3) := by decide +kernel
theorem dX2_isOut_15 : decode cX2_isOut 15 = .ok (.iconst 0, 1) := by decide +kernel
theorem dX2_isOut_16 : decode cX2_isOut 16 = .ok (.ireturn, 1) := by decide +kernel
set_option maxRecDepth 20000 in
theorem ggX2_pulledOut_X4_total : GoodIn wsX2_pulledOut wsX4_total := goodIn_r _ [6, 7, 16] (by decide +kernel) (by decide +kernel)
set_option maxRecDepth 20000 in
theorem gX2_pulledOut_X4_total : GoodIn wsX2_pulledOut (wsV RX2 50 RX4 yX4_total wsX4_total) := goodIn_app (goodIn_of _ (by decide +kernel)) ggX2_pulledOut_X4_total
theorem dX2_pulledOut_0 : decode cX2_pulledOut 0 = .ok (.aload_n 0, 1) := by decide +kernel
theorem dX2_pulledOut_1 : decode cX2_pulledOut 1 = .ok (.getfield 20, 3) := by decide +kernel
theorem dX2_pulledOut_4 : decode cX2_pulledOut 4 = .ok (.invokevirtual 50, 3) := by decide +kernel
theorem dX2_pulledOut_7 : decode cX2_pulledOut 7 = .ok (.ireturn, 1) := by decide +kernel
set_option maxRecDepth 20000 in
theorem ggX2_allPins_X2_pulledOut : GoodIn wsX2_allPins wsX2_pulledOut := goodIn_r _ [5, 6, 7, 8, 9, 10, 11, 12, 13, 14, 15, 16, 17, 18, 19, 20, 21] (by decide +kernel) (by decide +kernel)
set_option maxRecDepth 20000 in
theorem gX2_allPins_X2_pulledOut : GoodIn wsX2_allPins (wsV RX2 54 RX2 yX2_pulledOut wsX2_pulledOut) := goodIn_app (goodIn_of _ (by decide +kernel)) ggX2_allPins_X2_pulledOut
theorem dX2_allPins_0 : decode cX2_allPins 0 = .ok (.bipush 35, 2) := by decide +kernel
theorem dX2_allPins_2 : decode cX2_allPins 2 = .ok (.aload_n 0, 1) := by decide +kernel
theorem dX2_allPins_3 : decode cX2_allPins 3 = .ok (.invokevirtual 54, 3) := by decide +kernel
theorem dX2_allPins_6 : decode cX2_allPins 6 = .ok (.isub, 1) := by decide +kernel
theorem dX2_allPins_7 : decode cX2_allPins 7 = .ok (.ireturn, 1) := by decide +kernel
set_option maxRecDepth 20000 in
theorem ggX2_allBells_X4_total : GoodIn wsX2_allBells wsX4_total := goodIn_r _ [6, 7, 16] (by decide +kernel) (by decide +kernel)
set_option maxRecDepth 20000 in
theorem gX2_allBells_X4_total : GoodIn wsX2_allBells (wsV RX2 50 RX4 yX4_total wsX4_total) := goodIn_app (goodIn_of _ (by decide +kernel)) ggX2_allBells_X4_total
theorem dX2_allBells_0 : decode cX2_allBells 0 = .ok (.aload_n 0, 1) := by decide +kernel
theorem dX2_allBells_1 : decode cX2_allBells 1 = .ok (.getfield 23, 3) := by decide +kernel
theorem dX2_allBells_4 : decode cX2_allBells 4 = .ok (.invokevirtual 50, 3) := by decide +kernel
theorem dX2_allBells_7 : decode cX2_allBells 7 = .ok (.ireturn, 1) := by decide +kernel
set_option maxRecDepth 20000 in
theorem ggX2_straightOnes_X2_isOut : GoodIn wsX2_straightOnes wsX2_isOut := goodIn_r _ [6, 7, 8, 9, 10, 11, 12, 13, 14, 15, 16, 17, 18, 19, 20, 21, 22] (by decide +kernel) (by decide +kernel)
set_option maxRecDepth 20000 in
theorem gX2_straightOnes_X2_isOut : GoodIn wsX2_straightOnes (wsV RX2 57 RX2 yX2_isOut wsX2_isOut) := goodIn_app (goodIn_of _ (by decide +kernel)) ggX2_straightOnes_X2_isOut
set_option maxRecDepth 20000 in
theorem ggX2_straightOnes_X4_at : GoodIn wsX2_straightOnes wsX4_at := goodIn_r _ [12, 13, 22] (by decide +kernel) (by decide +kernel)
set_option maxRecDepth 20000 in
theorem gX2_straightOnes_X4_at : GoodIn wsX2_straightOnes (wsV RX2 46 RX4 yX4_at wsX4_at) := goodIn_app (goodIn_of _ (by decide +kernel)) ggX2_straightOnes_X4_at
theorem dX2_straightOnes_0 : decode cX2_straightOnes 0 = .ok (.iconst 0, 1) := by decide +kernel
theorem dX2_straightOnes_1 : decode cX2_straightOnes 1 = .ok (.istore_n 1, 1) := by decide +kernel
theorem dX2_straightOnes_2 : decode cX2_straightOnes 2 = .ok (.iconst 0, 1) := by decide +kernel
theorem dX2_straightOnes_3 : decode cX2_straightOnes 3 = .ok (.istore_n 2, 1) := by decide +kernel
theorem dX2_straightOnes_4 : decode cX2_straightOnes 4 = .ok (.iload_n 2, 1) := by decide +kernel
theorem dX2_straightOnes_5 : decode cX2_straightOnes 5 = .ok (.bipush 35, 2) := by decide +kernel
theorem dX2_straightOnes_7 : decode cX2_straightOnes 7 = .ok (.if_icmp .ge 31, 3) := by decide +kernel
theorem dX2_straightOnes_10 : decode cX2_straightOnes 10 = .ok (.aload_n 0, 1) := by decide +kernel
theorem dX2_straightOnes_11 : decode cX2_straightOnes 11 = .ok (.iload_n 2, 1) := by decide +kernel
theorem dX2_straightOnes_12 : decode cX2_straightOnes 12 = .ok (.invokevirtual 57, 3) := by decide +kernel
theorem dX2_straightOnes_15 : decode cX2_straightOnes 15 = .ok (.ifCond .ne 17, 3) := by decide +kernel
theorem dX2_straightOnes_18 : decode cX2_straightOnes 18 = .ok (.aload_n 0, 1) := by decide +kernel
theorem dX2_straightOnes_19 : decode cX2_straightOnes 19 = .ok (.getfield 14, 3) := by decide +kernel
theorem dX2_straightOnes_22 : decode cX2_straightOnes 22 = .ok (.iload_n 2, 1) := by decide +kernel
theorem dX2_straightOnes_23 : decode cX2_straightOnes 23 = .ok (.invokevirtual 46, 3) := by decide +kernel
theorem dX2_straightOnes_26 : decode cX2_straightOnes 26 = .ok (.ifCond .ne 6, 3) := by decide +kernel
theorem dX2_straightOnes_29 : decode cX2_straightOnes 29 = .ok (.iinc 1 1, 3) := by decide +kernel
theorem dX2_straightOnes_32 : decode cX2_straightOnes 32 = .ok (.iinc 2 1, 3) := by decide +kernel
theorem dX2_straightOnes_35 : decode cX2_straightOnes 35 = .ok (.goto (-31), 3) := by decide +kernel
theorem dX2_straightOnes_38 : decode cX2_straightOnes 38 = .ok (.iload_n 1, 1) := by decide +kernel
theorem dX2_straightOnes_39 : decode cX2_straightOnes 39 = .ok (.ireturn, 1) := by decide +kernel
set_option maxRecDepth 20000 in
theorem ggX2_bendsTogether_X4_at : GoodIn wsX2_bendsTogether wsX4_at := goodIn_r _ [10, 11, 20] (by decide +kernel) (by decide +kernel)
set_option maxRecDepth 20000 in
theorem gX2_bendsTogether_X4_at : GoodIn wsX2_bendsTogether (wsV RX2 46 RX4 yX4_at wsX4_at) := goodIn_app (goodIn_of _ (by decide +kernel)) ggX2_bendsTogether_X4_at
theorem dX2_bendsTogether_0 : decode cX2_bendsTogether 0 = .ok (.iconst 0, 1) := by decide +kernel
theorem dX2_bendsTogether_1 : decode cX2_bendsTogether 1 = .ok (.istore_n 1, 1) := by decide +kernel
theorem dX2_bendsTogether_2 : decode cX2_bendsTogether 2 = .ok (.iconst 0, 1) := by decide +kernel
theorem dX2_bendsTogether_3 : decode cX2_bendsTogether 3 = .ok (.istore_n 2, 1) := by decide +kernel
theorem dX2_bendsTogether_4 : decode cX2_bendsTogether 4 = .ok (.iload_n 2, 1) := by decide +kernel
theorem dX2_bendsTogether_5 : decode cX2_bendsTogether 5 = .ok (.bipush 35, 2) := by decide +kernel
theorem dX2_bendsTogether_7 : decode cX2_bendsTogether 7 = .ok (.if_icmp .ge 23, 3) := by decide +kernel
theorem dX2_bendsTogether_10 : decode cX2_bendsTogether 10 = .ok (.iload_n 1, 1) := by decide +kernel
theorem dX2_bendsTogether_11 : decode cX2_bendsTogether 11 = .ok (.aload_n 0, 1) := by decide +kernel
theorem dX2_bendsTogether_12 : decode cX2_bendsTogether 12 = .ok (.getfield 14, 3) := by decide +kernel
theorem dX2_bendsTogether_15 : decode cX2_bendsTogether 15 = .ok (.iload_n 2, 1) := by decide +kernel
theorem dX2_bendsTogether_16 : decode cX2_bendsTogether 16 = .ok (.invokevirtual 46, 3) := by decide +kernel
theorem dX2_bendsTogether_19 : decode cX2_bendsTogether 19 = .ok (.invokestatic 61, 3) := by decide +kernel
theorem dX2_bendsTogether_22 : decode cX2_bendsTogether 22 = .ok (.iadd, 1) := by decide +kernel
theorem dX2_bendsTogether_23 : decode cX2_bendsTogether 23 = .ok (.istore_n 1, 1) := by decide +kernel
theorem dX2_bendsTogether_24 : decode cX2_bendsTogether 24 = .ok (.iinc 2 1, 3) := by decide +kernel
theorem dX2_bendsTogether_27 : decode cX2_bendsTogether 27 = .ok (.goto (-23), 3) := by decide +kernel
theorem dX2_bendsTogether_30 : decode cX2_bendsTogether 30 = .ok (.iload_n 1, 1) := by decide +kernel
theorem dX2_bendsTogether_31 : decode cX2_bendsTogether 31 = .ok (.ireturn, 1) := by decide +kernel
set_option maxRecDepth 20000 in
theorem ggX2_pullOrSet_X4_at : GoodIn wsX2_pullOrSet wsX4_at := goodIn_r _ [8, 9, 22] (by decide +kernel) (by decide +kernel)
set_option maxRecDepth 20000 in
theorem gX2_pullOrSet_X4_at : GoodIn wsX2_pullOrSet (wsV RX2 46 RX4 yX4_at wsX4_at) := goodIn_app (goodIn_of _ (by decide +kernel)) ggX2_pullOrSet_X4_at
set_option maxRecDepth 20000 in
theorem ggX2_pullOrSet_X4_put : GoodIn wsX2_pullOrSet wsX4_put := goodIn_r _ [13, 9, 22] (by decide +kernel) (by decide +kernel)
set_option maxRecDepth 20000 in
theorem gX2_pullOrSet_X4_put : GoodIn wsX2_pullOrSet (wsV RX2 66 RX4 yX4_put wsX4_put) := goodIn_app (goodIn_of _ (by decide +kernel)) ggX2_pullOrSet_X4_put
theorem dX2_pullOrSet_0 : decode cX2_pullOrSet 0 = .ok (.aload_n 0, 1) := by decide +kernel
theorem dX2_pullOrSet_1 : decode cX2_pullOrSet 1 = .ok (.getfield 20, 3) := by decide +kernel
theorem dX2_pullOrSet_4 : decode cX2_pullOrSet 4 = .ok (.iload_n 1, 1) := by decide +kernel
theorem dX2_pullOrSet_5 : decode cX2_pullOrSet 5 = .ok (.iconst 1, 1) := by decide +kernel
theorem dX2_pullOrSet_6 : decode cX2_pullOrSet 6 = .ok (.aload_n 0, 1) := by decide +kernel
theorem dX2_pullOrSet_7 : decode cX2_pullOrSet 7 = .ok (.getfield 20, 3) := by decide +kernel
theorem dX2_pullOrSet_10 : decode cX2_pullOrSet 10 = .ok (.iload_n 1, 1) := by decide +kernel
theorem dX2_pullOrSet_11 : decode cX2_pullOrSet 11 = .ok (.invokevirtual 46, 3) := by decide +kernel
theorem dX2_pullOrSet_14 : decode cX2_pullOrSet 14 = .ok (.isub, 1) := by decide +kernel
theorem dX2_pullOrSet_15 : decode cX2_pullOrSet 15 = .ok (.invokevirtual 66, 3) := by decide +kernel
theorem dX2_pullOrSet_18 : decode cX2_pullOrSet 18 = .ok (.aload_n 0, 1) := by decide +kernel
theorem dX2_pullOrSet_19 : decode cX2_pullOrSet 19 = .ok (.getfield 14, 3) := by decide +kernel
theorem dX2_pullOrSet_22 : decode cX2_pullOrSet 22 = .ok (.iload_n 1, 1) := by decide +kernel
theorem dX2_pullOrSet_23 : decode cX2_pullOrSet 23 = .ok (.iconst 0, 1) := by decide +kernel
theorem dX2_pullOrSet_24 : decode cX2_pullOrSet 24 = .ok (.invokevirtual 66, 3) := by decide +kernel
theorem dX2_pullOrSet_27 : decode cX2_pullOrSet 27 = .ok (.aload_n 0, 1) := by decide +kernel
theorem dX2_pullOrSet_28 : decode cX2_pullOrSet 28 = .ok (.getfield 26, 3) := by decide +kernel
theorem dX2_pullOrSet_31 : decode cX2_pullOrSet 31 = .ok (.iload_n 1, 1) := by decide +kernel
theorem dX2_pullOrSet_32 : decode cX2_pullOrSet 32 = .ok (.iconst 0, 1) := by decide +kernel
theorem dX2_pullOrSet_33 : decode cX2_pullOrSet 33 = .ok (.invokevirtual 66, 3) := by decide +kernel
theorem dX2_pullOrSet_36 : decode cX2_pullOrSet 36 = .ok (.return_, 1) := by decide +kernel
set_option maxRecDepth 20000 in
theorem ggX2_hangOrTakeBell_X4_at : GoodIn wsX2_hangOrTakeBell wsX4_at := goodIn_r _ [6, 7, 20] (by decide +kernel) (by decide +kernel)
set_option maxRecDepth 20000 in
theorem gX2_hangOrTakeBell_X4_at : GoodIn wsX2_hangOrTakeBell (wsV RX2 46 RX4 yX4_at wsX4_at) := goodIn_app (goodIn_of _ (by decide +kernel)) ggX2_hangOrTakeBell_X4_at
set_option maxRecDepth 20000 in
theorem ggX2_hangOrTakeBell_X4_put : GoodIn wsX2_hangOrTakeBell wsX4_put := goodIn_r _ [11, 7, 20] (by decide +kernel) (by decide +kernel)
set_option maxRecDepth 20000 in
theorem gX2_hangOrTakeBell_X4_put : GoodIn wsX2_hangOrTakeBell (wsV RX2 66 RX4 yX4_put wsX4_put) := goodIn_app (goodIn_of _ (by decide +kernel)) ggX2_hangOrTakeBell_X4_put
theorem dX2_hangOrTakeBell_0 : decode cX2_hangOrTakeBell 0 = .ok (.aload_n 0, 1) := by decide +kernel
theorem dX2_hangOrTakeBell_1 : decode cX2_hangOrTakeBell 1 = .ok (.getfield 23, 3) := by decide +kernel
theorem dX2_hangOrTakeBell_4 : decode cX2_hangOrTakeBell 4 = .ok (.iload_n 1, 1) := by decide +kernel
theorem dX2_hangOrTakeBell_5 : decode cX2_hangOrTakeBell 5 = .ok (.iconst 1, 1) := by decide +kernel
theorem dX2_hangOrTakeBell_6 : decode cX2_hangOrTakeBell 6 = .ok (.aload_n 0, 1) := by decide +kernel
theorem dX2_hangOrTakeBell_7 : decode cX2_hangOrTakeBell 7 = .ok (.getfield 23, 3) := by decide +kernel
theorem dX2_hangOrTakeBell_10 : decode cX2_hangOrTakeBell 10 = .ok (.iload_n 1, 1) := by decide +kernel
theorem dX2_hangOrTakeBell_11 : decode cX2_hangOrTakeBell 11 = .ok (.invokevirtual 46, 3) := by decide +kernel
theorem dX2_hangOrTakeBell_14 : decode cX2_hangOrTakeBell 14 = .ok (.isub, 1) := by decide +kernel
theorem dX2_hangOrTakeBell_15 : decode cX2_hangOrTakeBell 15 = .ok (.invokevirtual 66, 3) := by decide +kernel
theorem dX2_hangOrTakeBell_18 : decode cX2_hangOrTakeBell 18 = .ok (.return_, 1) := by decide +kernel
set_option maxRecDepth 20000 in
theorem ggX2_canBend_X4_at : GoodIn wsX2_canBend wsX4_at := goodIn_r _ [6, 7, 19] (by decide +kernel) (by decide +kernel)
set_option maxRecDepth 20000 in
theorem gX2_canBend_X4_at : GoodIn wsX2_canBend (wsV RX2 46 RX4 yX4_at wsX4_at) := goodIn_app (goodIn_of _ (by decide +kernel)) ggX2_canBend_X4_at
set_option maxRecDepth 20000 in
theorem ggX2_canBend_X6_isWithin : GoodIn wsX2_canBend wsX6_isWithin := goodIn_r _ [10] (by decide +kernel) (by decide +kernel)
set_option maxRecDepth 20000 in
theorem gX2_canBend_X6_isWithin_n70 : GoodIn wsX2_canBend (wsX6_isWithin) := ggX2_canBend_X6_isWithin
theorem dX2_canBend_0 : decode cX2_canBend 0 = .ok (.aload_n 0, 1) := by decide +kernel
theorem dX2_canBend_1 : decode cX2_canBend 1 = .ok (.getfield 14, 3) := by decide +kernel
theorem dX2_canBend_4 : decode cX2_canBend 4 = .ok (.iload_n 1, 1) := by decide +kernel
theorem dX2_canBend_5 : decode cX2_canBend 5 = .ok (.invokevirtual 46, 3) := by decide +kernel
theorem dX2_canBend_8 : decode cX2_canBend 8 = .ok (.iload_n 2, 1) := by decide +kernel
theorem dX2_canBend_9 : decode cX2_canBend 9 = .ok (.iadd, 1) := by decide +kernel
theorem dX2_canBend_10 : decode cX2_canBend 10 = .ok (.bipush (-3), 2) := by decide +kernel
theorem dX2_canBend_12 : decode cX2_canBend 12 = .ok (.iconst 3, 1) := by decide +kernel
theorem dX2_canBend_13 : decode cX2_canBend 13 = .ok (.invokestatic 70, 3) := by decide +kernel
theorem dX2_canBend_16 : decode cX2_canBend 16 = .ok (.ireturn, 1) := by decide +kernel
set_option maxRecDepth 20000 in
theorem ggX2_bendBy_X4_raise : GoodIn wsX2_bendBy wsX4_raise := goodIn_r _ [6, 7, 16] (by decide +kernel) (by decide +kernel)
set_option maxRecDepth 20000 in
theorem gX2_bendBy_X4_raise : GoodIn wsX2_bendBy (wsV RX2 74 RX4 yX4_raise wsX4_raise) := goodIn_app (goodIn_of _ (by decide +kernel)) ggX2_bendBy_X4_raise
theorem dX2_bendBy_0 : decode cX2_bendBy 0 = .ok (.aload_n 0, 1) := by decide +kernel
theorem dX2_bendBy_1 : decode cX2_bendBy 1 = .ok (.getfield 14, 3) := by decide +kernel
theorem dX2_bendBy_4 : decode cX2_bendBy 4 = .ok (.iload_n 1, 1) := by decide +kernel
theorem dX2_bendBy_5 : decode cX2_bendBy 5 = .ok (.iload_n 2, 1) := by decide +kernel
theorem dX2_bendBy_6 : decode cX2_bendBy 6 = .ok (.invokevirtual 74, 3) := by decide +kernel
theorem dX2_bendBy_9 : decode cX2_bendBy 9 = .ok (.return_, 1) := by decide +kernel
set_option maxRecDepth 20000 in
theorem ggX2_leanOf_X4_at : GoodIn wsX2_leanOf wsX4_at := goodIn_r _ [7, 8, 17] (by decide +kernel) (by decide +kernel)
set_option maxRecDepth 20000 in
theorem gX2_leanOf_X4_at : GoodIn wsX2_leanOf (wsV RX2 46 RX4 yX4_at wsX4_at) := goodIn_app (goodIn_of _ (by decide +kernel)) ggX2_leanOf_X4_at
theorem dX2_leanOf_0 : decode cX2_leanOf 0 = .ok (.aload_n 0, 1) := by decide +kernel
theorem dX2_leanOf_1 : decode cX2_leanOf 1 = .ok (.getfield 14, 3) := by decide +kernel
theorem dX2_leanOf_4 : decode cX2_leanOf 4 = .ok (.iload_n 1, 1) := by decide +kernel
theorem dX2_leanOf_5 : decode cX2_leanOf 5 = .ok (.invokevirtual 46, 3) := by decide +kernel
theorem dX2_leanOf_8 : decode cX2_leanOf 8 = .ok (.istore_n 2, 1) := by decide +kernel
theorem dX2_leanOf_9 : decode cX2_leanOf 9 = .ok (.iload_n 2, 1) := by decide +kernel
theorem dX2_leanOf_10 : decode cX2_leanOf 10 = .ok (.ifCond .ge 7, 3) := by decide +kernel
theorem dX2_leanOf_13 : decode cX2_leanOf 13 = .ok (.iconst (-1), 1) := by decide +kernel
theorem dX2_leanOf_14 : decode cX2_leanOf 14 = .ok (.goto 17, 3) := by decide +kernel
theorem dX2_leanOf_17 : decode cX2_leanOf 17 = .ok (.iload_n 2, 1) := by decide +kernel
theorem dX2_leanOf_18 : decode cX2_leanOf 18 = .ok (.ifCond .le 7, 3) := by decide +kernel
theorem dX2_leanOf_21 : decode cX2_leanOf 21 = .ok (.iconst 1, 1) := by decide +kernel
theorem dX2_leanOf_22 : decode cX2_leanOf 22 = .ok (.goto 9, 3) := by decide +kernel
theorem dX2_leanOf_25 : decode cX2_leanOf 25 = .ok (.aload_n 0, 1) := by decide +kernel
theorem dX2_leanOf_26 : decode cX2_leanOf 26 = .ok (.getfield 32, 3) := by decide +kernel
theorem dX2_leanOf_29 : decode cX2_leanOf 29 = .ok (.iconst 1, 1) := by decide +kernel
theorem dX2_leanOf_30 : decode cX2_leanOf 30 = .ok (.isub, 1) := by decide +kernel
theorem dX2_leanOf_31 : decode cX2_leanOf 31 = .ok (.ireturn, 1) := by decide +kernel
set_option maxRecDepth 20000 in
theorem ggX2_nextPlaces_X2_isOut : GoodIn wsX2_nextPlaces wsX2_isOut := goodIn_r _ [5, 6, 7, 8, 9, 10, 11, 12, 31, 32, 33, 34, 35, 36, 37, 38, 39] (by decide +kernel) (by decide +kernel)
set_option maxRecDepth 20000 in
theorem gX2_nextPlaces_X2_isOut : GoodIn wsX2_nextPlaces (wsV RX2 57 RX2 yX2_isOut wsX2_isOut) := goodIn_app (goodIn_of _ (by decide +kernel)) ggX2_nextPlaces_X2_isOut
set_option maxRecDepth 20000 in
theorem ggX2_nextPlaces_X6_bit : GoodIn wsX2_nextPlaces wsX6_bit := goodIn_r _ [15] (by decide +kernel) (by decide +kernel)
set_option maxRecDepth 20000 in
theorem gX2_nextPlaces_X6_bit_n77 : GoodIn wsX2_nextPlaces (wsX6_bit) := ggX2_nextPlaces_X6_bit
set_option maxRecDepth 20000 in
theorem ggX2_nextPlaces_X2_leanOf : GoodIn wsX2_nextPlaces wsX2_leanOf := goodIn_r _ [19, 20, 21, 7, 8, 9, 10, 11, 12, 31, 32, 33, 34, 35, 36, 37, 38, 39] (by decide +kernel) (by decide +kernel)
set_option maxRecDepth 20000 in
theorem gX2_nextPlaces_X2_leanOf : GoodIn wsX2_nextPlaces (wsV RX2 80 RX2 yX2_leanOf wsX2_leanOf) := goodIn_app (goodIn_of _ (by decide +kernel)) ggX2_nextPlaces_X2_leanOf
set_option maxRecDepth 20000 in
theorem ggX2_nextPlaces_X6_placeBeside : GoodIn wsX2_nextPlaces wsX6_placeBeside := goodIn_r _ [23, 24, 25, 26, 27, 28, 29, 30] (by decide +kernel) (by decide +kernel)
set_option maxRecDepth 20000 in
theorem gX2_nextPlaces_X6_placeBeside_n83 : GoodIn wsX2_nextPlaces (wsX6_placeBeside) := ggX2_nextPlaces_X6_placeBeside
theorem dX2_nextPlaces_0 : decode cX2_nextPlaces 0 = .ok (.iload_n 1, 1) := by decide +kernel
theorem dX2_nextPlaces_1 : decode cX2_nextPlaces 1 = .ok (.bipush 7, 2) := by decide +kernel
theorem dX2_nextPlaces_3 : decode cX2_nextPlaces 3 = .ok (.irem, 1) := by decide +kernel
theorem dX2_nextPlaces_4 : decode cX2_nextPlaces 4 = .ok (.istore_n 2, 1) := by decide +kernel
theorem dX2_nextPlaces_5 : decode cX2_nextPlaces 5 = .ok (.aload_n 0, 1) := by decide +kernel
theorem dX2_nextPlaces_6 : decode cX2_nextPlaces 6 = .ok (.iload_n 1, 1) := by decide +kernel
theorem dX2_nextPlaces_7 : decode cX2_nextPlaces 7 = .ok (.invokevirtual 57, 3) := by decide +kernel
theorem dX2_nextPlaces_10 : decode cX2_nextPlaces 10 = .ok (.ifCond .eq 8, 3) := by decide +kernel
theorem dX2_nextPlaces_13 : decode cX2_nextPlaces 13 = .ok (.iload_n 2, 1) := by decide +kernel
theorem dX2_nextPlaces_14 : decode cX2_nextPlaces 14 = .ok (.invokestatic 77, 3) := by decide +kernel
theorem dX2_nextPlaces_17 : decode cX2_nextPlaces 17 = .ok (.ireturn, 1) := by decide +kernel
theorem dX2_nextPlaces_18 : decode cX2_nextPlaces 18 = .ok (.aload_n 0, 1) := by decide +kernel
theorem dX2_nextPlaces_19 : decode cX2_nextPlaces 19 = .ok (.iload_n 1, 1) := by decide +kernel
theorem dX2_nextPlaces_20 : decode cX2_nextPlaces 20 = .ok (.invokevirtual 80, 3) := by decide +kernel
theorem dX2_nextPlaces_23 : decode cX2_nextPlaces 23 = .ok (.istore_n 3, 1) := by decide +kernel
theorem dX2_nextPlaces_24 : decode cX2_nextPlaces 24 = .ok (.iload_n 3, 1) := by decide +kernel
theorem dX2_nextPlaces_25 : decode cX2_nextPlaces 25 = .ok (.ifCond .eq 12, 3) := by decide +kernel
theorem dX2_nextPlaces_28 : decode cX2_nextPlaces 28 = .ok (.iload_n 2, 1) := by decide +kernel
theorem dX2_nextPlaces_29 : decode cX2_nextPlaces 29 = .ok (.iload_n 3, 1) := by decide +kernel
theorem dX2_nextPlaces_30 : decode cX2_nextPlaces 30 = .ok (.invokestatic 83, 3) := by decide +kernel
theorem dX2_nextPlaces_33 : decode cX2_nextPlaces 33 = .ok (.invokestatic 77, 3) := by decide +kernel
theorem dX2_nextPlaces_36 : decode cX2_nextPlaces 36 = .ok (.ireturn, 1) := by decide +kernel
theorem dX2_nextPlaces_37 : decode cX2_nextPlaces 37 = .ok (.iload_n 2, 1) := by decide +kernel
theorem dX2_nextPlaces_38 : decode cX2_nextPlaces 38 = .ok (.iconst (-1), 1) := by decide +kernel
theorem dX2_nextPlaces_39 : decode cX2_nextPlaces 39 = .ok (.invokestatic 83, 3) := by decide +kernel
theorem dX2_nextPlaces_42 : decode cX2_nextPlaces 42 = .ok (.invokestatic 77, 3) := by decide +kernel
theorem dX2_nextPlaces_45 : decode cX2_nextPlaces 45 = .ok (.iload_n 2, 1) := by decide +kernel
theorem dX2_nextPlaces_46 : decode cX2_nextPlaces 46 = .ok (.iconst 1, 1) := by decide +kernel
theorem dX2_nextPlaces_47 : decode cX2_nextPlaces 47 = .ok (.invokestatic 83, 3) := by decide +kernel
theorem dX2_nextPlaces_50 : decode cX2_nextPlaces 50 = .ok (.invokestatic 77, 3) := by decide +kernel
theorem dX2_nextPlaces_53 : decode cX2_nextPlaces 53 = .ok (.ior, 1) := by decide +kernel
theorem dX2_nextPlaces_54 : decode cX2_nextPlaces 54 = .ok (.ireturn, 1) := by decide +kernel
set_option maxRecDepth 20000 in
theorem ggX2_nextDirection_X2_isOut : GoodIn wsX2_nextDirection wsX2_isOut := goodIn_r _ [6, 7, 8, 9, 10, 11, 12, 13, 20, 21, 22, 23, 24, 25, 26, 27, 28] (by decide +kernel) (by decide +kernel)
set_option maxRecDepth 20000 in
theorem gX2_nextDirection_X2_isOut : GoodIn wsX2_nextDirection (wsV RX2 57 RX2 yX2_isOut wsX2_isOut) := goodIn_app (goodIn_of _ (by decide +kernel)) ggX2_nextDirection_X2_isOut
set_option maxRecDepth 20000 in
theorem ggX2_nextDirection_X2_leanOf : GoodIn wsX2_nextDirection wsX2_leanOf := goodIn_r _ [17, 18, 19, 8, 9, 10, 11, 12, 13, 20, 21, 22, 23, 24, 25, 26, 27, 28] (by decide +kernel) (by decide +kernel)
set_option maxRecDepth 20000 in
theorem gX2_nextDirection_X2_leanOf : GoodIn wsX2_nextDirection (wsV RX2 80 RX2 yX2_leanOf wsX2_leanOf) := goodIn_app (goodIn_of _ (by decide +kernel)) ggX2_nextDirection_X2_leanOf
set_option maxRecDepth 20000 in
theorem ggX2_nextDirection_X4_at : GoodIn wsX2_nextDirection wsX4_at := goodIn_r _ [12, 13, 28] (by decide +kernel) (by decide +kernel)
set_option maxRecDepth 20000 in
theorem gX2_nextDirection_X4_at : GoodIn wsX2_nextDirection (wsV RX2 46 RX4 yX4_at wsX4_at) := goodIn_app (goodIn_of _ (by decide +kernel)) ggX2_nextDirection_X4_at
theorem dX2_nextDirection_0 : decode cX2_nextDirection 0 = .ok (.aload_n 0, 1) := by decide +kernel
theorem dX2_nextDirection_1 : decode cX2_nextDirection 1 = .ok (.iload_n 1, 1) := by decide +kernel
theorem dX2_nextDirection_2 : decode cX2_nextDirection 2 = .ok (.invokevirtual 57, 3) := by decide +kernel
theorem dX2_nextDirection_5 : decode cX2_nextDirection 5 = .ok (.ifCond .eq 5, 3) := by decide +kernel
theorem dX2_nextDirection_8 : decode cX2_nextDirection 8 = .ok (.iconst 0, 1) := by decide +kernel
theorem dX2_nextDirection_9 : decode cX2_nextDirection 9 = .ok (.ireturn, 1) := by decide +kernel
theorem dX2_nextDirection_10 : decode cX2_nextDirection 10 = .ok (.aload_n 0, 1) := by decide +kernel
theorem dX2_nextDirection_11 : decode cX2_nextDirection 11 = .ok (.iload_n 1, 1) := by decide +kernel
theorem dX2_nextDirection_12 : decode cX2_nextDirection 12 = .ok (.invokevirtual 80, 3) := by decide +kernel
theorem dX2_nextDirection_15 : decode cX2_nextDirection 15 = .ok (.istore_n 2, 1) := by decide +kernel
theorem dX2_nextDirection_16 : decode cX2_nextDirection 16 = .ok (.iload_n 2, 1) := by decide +kernel
theorem dX2_nextDirection_17 : decode cX2_nextDirection 17 = .ok (.ifCond .eq 5, 3) := by decide +kernel
theorem dX2_nextDirection_20 : decode cX2_nextDirection 20 = .ok (.iload_n 2, 1) := by decide +kernel
theorem dX2_nextDirection_21 : decode cX2_nextDirection 21 = .ok (.ireturn, 1) := by decide +kernel
theorem dX2_nextDirection_22 : decode cX2_nextDirection 22 = .ok (.aload_n 0, 1) := by decide +kernel
theorem dX2_nextDirection_23 : decode cX2_nextDirection 23 = .ok (.getfield 26, 3) := by decide +kernel
theorem dX2_nextDirection_26 : decode cX2_nextDirection 26 = .ok (.iload_n 1, 1) := by decide +kernel
theorem dX2_nextDirection_27 : decode cX2_nextDirection 27 = .ok (.invokevirtual 46, 3) := by decide +kernel
theorem dX2_nextDirection_30 : decode cX2_nextDirection 30 = .ok (.ifCond .ne 7, 3) := by decide +kernel
theorem dX2_nextDirection_33 : decode cX2_nextDirection 33 = .ok (.iconst (-1), 1) := by decide +kernel
theorem dX2_nextDirection_34 : decode cX2_nextDirection 34 = .ok (.goto 4, 3) := by decide +kernel
theorem dX2_nextDirection_37 : decode cX2_nextDirection 37 = .ok (.iconst 1, 1) := by decide +kernel
theorem dX2_nextDirection_38 : decode cX2_nextDirection 38 = .ok (.ireturn, 1) := by decide +kernel
set_option maxRecDepth 20000 in
theorem ggX2_endFrom_X6_pinAt : GoodIn wsX2_endFrom wsX6_pinAt := goodIn_r _ [3] (by decide +kernel) (by decide +kernel)
set_option maxRecDepth 20000 in
theorem gX2_endFrom_X6_pinAt_n87 : GoodIn wsX2_endFrom (wsX6_pinAt) := ggX2_endFrom_X6_pinAt
set_option maxRecDepth 20000 in
theorem ggX2_endFrom_X2_nextDirection : GoodIn wsX2_endFrom wsX2_nextDirection := goodIn_r _ [8, 9, 10, 11, 12, 7, 13, 14, 15, 16, 17, 18, 19, 20, 21, 22, 23, 24, 25, 26, 36, 37, 38, 39, 40, 41, 42, 43, 44] (by decide +kernel) (by decide +kernel)
set_option maxRecDepth 20000 in
theorem gX2_endFrom_X2_nextDirection : GoodIn wsX2_endFrom (wsV RX2 90 RX2 yX2_nextDirection wsX2_nextDirection) := goodIn_app (goodIn_of _ (by decide +kernel)) ggX2_endFrom_X2_nextDirection
set_option maxRecDepth 20000 in
theorem ggX2_endFrom_X6_placeBeside : GoodIn wsX2_endFrom wsX6_placeBeside := goodIn_r _ [28, 29, 30, 31, 32, 33, 34, 35] (by decide +kernel) (by decide +kernel)
set_option maxRecDepth 20000 in
theorem gX2_endFrom_X6_placeBeside_n83 : GoodIn wsX2_endFrom (wsX6_placeBeside) := ggX2_endFrom_X6_placeBeside
theorem dX2_endFrom_0 : decode cX2_endFrom 0 = .ok (.iload_n 1, 1) := by decide +kernel
theorem dX2_endFrom_1 : decode cX2_endFrom 1 = .ok (.istore_n 2, 1) := by decide +kernel
theorem dX2_endFrom_2 : decode cX2_endFrom 2 = .ok (.iconst 0, 1) := by decide +kernel
theorem dX2_endFrom_3 : decode cX2_endFrom 3 = .ok (.istore_n 3, 1) := by decide +kernel
theorem dX2_endFrom_4 : decode cX2_endFrom 4 = .ok (.iload_n 3, 1) := by decide +kernel
theorem dX2_endFrom_5 : decode cX2_endFrom 5 = .ok (.iconst 5, 1) := by decide +kernel
theorem dX2_endFrom_6 : decode cX2_endFrom 6 = .ok (.if_icmp .ge 23, 3) := by decide +kernel
theorem dX2_endFrom_9 : decode cX2_endFrom 9 = .ok (.iload_n 2, 1) := by decide +kernel
theorem dX2_endFrom_10 : decode cX2_endFrom 10 = .ok (.aload_n 0, 1) := by decide +kernel
theorem dX2_endFrom_11 : decode cX2_endFrom 11 = .ok (.iload_n 3, 1) := by decide +kernel
theorem dX2_endFrom_12 : decode cX2_endFrom 12 = .ok (.iload_n 2, 1) := by decide +kernel
theorem dX2_endFrom_13 : decode cX2_endFrom 13 = .ok (.invokestatic 87, 3) := by decide +kernel
theorem dX2_endFrom_16 : decode cX2_endFrom 16 = .ok (.invokevirtual 90, 3) := by decide +kernel
theorem dX2_endFrom_19 : decode cX2_endFrom 19 = .ok (.invokestatic 83, 3) := by decide +kernel
theorem dX2_endFrom_22 : decode cX2_endFrom 22 = .ok (.istore_n 2, 1) := by decide +kernel
theorem dX2_endFrom_23 : decode cX2_endFrom 23 = .ok (.iinc 3 1, 3) := by decide +kernel
theorem dX2_endFrom_26 : decode cX2_endFrom 26 = .ok (.goto (-22), 3) := by decide +kernel
theorem dX2_endFrom_29 : decode cX2_endFrom 29 = .ok (.iload_n 2, 1) := by decide +kernel
theorem dX2_endFrom_30 : decode cX2_endFrom 30 = .ok (.ireturn, 1) := by decide +kernel
set_option maxRecDepth 20000 in
theorem ggX2_rollBall_X6_pinAt : GoodIn wsX2_rollBall wsX6_pinAt := goodIn_r _ [3] (by decide +kernel) (by decide +kernel)
set_option maxRecDepth 20000 in
theorem gX2_rollBall_X6_pinAt_n87 : GoodIn wsX2_rollBall (wsX6_pinAt) := ggX2_rollBall_X6_pinAt
set_option maxRecDepth 20000 in
theorem ggX2_rollBall_X2_nextDirection : GoodIn wsX2_rollBall wsX2_nextDirection := goodIn_r _ [8, 9, 10, 11, 12, 7, 13, 14, 15, 16, 17, 18, 19, 20, 21, 22, 23, 24, 25, 26, 62, 63, 64, 65, 66, 67, 68, 69, 70] (by decide +kernel) (by decide +kernel)
set_option maxRecDepth 20000 in
theorem gX2_rollBall_X2_nextDirection : GoodIn wsX2_rollBall (wsV RX2 90 RX2 yX2_nextDirection wsX2_nextDirection) := goodIn_app (goodIn_of _ (by decide +kernel)) ggX2_rollBall_X2_nextDirection
set_option maxRecDepth 20000 in
theorem ggX2_rollBall_X2_meetBall : GoodIn wsX2_rollBall wsX2_meetBall := goodIn_r _ [30, 31, 32, 33, 9, 34, 35, 36, 37, 18, 38, 20, 10, 11, 12, 7, 13, 14, 15, 16, 17, 19, 21, 22, 23, 24, 25, 26, 39, 40, 41, 42, 43, 44, 45, 46, 47, 2, 48, 49, 50, 51, 52, 62, 63, 64, 65, 66, 67, 68, 69, 70] (by decide +kernel) (by decide +kernel)
set_option maxRecDepth 20000 in
theorem gX2_rollBall_X2_meetBall : GoodIn wsX2_rollBall (wsV RX2 93 RX2 yX2_meetBall wsX2_meetBall) := goodIn_app (goodIn_of _ (by decide +kernel)) ggX2_rollBall_X2_meetBall
set_option maxRecDepth 20000 in
theorem ggX2_rollBall_X6_placeBeside : GoodIn wsX2_rollBall wsX6_placeBeside := goodIn_r _ [54, 55, 56, 57, 58, 59, 60, 61] (by decide +kernel) (by decide +kernel)
set_option maxRecDepth 20000 in
theorem gX2_rollBall_X6_placeBeside_n83 : GoodIn wsX2_rollBall (wsX6_placeBeside) := ggX2_rollBall_X6_placeBeside
theorem dX2_rollBall_0 : decode cX2_rollBall 0 = .ok (.iload_n 1, 1) := by decide +kernel
theorem dX2_rollBall_1 : decode cX2_rollBall 1 = .ok (.istore_n 3, 1) := by decide +kernel
theorem dX2_rollBall_2 : decode cX2_rollBall 2 = .ok (.iconst 0, 1) := by decide +kernel
theorem dX2_rollBall_3 : decode cX2_rollBall 3 = .ok (.istore 4, 2) := by decide +kernel
theorem dX2_rollBall_5 : decode cX2_rollBall 5 = .ok (.iload 4, 2) := by decide +kernel
theorem dX2_rollBall_7 : decode cX2_rollBall 7 = .ok (.iconst 5, 1) := by decide +kernel
theorem dX2_rollBall_8 : decode cX2_rollBall 8 = .ok (.if_icmp .ge 41, 3) := by decide +kernel
theorem dX2_rollBall_11 : decode cX2_rollBall 11 = .ok (.iload 4, 2) := by decide +kernel
theorem dX2_rollBall_13 : decode cX2_rollBall 13 = .ok (.iload_n 3, 1) := by decide +kernel
theorem dX2_rollBall_14 : decode cX2_rollBall 14 = .ok (.invokestatic 87, 3) := by decide +kernel
theorem dX2_rollBall_17 : decode cX2_rollBall 17 = .ok (.istore 5, 2) := by decide +kernel
theorem dX2_rollBall_19 : decode cX2_rollBall 19 = .ok (.aload_n 0, 1) := by decide +kernel
theorem dX2_rollBall_20 : decode cX2_rollBall 20 = .ok (.iload 5, 2) := by decide +kernel
theorem dX2_rollBall_22 : decode cX2_rollBall 22 = .ok (.invokevirtual 90, 3) := by decide +kernel
theorem dX2_rollBall_25 : decode cX2_rollBall 25 = .ok (.istore 6, 2) := by decide +kernel
theorem dX2_rollBall_27 : decode cX2_rollBall 27 = .ok (.aload_n 0, 1) := by decide +kernel
theorem dX2_rollBall_28 : decode cX2_rollBall 28 = .ok (.iload 5, 2) := by decide +kernel
theorem dX2_rollBall_30 : decode cX2_rollBall 30 = .ok (.iload 6, 2) := by decide +kernel
theorem dX2_rollBall_32 : decode cX2_rollBall 32 = .ok (.iload_n 2, 1) := by decide +kernel
theorem dX2_rollBall_33 : decode cX2_rollBall 33 = .ok (.invokevirtual 93, 3) := by decide +kernel
theorem dX2_rollBall_36 : decode cX2_rollBall 36 = .ok (.iload_n 3, 1) := by decide +kernel
theorem dX2_rollBall_37 : decode cX2_rollBall 37 = .ok (.iload 6, 2) := by decide +kernel
theorem dX2_rollBall_39 : decode cX2_rollBall 39 = .ok (.invokestatic 83, 3) := by decide +kernel
theorem dX2_rollBall_42 : decode cX2_rollBall 42 = .ok (.istore_n 3, 1) := by decide +kernel
theorem dX2_rollBall_43 : decode cX2_rollBall 43 = .ok (.iinc 4 1, 3) := by decide +kernel
theorem dX2_rollBall_46 : decode cX2_rollBall 46 = .ok (.goto (-41), 3) := by decide +kernel
theorem dX2_rollBall_49 : decode cX2_rollBall 49 = .ok (.iload_n 3, 1) := by decide +kernel
theorem dX2_rollBall_50 : decode cX2_rollBall 50 = .ok (.ireturn, 1) := by decide +kernel
set_option maxRecDepth 20000 in
theorem ggX2_meetBall_X4_raise : GoodIn wsX2_meetBall wsX4_raise := goodIn_r _ [10, 11, 51] (by decide +kernel) (by decide +kernel)
set_option maxRecDepth 20000 in
theorem gX2_meetBall_X4_raise : GoodIn wsX2_meetBall (wsV RX2 74 RX4 yX4_raise wsX4_raise) := goodIn_app (goodIn_of _ (by decide +kernel)) ggX2_meetBall_X4_raise
set_option maxRecDepth 20000 in
theorem ggX2_meetBall_X2_isOut : GoodIn wsX2_meetBall wsX2_isOut := goodIn_r _ [16, 17, 18, 19, 20, 9, 21, 11, 43, 44, 45, 46, 47, 48, 49, 50, 51] (by decide +kernel) (by decide +kernel)
set_option maxRecDepth 20000 in
theorem gX2_meetBall_X2_isOut : GoodIn wsX2_meetBall (wsV RX2 57 RX2 yX2_isOut wsX2_isOut) := goodIn_app (goodIn_of _ (by decide +kernel)) ggX2_meetBall_X2_isOut
set_option maxRecDepth 20000 in
theorem ggX2_meetBall_X4_at : GoodIn wsX2_meetBall wsX4_at := goodIn_r _ [21, 11, 51] (by decide +kernel) (by decide +kernel)
set_option maxRecDepth 20000 in
theorem gX2_meetBall_X4_at : GoodIn wsX2_meetBall (wsV RX2 46 RX4 yX4_at wsX4_at) := goodIn_app (goodIn_of _ (by decide +kernel)) ggX2_meetBall_X4_at
set_option maxRecDepth 20000 in
theorem ggX2_meetBall_X2_leanOf : GoodIn wsX2_meetBall wsX2_leanOf := goodIn_r _ [25, 26, 27, 18, 19, 20, 9, 21, 11, 43, 44, 45, 46, 47, 48, 49, 50, 51] (by decide +kernel) (by decide +kernel)
set_option maxRecDepth 20000 in
theorem gX2_meetBall_X2_leanOf : GoodIn wsX2_meetBall (wsV RX2 80 RX2 yX2_leanOf wsX2_leanOf) := goodIn_app (goodIn_of _ (by decide +kernel)) ggX2_meetBall_X2_leanOf
set_option maxRecDepth 20000 in
theorem ggX2_meetBall_X4_put : GoodIn wsX2_meetBall wsX4_put := goodIn_r _ [31, 11, 51] (by decide +kernel) (by decide +kernel)
set_option maxRecDepth 20000 in
theorem gX2_meetBall_X4_put : GoodIn wsX2_meetBall (wsV RX2 66 RX4 yX4_put wsX4_put) := goodIn_app (goodIn_of _ (by decide +kernel)) ggX2_meetBall_X4_put
set_option maxRecDepth 20000 in
theorem ggX2_meetBall_X2_canBend : GoodIn wsX2_meetBall wsX2_canBend := goodIn_r _ [35, 26, 18, 19, 20, 9, 21, 11, 36, 37, 38, 43, 44, 45, 46, 47, 48, 49, 50, 51] (by decide +kernel) (by decide +kernel)
set_option maxRecDepth 20000 in
theorem gX2_meetBall_X2_canBend : GoodIn wsX2_meetBall (wsV RX2 97 RX2 yX2_canBend wsX2_canBend) := goodIn_app (goodIn_of _ (by decide +kernel)) ggX2_meetBall_X2_canBend
set_option maxRecDepth 20000 in
theorem ggX2_meetBall_X2_bendBy : GoodIn wsX2_meetBall wsX2_bendBy := goodIn_r _ [42, 26, 6, 7, 8, 9, 10, 11, 43, 44, 45, 46, 47, 48, 49, 50, 51] (by decide +kernel) (by decide +kernel)
set_option maxRecDepth 20000 in
theorem gX2_meetBall_X2_bendBy : GoodIn wsX2_meetBall (wsV RX2 101 RX2 yX2_bendBy wsX2_bendBy) := goodIn_app (goodIn_of _ (by decide +kernel)) ggX2_meetBall_X2_bendBy
theorem dX2_meetBall_0 : decode cX2_meetBall 0 = .ok (.aload_n 0, 1) := by decide +kernel
theorem dX2_meetBall_1 : decode cX2_meetBall 1 = .ok (.getfield 29, 3) := by decide +kernel
theorem dX2_meetBall_4 : decode cX2_meetBall 4 = .ok (.iload_n 1, 1) := by decide +kernel
theorem dX2_meetBall_5 : decode cX2_meetBall 5 = .ok (.iconst 1, 1) := by decide +kernel
theorem dX2_meetBall_6 : decode cX2_meetBall 6 = .ok (.invokevirtual 74, 3) := by decide +kernel
theorem dX2_meetBall_9 : decode cX2_meetBall 9 = .ok (.aload_n 0, 1) := by decide +kernel
theorem dX2_meetBall_10 : decode cX2_meetBall 10 = .ok (.iload_n 1, 1) := by decide +kernel
theorem dX2_meetBall_11 : decode cX2_meetBall 11 = .ok (.invokevirtual 57, 3) := by decide +kernel
theorem dX2_meetBall_14 : decode cX2_meetBall 14 = .ok (.ifCond .eq 4, 3) := by decide +kernel
theorem dX2_meetBall_17 : decode cX2_meetBall 17 = .ok (.return_, 1) := by decide +kernel
theorem dX2_meetBall_18 : decode cX2_meetBall 18 = .ok (.aload_n 0, 1) := by decide +kernel
theorem dX2_meetBall_19 : decode cX2_meetBall 19 = .ok (.dup, 1) := by decide +kernel
theorem dX2_meetBall_20 : decode cX2_meetBall 20 = .ok (.getfield 36, 3) := by decide +kernel
theorem dX2_meetBall_23 : decode cX2_meetBall 23 = .ok (.aload_n 0, 1) := by decide +kernel
theorem dX2_meetBall_24 : decode cX2_meetBall 24 = .ok (.getfield 23, 3) := by decide +kernel
theorem dX2_meetBall_27 : decode cX2_meetBall 27 = .ok (.iload_n 1, 1) := by decide +kernel
theorem dX2_meetBall_28 : decode cX2_meetBall 28 = .ok (.invokevirtual 46, 3) := by decide +kernel
theorem dX2_meetBall_31 : decode cX2_meetBall 31 = .ok (.iadd, 1) := by decide +kernel
theorem dX2_meetBall_32 : decode cX2_meetBall 32 = .ok (.putfield 36, 3) := by decide +kernel
theorem dX2_meetBall_35 : decode cX2_meetBall 35 = .ok (.aload_n 0, 1) := by decide +kernel
theorem dX2_meetBall_36 : decode cX2_meetBall 36 = .ok (.iload_n 1, 1) := by decide +kernel
theorem dX2_meetBall_37 : decode cX2_meetBall 37 = .ok (.invokevirtual 80, 3) := by decide +kernel
theorem dX2_meetBall_40 : decode cX2_meetBall 40 = .ok (.ifCond .ne 21, 3) := by decide +kernel
theorem dX2_meetBall_43 : decode cX2_meetBall 43 = .ok (.aload_n 0, 1) := by decide +kernel
theorem dX2_meetBall_44 : decode cX2_meetBall 44 = .ok (.getfield 26, 3) := by decide +kernel
theorem dX2_meetBall_47 : decode cX2_meetBall 47 = .ok (.iload_n 1, 1) := by decide +kernel
theorem dX2_meetBall_48 : decode cX2_meetBall 48 = .ok (.iconst 1, 1) := by decide +kernel
theorem dX2_meetBall_49 : decode cX2_meetBall 49 = .ok (.aload_n 0, 1) := by decide +kernel
theorem dX2_meetBall_50 : decode cX2_meetBall 50 = .ok (.getfield 26, 3) := by decide +kernel
theorem dX2_meetBall_53 : decode cX2_meetBall 53 = .ok (.iload_n 1, 1) := by decide +kernel
theorem dX2_meetBall_54 : decode cX2_meetBall 54 = .ok (.invokevirtual 46, 3) := by decide +kernel
theorem dX2_meetBall_57 : decode cX2_meetBall 57 = .ok (.isub, 1) := by decide +kernel
theorem dX2_meetBall_58 : decode cX2_meetBall 58 = .ok (.invokevirtual 66, 3) := by decide +kernel
theorem dX2_meetBall_61 : decode cX2_meetBall 61 = .ok (.iload_n 3, 1) := by decide +kernel
theorem dX2_meetBall_62 : decode cX2_meetBall 62 = .ok (.ifCond .eq 28, 3) := by decide +kernel
theorem dX2_meetBall_65 : decode cX2_meetBall 65 = .ok (.aload_n 0, 1) := by decide +kernel
theorem dX2_meetBall_66 : decode cX2_meetBall 66 = .ok (.iload_n 1, 1) := by decide +kernel
theorem dX2_meetBall_67 : decode cX2_meetBall 67 = .ok (.iload_n 2, 1) := by decide +kernel
theorem dX2_meetBall_68 : decode cX2_meetBall 68 = .ok (.invokevirtual 97, 3) := by decide +kernel
theorem dX2_meetBall_71 : decode cX2_meetBall 71 = .ok (.ifCond .eq 19, 3) := by decide +kernel
theorem dX2_meetBall_74 : decode cX2_meetBall 74 = .ok (.aload_n 0, 1) := by decide +kernel
theorem dX2_meetBall_75 : decode cX2_meetBall 75 = .ok (.iload_n 1, 1) := by decide +kernel
theorem dX2_meetBall_76 : decode cX2_meetBall 76 = .ok (.iload_n 2, 1) := by decide +kernel
theorem dX2_meetBall_77 : decode cX2_meetBall 77 = .ok (.invokevirtual 101, 3) := by decide +kernel
theorem dX2_meetBall_80 : decode cX2_meetBall 80 = .ok (.aload_n 0, 1) := by decide +kernel
theorem dX2_meetBall_81 : decode cX2_meetBall 81 = .ok (.dup, 1) := by decide +kernel
theorem dX2_meetBall_82 : decode cX2_meetBall 82 = .ok (.getfield 39, 3) := by decide +kernel
theorem dX2_meetBall_85 : decode cX2_meetBall 85 = .ok (.iconst 1, 1) := by decide +kernel
theorem dX2_meetBall_86 : decode cX2_meetBall 86 = .ok (.iadd, 1) := by decide +kernel
theorem dX2_meetBall_87 : decode cX2_meetBall 87 = .ok (.putfield 39, 3) := by decide +kernel
theorem dX2_meetBall_90 : decode cX2_meetBall 90 = .ok (.return_, 1) := by decide +kernel
set_option maxRecDepth 20000 in
theorem ggX2_readSign_X4_put : GoodIn wsX2_readSign wsX4_put := goodIn_r _ [9, 10, 19] (by decide +kernel) (by decide +kernel)
set_option maxRecDepth 20000 in
theorem gX2_readSign_X4_put : GoodIn wsX2_readSign (wsV RX2 66 RX4 yX4_put wsX4_put) := goodIn_app (goodIn_of _ (by decide +kernel)) ggX2_readSign_X4_put
theorem dX2_readSign_0 : decode cX2_readSign 0 = .ok (.aload_n 0, 1) := by decide +kernel
theorem dX2_readSign_1 : decode cX2_readSign 1 = .ok (.getfield 14, 3) := by decide +kernel
theorem dX2_readSign_4 : decode cX2_readSign 4 = .ok (.iload_n 1, 1) := by decide +kernel
theorem dX2_readSign_5 : decode cX2_readSign 5 = .ok (.iload_n 2, 1) := by decide +kernel
theorem dX2_readSign_6 : decode cX2_readSign 6 = .ok (.bipush 60, 2) := by decide +kernel
theorem dX2_readSign_8 : decode cX2_readSign 8 = .ok (.if_icmp .ne 7, 3) := by decide +kernel
theorem dX2_readSign_11 : decode cX2_readSign 11 = .ok (.iconst (-1), 1) := by decide +kernel
theorem dX2_readSign_12 : decode cX2_readSign 12 = .ok (.goto 14, 3) := by decide +kernel
theorem dX2_readSign_15 : decode cX2_readSign 15 = .ok (.iload_n 2, 1) := by decide +kernel
theorem dX2_readSign_16 : decode cX2_readSign 16 = .ok (.bipush 62, 2) := by decide +kernel
theorem dX2_readSign_18 : decode cX2_readSign 18 = .ok (.if_icmp .ne 7, 3) := by decide +kernel
theorem dX2_readSign_21 : decode cX2_readSign 21 = .ok (.iconst 1, 1) := by decide +kernel
theorem dX2_readSign_22 : decode cX2_readSign 22 = .ok (.goto 4, 3) := by decide +kernel
theorem dX2_readSign_25 : decode cX2_readSign 25 = .ok (.iconst 0, 1) := by decide +kernel
theorem dX2_readSign_26 : decode cX2_readSign 26 = .ok (.invokevirtual 66, 3) := by decide +kernel
theorem dX2_readSign_29 : decode cX2_readSign 29 = .ok (.aload_n 0, 1) := by decide +kernel
theorem dX2_readSign_30 : decode cX2_readSign 30 = .ok (.getfield 20, 3) := by decide +kernel
theorem dX2_readSign_33 : decode cX2_readSign 33 = .ok (.iload_n 1, 1) := by decide +kernel
theorem dX2_readSign_34 : decode cX2_readSign 34 = .ok (.iload_n 2, 1) := by decide +kernel
theorem dX2_readSign_35 : decode cX2_readSign 35 = .ok (.bipush 46, 2) := by decide +kernel
theorem dX2_readSign_37 : decode cX2_readSign 37 = .ok (.if_icmp .ne 7, 3) := by decide +kernel
theorem dX2_readSign_40 : decode cX2_readSign 40 = .ok (.iconst 1, 1) := by decide +kernel
theorem dX2_readSign_41 : decode cX2_readSign 41 = .ok (.goto 4, 3) := by decide +kernel
theorem dX2_readSign_44 : decode cX2_readSign 44 = .ok (.iconst 0, 1) := by decide +kernel
theorem dX2_readSign_45 : decode cX2_readSign 45 = .ok (.invokevirtual 66, 3) := by decide +kernel
theorem dX2_readSign_48 : decode cX2_readSign 48 = .ok (.aload_n 0, 1) := by decide +kernel
theorem dX2_readSign_49 : decode cX2_readSign 49 = .ok (.getfield 23, 3) := by decide +kernel
theorem dX2_readSign_52 : decode cX2_readSign 52 = .ok (.iload_n 1, 1) := by decide +kernel
theorem dX2_readSign_53 : decode cX2_readSign 53 = .ok (.iload_n 2, 1) := by decide +kernel
theorem dX2_readSign_54 : decode cX2_readSign 54 = .ok (.bipush 111, 2) := by decide +kernel
theorem dX2_readSign_56 : decode cX2_readSign 56 = .ok (.if_icmp .ne 7, 3) := by decide +kernel
theorem dX2_readSign_59 : decode cX2_readSign 59 = .ok (.iconst 1, 1) := by decide +kernel
theorem dX2_readSign_60 : decode cX2_readSign 60 = .ok (.goto 4, 3) := by decide +kernel
theorem dX2_readSign_63 : decode cX2_readSign 63 = .ok (.iconst 0, 1) := by decide +kernel
theorem dX2_readSign_64 : decode cX2_readSign 64 = .ok (.invokevirtual 66, 3) := by decide +kernel
theorem dX2_readSign_67 : decode cX2_readSign 67 = .ok (.aload_n 0, 1) := by decide +kernel
theorem dX2_readSign_68 : decode cX2_readSign 68 = .ok (.getfield 26, 3) := by decide +kernel
theorem dX2_readSign_71 : decode cX2_readSign 71 = .ok (.iload_n 1, 1) := by decide +kernel
theorem dX2_readSign_72 : decode cX2_readSign 72 = .ok (.iconst 0, 1) := by decide +kernel
theorem dX2_readSign_73 : decode cX2_readSign 73 = .ok (.invokevirtual 66, 3) := by decide +kernel
theorem dX2_readSign_76 : decode cX2_readSign 76 = .ok (.return_, 1) := by decide +kernel
set_option maxRecDepth 20000 in
theorem ggX2_signOf_X2_isOut : GoodIn wsX2_signOf wsX2_isOut := goodIn_r _ [7, 8, 9, 10, 11, 12, 13, 14, 15, 16, 17, 18, 19, 20, 21, 22, 23] (by decide +kernel) (by decide +kernel)
set_option maxRecDepth 20000 in
theorem gX2_signOf_X2_isOut : GoodIn wsX2_signOf (wsV RX2 57 RX2 yX2_isOut wsX2_isOut) := goodIn_app (goodIn_of _ (by decide +kernel)) ggX2_signOf_X2_isOut
set_option maxRecDepth 20000 in
theorem ggX2_signOf_X4_at : GoodIn wsX2_signOf wsX4_at := goodIn_r _ [13, 14, 23] (by decide +kernel) (by decide +kernel)
set_option maxRecDepth 20000 in
theorem gX2_signOf_X4_at : GoodIn wsX2_signOf (wsV RX2 46 RX4 yX4_at wsX4_at) := goodIn_app (goodIn_of _ (by decide +kernel)) ggX2_signOf_X4_at
theorem dX2_signOf_0 : decode cX2_signOf 0 = .ok (.aload_n 0, 1) := by decide +kernel
theorem dX2_signOf_1 : decode cX2_signOf 1 = .ok (.iload_n 1, 1) := by decide +kernel
theorem dX2_signOf_2 : decode cX2_signOf 2 = .ok (.invokevirtual 57, 3) := by decide +kernel
theorem dX2_signOf_5 : decode cX2_signOf 5 = .ok (.ifCond .eq 6, 3) := by decide +kernel
theorem dX2_signOf_8 : decode cX2_signOf 8 = .ok (.bipush 46, 2) := by decide +kernel
theorem dX2_signOf_10 : decode cX2_signOf 10 = .ok (.ireturn, 1) := by decide +kernel
theorem dX2_signOf_11 : decode cX2_signOf 11 = .ok (.aload_n 0, 1) := by decide +kernel
theorem dX2_signOf_12 : decode cX2_signOf 12 = .ok (.getfield 23, 3) := by decide +kernel
theorem dX2_signOf_15 : decode cX2_signOf 15 = .ok (.iload_n 1, 1) := by decide +kernel
theorem dX2_signOf_16 : decode cX2_signOf 16 = .ok (.invokevirtual 46, 3) := by decide +kernel
theorem dX2_signOf_19 : decode cX2_signOf 19 = .ok (.ifCond .eq 6, 3) := by decide +kernel
theorem dX2_signOf_22 : decode cX2_signOf 22 = .ok (.bipush 111, 2) := by decide +kernel
theorem dX2_signOf_24 : decode cX2_signOf 24 = .ok (.ireturn, 1) := by decide +kernel
theorem dX2_signOf_25 : decode cX2_signOf 25 = .ok (.aload_n 0, 1) := by decide +kernel
theorem dX2_signOf_26 : decode cX2_signOf 26 = .ok (.getfield 14, 3) := by decide +kernel
theorem dX2_signOf_29 : decode cX2_signOf 29 = .ok (.iload_n 1, 1) := by decide +kernel
theorem dX2_signOf_30 : decode cX2_signOf 30 = .ok (.invokevirtual 46, 3) := by decide +kernel
theorem dX2_signOf_33 : decode cX2_signOf 33 = .ok (.istore_n 2, 1) := by decide +kernel
theorem dX2_signOf_34 : decode cX2_signOf 34 = .ok (.iload_n 2, 1) := by decide +kernel
theorem dX2_signOf_35 : decode cX2_signOf 35 = .ok (.ifCond .ge 8, 3) := by decide +kernel
theorem dX2_signOf_38 : decode cX2_signOf 38 = .ok (.bipush 60, 2) := by decide +kernel
theorem dX2_signOf_40 : decode cX2_signOf 40 = .ok (.goto 14, 3) := by decide +kernel
theorem dX2_signOf_43 : decode cX2_signOf 43 = .ok (.iload_n 2, 1) := by decide +kernel
theorem dX2_signOf_44 : decode cX2_signOf 44 = .ok (.ifCond .le 8, 3) := by decide +kernel
theorem dX2_signOf_47 : decode cX2_signOf 47 = .ok (.bipush 62, 2) := by decide +kernel
theorem dX2_signOf_49 : decode cX2_signOf 49 = .ok (.goto 5, 3) := by decide +kernel
theorem dX2_signOf_52 : decode cX2_signOf 52 = .ok (.bipush 124, 2) := by decide +kernel
theorem dX2_signOf_54 : decode cX2_signOf 54 = .ok (.ireturn, 1) := by decide +kernel
set_option maxRecDepth 20000 in
theorem ggX3_init_X4_init : GoodIn wsX3_init wsX4_init := goodIn_r _ [11, 12, 2, 3, 13, 14, 15, 16, 17, 18, 19] (by decide +kernel) (by decide +kernel)
set_option maxRecDepth 20000 in
theorem gX3_init_X4_init : GoodIn wsX3_init (wsX4_init) := ggX3_init_X4_init
theorem dX3_init_0 : decode cX3_init 0 = .ok (.aload_n 0, 1) := by decide +kernel
theorem dX3_init_1 : decode cX3_init 1 = .ok (.invokespecial 3, 3) := by decide +kernel
theorem dX3_init_4 : decode cX3_init 4 = .ok (.aload_n 0, 1) := by decide +kernel
theorem dX3_init_5 : decode cX3_init 5 = .ok (.new 9, 3) := by decide +kernel
theorem dX3_init_8 : decode cX3_init 8 = .ok (.dup, 1) := by decide +kernel
theorem dX3_init_9 : decode cX3_init 9 = .ok (.bipush 7, 2) := by decide +kernel
theorem dX3_init_11 : decode cX3_init 11 = .ok (.invokespecial 11, 3) := by decide +kernel
theorem dX3_init_14 : decode cX3_init 14 = .ok (.putfield 14, 3) := by decide +kernel
theorem dX3_init_17 : decode cX3_init 17 = .ok (.aload_n 0, 1) := by decide +kernel
theorem dX3_init_18 : decode cX3_init 18 = .ok (.new 9, 3) := by decide +kernel
theorem dX3_init_21 : decode cX3_init 21 = .ok (.dup, 1) := by decide +kernel
theorem dX3_init_22 : decode cX3_init 22 = .ok (.bipush 7, 2) := by decide +kernel
theorem dX3_init_24 : decode cX3_init 24 = .ok (.invokespecial 11, 3) := by decide +kernel
theorem dX3_init_27 : decode cX3_init 27 = .ok (.putfield 20, 3) := by decide +kernel
theorem dX3_init_30 : decode cX3_init 30 = .ok (.return_, 1) := by decide +kernel
set_option maxRecDepth 20000 in
theorem ggX3_pocketsForward_X3_placesInRow : GoodIn wsX3_pocketsForward wsX3_placesInRow := goodIn_r _ [5, 6, 7, 8, 4, 9, 10, 11, 12, 13, 14, 15, 16, 17, 18, 19, 20, 21, 22, 23, 24, 25, 26, 27, 28, 29, 30, 31, 32, 33, 34, 35, 36, 37, 38, 39, 40, 41, 42, 43, 44, 45, 46, 47, 48, 49, 50, 51, 52, 53, 54, 55, 56, 57] (by decide +kernel) (by decide +kernel)
set_option maxRecDepth 20000 in
theorem gX3_pocketsForward_X3_placesInRow : GoodIn wsX3_pocketsForward (wsV RX3 23 RX3 yX3_placesInRow wsX3_placesInRow) := goodIn_app (goodIn_of _ (by decide +kernel)) ggX3_pocketsForward_X3_placesInRow
theorem dX3_pocketsForward_0 : decode cX3_pocketsForward 0 = .ok (.aload_n 0, 1) := by decide +kernel
theorem dX3_pocketsForward_1 : decode cX3_pocketsForward 1 = .ok (.aload_n 1, 1) := by decide +kernel
theorem dX3_pocketsForward_2 : decode cX3_pocketsForward 2 = .ok (.iconst 5, 1) := by decide +kernel
theorem dX3_pocketsForward_3 : decode cX3_pocketsForward 3 = .ok (.invokevirtual 23, 3) := by decide +kernel
theorem dX3_pocketsForward_6 : decode cX3_pocketsForward 6 = .ok (.ireturn, 1) := by decide +kernel
set_option maxRecDepth 20000 in
theorem ggX3_pocketsBackward_X3_startsTo : GoodIn wsX3_pocketsBackward wsX3_startsTo := goodIn_r _ [5, 6, 7, 8, 9, 10, 11, 4, 12, 13, 14, 15, 16, 17, 18, 19, 20, 21, 22, 23, 24, 25, 26, 27, 28, 29, 30, 31, 32, 33, 34, 35, 36, 37, 38, 39, 40, 41, 42, 43, 44, 45, 46, 47, 48, 49, 50, 51, 52, 53, 54] (by decide +kernel) (by decide +kernel)
set_option maxRecDepth 20000 in
theorem gX3_pocketsBackward_X3_startsTo : GoodIn wsX3_pocketsBackward (wsV RX3 27 RX3 yX3_startsTo wsX3_startsTo) := goodIn_app (goodIn_of _ (by decide +kernel)) ggX3_pocketsBackward_X3_startsTo
set_option maxRecDepth 20000 in
theorem ggX3_pocketsBackward_X6_bit : GoodIn wsX3_pocketsBackward wsX6_bit := goodIn_r _ [8] (by decide +kernel) (by decide +kernel)
set_option maxRecDepth 20000 in
theorem gX3_pocketsBackward_X6_bit_n30 : GoodIn wsX3_pocketsBackward (wsX6_bit) := ggX3_pocketsBackward_X6_bit
theorem dX3_pocketsBackward_0 : decode cX3_pocketsBackward 0 = .ok (.iconst 0, 1) := by decide +kernel
theorem dX3_pocketsBackward_1 : decode cX3_pocketsBackward 1 = .ok (.istore_n 2, 1) := by decide +kernel
theorem dX3_pocketsBackward_2 : decode cX3_pocketsBackward 2 = .ok (.iconst 0, 1) := by decide +kernel
theorem dX3_pocketsBackward_3 : decode cX3_pocketsBackward 3 = .ok (.istore_n 3, 1) := by decide +kernel
theorem dX3_pocketsBackward_4 : decode cX3_pocketsBackward 4 = .ok (.iload_n 3, 1) := by decide +kernel
theorem dX3_pocketsBackward_5 : decode cX3_pocketsBackward 5 = .ok (.bipush 7, 2) := by decide +kernel
theorem dX3_pocketsBackward_7 : decode cX3_pocketsBackward 7 = .ok (.if_icmp .ge 25, 3) := by decide +kernel
theorem dX3_pocketsBackward_10 : decode cX3_pocketsBackward 10 = .ok (.aload_n 0, 1) := by decide +kernel
theorem dX3_pocketsBackward_11 : decode cX3_pocketsBackward 11 = .ok (.aload_n 1, 1) := by decide +kernel
theorem dX3_pocketsBackward_12 : decode cX3_pocketsBackward 12 = .ok (.iload_n 3, 1) := by decide +kernel
theorem dX3_pocketsBackward_13 : decode cX3_pocketsBackward 13 = .ok (.invokevirtual 27, 3) := by decide +kernel
theorem dX3_pocketsBackward_16 : decode cX3_pocketsBackward 16 = .ok (.ifCond .eq 10, 3) := by decide +kernel
theorem dX3_pocketsBackward_19 : decode cX3_pocketsBackward 19 = .ok (.iload_n 2, 1) := by decide +kernel
theorem dX3_pocketsBackward_20 : decode cX3_pocketsBackward 20 = .ok (.iload_n 3, 1) := by decide +kernel
theorem dX3_pocketsBackward_21 : decode cX3_pocketsBackward 21 = .ok (.invokestatic 30, 3) := by decide +kernel
theorem dX3_pocketsBackward_24 : decode cX3_pocketsBackward 24 = .ok (.ior, 1) := by decide +kernel
theorem dX3_pocketsBackward_25 : decode cX3_pocketsBackward 25 = .ok (.istore_n 2, 1) := by decide +kernel
theorem dX3_pocketsBackward_26 : decode cX3_pocketsBackward 26 = .ok (.iinc 3 1, 3) := by decide +kernel
theorem dX3_pocketsBackward_29 : decode cX3_pocketsBackward 29 = .ok (.goto (-25), 3) := by decide +kernel
theorem dX3_pocketsBackward_32 : decode cX3_pocketsBackward 32 = .ok (.iload_n 2, 1) := by decide +kernel
theorem dX3_pocketsBackward_33 : decode cX3_pocketsBackward 33 = .ok (.ireturn, 1) := by decide +kernel
set_option maxRecDepth 20000 in
theorem ggX3_isOpenTo_X3_placesInRow : GoodIn wsX3_isOpenTo wsX3_placesInRow := goodIn_r _ [5, 6, 7, 8, 4, 9, 10, 11, 12, 13, 14, 15, 16, 17, 18, 19, 20, 21, 22, 23, 24, 25, 26, 27, 28, 29, 30, 31, 32, 33, 34, 35, 36, 37, 38, 39, 40, 41, 42, 43, 44, 45, 46, 47, 48, 49, 50, 51, 52, 53, 54, 55, 56, 57] (by decide +kernel) (by decide +kernel)
set_option maxRecDepth 20000 in
theorem gX3_isOpenTo_X3_placesInRow : GoodIn wsX3_isOpenTo (wsV RX3 23 RX3 yX3_placesInRow wsX3_placesInRow) := goodIn_app (goodIn_of _ (by decide +kernel)) ggX3_isOpenTo_X3_placesInRow
set_option maxRecDepth 20000 in
theorem ggX3_isOpenTo_X6_isIn : GoodIn wsX3_isOpenTo wsX6_isIn := goodIn_r _ [12, 13, 14, 11, 15] (by decide +kernel) (by decide +kernel)
set_option maxRecDepth 20000 in
theorem gX3_isOpenTo_X6_isIn_n34 : GoodIn wsX3_isOpenTo (wsX6_isIn) := ggX3_isOpenTo_X6_isIn
theorem dX3_isOpenTo_0 : decode cX3_isOpenTo 0 = .ok (.aload_n 0, 1) := by decide +kernel
theorem dX3_isOpenTo_1 : decode cX3_isOpenTo 1 = .ok (.aload_n 1, 1) := by decide +kernel
theorem dX3_isOpenTo_2 : decode cX3_isOpenTo 2 = .ok (.iload_n 2, 1) := by decide +kernel
theorem dX3_isOpenTo_3 : decode cX3_isOpenTo 3 = .ok (.bipush 7, 2) := by decide +kernel
theorem dX3_isOpenTo_5 : decode cX3_isOpenTo 5 = .ok (.idiv, 1) := by decide +kernel
theorem dX3_isOpenTo_6 : decode cX3_isOpenTo 6 = .ok (.invokevirtual 23, 3) := by decide +kernel
theorem dX3_isOpenTo_9 : decode cX3_isOpenTo 9 = .ok (.iload_n 2, 1) := by decide +kernel
theorem dX3_isOpenTo_10 : decode cX3_isOpenTo 10 = .ok (.bipush 7, 2) := by decide +kernel
theorem dX3_isOpenTo_12 : decode cX3_isOpenTo 12 = .ok (.irem, 1) := by decide +kernel
theorem dX3_isOpenTo_13 : decode cX3_isOpenTo 13 = .ok (.invokestatic 34, 3) := by decide +kernel
theorem dX3_isOpenTo_16 : decode cX3_isOpenTo 16 = .ok (.ireturn, 1) := by decide +kernel
set_option maxRecDepth 20000 in
theorem ggX3_placesInRow_X3_placesBelow : GoodIn wsX3_placesInRow wsX3_placesBelow := goodIn_r _ [5, 6, 7, 8, 9, 10, 11, 12, 13, 14, 15, 16, 17, 18, 19, 20, 21, 22, 23, 24, 25, 26, 27, 28, 29, 30, 31, 32, 33, 34, 35, 36, 37, 38, 39, 40, 41, 42, 43, 44, 45, 46, 47, 48, 49, 50, 51, 52, 53] (by decide +kernel) (by decide +kernel)
set_option maxRecDepth 20000 in
theorem gX3_placesInRow_X3_placesBelow : GoodIn wsX3_placesInRow (wsV RX3 38 RX3 yX3_placesBelow wsX3_placesBelow) := goodIn_app (goodIn_of _ (by decide +kernel)) ggX3_placesInRow_X3_placesBelow
theorem dX3_placesInRow_0 : decode cX3_placesInRow 0 = .ok (.bipush 127, 2) := by decide +kernel
theorem dX3_placesInRow_2 : decode cX3_placesInRow 2 = .ok (.istore_n 3, 1) := by decide +kernel
theorem dX3_placesInRow_3 : decode cX3_placesInRow 3 = .ok (.iconst 0, 1) := by decide +kernel
theorem dX3_placesInRow_4 : decode cX3_placesInRow 4 = .ok (.istore 4, 2) := by decide +kernel
theorem dX3_placesInRow_6 : decode cX3_placesInRow 6 = .ok (.iload 4, 2) := by decide +kernel
theorem dX3_placesInRow_8 : decode cX3_placesInRow 8 = .ok (.iconst 5, 1) := by decide +kernel
theorem dX3_placesInRow_9 : decode cX3_placesInRow 9 = .ok (.if_icmp .ge 24, 3) := by decide +kernel
theorem dX3_placesInRow_12 : decode cX3_placesInRow 12 = .ok (.iload 4, 2) := by decide +kernel
theorem dX3_placesInRow_14 : decode cX3_placesInRow 14 = .ok (.iload_n 2, 1) := by decide +kernel
theorem dX3_placesInRow_15 : decode cX3_placesInRow 15 = .ok (.if_icmp .ge 18, 3) := by decide +kernel
theorem dX3_placesInRow_18 : decode cX3_placesInRow 18 = .ok (.aload_n 0, 1) := by decide +kernel
theorem dX3_placesInRow_19 : decode cX3_placesInRow 19 = .ok (.aload_n 1, 1) := by decide +kernel
theorem dX3_placesInRow_20 : decode cX3_placesInRow 20 = .ok (.iload 4, 2) := by decide +kernel
theorem dX3_placesInRow_22 : decode cX3_placesInRow 22 = .ok (.iload_n 3, 1) := by decide +kernel
theorem dX3_placesInRow_23 : decode cX3_placesInRow 23 = .ok (.invokevirtual 38, 3) := by decide +kernel
theorem dX3_placesInRow_26 : decode cX3_placesInRow 26 = .ok (.istore_n 3, 1) := by decide +kernel
theorem dX3_placesInRow_27 : decode cX3_placesInRow 27 = .ok (.iinc 4 1, 3) := by decide +kernel
theorem dX3_placesInRow_30 : decode cX3_placesInRow 30 = .ok (.goto (-24), 3) := by decide +kernel
theorem dX3_placesInRow_33 : decode cX3_placesInRow 33 = .ok (.iload_n 3, 1) := by decide +kernel
theorem dX3_placesInRow_34 : decode cX3_placesInRow 34 = .ok (.ireturn, 1) := by decide +kernel
set_option maxRecDepth 20000 in
theorem ggX3_placesBelow_X6_isIn : GoodIn wsX3_placesBelow wsX6_isIn := goodIn_r _ [3, 4, 5, 2, 6] (by decide +kernel) (by decide +kernel)
set_option maxRecDepth 20000 in
theorem gX3_placesBelow_X6_isIn_n34 : GoodIn wsX3_placesBelow (wsX6_isIn) := ggX3_placesBelow_X6_isIn
set_option maxRecDepth 20000 in
theorem ggX3_placesBelow_X6_pinAt : GoodIn wsX3_placesBelow wsX6_pinAt := goodIn_r _ [8] (by decide +kernel) (by decide +kernel)
set_option maxRecDepth 20000 in
theorem gX3_placesBelow_X6_pinAt_n42 : GoodIn wsX3_placesBelow (wsX6_pinAt) := ggX3_placesBelow_X6_pinAt
set_option maxRecDepth 20000 in
theorem ggX3_placesBelow_X2_nextPlaces : GoodIn wsX3_placesBelow wsX2_nextPlaces := goodIn_r _ [13, 14, 15, 16, 12, 17, 18, 19, 20, 21, 22, 23, 24, 5, 2, 6, 25, 26, 27, 28, 29, 30, 31, 32, 33, 34, 35, 36, 37, 38, 39, 40, 41, 42, 43, 44, 45, 46, 47, 48] (by decide +kernel) (by decide +kernel)
set_option maxRecDepth 20000 in
theorem gX3_placesBelow_X2_nextPlaces : GoodIn wsX3_placesBelow (wsV RX3 46 RX2 yX2_nextPlaces wsX2_nextPlaces) := goodIn_app (goodIn_of _ (by decide +kernel)) ggX3_placesBelow_X2_nextPlaces
theorem dX3_placesBelow_0 : decode cX3_placesBelow 0 = .ok (.iconst 0, 1) := by decide +kernel
theorem dX3_placesBelow_1 : decode cX3_placesBelow 1 = .ok (.istore 4, 2) := by decide +kernel
theorem dX3_placesBelow_3 : decode cX3_placesBelow 3 = .ok (.iconst 0, 1) := by decide +kernel
theorem dX3_placesBelow_4 : decode cX3_placesBelow 4 = .ok (.istore 5, 2) := by decide +kernel
theorem dX3_placesBelow_6 : decode cX3_placesBelow 6 = .ok (.iload 5, 2) := by decide +kernel
theorem dX3_placesBelow_8 : decode cX3_placesBelow 8 = .ok (.bipush 7, 2) := by decide +kernel
theorem dX3_placesBelow_10 : decode cX3_placesBelow 10 = .ok (.if_icmp .ge 33, 3) := by decide +kernel
theorem dX3_placesBelow_13 : decode cX3_placesBelow 13 = .ok (.iload_n 3, 1) := by decide +kernel
theorem dX3_placesBelow_14 : decode cX3_placesBelow 14 = .ok (.iload 5, 2) := by decide +kernel
theorem dX3_placesBelow_16 : decode cX3_placesBelow 16 = .ok (.invokestatic 34, 3) := by decide +kernel
theorem dX3_placesBelow_19 : decode cX3_placesBelow 19 = .ok (.ifCond .eq 18, 3) := by decide +kernel
theorem dX3_placesBelow_22 : decode cX3_placesBelow 22 = .ok (.iload 4, 2) := by decide +kernel
theorem dX3_placesBelow_24 : decode cX3_placesBelow 24 = .ok (.aload_n 1, 1) := by decide +kernel
theorem dX3_placesBelow_25 : decode cX3_placesBelow 25 = .ok (.iload_n 2, 1) := by decide +kernel
theorem dX3_placesBelow_26 : decode cX3_placesBelow 26 = .ok (.iload 5, 2) := by decide +kernel
theorem dX3_placesBelow_28 : decode cX3_placesBelow 28 = .ok (.invokestatic 42, 3) := by decide +kernel
theorem dX3_placesBelow_31 : decode cX3_placesBelow 31 = .ok (.invokevirtual 46, 3) := by decide +kernel
theorem dX3_placesBelow_34 : decode cX3_placesBelow 34 = .ok (.ior, 1) := by decide +kernel
theorem dX3_placesBelow_35 : decode cX3_placesBelow 35 = .ok (.istore 4, 2) := by decide +kernel
theorem dX3_placesBelow_37 : decode cX3_placesBelow 37 = .ok (.iinc 5 1, 3) := by decide +kernel
theorem dX3_placesBelow_40 : decode cX3_placesBelow 40 = .ok (.goto (-34), 3) := by decide +kernel
theorem dX3_placesBelow_43 : decode cX3_placesBelow 43 = .ok (.iload 4, 2) := by decide +kernel
theorem dX3_placesBelow_45 : decode cX3_placesBelow 45 = .ok (.ireturn, 1) := by decide +kernel
set_option maxRecDepth 20000 in
theorem ggX3_startsTo_X6_bit : GoodIn wsX3_startsTo wsX6_bit := goodIn_r _ [3] (by decide +kernel) (by decide +kernel)
set_option maxRecDepth 20000 in
theorem gX3_startsTo_X6_bit_n30 : GoodIn wsX3_startsTo (wsX6_bit) := ggX3_startsTo_X6_bit
set_option maxRecDepth 20000 in
theorem ggX3_startsTo_X3_placesAbove : GoodIn wsX3_startsTo wsX3_placesAbove := goodIn_r _ [8, 9, 2, 10, 11, 12, 13, 14, 15, 16, 17, 18, 19, 20, 21, 22, 23, 24, 25, 26, 1, 3, 27, 28, 29, 30, 31, 32, 33, 34, 35, 36, 37, 38, 39, 40, 41, 42, 43, 44, 45, 46, 47, 48, 49, 50] (by decide +kernel) (by decide +kernel)
set_option maxRecDepth 20000 in
theorem gX3_startsTo_X3_placesAbove : GoodIn wsX3_startsTo (wsV RX3 51 RX3 yX3_placesAbove wsX3_placesAbove) := goodIn_app (goodIn_of _ (by decide +kernel)) ggX3_startsTo_X3_placesAbove
theorem dX3_startsTo_0 : decode cX3_startsTo 0 = .ok (.iload_n 2, 1) := by decide +kernel
theorem dX3_startsTo_1 : decode cX3_startsTo 1 = .ok (.invokestatic 30, 3) := by decide +kernel
theorem dX3_startsTo_4 : decode cX3_startsTo 4 = .ok (.istore_n 3, 1) := by decide +kernel
theorem dX3_startsTo_5 : decode cX3_startsTo 5 = .ok (.iconst 4, 1) := by decide +kernel
theorem dX3_startsTo_6 : decode cX3_startsTo 6 = .ok (.istore 4, 2) := by decide +kernel
theorem dX3_startsTo_8 : decode cX3_startsTo 8 = .ok (.iload 4, 2) := by decide +kernel
theorem dX3_startsTo_10 : decode cX3_startsTo 10 = .ok (.ifCond .lt 18, 3) := by decide +kernel
theorem dX3_startsTo_13 : decode cX3_startsTo 13 = .ok (.aload_n 0, 1) := by decide +kernel
theorem dX3_startsTo_14 : decode cX3_startsTo 14 = .ok (.aload_n 1, 1) := by decide +kernel
theorem dX3_startsTo_15 : decode cX3_startsTo 15 = .ok (.iload 4, 2) := by decide +kernel
theorem dX3_startsTo_17 : decode cX3_startsTo 17 = .ok (.iload_n 3, 1) := by decide +kernel
theorem dX3_startsTo_18 : decode cX3_startsTo 18 = .ok (.invokevirtual 51, 3) := by decide +kernel
theorem dX3_startsTo_21 : decode cX3_startsTo 21 = .ok (.istore_n 3, 1) := by decide +kernel
theorem dX3_startsTo_22 : decode cX3_startsTo 22 = .ok (.iinc 4 (-1), 3) := by decide +kernel
theorem dX3_startsTo_25 : decode cX3_startsTo 25 = .ok (.goto (-17), 3) := by decide +kernel
theorem dX3_startsTo_28 : decode cX3_startsTo 28 = .ok (.iload_n 3, 1) := by decide +kernel
theorem dX3_startsTo_29 : decode cX3_startsTo 29 = .ok (.ireturn, 1) := by decide +kernel
set_option maxRecDepth 20000 in
theorem ggX3_placesAbove_X6_pinAt : GoodIn wsX3_placesAbove wsX6_pinAt := goodIn_r _ [3] (by decide +kernel) (by decide +kernel)
set_option maxRecDepth 20000 in
theorem gX3_placesAbove_X6_pinAt_n42 : GoodIn wsX3_placesAbove (wsX6_pinAt) := ggX3_placesAbove_X6_pinAt
set_option maxRecDepth 20000 in
theorem ggX3_placesAbove_X2_nextPlaces : GoodIn wsX3_placesAbove wsX2_nextPlaces := goodIn_r _ [8, 9, 10, 11, 7, 12, 13, 14, 15, 16, 17, 18, 19, 20, 2, 21, 22, 23, 24, 25, 26, 27, 28, 29, 30, 31, 32, 33, 34, 35, 36, 37, 38, 39, 40, 41, 42, 43, 44, 45] (by decide +kernel) (by decide +kernel)
set_option maxRecDepth 20000 in
theorem gX3_placesAbove_X2_nextPlaces : GoodIn wsX3_placesAbove (wsV RX3 46 RX2 yX2_nextPlaces wsX2_nextPlaces) := goodIn_app (goodIn_of _ (by decide +kernel)) ggX3_placesAbove_X2_nextPlaces
set_option maxRecDepth 20000 in
theorem ggX3_placesAbove_X6_bit : GoodIn wsX3_placesAbove wsX6_bit := goodIn_r _ [21] (by decide +kernel) (by decide +kernel)
set_option maxRecDepth 20000 in
theorem gX3_placesAbove_X6_bit_n30 : GoodIn wsX3_placesAbove (wsX6_bit) := ggX3_placesAbove_X6_bit
theorem dX3_placesAbove_0 : decode cX3_placesAbove 0 = .ok (.iconst 0, 1) := by decide +kernel
theorem dX3_placesAbove_1 : decode cX3_placesAbove 1 = .ok (.istore 4, 2) := by decide +kernel
theorem dX3_placesAbove_3 : decode cX3_placesAbove 3 = .ok (.iconst 0, 1) := by decide +kernel
theorem dX3_placesAbove_4 : decode cX3_placesAbove 4 = .ok (.istore 5, 2) := by decide +kernel
theorem dX3_placesAbove_6 : decode cX3_placesAbove 6 = .ok (.iload 5, 2) := by decide +kernel
theorem dX3_placesAbove_8 : decode cX3_placesAbove 8 = .ok (.bipush 7, 2) := by decide +kernel
theorem dX3_placesAbove_10 : decode cX3_placesAbove 10 = .ok (.if_icmp .ge 34, 3) := by decide +kernel
theorem dX3_placesAbove_13 : decode cX3_placesAbove 13 = .ok (.aload_n 1, 1) := by decide +kernel
theorem dX3_placesAbove_14 : decode cX3_placesAbove 14 = .ok (.iload_n 2, 1) := by decide +kernel
theorem dX3_placesAbove_15 : decode cX3_placesAbove 15 = .ok (.iload 5, 2) := by decide +kernel
theorem dX3_placesAbove_17 : decode cX3_placesAbove 17 = .ok (.invokestatic 42, 3) := by decide +kernel
theorem dX3_placesAbove_20 : decode cX3_placesAbove 20 = .ok (.invokevirtual 46, 3) := by decide +kernel
theorem dX3_placesAbove_23 : decode cX3_placesAbove 23 = .ok (.iload_n 3, 1) := by decide +kernel
theorem dX3_placesAbove_24 : decode cX3_placesAbove 24 = .ok (.iand, 1) := by decide +kernel
theorem dX3_placesAbove_25 : decode cX3_placesAbove 25 = .ok (.ifCond .eq 13, 3) := by decide +kernel
theorem dX3_placesAbove_28 : decode cX3_placesAbove 28 = .ok (.iload 4, 2) := by decide +kernel
theorem dX3_placesAbove_30 : decode cX3_placesAbove 30 = .ok (.iload 5, 2) := by decide +kernel
theorem dX3_placesAbove_32 : decode cX3_placesAbove 32 = .ok (.invokestatic 30, 3) := by decide +kernel
theorem dX3_placesAbove_35 : decode cX3_placesAbove 35 = .ok (.ior, 1) := by decide +kernel
theorem dX3_placesAbove_36 : decode cX3_placesAbove 36 = .ok (.istore 4, 2) := by decide +kernel
theorem dX3_placesAbove_38 : decode cX3_placesAbove 38 = .ok (.iinc 5 1, 3) := by decide +kernel
theorem dX3_placesAbove_41 : decode cX3_placesAbove 41 = .ok (.goto (-35), 3) := by decide +kernel
theorem dX3_placesAbove_44 : decode cX3_placesAbove 44 = .ok (.iload 4, 2) := by decide +kernel
theorem dX3_placesAbove_46 : decode cX3_placesAbove 46 = .ok (.ireturn, 1) := by decide +kernel
set_option maxRecDepth 20000 in
theorem ggX3_waysRowByRow_X4_fillWith : GoodIn wsX3_waysRowByRow wsX4_fillWith := goodIn_r _ [7, 8, 9, 10, 11, 12, 71] (by decide +kernel) (by decide +kernel)
set_option maxRecDepth 20000 in
theorem gX3_waysRowByRow_X4_fillWith : GoodIn wsX3_waysRowByRow (wsV RX3 54 RX4 yX4_fillWith wsX4_fillWith) := goodIn_app (goodIn_of _ (by decide +kernel)) ggX3_waysRowByRow_X4_fillWith
set_option maxRecDepth 20000 in
theorem ggX3_waysRowByRow_X6_pinAt : GoodIn wsX3_waysRowByRow wsX6_pinAt := goodIn_r _ [15] (by decide +kernel) (by decide +kernel)
set_option maxRecDepth 20000 in
theorem gX3_waysRowByRow_X6_pinAt_n42 : GoodIn wsX3_waysRowByRow (wsX6_pinAt) := ggX3_waysRowByRow_X6_pinAt
set_option maxRecDepth 20000 in
theorem ggX3_waysRowByRow_X2_nextPlaces : GoodIn wsX3_waysRowByRow wsX2_nextPlaces := goodIn_r _ [20, 21, 22, 23, 19, 24, 25, 26, 27, 28, 6, 29, 8, 30, 14, 31, 32, 33, 34, 35, 36, 37, 38, 39, 40, 41, 42, 43, 44, 45, 46, 72, 73, 74, 75, 76, 77, 78, 79, 71] (by decide +kernel) (by decide +kernel)
set_option maxRecDepth 20000 in
theorem gX3_waysRowByRow_X2_nextPlaces : GoodIn wsX3_waysRowByRow (wsV RX3 46 RX2 yX2_nextPlaces wsX2_nextPlaces) := goodIn_app (goodIn_of _ (by decide +kernel)) ggX3_waysRowByRow_X2_nextPlaces
set_option maxRecDepth 20000 in
theorem ggX3_waysRowByRow_X4_at : GoodIn wsX3_waysRowByRow wsX4_at := goodIn_r _ [29, 8, 71] (by decide +kernel) (by decide +kernel)
set_option maxRecDepth 20000 in
theorem gX3_waysRowByRow_X4_at : GoodIn wsX3_waysRowByRow (wsV RX3 57 RX4 yX4_at wsX4_at) := goodIn_app (goodIn_of _ (by decide +kernel)) ggX3_waysRowByRow_X4_at
set_option maxRecDepth 20000 in
theorem ggX3_waysRowByRow_X3_passWaysOn : GoodIn wsX3_waysRowByRow wsX3_passWaysOn := goodIn_r _ [52, 2, 53, 14, 54, 55, 30, 31, 56, 57, 58, 6, 59, 8, 69, 70, 71] (by decide +kernel) (by decide +kernel)
set_option maxRecDepth 20000 in
theorem gX3_waysRowByRow_X3_passWaysOn : GoodIn wsX3_waysRowByRow (wsV RX3 60 RX3 yX3_passWaysOn wsX3_passWaysOn) := goodIn_app (goodIn_of _ (by decide +kernel)) ggX3_waysRowByRow_X3_passWaysOn
set_option maxRecDepth 20000 in
theorem ggX3_waysRowByRow_X4_copyFrom : GoodIn wsX3_waysRowByRow wsX4_copyFrom := goodIn_r _ [63, 8, 64, 41, 42, 43, 65, 66, 67, 68, 71] (by decide +kernel) (by decide +kernel)
set_option maxRecDepth 20000 in
theorem gX3_waysRowByRow_X4_copyFrom : GoodIn wsX3_waysRowByRow (wsV RX3 64 RX4 yX4_copyFrom wsX4_copyFrom) := goodIn_app (goodIn_of _ (by decide +kernel)) ggX3_waysRowByRow_X4_copyFrom
theorem dX3_waysRowByRow_0 : decode cX3_waysRowByRow 0 = .ok (.aload_n 0, 1) := by decide +kernel
theorem dX3_waysRowByRow_1 : decode cX3_waysRowByRow 1 = .ok (.getfield 14, 3) := by decide +kernel
theorem dX3_waysRowByRow_4 : decode cX3_waysRowByRow 4 = .ok (.iconst 1, 1) := by decide +kernel
theorem dX3_waysRowByRow_5 : decode cX3_waysRowByRow 5 = .ok (.invokevirtual 54, 3) := by decide +kernel
theorem dX3_waysRowByRow_8 : decode cX3_waysRowByRow 8 = .ok (.iconst 0, 1) := by decide +kernel
theorem dX3_waysRowByRow_9 : decode cX3_waysRowByRow 9 = .ok (.istore_n 3, 1) := by decide +kernel
theorem dX3_waysRowByRow_10 : decode cX3_waysRowByRow 10 = .ok (.iload_n 3, 1) := by decide +kernel
theorem dX3_waysRowByRow_11 : decode cX3_waysRowByRow 11 = .ok (.iconst 5, 1) := by decide +kernel
theorem dX3_waysRowByRow_12 : decode cX3_waysRowByRow 12 = .ok (.if_icmp .ge 67, 3) := by decide +kernel
theorem dX3_waysRowByRow_15 : decode cX3_waysRowByRow 15 = .ok (.aload_n 0, 1) := by decide +kernel
theorem dX3_waysRowByRow_16 : decode cX3_waysRowByRow 16 = .ok (.getfield 20, 3) := by decide +kernel
theorem dX3_waysRowByRow_19 : decode cX3_waysRowByRow 19 = .ok (.iconst 0, 1) := by decide +kernel
theorem dX3_waysRowByRow_20 : decode cX3_waysRowByRow 20 = .ok (.invokevirtual 54, 3) := by decide +kernel
theorem dX3_waysRowByRow_23 : decode cX3_waysRowByRow 23 = .ok (.iconst 0, 1) := by decide +kernel
theorem dX3_waysRowByRow_24 : decode cX3_waysRowByRow 24 = .ok (.istore 4, 2) := by decide +kernel
theorem dX3_waysRowByRow_26 : decode cX3_waysRowByRow 26 = .ok (.iload 4, 2) := by decide +kernel
theorem dX3_waysRowByRow_28 : decode cX3_waysRowByRow 28 = .ok (.bipush 7, 2) := by decide +kernel
theorem dX3_waysRowByRow_30 : decode cX3_waysRowByRow 30 = .ok (.if_icmp .ge 32, 3) := by decide +kernel
theorem dX3_waysRowByRow_33 : decode cX3_waysRowByRow 33 = .ok (.aload_n 0, 1) := by decide +kernel
theorem dX3_waysRowByRow_34 : decode cX3_waysRowByRow 34 = .ok (.aload_n 1, 1) := by decide +kernel
theorem dX3_waysRowByRow_35 : decode cX3_waysRowByRow 35 = .ok (.iload_n 3, 1) := by decide +kernel
theorem dX3_waysRowByRow_36 : decode cX3_waysRowByRow 36 = .ok (.iload 4, 2) := by decide +kernel
theorem dX3_waysRowByRow_38 : decode cX3_waysRowByRow 38 = .ok (.invokestatic 42, 3) := by decide +kernel
theorem dX3_waysRowByRow_41 : decode cX3_waysRowByRow 41 = .ok (.invokevirtual 46, 3) := by decide +kernel
theorem dX3_waysRowByRow_44 : decode cX3_waysRowByRow 44 = .ok (.aload_n 0, 1) := by decide +kernel
theorem dX3_waysRowByRow_45 : decode cX3_waysRowByRow 45 = .ok (.getfield 14, 3) := by decide +kernel
theorem dX3_waysRowByRow_48 : decode cX3_waysRowByRow 48 = .ok (.iload 4, 2) := by decide +kernel
theorem dX3_waysRowByRow_50 : decode cX3_waysRowByRow 50 = .ok (.invokevirtual 57, 3) := by decide +kernel
theorem dX3_waysRowByRow_53 : decode cX3_waysRowByRow 53 = .ok (.invokevirtual 60, 3) := by decide +kernel
theorem dX3_waysRowByRow_56 : decode cX3_waysRowByRow 56 = .ok (.iinc 4 1, 3) := by decide +kernel
theorem dX3_waysRowByRow_59 : decode cX3_waysRowByRow 59 = .ok (.goto (-33), 3) := by decide +kernel
theorem dX3_waysRowByRow_62 : decode cX3_waysRowByRow 62 = .ok (.aload_n 0, 1) := by decide +kernel
theorem dX3_waysRowByRow_63 : decode cX3_waysRowByRow 63 = .ok (.getfield 14, 3) := by decide +kernel
theorem dX3_waysRowByRow_66 : decode cX3_waysRowByRow 66 = .ok (.aload_n 0, 1) := by decide +kernel
theorem dX3_waysRowByRow_67 : decode cX3_waysRowByRow 67 = .ok (.getfield 20, 3) := by decide +kernel
theorem dX3_waysRowByRow_70 : decode cX3_waysRowByRow 70 = .ok (.invokevirtual 64, 3) := by decide +kernel
theorem dX3_waysRowByRow_73 : decode cX3_waysRowByRow 73 = .ok (.iinc 3 1, 3) := by decide +kernel
theorem dX3_waysRowByRow_76 : decode cX3_waysRowByRow 76 = .ok (.goto (-66), 3) := by decide +kernel
theorem dX3_waysRowByRow_79 : decode cX3_waysRowByRow 79 = .ok (.aload_n 0, 1) := by decide +kernel
theorem dX3_waysRowByRow_80 : decode cX3_waysRowByRow 80 = .ok (.getfield 14, 3) := by decide +kernel
theorem dX3_waysRowByRow_83 : decode cX3_waysRowByRow 83 = .ok (.iload_n 2, 1) := by decide +kernel
theorem dX3_waysRowByRow_84 : decode cX3_waysRowByRow 84 = .ok (.invokevirtual 57, 3) := by decide +kernel
theorem dX3_waysRowByRow_87 : decode cX3_waysRowByRow 87 = .ok (.ireturn, 1) := by decide +kernel
set_option maxRecDepth 20000 in
theorem ggX3_passWaysOn_X6_isIn : GoodIn wsX3_passWaysOn wsX6_isIn := goodIn_r _ [4, 5, 6, 3, 7] (by decide +kernel) (by decide +kernel)
set_option maxRecDepth 20000 in
theorem gX3_passWaysOn_X6_isIn_n34 : GoodIn wsX3_passWaysOn (wsX6_isIn) := ggX3_passWaysOn_X6_isIn
set_option maxRecDepth 20000 in
theorem ggX3_passWaysOn_X4_raise : GoodIn wsX3_passWaysOn wsX4_raise := goodIn_r _ [12, 13, 16] (by decide +kernel) (by decide +kernel)
set_option maxRecDepth 20000 in
theorem gX3_passWaysOn_X4_raise : GoodIn wsX3_passWaysOn (wsV RX3 68 RX4 yX4_raise wsX4_raise) := goodIn_app (goodIn_of _ (by decide +kernel)) ggX3_passWaysOn_X4_raise
theorem dX3_passWaysOn_0 : decode cX3_passWaysOn 0 = .ok (.iconst 0, 1) := by decide +kernel
theorem dX3_passWaysOn_1 : decode cX3_passWaysOn 1 = .ok (.istore_n 3, 1) := by decide +kernel
theorem dX3_passWaysOn_2 : decode cX3_passWaysOn 2 = .ok (.iload_n 3, 1) := by decide +kernel
theorem dX3_passWaysOn_3 : decode cX3_passWaysOn 3 = .ok (.bipush 7, 2) := by decide +kernel
theorem dX3_passWaysOn_5 : decode cX3_passWaysOn 5 = .ok (.if_icmp .ge 26, 3) := by decide +kernel
theorem dX3_passWaysOn_8 : decode cX3_passWaysOn 8 = .ok (.iload_n 1, 1) := by decide +kernel
theorem dX3_passWaysOn_9 : decode cX3_passWaysOn 9 = .ok (.iload_n 3, 1) := by decide +kernel
theorem dX3_passWaysOn_10 : decode cX3_passWaysOn 10 = .ok (.invokestatic 34, 3) := by decide +kernel
theorem dX3_passWaysOn_13 : decode cX3_passWaysOn 13 = .ok (.ifCond .eq 12, 3) := by decide +kernel
theorem dX3_passWaysOn_16 : decode cX3_passWaysOn 16 = .ok (.aload_n 0, 1) := by decide +kernel
theorem dX3_passWaysOn_17 : decode cX3_passWaysOn 17 = .ok (.getfield 20, 3) := by decide +kernel
theorem dX3_passWaysOn_20 : decode cX3_passWaysOn 20 = .ok (.iload_n 3, 1) := by decide +kernel
theorem dX3_passWaysOn_21 : decode cX3_passWaysOn 21 = .ok (.iload_n 2, 1) := by decide +kernel
theorem dX3_passWaysOn_22 : decode cX3_passWaysOn 22 = .ok (.invokevirtual 68, 3) := by decide +kernel
theorem dX3_passWaysOn_25 : decode cX3_passWaysOn 25 = .ok (.iinc 3 1, 3) := by decide +kernel
theorem dX3_passWaysOn_28 : decode cX3_passWaysOn 28 = .ok (.goto (-26), 3) := by decide +kernel
theorem dX3_passWaysOn_31 : decode cX3_passWaysOn 31 = .ok (.return_, 1) := by decide +kernel
theorem dX4_init_0 : decode cX4_init 0 = .ok (.aload_n 0, 1) := by decide +kernel
theorem dX4_init_1 : decode cX4_init 1 = .ok (.invokespecial 1, 3) := by decide +kernel
theorem dX4_init_4 : decode cX4_init 4 = .ok (.aload_n 0, 1) := by decide +kernel
theorem dX4_init_5 : decode cX4_init 5 = .ok (.iconst 0, 1) := by decide +kernel
theorem dX4_init_6 : decode cX4_init 6 = .ok (.iload_n 1, 1) := by decide +kernel
theorem dX4_init_7 : decode cX4_init 7 = .ok (.invokestatic 7, 3) := by decide +kernel
theorem dX4_init_10 : decode cX4_init 10 = .ok (.newarray .int, 2) := by decide +kernel
theorem dX4_init_12 : decode cX4_init 12 = .ok (.putfield 13, 3) := by decide +kernel
theorem dX4_init_15 : decode cX4_init 15 = .ok (.return_, 1) := by decide +kernel
theorem dX4_at_0 : decode cX4_at 0 = .ok (.iload_n 1, 1) := by decide +kernel
theorem dX4_at_1 : decode cX4_at 1 = .ok (.ifCond .lt 21, 3) := by decide +kernel
theorem dX4_at_4 : decode cX4_at 4 = .ok (.iload_n 1, 1) := by decide +kernel
theorem dX4_at_5 : decode cX4_at 5 = .ok (.aload_n 0, 1) := by decide +kernel
theorem dX4_at_6 : decode cX4_at 6 = .ok (.getfield 13, 3) := by decide +kernel
theorem dX4_at_9 : decode cX4_at 9 = .ok (.arraylength, 1) := by decide +kernel
theorem dX4_at_10 : decode cX4_at 10 = .ok (.if_icmp .ge 12, 3) := by decide +kernel
theorem dX4_at_13 : decode cX4_at 13 = .ok (.aload_n 0, 1) := by decide +kernel
theorem dX4_at_14 : decode cX4_at 14 = .ok (.getfield 13, 3) := by decide +kernel
theorem dX4_at_17 : decode cX4_at 17 = .ok (.iload_n 1, 1) := by decide +kernel
theorem dX4_at_18 : decode cX4_at 18 = .ok (.iaload, 1) := by decide +kernel
theorem dX4_at_19 : decode cX4_at 19 = .ok (.goto 4, 3) := by decide +kernel
theorem dX4_at_22 : decode cX4_at 22 = .ok (.iconst 0, 1) := by decide +kernel
theorem dX4_at_23 : decode cX4_at 23 = .ok (.ireturn, 1) := by decide +kernel
theorem dX4_put_0 : decode cX4_put 0 = .ok (.iload_n 1, 1) := by decide +kernel
theorem dX4_put_1 : decode cX4_put 1 = .ok (.ifCond .lt 19, 3) := by decide +kernel
theorem dX4_put_4 : decode cX4_put 4 = .ok (.iload_n 1, 1) := by decide +kernel
theorem dX4_put_5 : decode cX4_put 5 = .ok (.aload_n 0, 1) := by decide +kernel
theorem dX4_put_6 : decode cX4_put 6 = .ok (.getfield 13, 3) := by decide +kernel
theorem dX4_put_9 : decode cX4_put 9 = .ok (.arraylength, 1) := by decide +kernel
theorem dX4_put_10 : decode cX4_put 10 = .ok (.if_icmp .ge 10, 3) := by decide +kernel
theorem dX4_put_13 : decode cX4_put 13 = .ok (.aload_n 0, 1) := by decide +kernel
theorem dX4_put_14 : decode cX4_put 14 = .ok (.getfield 13, 3) := by decide +kernel
theorem dX4_put_17 : decode cX4_put 17 = .ok (.iload_n 1, 1) := by decide +kernel
theorem dX4_put_18 : decode cX4_put 18 = .ok (.iload_n 2, 1) := by decide +kernel
theorem dX4_put_19 : decode cX4_put 19 = .ok (.iastore, 1) := by decide +kernel
theorem dX4_put_20 : decode cX4_put 20 = .ok (.return_, 1) := by decide +kernel
theorem dX4_raise_0 : decode cX4_raise 0 = .ok (.iload_n 1, 1) := by decide +kernel
theorem dX4_raise_1 : decode cX4_raise 1 = .ok (.ifCond .lt 22, 3) := by decide +kernel
theorem dX4_raise_4 : decode cX4_raise 4 = .ok (.iload_n 1, 1) := by decide +kernel
theorem dX4_raise_5 : decode cX4_raise 5 = .ok (.aload_n 0, 1) := by decide +kernel
theorem dX4_raise_6 : decode cX4_raise 6 = .ok (.getfield 13, 3) := by decide +kernel
theorem dX4_raise_9 : decode cX4_raise 9 = .ok (.arraylength, 1) := by decide +kernel
theorem dX4_raise_10 : decode cX4_raise 10 = .ok (.if_icmp .ge 13, 3) := by decide +kernel
theorem dX4_raise_13 : decode cX4_raise 13 = .ok (.aload_n 0, 1) := by decide +kernel
theorem dX4_raise_14 : decode cX4_raise 14 = .ok (.getfield 13, 3) := by decide +kernel
theorem dX4_raise_17 : decode cX4_raise 17 = .ok (.iload_n 1, 1) := by decide +kernel
theorem dX4_raise_18 : decode cX4_raise 18 = .ok (.dup2, 1) := by decide +kernel
theorem dX4_raise_19 : decode cX4_raise 19 = .ok (.iaload, 1) := by decide +kernel
theorem dX4_raise_20 : decode cX4_raise 20 = .ok (.iload_n 2, 1) := by decide +kernel
theorem dX4_raise_21 : decode cX4_raise 21 = .ok (.iadd, 1) := by decide +kernel
theorem dX4_raise_22 : decode cX4_raise 22 = .ok (.iastore, 1) := by decide +kernel
theorem dX4_raise_23 : decode cX4_raise 23 = .ok (.return_, 1) := by decide +kernel
set_option maxRecDepth 20000 in
theorem ggX4_fillWith_J7_fill_53178 : GoodIn wsX4_fillWith wsJ7_fill_53178 := goodIn_r _ [5] (by decide +kernel) (by decide +kernel)
set_option maxRecDepth 20000 in
theorem gX4_fillWith_J7_fill_53178 : GoodIn wsX4_fillWith (va_wsS RX4 19 yJ7_fill_53178 wsJ7_fill_53178) := goodIn_app (goodIn_of _ (by decide +kernel)) ggX4_fillWith_J7_fill_53178
theorem dX4_fillWith_0 : decode cX4_fillWith 0 = .ok (.aload_n 0, 1) := by decide +kernel
theorem dX4_fillWith_1 : decode cX4_fillWith 1 = .ok (.getfield 13, 3) := by decide +kernel
theorem dX4_fillWith_4 : decode cX4_fillWith 4 = .ok (.iload_n 1, 1) := by decide +kernel
theorem dX4_fillWith_5 : decode cX4_fillWith 5 = .ok (.invokestatic 19, 3) := by decide +kernel
theorem dX4_fillWith_8 : decode cX4_fillWith 8 = .ok (.return_, 1) := by decide +kernel
theorem dX4_copyFrom_0 : decode cX4_copyFrom 0 = .ok (.aload_n 1, 1) := by decide +kernel
theorem dX4_copyFrom_1 : decode cX4_copyFrom 1 = .ok (.getfield 13, 3) := by decide +kernel
theorem dX4_copyFrom_4 : decode cX4_copyFrom 4 = .ok (.iconst 0, 1) := by decide +kernel
theorem dX4_copyFrom_5 : decode cX4_copyFrom 5 = .ok (.aload_n 0, 1) := by decide +kernel
theorem dX4_copyFrom_6 : decode cX4_copyFrom 6 = .ok (.getfield 13, 3) := by decide +kernel
theorem dX4_copyFrom_9 : decode cX4_copyFrom 9 = .ok (.iconst 0, 1) := by decide +kernel
theorem dX4_copyFrom_10 : decode cX4_copyFrom 10 = .ok (.aload_n 1, 1) := by decide +kernel
theorem dX4_copyFrom_11 : decode cX4_copyFrom 11 = .ok (.getfield 13, 3) := by decide +kernel
theorem dX4_copyFrom_14 : decode cX4_copyFrom 14 = .ok (.arraylength, 1) := by decide +kernel
theorem dX4_copyFrom_15 : decode cX4_copyFrom 15 = .ok (.aload_n 0, 1) := by decide +kernel
theorem dX4_copyFrom_16 : decode cX4_copyFrom 16 = .ok (.getfield 13, 3) := by decide +kernel
theorem dX4_copyFrom_19 : decode cX4_copyFrom 19 = .ok (.arraylength, 1) := by decide +kernel
theorem dX4_copyFrom_20 : decode cX4_copyFrom 20 = .ok (.invokestatic 25, 3) := by decide +kernel
theorem dX4_copyFrom_23 : decode cX4_copyFrom 23 = .ok (.invokestatic 28, 3) := by decide +kernel
theorem dX4_copyFrom_26 : decode cX4_copyFrom 26 = .ok (.return_, 1) := by decide +kernel
theorem dX4_total_0 : decode cX4_total 0 = .ok (.iconst 0, 1) := by decide +kernel
theorem dX4_total_1 : decode cX4_total 1 = .ok (.istore_n 1, 1) := by decide +kernel
theorem dX4_total_2 : decode cX4_total 2 = .ok (.aload_n 0, 1) := by decide +kernel
theorem dX4_total_3 : decode cX4_total 3 = .ok (.getfield 13, 3) := by decide +kernel
theorem dX4_total_6 : decode cX4_total 6 = .ok (.astore_n 2, 1) := by decide +kernel
theorem dX4_total_7 : decode cX4_total 7 = .ok (.aload_n 2, 1) := by decide +kernel
theorem dX4_total_8 : decode cX4_total 8 = .ok (.arraylength, 1) := by decide +kernel
theorem dX4_total_9 : decode cX4_total 9 = .ok (.istore_n 3, 1) := by decide +kernel
theorem dX4_total_10 : decode cX4_total 10 = .ok (.iconst 0, 1) := by decide +kernel
theorem dX4_total_11 : decode cX4_total 11 = .ok (.istore 4, 2) := by decide +kernel
theorem dX4_total_13 : decode cX4_total 13 = .ok (.iload 4, 2) := by decide +kernel
theorem dX4_total_15 : decode cX4_total 15 = .ok (.iload_n 3, 1) := by decide +kernel
theorem dX4_total_16 : decode cX4_total 16 = .ok (.if_icmp .ge 20, 3) := by decide +kernel
theorem dX4_total_19 : decode cX4_total 19 = .ok (.aload_n 2, 1) := by decide +kernel
theorem dX4_total_20 : decode cX4_total 20 = .ok (.iload 4, 2) := by decide +kernel
theorem dX4_total_22 : decode cX4_total 22 = .ok (.iaload, 1) := by decide +kernel
theorem dX4_total_23 : decode cX4_total 23 = .ok (.istore 5, 2) := by decide +kernel
theorem dX4_total_25 : decode cX4_total 25 = .ok (.iload_n 1, 1) := by decide +kernel
theorem dX4_total_26 : decode cX4_total 26 = .ok (.iload 5, 2) := by decide +kernel
theorem dX4_total_28 : decode cX4_total 28 = .ok (.iadd, 1) := by decide +kernel
theorem dX4_total_29 : decode cX4_total 29 = .ok (.istore_n 1, 1) := by decide +kernel
theorem dX4_total_30 : decode cX4_total 30 = .ok (.iinc 4 1, 3) := by decide +kernel
theorem dX4_total_33 : decode cX4_total 33 = .ok (.goto (-20), 3) := by decide +kernel
theorem dX4_total_36 : decode cX4_total 36 = .ok (.iload_n 1, 1) := by decide +kernel
theorem dX4_total_37 : decode cX4_total 37 = .ok (.ireturn, 1) := by decide +kernel
set_option maxRecDepth 20000 in
theorem ggX5_init_X2_init : GoodIn wsX5_init wsX2_init := goodIn_r _ [26, 27, 2, 3, 28, 9, 10, 29, 30, 31, 32, 33, 34, 35, 36, 37, 38, 39, 40, 41, 22, 23, 24, 42, 43, 68, 49, 50, 51, 52, 53, 54, 55, 56] (by decide +kernel) (by decide +kernel)
set_option maxRecDepth 20000 in
theorem gX5_init_X2_init_n11 : GoodIn wsX5_init (wsX2_init) := ggX5_init_X2_init
set_option maxRecDepth 20000 in
theorem ggX5_init_X4_init : GoodIn wsX5_init wsX4_init := goodIn_r _ [39, 40, 2, 3, 41, 22, 23, 24, 42, 43, 68] (by decide +kernel) (by decide +kernel)
set_option maxRecDepth 20000 in
theorem gX5_init_X4_init : GoodIn wsX5_init (wsX4_init) := ggX5_init_X4_init
set_option maxRecDepth 20000 in
theorem ggX5_init_X4_put : GoodIn wsX5_init wsX4_put := goodIn_r _ [48, 43, 68] (by decide +kernel) (by decide +kernel)
set_option maxRecDepth 20000 in
theorem gX5_init_X4_put : GoodIn wsX5_init (wsV RX5 61 RX4 yX4_put wsX4_put) := goodIn_app (goodIn_of _ (by decide +kernel)) ggX5_init_X4_put
theorem dX5_init_0 : decode cX5_init 0 = .ok (.aload_n 0, 1) := by decide +kernel
theorem dX5_init_1 : decode cX5_init 1 = .ok (.invokespecial 3, 3) := by decide +kernel
theorem dX5_init_4 : decode cX5_init 4 = .ok (.aload_n 0, 1) := by decide +kernel
theorem dX5_init_5 : decode cX5_init 5 = .ok (.new 9, 3) := by decide +kernel
theorem dX5_init_8 : decode cX5_init 8 = .ok (.dup, 1) := by decide +kernel
theorem dX5_init_9 : decode cX5_init 9 = .ok (.invokespecial 11, 3) := by decide +kernel
theorem dX5_init_12 : decode cX5_init 12 = .ok (.putfield 12, 3) := by decide +kernel
theorem dX5_init_15 : decode cX5_init 15 = .ok (.aload_n 0, 1) := by decide +kernel
theorem dX5_init_16 : decode cX5_init 16 = .ok (.new 18, 3) := by decide +kernel
theorem dX5_init_19 : decode cX5_init 19 = .ok (.dup, 1) := by decide +kernel
theorem dX5_init_20 : decode cX5_init 20 = .ok (.bipush 7, 2) := by decide +kernel
theorem dX5_init_22 : decode cX5_init 22 = .ok (.invokespecial 20, 3) := by decide +kernel
theorem dX5_init_25 : decode cX5_init 25 = .ok (.putfield 23, 3) := by decide +kernel
theorem dX5_init_28 : decode cX5_init 28 = .ok (.aload_n 0, 1) := by decide +kernel
theorem dX5_init_29 : decode cX5_init 29 = .ok (.new 18, 3) := by decide +kernel
theorem dX5_init_32 : decode cX5_init 32 = .ok (.dup, 1) := by decide +kernel
theorem dX5_init_33 : decode cX5_init 33 = .ok (.bipush 7, 2) := by decide +kernel
theorem dX5_init_35 : decode cX5_init 35 = .ok (.invokespecial 20, 3) := by decide +kernel
theorem dX5_init_38 : decode cX5_init 38 = .ok (.putfield 27, 3) := by decide +kernel
theorem dX5_init_41 : decode cX5_init 41 = .ok (.aload_n 0, 1) := by decide +kernel
theorem dX5_init_42 : decode cX5_init 42 = .ok (.new 18, 3) := by decide +kernel
theorem dX5_init_45 : decode cX5_init 45 = .ok (.dup, 1) := by decide +kernel
theorem dX5_init_46 : decode cX5_init 46 = .ok (.bipush 7, 2) := by decide +kernel
theorem dX5_init_48 : decode cX5_init 48 = .ok (.invokespecial 20, 3) := by decide +kernel
theorem dX5_init_51 : decode cX5_init 51 = .ok (.putfield 30, 3) := by decide +kernel
theorem dX5_init_54 : decode cX5_init 54 = .ok (.aload_n 0, 1) := by decide +kernel
theorem dX5_init_55 : decode cX5_init 55 = .ok (.iconst 3, 1) := by decide +kernel
theorem dX5_init_56 : decode cX5_init 56 = .ok (.putfield 33, 3) := by decide +kernel
theorem dX5_init_59 : decode cX5_init 59 = .ok (.aload_n 0, 1) := by decide +kernel
theorem dX5_init_60 : decode cX5_init 60 = .ok (.bipush 20, 2) := by decide +kernel
theorem dX5_init_62 : decode cX5_init 62 = .ok (.putfield 37, 3) := by decide +kernel
theorem dX5_init_65 : decode cX5_init 65 = .ok (.aload_n 0, 1) := by decide +kernel
theorem dX5_init_66 : decode cX5_init 66 = .ok (.iconst 0, 1) := by decide +kernel
theorem dX5_init_67 : decode cX5_init 67 = .ok (.putfield 40, 3) := by decide +kernel
theorem dX5_init_70 : decode cX5_init 70 = .ok (.aload_n 0, 1) := by decide +kernel
theorem dX5_init_71 : decode cX5_init 71 = .ok (.iconst 0, 1) := by decide +kernel
theorem dX5_init_72 : decode cX5_init 72 = .ok (.putfield 43, 3) := by decide +kernel
theorem dX5_init_75 : decode cX5_init 75 = .ok (.aload_n 0, 1) := by decide +kernel
theorem dX5_init_76 : decode cX5_init 76 = .ok (.iconst 0, 1) := by decide +kernel
theorem dX5_init_77 : decode cX5_init 77 = .ok (.putfield 46, 3) := by decide +kernel
theorem dX5_init_80 : decode cX5_init 80 = .ok (.aload_n 0, 1) := by decide +kernel
theorem dX5_init_81 : decode cX5_init 81 = .ok (.iconst 0, 1) := by decide +kernel
theorem dX5_init_82 : decode cX5_init 82 = .ok (.putfield 49, 3) := by decide +kernel
theorem dX5_init_85 : decode cX5_init 85 = .ok (.aload_n 0, 1) := by decide +kernel
theorem dX5_init_86 : decode cX5_init 86 = .ok (.iconst 0, 1) := by decide +kernel
theorem dX5_init_87 : decode cX5_init 87 = .ok (.putfield 52, 3) := by decide +kernel
theorem dX5_init_90 : decode cX5_init 90 = .ok (.iconst 0, 1) := by decide +kernel
theorem dX5_init_91 : decode cX5_init 91 = .ok (.istore_n 1, 1) := by decide +kernel
theorem dX5_init_92 : decode cX5_init 92 = .ok (.iload_n 1, 1) := by decide +kernel
theorem dX5_init_93 : decode cX5_init 93 = .ok (.bipush 7, 2) := by decide +kernel
theorem dX5_init_95 : decode cX5_init 95 = .ok (.if_icmp .ge 27, 3) := by decide +kernel
theorem dX5_init_98 : decode cX5_init 98 = .ok (.aload_n 0, 1) := by decide +kernel
theorem dX5_init_99 : decode cX5_init 99 = .ok (.getfield 23, 3) := by decide +kernel
theorem dX5_init_102 : decode cX5_init 102 = .ok (.iload_n 1, 1) := by decide +kernel
theorem dX5_init_103 : decode cX5_init 103 = .ok (.iload_n 1, 1) := by decide +kernel
theorem dX5_init_104 : decode cX5_init 104 = .ok (.bipush 6, 2) := by decide +kernel
theorem dX5_init_106 : decode cX5_init 106 = .ok (.iload_n 1, 1) := by decide +kernel
theorem dX5_init_107 : decode cX5_init 107 = .ok (.isub, 1) := by decide +kernel
theorem dX5_init_108 : decode cX5_init 108 = .ok (.invokestatic 55, 3) := by decide +kernel
theorem dX5_init_111 : decode cX5_init 111 = .ok (.iconst 2, 1) := by decide +kernel
theorem dX5_init_112 : decode cX5_init 112 = .ok (.isub, 1) := by decide +kernel
theorem dX5_init_113 : decode cX5_init 113 = .ok (.invokevirtual 61, 3) := by decide +kernel
theorem dX5_init_116 : decode cX5_init 116 = .ok (.iinc 1 1, 3) := by decide +kernel
theorem dX5_init_119 : decode cX5_init 119 = .ok (.goto (-27), 3) := by decide +kernel
theorem dX5_init_122 : decode cX5_init 122 = .ok (.return_, 1) := by decide +kernel
set_option maxRecDepth 20000 in
theorem ggX5_copyFrom_X2_copyFrom : GoodIn wsX5_copyFrom wsX2_copyFrom := goodIn_r _ [16, 17, 18, 19, 20, 21, 22, 23, 24, 25, 26, 27, 28, 29, 30, 31, 32, 33, 34, 35, 36, 37, 38, 51, 52, 53, 54, 55, 56, 57, 58, 59] (by decide +kernel) (by decide +kernel)
set_option maxRecDepth 20000 in
theorem gX5_copyFrom_X2_copyFrom : GoodIn wsX5_copyFrom (wsV RX5 65 RX2 yX2_copyFrom wsX2_copyFrom) := goodIn_app (goodIn_of _ (by decide +kernel)) ggX5_copyFrom_X2_copyFrom
set_option maxRecDepth 20000 in
theorem ggX5_copyFrom_X4_copyFrom : GoodIn wsX5_copyFrom wsX4_copyFrom := goodIn_r _ [29, 30, 31, 32, 33, 34, 35, 36, 37, 38, 59] (by decide +kernel) (by decide +kernel)
set_option maxRecDepth 20000 in
theorem gX5_copyFrom_X4_copyFrom : GoodIn wsX5_copyFrom (wsV RX5 69 RX4 yX4_copyFrom wsX4_copyFrom) := goodIn_app (goodIn_of _ (by decide +kernel)) ggX5_copyFrom_X4_copyFrom
theorem dX5_copyFrom_0 : decode cX5_copyFrom 0 = .ok (.aload_n 0, 1) := by decide +kernel
theorem dX5_copyFrom_1 : decode cX5_copyFrom 1 = .ok (.getfield 12, 3) := by decide +kernel
theorem dX5_copyFrom_4 : decode cX5_copyFrom 4 = .ok (.aload_n 1, 1) := by decide +kernel
theorem dX5_copyFrom_5 : decode cX5_copyFrom 5 = .ok (.getfield 12, 3) := by decide +kernel
theorem dX5_copyFrom_8 : decode cX5_copyFrom 8 = .ok (.invokevirtual 65, 3) := by decide +kernel
theorem dX5_copyFrom_11 : decode cX5_copyFrom 11 = .ok (.aload_n 0, 1) := by decide +kernel
theorem dX5_copyFrom_12 : decode cX5_copyFrom 12 = .ok (.getfield 23, 3) := by decide +kernel
theorem dX5_copyFrom_15 : decode cX5_copyFrom 15 = .ok (.aload_n 1, 1) := by decide +kernel
theorem dX5_copyFrom_16 : decode cX5_copyFrom 16 = .ok (.getfield 23, 3) := by decide +kernel
theorem dX5_copyFrom_19 : decode cX5_copyFrom 19 = .ok (.invokevirtual 69, 3) := by decide +kernel
theorem dX5_copyFrom_22 : decode cX5_copyFrom 22 = .ok (.aload_n 0, 1) := by decide +kernel
theorem dX5_copyFrom_23 : decode cX5_copyFrom 23 = .ok (.getfield 27, 3) := by decide +kernel
theorem dX5_copyFrom_26 : decode cX5_copyFrom 26 = .ok (.aload_n 1, 1) := by decide +kernel
theorem dX5_copyFrom_27 : decode cX5_copyFrom 27 = .ok (.getfield 27, 3) := by decide +kernel
theorem dX5_copyFrom_30 : decode cX5_copyFrom 30 = .ok (.invokevirtual 69, 3) := by decide +kernel
theorem dX5_copyFrom_33 : decode cX5_copyFrom 33 = .ok (.aload_n 0, 1) := by decide +kernel
theorem dX5_copyFrom_34 : decode cX5_copyFrom 34 = .ok (.getfield 30, 3) := by decide +kernel
theorem dX5_copyFrom_37 : decode cX5_copyFrom 37 = .ok (.aload_n 1, 1) := by decide +kernel
theorem dX5_copyFrom_38 : decode cX5_copyFrom 38 = .ok (.getfield 30, 3) := by decide +kernel
theorem dX5_copyFrom_41 : decode cX5_copyFrom 41 = .ok (.invokevirtual 69, 3) := by decide +kernel
theorem dX5_copyFrom_44 : decode cX5_copyFrom 44 = .ok (.aload_n 0, 1) := by decide +kernel
theorem dX5_copyFrom_45 : decode cX5_copyFrom 45 = .ok (.aload_n 1, 1) := by decide +kernel
theorem dX5_copyFrom_46 : decode cX5_copyFrom 46 = .ok (.getfield 33, 3) := by decide +kernel
theorem dX5_copyFrom_49 : decode cX5_copyFrom 49 = .ok (.putfield 33, 3) := by decide +kernel
theorem dX5_copyFrom_52 : decode cX5_copyFrom 52 = .ok (.aload_n 0, 1) := by decide +kernel
theorem dX5_copyFrom_53 : decode cX5_copyFrom 53 = .ok (.aload_n 1, 1) := by decide +kernel
theorem dX5_copyFrom_54 : decode cX5_copyFrom 54 = .ok (.getfield 37, 3) := by decide +kernel
theorem dX5_copyFrom_57 : decode cX5_copyFrom 57 = .ok (.putfield 37, 3) := by decide +kernel
theorem dX5_copyFrom_60 : decode cX5_copyFrom 60 = .ok (.aload_n 0, 1) := by decide +kernel
theorem dX5_copyFrom_61 : decode cX5_copyFrom 61 = .ok (.aload_n 1, 1) := by decide +kernel
theorem dX5_copyFrom_62 : decode cX5_copyFrom 62 = .ok (.getfield 40, 3) := by decide +kernel
theorem dX5_copyFrom_65 : decode cX5_copyFrom 65 = .ok (.putfield 40, 3) := by decide +kernel
theorem dX5_copyFrom_68 : decode cX5_copyFrom 68 = .ok (.aload_n 0, 1) := by decide +kernel
theorem dX5_copyFrom_69 : decode cX5_copyFrom 69 = .ok (.aload_n 1, 1) := by decide +kernel
theorem dX5_copyFrom_70 : decode cX5_copyFrom 70 = .ok (.getfield 43, 3) := by decide +kernel
theorem dX5_copyFrom_73 : decode cX5_copyFrom 73 = .ok (.putfield 43, 3) := by decide +kernel
theorem dX5_copyFrom_76 : decode cX5_copyFrom 76 = .ok (.aload_n 0, 1) := by decide +kernel
theorem dX5_copyFrom_77 : decode cX5_copyFrom 77 = .ok (.aload_n 1, 1) := by decide +kernel
theorem dX5_copyFrom_78 : decode cX5_copyFrom 78 = .ok (.getfield 46, 3) := by decide +kernel
theorem dX5_copyFrom_81 : decode cX5_copyFrom 81 = .ok (.putfield 46, 3) := by decide +kernel
theorem dX5_copyFrom_84 : decode cX5_copyFrom 84 = .ok (.aload_n 0, 1) := by decide +kernel
theorem dX5_copyFrom_85 : decode cX5_copyFrom 85 = .ok (.aload_n 1, 1) := by decide +kernel
theorem dX5_copyFrom_86 : decode cX5_copyFrom 86 = .ok (.getfield 49, 3) := by decide +kernel
theorem dX5_copyFrom_89 : decode cX5_copyFrom 89 = .ok (.putfield 49, 3) := by decide +kernel
theorem dX5_copyFrom_92 : decode cX5_copyFrom 92 = .ok (.aload_n 0, 1) := by decide +kernel
theorem dX5_copyFrom_93 : decode cX5_copyFrom 93 = .ok (.aload_n 1, 1) := by decide +kernel
theorem dX5_copyFrom_94 : decode cX5_copyFrom 94 = .ok (.getfield 52, 3) := by decide +kernel
theorem dX5_copyFrom_97 : decode cX5_copyFrom 97 = .ok (.putfield 52, 3) := by decide +kernel
theorem dX5_copyFrom_100 : decode cX5_copyFrom 100 = .ok (.return_, 1) := by decide +kernel
set_option maxRecDepth 20000 in
theorem ggX5_isFull_X4_at : GoodIn wsX5_isFull wsX4_at := goodIn_r _ [7, 8, 20] (by decide +kernel) (by decide +kernel)
set_option maxRecDepth 20000 in
theorem gX5_isFull_X4_at : GoodIn wsX5_isFull (wsV RX5 72 RX4 yX4_at wsX4_at) := goodIn_app (goodIn_of _ (by decide +kernel)) ggX5_isFull_X4_at
theorem dX5_isFull_0 : decode cX5_isFull 0 = .ok (.aload_n 0, 1) := by decide +kernel
theorem dX5_isFull_1 : decode cX5_isFull 1 = .ok (.getfield 27, 3) := by decide +kernel
theorem dX5_isFull_4 : decode cX5_isFull 4 = .ok (.iload_n 1, 1) := by decide +kernel
theorem dX5_isFull_5 : decode cX5_isFull 5 = .ok (.invokevirtual 72, 3) := by decide +kernel
theorem dX5_isFull_8 : decode cX5_isFull 8 = .ok (.aload_n 0, 1) := by decide +kernel
theorem dX5_isFull_9 : decode cX5_isFull 9 = .ok (.getfield 33, 3) := by decide +kernel
theorem dX5_isFull_12 : decode cX5_isFull 12 = .ok (.if_icmp .lt 7, 3) := by decide +kernel
theorem dX5_isFull_15 : decode cX5_isFull 15 = .ok (.iconst 1, 1) := by decide +kernel
theorem dX5_isFull_16 : decode cX5_isFull 16 = .ok (.goto 4, 3) := by decide +kernel
theorem dX5_isFull_19 : decode cX5_isFull 19 = .ok (.iconst 0, 1) := by decide +kernel
theorem dX5_isFull_20 : decode cX5_isFull 20 = .ok (.ireturn, 1) := by decide +kernel
set_option maxRecDepth 20000 in
theorem ggX5_fullPockets_X5_isFull : GoodIn wsX5_fullPockets wsX5_isFull := goodIn_r _ [5, 6, 7, 8, 9, 10, 11, 12, 13, 14, 15, 16, 17, 18, 19, 20, 21, 22, 23, 24, 25] (by decide +kernel) (by decide +kernel)
set_option maxRecDepth 20000 in
theorem gX5_fullPockets_X5_isFull : GoodIn wsX5_fullPockets (wsV RX5 76 RX5 yX5_isFull wsX5_isFull) := goodIn_app (goodIn_of _ (by decide +kernel)) ggX5_fullPockets_X5_isFull
theorem dX5_fullPockets_0 : decode cX5_fullPockets 0 = .ok (.iconst 0, 1) := by decide +kernel
theorem dX5_fullPockets_1 : decode cX5_fullPockets 1 = .ok (.istore_n 1, 1) := by decide +kernel
theorem dX5_fullPockets_2 : decode cX5_fullPockets 2 = .ok (.iconst 0, 1) := by decide +kernel
theorem dX5_fullPockets_3 : decode cX5_fullPockets 3 = .ok (.istore_n 2, 1) := by decide +kernel
theorem dX5_fullPockets_4 : decode cX5_fullPockets 4 = .ok (.iload_n 2, 1) := by decide +kernel
theorem dX5_fullPockets_5 : decode cX5_fullPockets 5 = .ok (.bipush 7, 2) := by decide +kernel
theorem dX5_fullPockets_7 : decode cX5_fullPockets 7 = .ok (.if_icmp .ge 20, 3) := by decide +kernel
theorem dX5_fullPockets_10 : decode cX5_fullPockets 10 = .ok (.aload_n 0, 1) := by decide +kernel
theorem dX5_fullPockets_11 : decode cX5_fullPockets 11 = .ok (.iload_n 2, 1) := by decide +kernel
theorem dX5_fullPockets_12 : decode cX5_fullPockets 12 = .ok (.invokevirtual 76, 3) := by decide +kernel
theorem dX5_fullPockets_15 : decode cX5_fullPockets 15 = .ok (.ifCond .eq 6, 3) := by decide +kernel
theorem dX5_fullPockets_18 : decode cX5_fullPockets 18 = .ok (.iinc 1 1, 3) := by decide +kernel
theorem dX5_fullPockets_21 : decode cX5_fullPockets 21 = .ok (.iinc 2 1, 3) := by decide +kernel
theorem dX5_fullPockets_24 : decode cX5_fullPockets 24 = .ok (.goto (-20), 3) := by decide +kernel
theorem dX5_fullPockets_27 : decode cX5_fullPockets 27 = .ok (.iload_n 1, 1) := by decide +kernel
theorem dX5_fullPockets_28 : decode cX5_fullPockets 28 = .ok (.ireturn, 1) := by decide +kernel
set_option maxRecDepth 20000 in
theorem ggX5_shootBall_X2_rollBall : GoodIn wsX5_shootBall wsX2_rollBall := goodIn_r _ [12, 13, 14, 15, 16, 17, 18, 11, 19, 20, 21, 22, 23, 24, 25, 26, 27, 28, 29, 30, 31, 32, 33, 34, 35, 36, 37, 38, 39, 40, 41, 42, 43, 44, 45, 46, 47, 48, 49, 50, 51, 52, 53, 54, 55, 56, 57, 58, 59, 60, 61, 62, 63, 64, 65, 66, 67, 68, 69, 70, 71, 72, 100, 101, 102, 103, 104, 105, 106, 107, 108] (by decide +kernel) (by decide +kernel)
set_option maxRecDepth 20000 in
theorem gX5_shootBall_X2_rollBall : GoodIn wsX5_shootBall (wsV RX5 83 RX2 yX2_rollBall wsX2_rollBall) := goodIn_app (goodIn_of _ (by decide +kernel)) ggX5_shootBall_X2_rollBall
set_option maxRecDepth 20000 in
theorem ggX5_shootBall_X5_takeBall : GoodIn wsX5_shootBall wsX5_takeBall := goodIn_r _ [77, 78, 79, 80, 81, 82, 47, 48, 29, 49, 31, 83, 84, 85, 76, 86, 87, 88, 27, 28, 30, 89, 90, 91, 92, 93, 94, 95, 96, 97, 98, 99, 108] (by decide +kernel) (by decide +kernel)
set_option maxRecDepth 20000 in
theorem gX5_shootBall_X5_takeBall : GoodIn wsX5_shootBall (wsV RX5 87 RX5 yX5_takeBall wsX5_takeBall) := goodIn_app (goodIn_of _ (by decide +kernel)) ggX5_shootBall_X5_takeBall
theorem dX5_shootBall_0 : decode cX5_shootBall 0 = .ok (.aload_n 0, 1) := by decide +kernel
theorem dX5_shootBall_1 : decode cX5_shootBall 1 = .ok (.getfield 37, 3) := by decide +kernel
theorem dX5_shootBall_4 : decode cX5_shootBall 4 = .ok (.ifCond .gt 15, 3) := by decide +kernel
theorem dX5_shootBall_7 : decode cX5_shootBall 7 = .ok (.aload_n 0, 1) := by decide +kernel
theorem dX5_shootBall_8 : decode cX5_shootBall 8 = .ok (.dup, 1) := by decide +kernel
theorem dX5_shootBall_9 : decode cX5_shootBall 9 = .ok (.getfield 52, 3) := by decide +kernel
theorem dX5_shootBall_12 : decode cX5_shootBall 12 = .ok (.iconst 1, 1) := by decide +kernel
theorem dX5_shootBall_13 : decode cX5_shootBall 13 = .ok (.iadd, 1) := by decide +kernel
theorem dX5_shootBall_14 : decode cX5_shootBall 14 = .ok (.putfield 52, 3) := by decide +kernel
theorem dX5_shootBall_17 : decode cX5_shootBall 17 = .ok (.iconst 1, 1) := by decide +kernel
theorem dX5_shootBall_18 : decode cX5_shootBall 18 = .ok (.ireturn, 1) := by decide +kernel
theorem dX5_shootBall_19 : decode cX5_shootBall 19 = .ok (.aload_n 0, 1) := by decide +kernel
theorem dX5_shootBall_20 : decode cX5_shootBall 20 = .ok (.dup, 1) := by decide +kernel
theorem dX5_shootBall_21 : decode cX5_shootBall 21 = .ok (.getfield 37, 3) := by decide +kernel
theorem dX5_shootBall_24 : decode cX5_shootBall 24 = .ok (.iconst 1, 1) := by decide +kernel
theorem dX5_shootBall_25 : decode cX5_shootBall 25 = .ok (.isub, 1) := by decide +kernel
theorem dX5_shootBall_26 : decode cX5_shootBall 26 = .ok (.putfield 37, 3) := by decide +kernel
theorem dX5_shootBall_29 : decode cX5_shootBall 29 = .ok (.aload_n 0, 1) := by decide +kernel
theorem dX5_shootBall_30 : decode cX5_shootBall 30 = .ok (.dup, 1) := by decide +kernel
theorem dX5_shootBall_31 : decode cX5_shootBall 31 = .ok (.getfield 46, 3) := by decide +kernel
theorem dX5_shootBall_34 : decode cX5_shootBall 34 = .ok (.iconst 1, 1) := by decide +kernel
theorem dX5_shootBall_35 : decode cX5_shootBall 35 = .ok (.iadd, 1) := by decide +kernel
theorem dX5_shootBall_36 : decode cX5_shootBall 36 = .ok (.putfield 46, 3) := by decide +kernel
theorem dX5_shootBall_39 : decode cX5_shootBall 39 = .ok (.iload_n 2, 1) := by decide +kernel
theorem dX5_shootBall_40 : decode cX5_shootBall 40 = .ok (.ifCond .eq 13, 3) := by decide +kernel
theorem dX5_shootBall_43 : decode cX5_shootBall 43 = .ok (.aload_n 0, 1) := by decide +kernel
theorem dX5_shootBall_44 : decode cX5_shootBall 44 = .ok (.dup, 1) := by decide +kernel
theorem dX5_shootBall_45 : decode cX5_shootBall 45 = .ok (.getfield 49, 3) := by decide +kernel
theorem dX5_shootBall_48 : decode cX5_shootBall 48 = .ok (.iconst 1, 1) := by decide +kernel
theorem dX5_shootBall_49 : decode cX5_shootBall 49 = .ok (.iadd, 1) := by decide +kernel
theorem dX5_shootBall_50 : decode cX5_shootBall 50 = .ok (.putfield 49, 3) := by decide +kernel
theorem dX5_shootBall_53 : decode cX5_shootBall 53 = .ok (.aload_n 0, 1) := by decide +kernel
theorem dX5_shootBall_54 : decode cX5_shootBall 54 = .ok (.getfield 12, 3) := by decide +kernel
theorem dX5_shootBall_57 : decode cX5_shootBall 57 = .ok (.getfield 80, 3) := by decide +kernel
theorem dX5_shootBall_60 : decode cX5_shootBall 60 = .ok (.istore_n 3, 1) := by decide +kernel
theorem dX5_shootBall_61 : decode cX5_shootBall 61 = .ok (.aload_n 0, 1) := by decide +kernel
theorem dX5_shootBall_62 : decode cX5_shootBall 62 = .ok (.getfield 12, 3) := by decide +kernel
theorem dX5_shootBall_65 : decode cX5_shootBall 65 = .ok (.iload_n 1, 1) := by decide +kernel
theorem dX5_shootBall_66 : decode cX5_shootBall 66 = .ok (.iload_n 2, 1) := by decide +kernel
theorem dX5_shootBall_67 : decode cX5_shootBall 67 = .ok (.invokevirtual 83, 3) := by decide +kernel
theorem dX5_shootBall_70 : decode cX5_shootBall 70 = .ok (.istore 4, 2) := by decide +kernel
theorem dX5_shootBall_72 : decode cX5_shootBall 72 = .ok (.aload_n 0, 1) := by decide +kernel
theorem dX5_shootBall_73 : decode cX5_shootBall 73 = .ok (.getfield 12, 3) := by decide +kernel
theorem dX5_shootBall_76 : decode cX5_shootBall 76 = .ok (.getfield 80, 3) := by decide +kernel
theorem dX5_shootBall_79 : decode cX5_shootBall 79 = .ok (.iload_n 3, 1) := by decide +kernel
theorem dX5_shootBall_80 : decode cX5_shootBall 80 = .ok (.isub, 1) := by decide +kernel
theorem dX5_shootBall_81 : decode cX5_shootBall 81 = .ok (.aload_n 0, 1) := by decide +kernel
theorem dX5_shootBall_82 : decode cX5_shootBall 82 = .ok (.iload 4, 2) := by decide +kernel
theorem dX5_shootBall_84 : decode cX5_shootBall 84 = .ok (.invokevirtual 87, 3) := by decide +kernel
theorem dX5_shootBall_87 : decode cX5_shootBall 87 = .ok (.iadd, 1) := by decide +kernel
theorem dX5_shootBall_88 : decode cX5_shootBall 88 = .ok (.istore 5, 2) := by decide +kernel
theorem dX5_shootBall_90 : decode cX5_shootBall 90 = .ok (.aload_n 0, 1) := by decide +kernel
theorem dX5_shootBall_91 : decode cX5_shootBall 91 = .ok (.dup, 1) := by decide +kernel
theorem dX5_shootBall_92 : decode cX5_shootBall 92 = .ok (.getfield 43, 3) := by decide +kernel
theorem dX5_shootBall_95 : decode cX5_shootBall 95 = .ok (.iload 5, 2) := by decide +kernel
theorem dX5_shootBall_97 : decode cX5_shootBall 97 = .ok (.iadd, 1) := by decide +kernel
theorem dX5_shootBall_98 : decode cX5_shootBall 98 = .ok (.putfield 43, 3) := by decide +kernel
theorem dX5_shootBall_101 : decode cX5_shootBall 101 = .ok (.bipush 10, 2) := by decide +kernel
theorem dX5_shootBall_103 : decode cX5_shootBall 103 = .ok (.iload 5, 2) := by decide +kernel
theorem dX5_shootBall_105 : decode cX5_shootBall 105 = .ok (.iadd, 1) := by decide +kernel
theorem dX5_shootBall_106 : decode cX5_shootBall 106 = .ok (.ireturn, 1) := by decide +kernel
set_option maxRecDepth 20000 in
theorem ggX5_takeBall_X4_raise : GoodIn wsX5_takeBall wsX4_raise := goodIn_r _ [9, 10, 32] (by decide +kernel) (by decide +kernel)
set_option maxRecDepth 20000 in
theorem gX5_takeBall_X4_raise : GoodIn wsX5_takeBall (wsV RX5 90 RX4 yX4_raise wsX4_raise) := goodIn_app (goodIn_of _ (by decide +kernel)) ggX5_takeBall_X4_raise
set_option maxRecDepth 20000 in
theorem ggX5_takeBall_X5_isFull : GoodIn wsX5_takeBall wsX5_isFull := goodIn_r _ [15, 3, 16, 17, 18, 19, 8, 20, 10, 21, 22, 23, 24, 25, 26, 27, 28, 29, 30, 31, 32] (by decide +kernel) (by decide +kernel)
set_option maxRecDepth 20000 in
theorem gX5_takeBall_X5_isFull : GoodIn wsX5_takeBall (wsV RX5 76 RX5 yX5_isFull wsX5_isFull) := goodIn_app (goodIn_of _ (by decide +kernel)) ggX5_takeBall_X5_isFull
set_option maxRecDepth 20000 in
theorem ggX5_takeBall_X4_at : GoodIn wsX5_takeBall wsX4_at := goodIn_r _ [20, 10, 32] (by decide +kernel) (by decide +kernel)
set_option maxRecDepth 20000 in
theorem gX5_takeBall_X4_at : GoodIn wsX5_takeBall (wsV RX5 72 RX4 yX4_at wsX4_at) := goodIn_app (goodIn_of _ (by decide +kernel)) ggX5_takeBall_X4_at
theorem dX5_takeBall_0 : decode cX5_takeBall 0 = .ok (.aload_n 0, 1) := by decide +kernel
theorem dX5_takeBall_1 : decode cX5_takeBall 1 = .ok (.getfield 30, 3) := by decide +kernel
theorem dX5_takeBall_4 : decode cX5_takeBall 4 = .ok (.iload_n 1, 1) := by decide +kernel
theorem dX5_takeBall_5 : decode cX5_takeBall 5 = .ok (.iconst 1, 1) := by decide +kernel
theorem dX5_takeBall_6 : decode cX5_takeBall 6 = .ok (.invokevirtual 90, 3) := by decide +kernel
theorem dX5_takeBall_9 : decode cX5_takeBall 9 = .ok (.aload_n 0, 1) := by decide +kernel
theorem dX5_takeBall_10 : decode cX5_takeBall 10 = .ok (.iload_n 1, 1) := by decide +kernel
theorem dX5_takeBall_11 : decode cX5_takeBall 11 = .ok (.invokevirtual 76, 3) := by decide +kernel
theorem dX5_takeBall_14 : decode cX5_takeBall 14 = .ok (.ifCond .eq 15, 3) := by decide +kernel
theorem dX5_takeBall_17 : decode cX5_takeBall 17 = .ok (.aload_n 0, 1) := by decide +kernel
theorem dX5_takeBall_18 : decode cX5_takeBall 18 = .ok (.dup, 1) := by decide +kernel
theorem dX5_takeBall_19 : decode cX5_takeBall 19 = .ok (.getfield 40, 3) := by decide +kernel
theorem dX5_takeBall_22 : decode cX5_takeBall 22 = .ok (.iconst 1, 1) := by decide +kernel
theorem dX5_takeBall_23 : decode cX5_takeBall 23 = .ok (.iadd, 1) := by decide +kernel
theorem dX5_takeBall_24 : decode cX5_takeBall 24 = .ok (.putfield 40, 3) := by decide +kernel
theorem dX5_takeBall_27 : decode cX5_takeBall 27 = .ok (.iconst 0, 1) := by decide +kernel
theorem dX5_takeBall_28 : decode cX5_takeBall 28 = .ok (.ireturn, 1) := by decide +kernel
theorem dX5_takeBall_29 : decode cX5_takeBall 29 = .ok (.aload_n 0, 1) := by decide +kernel
theorem dX5_takeBall_30 : decode cX5_takeBall 30 = .ok (.getfield 27, 3) := by decide +kernel
theorem dX5_takeBall_33 : decode cX5_takeBall 33 = .ok (.iload_n 1, 1) := by decide +kernel
theorem dX5_takeBall_34 : decode cX5_takeBall 34 = .ok (.iconst 1, 1) := by decide +kernel
theorem dX5_takeBall_35 : decode cX5_takeBall 35 = .ok (.invokevirtual 90, 3) := by decide +kernel
theorem dX5_takeBall_38 : decode cX5_takeBall 38 = .ok (.aload_n 0, 1) := by decide +kernel
theorem dX5_takeBall_39 : decode cX5_takeBall 39 = .ok (.getfield 23, 3) := by decide +kernel
theorem dX5_takeBall_42 : decode cX5_takeBall 42 = .ok (.iload_n 1, 1) := by decide +kernel
theorem dX5_takeBall_43 : decode cX5_takeBall 43 = .ok (.invokevirtual 72, 3) := by decide +kernel
theorem dX5_takeBall_46 : decode cX5_takeBall 46 = .ok (.ireturn, 1) := by decide +kernel
set_option maxRecDepth 20000 in
theorem ggX5_bendByHand_X2_isOut : GoodIn wsX5_bendByHand wsX2_isOut := goodIn_r _ [8, 9, 10, 11, 12, 13, 14, 15, 44, 45, 46, 47, 48, 49, 50, 51, 52] (by decide +kernel) (by decide +kernel)
set_option maxRecDepth 20000 in
theorem gX5_bendByHand_X2_isOut : GoodIn wsX5_bendByHand (wsV RX5 93 RX2 yX2_isOut wsX2_isOut) := goodIn_app (goodIn_of _ (by decide +kernel)) ggX5_bendByHand_X2_isOut
set_option maxRecDepth 20000 in
theorem ggX5_bendByHand_X2_canBend : GoodIn wsX5_bendByHand wsX2_canBend := goodIn_r _ [19, 20, 10, 11, 12, 13, 14, 15, 21, 22, 23, 44, 45, 46, 47, 48, 49, 50, 51, 52] (by decide +kernel) (by decide +kernel)
set_option maxRecDepth 20000 in
theorem gX5_bendByHand_X2_canBend : GoodIn wsX5_bendByHand (wsV RX5 96 RX2 yX2_canBend wsX2_canBend) := goodIn_app (goodIn_of _ (by decide +kernel)) ggX5_bendByHand_X2_canBend
set_option maxRecDepth 20000 in
theorem ggX5_bendByHand_X2_bendBy : GoodIn wsX5_bendByHand wsX2_bendBy := goodIn_r _ [27, 20, 28, 29, 30, 13, 31, 15, 44, 45, 46, 47, 48, 49, 50, 51, 52] (by decide +kernel) (by decide +kernel)
set_option maxRecDepth 20000 in
theorem gX5_bendByHand_X2_bendBy : GoodIn wsX5_bendByHand (wsV RX5 100 RX2 yX2_bendBy wsX2_bendBy) := goodIn_app (goodIn_of _ (by decide +kernel)) ggX5_bendByHand_X2_bendBy
set_option maxRecDepth 20000 in
theorem ggX5_bendByHand_X4_at : GoodIn wsX5_bendByHand wsX4_at := goodIn_r _ [14, 15, 52] (by decide +kernel) (by decide +kernel)
set_option maxRecDepth 20000 in
theorem gX5_bendByHand_X4_at : GoodIn wsX5_bendByHand (wsV RX5 72 RX4 yX4_at wsX4_at) := goodIn_app (goodIn_of _ (by decide +kernel)) ggX5_bendByHand_X4_at
theorem dX5_bendByHand_0 : decode cX5_bendByHand 0 = .ok (.aload_n 0, 1) := by decide +kernel
theorem dX5_bendByHand_1 : decode cX5_bendByHand 1 = .ok (.getfield 12, 3) := by decide +kernel
theorem dX5_bendByHand_4 : decode cX5_bendByHand 4 = .ok (.iload_n 1, 1) := by decide +kernel
theorem dX5_bendByHand_5 : decode cX5_bendByHand 5 = .ok (.invokevirtual 93, 3) := by decide +kernel
theorem dX5_bendByHand_8 : decode cX5_bendByHand 8 = .ok (.ifCond .eq 15, 3) := by decide +kernel
theorem dX5_bendByHand_11 : decode cX5_bendByHand 11 = .ok (.aload_n 0, 1) := by decide +kernel
theorem dX5_bendByHand_12 : decode cX5_bendByHand 12 = .ok (.dup, 1) := by decide +kernel
theorem dX5_bendByHand_13 : decode cX5_bendByHand 13 = .ok (.getfield 52, 3) := by decide +kernel
theorem dX5_bendByHand_16 : decode cX5_bendByHand 16 = .ok (.iconst 1, 1) := by decide +kernel
theorem dX5_bendByHand_17 : decode cX5_bendByHand 17 = .ok (.iadd, 1) := by decide +kernel
theorem dX5_bendByHand_18 : decode cX5_bendByHand 18 = .ok (.putfield 52, 3) := by decide +kernel
theorem dX5_bendByHand_21 : decode cX5_bendByHand 21 = .ok (.iconst 2, 1) := by decide +kernel
theorem dX5_bendByHand_22 : decode cX5_bendByHand 22 = .ok (.ireturn, 1) := by decide +kernel
theorem dX5_bendByHand_23 : decode cX5_bendByHand 23 = .ok (.aload_n 0, 1) := by decide +kernel
theorem dX5_bendByHand_24 : decode cX5_bendByHand 24 = .ok (.getfield 12, 3) := by decide +kernel
theorem dX5_bendByHand_27 : decode cX5_bendByHand 27 = .ok (.iload_n 1, 1) := by decide +kernel
theorem dX5_bendByHand_28 : decode cX5_bendByHand 28 = .ok (.iload_n 2, 1) := by decide +kernel
theorem dX5_bendByHand_29 : decode cX5_bendByHand 29 = .ok (.invokevirtual 96, 3) := by decide +kernel
theorem dX5_bendByHand_32 : decode cX5_bendByHand 32 = .ok (.ifCond .ne 15, 3) := by decide +kernel
theorem dX5_bendByHand_35 : decode cX5_bendByHand 35 = .ok (.aload_n 0, 1) := by decide +kernel
theorem dX5_bendByHand_36 : decode cX5_bendByHand 36 = .ok (.dup, 1) := by decide +kernel
theorem dX5_bendByHand_37 : decode cX5_bendByHand 37 = .ok (.getfield 52, 3) := by decide +kernel
theorem dX5_bendByHand_40 : decode cX5_bendByHand 40 = .ok (.iconst 1, 1) := by decide +kernel
theorem dX5_bendByHand_41 : decode cX5_bendByHand 41 = .ok (.iadd, 1) := by decide +kernel
theorem dX5_bendByHand_42 : decode cX5_bendByHand 42 = .ok (.putfield 52, 3) := by decide +kernel
theorem dX5_bendByHand_45 : decode cX5_bendByHand 45 = .ok (.iconst 3, 1) := by decide +kernel
theorem dX5_bendByHand_46 : decode cX5_bendByHand 46 = .ok (.ireturn, 1) := by decide +kernel
theorem dX5_bendByHand_47 : decode cX5_bendByHand 47 = .ok (.aload_n 0, 1) := by decide +kernel
theorem dX5_bendByHand_48 : decode cX5_bendByHand 48 = .ok (.getfield 12, 3) := by decide +kernel
theorem dX5_bendByHand_51 : decode cX5_bendByHand 51 = .ok (.iload_n 1, 1) := by decide +kernel
theorem dX5_bendByHand_52 : decode cX5_bendByHand 52 = .ok (.iload_n 2, 1) := by decide +kernel
theorem dX5_bendByHand_53 : decode cX5_bendByHand 53 = .ok (.invokevirtual 100, 3) := by decide +kernel
theorem dX5_bendByHand_56 : decode cX5_bendByHand 56 = .ok (.bipush 10, 2) := by decide +kernel
theorem dX5_bendByHand_58 : decode cX5_bendByHand 58 = .ok (.aload_n 0, 1) := by decide +kernel
theorem dX5_bendByHand_59 : decode cX5_bendByHand 59 = .ok (.getfield 12, 3) := by decide +kernel
theorem dX5_bendByHand_62 : decode cX5_bendByHand 62 = .ok (.getfield 103, 3) := by decide +kernel
theorem dX5_bendByHand_65 : decode cX5_bendByHand 65 = .ok (.iload_n 1, 1) := by decide +kernel
theorem dX5_bendByHand_66 : decode cX5_bendByHand 66 = .ok (.invokevirtual 72, 3) := by decide +kernel
theorem dX5_bendByHand_69 : decode cX5_bendByHand 69 = .ok (.iadd, 1) := by decide +kernel
theorem dX5_bendByHand_70 : decode cX5_bendByHand 70 = .ok (.iconst 3, 1) := by decide +kernel
theorem dX5_bendByHand_71 : decode cX5_bendByHand 71 = .ok (.iadd, 1) := by decide +kernel
theorem dX5_bendByHand_72 : decode cX5_bendByHand 72 = .ok (.ireturn, 1) := by decide +kernel
set_option maxRecDepth 20000 in
theorem ggX5_emptyPockets_X4_total : GoodIn wsX5_emptyPockets wsX4_total := goodIn_r _ [8, 9, 29] (by decide +kernel) (by decide +kernel)
set_option maxRecDepth 20000 in
theorem gX5_emptyPockets_X4_total : GoodIn wsX5_emptyPockets (wsV RX5 106 RX4 yX4_total wsX4_total) := goodIn_app (goodIn_of _ (by decide +kernel)) ggX5_emptyPockets_X4_total
set_option maxRecDepth 20000 in
theorem ggX5_emptyPockets_X4_fillWith : GoodIn wsX5_emptyPockets wsX4_fillWith := goodIn_r _ [13, 9, 14, 15, 16, 17, 29] (by decide +kernel) (by decide +kernel)
set_option maxRecDepth 20000 in
theorem gX5_emptyPockets_X4_fillWith : GoodIn wsX5_emptyPockets (wsV RX5 110 RX4 yX4_fillWith wsX4_fillWith) := goodIn_app (goodIn_of _ (by decide +kernel)) ggX5_emptyPockets_X4_fillWith
theorem dX5_emptyPockets_0 : decode cX5_emptyPockets 0 = .ok (.aload_n 0, 1) := by decide +kernel
theorem dX5_emptyPockets_1 : decode cX5_emptyPockets 1 = .ok (.dup, 1) := by decide +kernel
theorem dX5_emptyPockets_2 : decode cX5_emptyPockets 2 = .ok (.getfield 37, 3) := by decide +kernel
theorem dX5_emptyPockets_5 : decode cX5_emptyPockets 5 = .ok (.aload_n 0, 1) := by decide +kernel
theorem dX5_emptyPockets_6 : decode cX5_emptyPockets 6 = .ok (.getfield 27, 3) := by decide +kernel
theorem dX5_emptyPockets_9 : decode cX5_emptyPockets 9 = .ok (.invokevirtual 106, 3) := by decide +kernel
theorem dX5_emptyPockets_12 : decode cX5_emptyPockets 12 = .ok (.aload_n 0, 1) := by decide +kernel
theorem dX5_emptyPockets_13 : decode cX5_emptyPockets 13 = .ok (.getfield 40, 3) := by decide +kernel
theorem dX5_emptyPockets_16 : decode cX5_emptyPockets 16 = .ok (.iadd, 1) := by decide +kernel
theorem dX5_emptyPockets_17 : decode cX5_emptyPockets 17 = .ok (.iadd, 1) := by decide +kernel
theorem dX5_emptyPockets_18 : decode cX5_emptyPockets 18 = .ok (.putfield 37, 3) := by decide +kernel
theorem dX5_emptyPockets_21 : decode cX5_emptyPockets 21 = .ok (.aload_n 0, 1) := by decide +kernel
theorem dX5_emptyPockets_22 : decode cX5_emptyPockets 22 = .ok (.getfield 27, 3) := by decide +kernel
theorem dX5_emptyPockets_25 : decode cX5_emptyPockets 25 = .ok (.iconst 0, 1) := by decide +kernel
theorem dX5_emptyPockets_26 : decode cX5_emptyPockets 26 = .ok (.invokevirtual 110, 3) := by decide +kernel
theorem dX5_emptyPockets_29 : decode cX5_emptyPockets 29 = .ok (.aload_n 0, 1) := by decide +kernel
theorem dX5_emptyPockets_30 : decode cX5_emptyPockets 30 = .ok (.iconst 0, 1) := by decide +kernel
theorem dX5_emptyPockets_31 : decode cX5_emptyPockets 31 = .ok (.putfield 40, 3) := by decide +kernel
theorem dX5_emptyPockets_34 : decode cX5_emptyPockets 34 = .ok (.return_, 1) := by decide +kernel
set_option maxRecDepth 20000 in
theorem ggX6_init_X5_init : GoodIn wsX6_init wsX5_init := goodIn_r _ [28, 29, 2, 3, 30, 31, 32, 33, 34, 35, 36, 37, 38, 39, 40, 41, 42, 43, 44, 45, 46, 47, 48, 49, 50, 51, 52, 53, 54, 55, 56, 57, 58, 59, 60, 61, 62, 63, 64, 65, 66, 67, 68, 69, 70, 71, 72, 73, 74, 124, 125, 126, 127, 128, 129, 130, 131, 97, 98, 99, 100, 101, 102, 103, 104, 105, 106, 107, 132] (by decide +kernel) (by decide +kernel)
set_option maxRecDepth 20000 in
theorem gX6_init_X5_init : GoodIn wsX6_init (wsX5_init) := ggX6_init_X5_init
set_option maxRecDepth 20000 in
theorem ggX6_init_X0_init : GoodIn wsX6_init wsX0_init := goodIn_r _ [77, 78, 2, 3, 79, 80, 81, 5, 6, 82, 27, 28, 29, 30, 31, 32, 33, 34, 35, 36, 37, 38, 39, 40, 41, 42, 43, 44, 45, 46, 47, 48, 49, 50, 51, 52, 53, 54, 55, 56, 57, 58, 59, 60, 61, 62, 63, 64, 65, 66, 67, 68, 69, 70, 71, 72, 73, 74, 118, 119, 97, 98, 99, 100, 101, 102, 103, 104, 105, 106, 107, 124, 125, 126, 127, 128, 129, 130, 131, 132] (by decide +kernel) (by decide +kernel)
set_option maxRecDepth 20000 in
theorem gX6_init_X0_init : GoodIn wsX6_init (wsX0_init) := ggX6_init_X0_init
set_option maxRecDepth 20000 in
theorem ggX6_init_X3_init : GoodIn wsX6_init wsX3_init := goodIn_r _ [84, 85, 2, 3, 86, 35, 36, 87, 88, 89, 64, 65, 66, 67, 48, 49, 50, 68, 69, 132, 120, 121] (by decide +kernel) (by decide +kernel)
set_option maxRecDepth 20000 in
theorem gX6_init_X3_init_n35 : GoodIn wsX6_init (wsX3_init) := ggX6_init_X3_init
set_option maxRecDepth 20000 in
theorem ggX6_init_X1_init : GoodIn wsX6_init wsX1_init := goodIn_r _ [91, 92, 2, 3, 93, 35, 36, 94, 95, 96, 64, 65, 66, 67, 48, 49, 50, 68, 69, 132, 122, 123] (by decide +kernel) (by decide +kernel)
set_option maxRecDepth 20000 in
theorem gX6_init_X1_init_n42 : GoodIn wsX6_init (wsX1_init) := ggX6_init_X1_init
theorem dX6_init_0 : decode cX6_init 0 = .ok (.aload_n 0, 1) := by decide +kernel
theorem dX6_init_1 : decode cX6_init 1 = .ok (.invokespecial 1, 3) := by decide +kernel
theorem dX6_init_4 : decode cX6_init 4 = .ok (.aload_n 0, 1) := by decide +kernel
theorem dX6_init_5 : decode cX6_init 5 = .ok (.new 7, 3) := by decide +kernel
theorem dX6_init_8 : decode cX6_init 8 = .ok (.dup, 1) := by decide +kernel
theorem dX6_init_9 : decode cX6_init 9 = .ok (.invokespecial 9, 3) := by decide +kernel
theorem dX6_init_12 : decode cX6_init 12 = .ok (.putfield 10, 3) := by decide +kernel
theorem dX6_init_15 : decode cX6_init 15 = .ok (.aload_n 0, 1) := by decide +kernel
theorem dX6_init_16 : decode cX6_init 16 = .ok (.new 7, 3) := by decide +kernel
theorem dX6_init_19 : decode cX6_init 19 = .ok (.dup, 1) := by decide +kernel
theorem dX6_init_20 : decode cX6_init 20 = .ok (.invokespecial 9, 3) := by decide +kernel
theorem dX6_init_23 : decode cX6_init 23 = .ok (.putfield 16, 3) := by decide +kernel
theorem dX6_init_26 : decode cX6_init 26 = .ok (.aload_n 0, 1) := by decide +kernel
theorem dX6_init_27 : decode cX6_init 27 = .ok (.new 7, 3) := by decide +kernel
theorem dX6_init_30 : decode cX6_init 30 = .ok (.dup, 1) := by decide +kernel
theorem dX6_init_31 : decode cX6_init 31 = .ok (.invokespecial 9, 3) := by decide +kernel
theorem dX6_init_34 : decode cX6_init 34 = .ok (.putfield 19, 3) := by decide +kernel
theorem dX6_init_37 : decode cX6_init 37 = .ok (.aload_n 0, 1) := by decide +kernel
theorem dX6_init_38 : decode cX6_init 38 = .ok (.iconst 0, 1) := by decide +kernel
theorem dX6_init_39 : decode cX6_init 39 = .ok (.putfield 22, 3) := by decide +kernel
theorem dX6_init_42 : decode cX6_init 42 = .ok (.aload_n 0, 1) := by decide +kernel
theorem dX6_init_43 : decode cX6_init 43 = .ok (.new 26, 3) := by decide +kernel
theorem dX6_init_46 : decode cX6_init 46 = .ok (.dup, 1) := by decide +kernel
theorem dX6_init_47 : decode cX6_init 47 = .ok (.invokespecial 28, 3) := by decide +kernel
theorem dX6_init_50 : decode cX6_init 50 = .ok (.putfield 29, 3) := by decide +kernel
theorem dX6_init_53 : decode cX6_init 53 = .ok (.aload_n 0, 1) := by decide +kernel
theorem dX6_init_54 : decode cX6_init 54 = .ok (.new 33, 3) := by decide +kernel
theorem dX6_init_57 : decode cX6_init 57 = .ok (.dup, 1) := by decide +kernel
theorem dX6_init_58 : decode cX6_init 58 = .ok (.invokespecial 35, 3) := by decide +kernel
theorem dX6_init_61 : decode cX6_init 61 = .ok (.putfield 36, 3) := by decide +kernel
theorem dX6_init_64 : decode cX6_init 64 = .ok (.aload_n 0, 1) := by decide +kernel
theorem dX6_init_65 : decode cX6_init 65 = .ok (.new 40, 3) := by decide +kernel
theorem dX6_init_68 : decode cX6_init 68 = .ok (.dup, 1) := by decide +kernel
theorem dX6_init_69 : decode cX6_init 69 = .ok (.invokespecial 42, 3) := by decide +kernel
theorem dX6_init_72 : decode cX6_init 72 = .ok (.putfield 43, 3) := by decide +kernel
theorem dX6_init_75 : decode cX6_init 75 = .ok (.aload_n 0, 1) := by decide +kernel
theorem dX6_init_76 : decode cX6_init 76 = .ok (.iconst 0, 1) := by decide +kernel
theorem dX6_init_77 : decode cX6_init 77 = .ok (.putfield 47, 3) := by decide +kernel
theorem dX6_init_80 : decode cX6_init 80 = .ok (.aload_n 0, 1) := by decide +kernel
theorem dX6_init_81 : decode cX6_init 81 = .ok (.iconst 0, 1) := by decide +kernel
theorem dX6_init_82 : decode cX6_init 82 = .ok (.putfield 51, 3) := by decide +kernel
theorem dX6_init_85 : decode cX6_init 85 = .ok (.aload_n 0, 1) := by decide +kernel
theorem dX6_init_86 : decode cX6_init 86 = .ok (.iconst 0, 1) := by decide +kernel
theorem dX6_init_87 : decode cX6_init 87 = .ok (.putfield 54, 3) := by decide +kernel
theorem dX6_init_90 : decode cX6_init 90 = .ok (.return_, 1) := by decide +kernel
set_option maxRecDepth 20000 in
theorem ggX6_shoot_X6_isWithin : GoodIn wsX6_shoot wsX6_isWithin := goodIn_r _ [6] (by decide +kernel) (by decide +kernel)
set_option maxRecDepth 20000 in
theorem gX6_shoot_X6_isWithin : GoodIn wsX6_shoot (va_wsS RX6 57 yX6_isWithin wsX6_isWithin) := goodIn_app (goodIn_of _ (by decide +kernel)) ggX6_shoot_X6_isWithin
set_option maxRecDepth 20000 in
theorem ggX6_shoot_X0_record : GoodIn wsX6_shoot wsX0_record := goodIn_r _ [11, 12, 13, 14, 15, 16, 10, 17, 18, 19, 20, 21, 22, 23, 24, 25, 26, 27, 28, 29, 30, 31, 32, 33, 34, 35, 36, 37, 38, 39, 40, 41, 42, 43, 44, 45, 46, 47, 48, 49, 50, 51, 52, 53, 54, 55, 56, 57, 58, 59, 60, 61, 62, 63, 64, 65, 139, 140, 141, 142, 143, 144, 145, 146, 147, 148, 149, 150, 151, 152, 153, 154, 155, 156, 157, 158, 159, 160] (by decide +kernel) (by decide +kernel)
set_option maxRecDepth 20000 in
theorem gX6_shoot_X0_record : GoodIn wsX6_shoot (wsV RX6 61 RX0 yX0_record wsX0_record) := goodIn_app (goodIn_of _ (by decide +kernel)) ggX6_shoot_X0_record
set_option maxRecDepth 20000 in
theorem ggX6_shoot_X5_shootBall : GoodIn wsX6_shoot wsX5_shootBall := goodIn_r _ [69, 32, 37, 35, 36, 27, 70, 34, 71, 72, 73, 41, 74, 75, 5, 76, 77, 78, 79, 80, 46, 81, 82, 83, 84, 44, 85, 86, 87, 54, 88, 56, 89, 90, 91, 92, 43, 48, 93, 94, 95, 96, 47, 49, 45, 50, 97, 98, 99, 100, 101, 102, 103, 104, 105, 106, 107, 108, 4, 6, 109, 110, 111, 112, 113, 114, 115, 58, 59, 60, 116, 117, 118, 119, 120, 121, 25, 122, 30, 33, 29, 28, 123, 124, 125, 126, 127, 31, 128, 141, 142, 143, 144, 145, 146, 147, 148, 149, 150, 151, 152, 153, 154, 155, 156, 157, 158, 159, 160] (by decide +kernel) (by decide +kernel)
set_option maxRecDepth 20000 in
theorem gX6_shoot_X5_shootBall : GoodIn wsX6_shoot (wsV RX6 65 RX5 yX5_shootBall wsX5_shootBall) := goodIn_app (goodIn_of _ (by decide +kernel)) ggX6_shoot_X5_shootBall
theorem dX6_shoot_0 : decode cX6_shoot 0 = .ok (.iload_n 1, 1) := by decide +kernel
theorem dX6_shoot_1 : decode cX6_shoot 1 = .ok (.iconst 0, 1) := by decide +kernel
theorem dX6_shoot_2 : decode cX6_shoot 2 = .ok (.bipush 6, 2) := by decide +kernel
theorem dX6_shoot_4 : decode cX6_shoot 4 = .ok (.invokestatic 57, 3) := by decide +kernel
theorem dX6_shoot_7 : decode cX6_shoot 7 = .ok (.ifCond .ne 5, 3) := by decide +kernel
theorem dX6_shoot_10 : decode cX6_shoot 10 = .ok (.iconst (-1), 1) := by decide +kernel
theorem dX6_shoot_11 : decode cX6_shoot 11 = .ok (.ireturn, 1) := by decide +kernel
theorem dX6_shoot_12 : decode cX6_shoot 12 = .ok (.aload_n 0, 1) := by decide +kernel
theorem dX6_shoot_13 : decode cX6_shoot 13 = .ok (.getfield 29, 3) := by decide +kernel
theorem dX6_shoot_16 : decode cX6_shoot 16 = .ok (.aload_n 0, 1) := by decide +kernel
theorem dX6_shoot_17 : decode cX6_shoot 17 = .ok (.getfield 10, 3) := by decide +kernel
theorem dX6_shoot_20 : decode cX6_shoot 20 = .ok (.invokevirtual 61, 3) := by decide +kernel
theorem dX6_shoot_23 : decode cX6_shoot 23 = .ok (.aload_n 0, 1) := by decide +kernel
theorem dX6_shoot_24 : decode cX6_shoot 24 = .ok (.getfield 10, 3) := by decide +kernel
theorem dX6_shoot_27 : decode cX6_shoot 27 = .ok (.iload_n 1, 1) := by decide +kernel
theorem dX6_shoot_28 : decode cX6_shoot 28 = .ok (.iload_n 2, 1) := by decide +kernel
theorem dX6_shoot_29 : decode cX6_shoot 29 = .ok (.invokevirtual 65, 3) := by decide +kernel
theorem dX6_shoot_32 : decode cX6_shoot 32 = .ok (.ireturn, 1) := by decide +kernel
set_option maxRecDepth 20000 in
theorem ggX6_bend_X6_isWithin : GoodIn wsX6_bend wsX6_isWithin := goodIn_r _ [6] (by decide +kernel) (by decide +kernel)
set_option maxRecDepth 20000 in
theorem gX6_bend_X6_isWithin : GoodIn wsX6_bend (va_wsS RX6 57 yX6_isWithin wsX6_isWithin) := goodIn_app (goodIn_of _ (by decide +kernel)) ggX6_bend_X6_isWithin
set_option maxRecDepth 20000 in
theorem ggX6_bend_X0_record : GoodIn wsX6_bend wsX0_record := goodIn_r _ [11, 12, 13, 14, 15, 16, 10, 17, 18, 19, 20, 21, 22, 23, 24, 25, 26, 27, 28, 29, 30, 31, 32, 33, 34, 35, 36, 37, 38, 39, 40, 41, 42, 43, 44, 45, 46, 47, 48, 49, 50, 51, 52, 53, 54, 55, 56, 57, 58, 59, 60, 61, 62, 63, 64, 65, 102, 103, 104, 105, 106, 107, 108, 109, 110, 111, 112, 113, 114, 115, 116, 117, 118, 119, 120, 121, 122, 123] (by decide +kernel) (by decide +kernel)
set_option maxRecDepth 20000 in
theorem gX6_bend_X0_record : GoodIn wsX6_bend (wsV RX6 61 RX0 yX0_record wsX0_record) := goodIn_app (goodIn_of _ (by decide +kernel)) ggX6_bend_X0_record
set_option maxRecDepth 20000 in
theorem ggX6_bend_X5_bendByHand : GoodIn wsX6_bend wsX5_bendByHand := goodIn_r _ [69, 27, 37, 70, 71, 72, 73, 41, 74, 44, 75, 76, 77, 54, 78, 56, 79, 80, 81, 82, 43, 4, 5, 6, 83, 84, 85, 86, 87, 88, 89, 90, 91, 104, 105, 106, 107, 108, 109, 110, 111, 112, 113, 114, 115, 116, 117, 118, 119, 120, 121, 122, 123] (by decide +kernel) (by decide +kernel)
set_option maxRecDepth 20000 in
theorem gX6_bend_X5_bendByHand : GoodIn wsX6_bend (wsV RX6 69 RX5 yX5_bendByHand wsX5_bendByHand) := goodIn_app (goodIn_of _ (by decide +kernel)) ggX6_bend_X5_bendByHand
theorem dX6_bend_0 : decode cX6_bend 0 = .ok (.iload_n 1, 1) := by decide +kernel
theorem dX6_bend_1 : decode cX6_bend 1 = .ok (.iconst 0, 1) := by decide +kernel
theorem dX6_bend_2 : decode cX6_bend 2 = .ok (.bipush 34, 2) := by decide +kernel
theorem dX6_bend_4 : decode cX6_bend 4 = .ok (.invokestatic 57, 3) := by decide +kernel
theorem dX6_bend_7 : decode cX6_bend 7 = .ok (.ifCond .ne 5, 3) := by decide +kernel
theorem dX6_bend_10 : decode cX6_bend 10 = .ok (.iconst (-1), 1) := by decide +kernel
theorem dX6_bend_11 : decode cX6_bend 11 = .ok (.ireturn, 1) := by decide +kernel
theorem dX6_bend_12 : decode cX6_bend 12 = .ok (.aload_n 0, 1) := by decide +kernel
theorem dX6_bend_13 : decode cX6_bend 13 = .ok (.getfield 29, 3) := by decide +kernel
theorem dX6_bend_16 : decode cX6_bend 16 = .ok (.aload_n 0, 1) := by decide +kernel
theorem dX6_bend_17 : decode cX6_bend 17 = .ok (.getfield 10, 3) := by decide +kernel
theorem dX6_bend_20 : decode cX6_bend 20 = .ok (.invokevirtual 61, 3) := by decide +kernel
theorem dX6_bend_23 : decode cX6_bend 23 = .ok (.aload_n 0, 1) := by decide +kernel
theorem dX6_bend_24 : decode cX6_bend 24 = .ok (.getfield 10, 3) := by decide +kernel
theorem dX6_bend_27 : decode cX6_bend 27 = .ok (.iload_n 1, 1) := by decide +kernel
theorem dX6_bend_28 : decode cX6_bend 28 = .ok (.iload_n 2, 1) := by decide +kernel
theorem dX6_bend_29 : decode cX6_bend 29 = .ok (.ifCond .eq 7, 3) := by decide +kernel
theorem dX6_bend_32 : decode cX6_bend 32 = .ok (.iconst 1, 1) := by decide +kernel
theorem dX6_bend_33 : decode cX6_bend 33 = .ok (.goto 4, 3) := by decide +kernel
theorem dX6_bend_36 : decode cX6_bend 36 = .ok (.iconst (-1), 1) := by decide +kernel
theorem dX6_bend_37 : decode cX6_bend 37 = .ok (.invokevirtual 69, 3) := by decide +kernel
theorem dX6_bend_40 : decode cX6_bend 40 = .ok (.ireturn, 1) := by decide +kernel
set_option maxRecDepth 20000 in
theorem ggX6_pull_X6_isWithin : GoodIn wsX6_pull wsX6_isWithin := goodIn_r _ [7] (by decide +kernel) (by decide +kernel)
set_option maxRecDepth 20000 in
theorem gX6_pull_X6_isWithin : GoodIn wsX6_pull (va_wsS RX6 57 yX6_isWithin wsX6_isWithin) := goodIn_app (goodIn_of _ (by decide +kernel)) ggX6_pull_X6_isWithin
set_option maxRecDepth 20000 in
theorem ggX6_pull_X0_record : GoodIn wsX6_pull wsX0_record := goodIn_r _ [12, 13, 14, 15, 16, 17, 11, 18, 19, 20, 21, 22, 23, 24, 25, 26, 27, 28, 29, 30, 31, 32, 33, 34, 35, 36, 37, 38, 39, 40, 41, 42, 43, 44, 45, 46, 47, 48, 49, 50, 51, 52, 53, 54, 55, 56, 57, 58, 59, 60, 61, 62, 63, 64, 65, 66, 108, 109, 97, 98, 99, 100, 101, 102, 103, 104, 105, 106, 107, 110, 111, 112, 113, 114, 115, 116, 117, 118] (by decide +kernel) (by decide +kernel)
set_option maxRecDepth 20000 in
theorem gX6_pull_X0_record : GoodIn wsX6_pull (wsV RX6 61 RX0 yX0_record wsX0_record) := goodIn_app (goodIn_of _ (by decide +kernel)) ggX6_pull_X0_record
set_option maxRecDepth 20000 in
theorem ggX6_pull_X2_pullOrSet : GoodIn wsX6_pull wsX2_pullOrSet := goodIn_r _ [70, 45, 44, 47, 71, 72, 73, 55, 74, 57, 75, 76, 77, 78, 110, 111, 112, 113, 114, 115, 116, 117, 118] (by decide +kernel) (by decide +kernel)
set_option maxRecDepth 20000 in
theorem gX6_pull_X2_pullOrSet : GoodIn wsX6_pull (wsV RX6 77 RX2 yX2_pullOrSet wsX2_pullOrSet) := goodIn_app (goodIn_of _ (by decide +kernel)) ggX6_pull_X2_pullOrSet
set_option maxRecDepth 20000 in
theorem ggX6_pull_X2_pulledOut : GoodIn wsX6_pull wsX2_pulledOut := goodIn_r _ [82, 45, 83, 84, 85, 55, 86, 57, 110, 111, 112, 113, 114, 115, 116, 117, 118] (by decide +kernel) (by decide +kernel)
set_option maxRecDepth 20000 in
theorem gX6_pull_X2_pulledOut : GoodIn wsX6_pull (wsV RX6 83 RX2 yX2_pulledOut wsX2_pulledOut) := goodIn_app (goodIn_of _ (by decide +kernel)) ggX6_pull_X2_pulledOut
theorem dX6_pull_0 : decode cX6_pull 0 = .ok (.iload_n 1, 1) := by decide +kernel
theorem dX6_pull_1 : decode cX6_pull 1 = .ok (.iconst 0, 1) := by decide +kernel
theorem dX6_pull_2 : decode cX6_pull 2 = .ok (.bipush 34, 2) := by decide +kernel
theorem dX6_pull_4 : decode cX6_pull 4 = .ok (.invokestatic 57, 3) := by decide +kernel
theorem dX6_pull_7 : decode cX6_pull 7 = .ok (.ifCond .ne 5, 3) := by decide +kernel
theorem dX6_pull_10 : decode cX6_pull 10 = .ok (.iconst (-1), 1) := by decide +kernel
theorem dX6_pull_11 : decode cX6_pull 11 = .ok (.ireturn, 1) := by decide +kernel
theorem dX6_pull_12 : decode cX6_pull 12 = .ok (.aload_n 0, 1) := by decide +kernel
theorem dX6_pull_13 : decode cX6_pull 13 = .ok (.getfield 29, 3) := by decide +kernel
theorem dX6_pull_16 : decode cX6_pull 16 = .ok (.aload_n 0, 1) := by decide +kernel
theorem dX6_pull_17 : decode cX6_pull 17 = .ok (.getfield 10, 3) := by decide +kernel
theorem dX6_pull_20 : decode cX6_pull 20 = .ok (.invokevirtual 61, 3) := by decide +kernel
theorem dX6_pull_23 : decode cX6_pull 23 = .ok (.aload_n 0, 1) := by decide +kernel
theorem dX6_pull_24 : decode cX6_pull 24 = .ok (.getfield 10, 3) := by decide +kernel
theorem dX6_pull_27 : decode cX6_pull 27 = .ok (.getfield 73, 3) := by decide +kernel
theorem dX6_pull_30 : decode cX6_pull 30 = .ok (.iload_n 1, 1) := by decide +kernel
theorem dX6_pull_31 : decode cX6_pull 31 = .ok (.invokevirtual 77, 3) := by decide +kernel
theorem dX6_pull_34 : decode cX6_pull 34 = .ok (.aload_n 0, 1) := by decide +kernel
theorem dX6_pull_35 : decode cX6_pull 35 = .ok (.getfield 10, 3) := by decide +kernel
theorem dX6_pull_38 : decode cX6_pull 38 = .ok (.getfield 73, 3) := by decide +kernel
theorem dX6_pull_41 : decode cX6_pull 41 = .ok (.invokevirtual 83, 3) := by decide +kernel
theorem dX6_pull_44 : decode cX6_pull 44 = .ok (.ireturn, 1) := by decide +kernel
set_option maxRecDepth 20000 in
theorem ggX6_bell_X6_isWithin : GoodIn wsX6_bell wsX6_isWithin := goodIn_r _ [7] (by decide +kernel) (by decide +kernel)
set_option maxRecDepth 20000 in
theorem gX6_bell_X6_isWithin : GoodIn wsX6_bell (va_wsS RX6 57 yX6_isWithin wsX6_isWithin) := goodIn_app (goodIn_of _ (by decide +kernel)) ggX6_bell_X6_isWithin
set_option maxRecDepth 20000 in
theorem ggX6_bell_X0_record : GoodIn wsX6_bell wsX0_record := goodIn_r _ [12, 13, 14, 15, 16, 17, 11, 18, 19, 20, 21, 22, 23, 24, 25, 26, 27, 28, 29, 30, 31, 32, 33, 34, 35, 36, 37, 38, 39, 40, 41, 42, 43, 44, 45, 46, 47, 48, 49, 50, 51, 52, 53, 54, 55, 56, 57, 58, 59, 60, 61, 62, 63, 64, 65, 66, 108, 109, 97, 98, 99, 100, 101, 102, 103, 104, 105, 106, 107, 110, 111, 112, 113, 114, 115, 116, 117, 118] (by decide +kernel) (by decide +kernel)
set_option maxRecDepth 20000 in
theorem gX6_bell_X0_record : GoodIn wsX6_bell (wsV RX6 61 RX0 yX0_record wsX0_record) := goodIn_app (goodIn_of _ (by decide +kernel)) ggX6_bell_X0_record
set_option maxRecDepth 20000 in
theorem ggX6_bell_X2_hangOrTakeBell : GoodIn wsX6_bell wsX2_hangOrTakeBell := goodIn_r _ [70, 46, 71, 72, 73, 55, 74, 57, 75, 76, 77, 78, 110, 111, 112, 113, 114, 115, 116, 117, 118] (by decide +kernel) (by decide +kernel)
set_option maxRecDepth 20000 in
theorem gX6_bell_X2_hangOrTakeBell : GoodIn wsX6_bell (wsV RX6 87 RX2 yX2_hangOrTakeBell wsX2_hangOrTakeBell) := goodIn_app (goodIn_of _ (by decide +kernel)) ggX6_bell_X2_hangOrTakeBell
set_option maxRecDepth 20000 in
theorem ggX6_bell_X2_allBells : GoodIn wsX6_bell wsX2_allBells := goodIn_r _ [82, 46, 83, 84, 85, 55, 86, 57, 110, 111, 112, 113, 114, 115, 116, 117, 118] (by decide +kernel) (by decide +kernel)
set_option maxRecDepth 20000 in
theorem gX6_bell_X2_allBells : GoodIn wsX6_bell (wsV RX6 90 RX2 yX2_allBells wsX2_allBells) := goodIn_app (goodIn_of _ (by decide +kernel)) ggX6_bell_X2_allBells
theorem dX6_bell_0 : decode cX6_bell 0 = .ok (.iload_n 1, 1) := by decide +kernel
theorem dX6_bell_1 : decode cX6_bell 1 = .ok (.iconst 0, 1) := by decide +kernel
theorem dX6_bell_2 : decode cX6_bell 2 = .ok (.bipush 34, 2) := by decide +kernel
theorem dX6_bell_4 : decode cX6_bell 4 = .ok (.invokestatic 57, 3) := by decide +kernel
theorem dX6_bell_7 : decode cX6_bell 7 = .ok (.ifCond .ne 5, 3) := by decide +kernel
theorem dX6_bell_10 : decode cX6_bell 10 = .ok (.iconst (-1), 1) := by decide +kernel
theorem dX6_bell_11 : decode cX6_bell 11 = .ok (.ireturn, 1) := by decide +kernel
theorem dX6_bell_12 : decode cX6_bell 12 = .ok (.aload_n 0, 1) := by decide +kernel
theorem dX6_bell_13 : decode cX6_bell 13 = .ok (.getfield 29, 3) := by decide +kernel
theorem dX6_bell_16 : decode cX6_bell 16 = .ok (.aload_n 0, 1) := by decide +kernel
theorem dX6_bell_17 : decode cX6_bell 17 = .ok (.getfield 10, 3) := by decide +kernel
theorem dX6_bell_20 : decode cX6_bell 20 = .ok (.invokevirtual 61, 3) := by decide +kernel
theorem dX6_bell_23 : decode cX6_bell 23 = .ok (.aload_n 0, 1) := by decide +kernel
theorem dX6_bell_24 : decode cX6_bell 24 = .ok (.getfield 10, 3) := by decide +kernel
theorem dX6_bell_27 : decode cX6_bell 27 = .ok (.getfield 73, 3) := by decide +kernel
theorem dX6_bell_30 : decode cX6_bell 30 = .ok (.iload_n 1, 1) := by decide +kernel
theorem dX6_bell_31 : decode cX6_bell 31 = .ok (.invokevirtual 87, 3) := by decide +kernel
theorem dX6_bell_34 : decode cX6_bell 34 = .ok (.aload_n 0, 1) := by decide +kernel
theorem dX6_bell_35 : decode cX6_bell 35 = .ok (.getfield 10, 3) := by decide +kernel
theorem dX6_bell_38 : decode cX6_bell 38 = .ok (.getfield 73, 3) := by decide +kernel
theorem dX6_bell_41 : decode cX6_bell 41 = .ok (.invokevirtual 90, 3) := by decide +kernel
theorem dX6_bell_44 : decode cX6_bell 44 = .ok (.ireturn, 1) := by decide +kernel
set_option maxRecDepth 20000 in
theorem ggX6_worth_X6_isWithin : GoodIn wsX6_worth wsX6_isWithin := goodIn_r _ [7] (by decide +kernel) (by decide +kernel)
set_option maxRecDepth 20000 in
theorem gX6_worth_X6_isWithin : GoodIn wsX6_worth (va_wsS RX6 57 yX6_isWithin wsX6_isWithin) := goodIn_app (goodIn_of _ (by decide +kernel)) ggX6_worth_X6_isWithin
set_option maxRecDepth 20000 in
theorem ggX6_worth_X0_record : GoodIn wsX6_worth wsX0_record := goodIn_r _ [12, 13, 14, 15, 16, 17, 11, 18, 19, 20, 21, 22, 23, 24, 25, 26, 27, 28, 29, 30, 31, 32, 33, 34, 35, 36, 37, 38, 39, 40, 41, 42, 43, 44, 45, 46, 47, 48, 49, 50, 51, 52, 53, 54, 55, 56, 57, 58, 59, 60, 61, 62, 63, 64, 65, 66, 96, 97, 85, 86, 87, 88, 89, 90, 91, 92, 93, 94, 95, 98, 99, 100, 101, 102, 103, 104, 105, 106] (by decide +kernel) (by decide +kernel)
set_option maxRecDepth 20000 in
theorem gX6_worth_X0_record : GoodIn wsX6_worth (wsV RX6 61 RX0 yX0_record wsX0_record) := goodIn_app (goodIn_of _ (by decide +kernel)) ggX6_worth_X0_record
set_option maxRecDepth 20000 in
theorem ggX6_worth_X4_at : GoodIn wsX6_worth wsX4_at := goodIn_r _ [70, 57, 106] (by decide +kernel) (by decide +kernel)
set_option maxRecDepth 20000 in
theorem gX6_worth_X4_at : GoodIn wsX6_worth (wsV RX6 97 RX4 yX4_at wsX4_at) := goodIn_app (goodIn_of _ (by decide +kernel)) ggX6_worth_X4_at
set_option maxRecDepth 20000 in
theorem ggX6_worth_X4_put : GoodIn wsX6_worth wsX4_put := goodIn_r _ [74, 57, 106] (by decide +kernel) (by decide +kernel)
set_option maxRecDepth 20000 in
theorem gX6_worth_X4_put : GoodIn wsX6_worth (wsV RX6 103 RX4 yX4_put wsX4_put) := goodIn_app (goodIn_of _ (by decide +kernel)) ggX6_worth_X4_put
theorem dX6_worth_0 : decode cX6_worth 0 = .ok (.iload_n 1, 1) := by decide +kernel
theorem dX6_worth_1 : decode cX6_worth 1 = .ok (.iconst 0, 1) := by decide +kernel
theorem dX6_worth_2 : decode cX6_worth 2 = .ok (.bipush 6, 2) := by decide +kernel
theorem dX6_worth_4 : decode cX6_worth 4 = .ok (.invokestatic 57, 3) := by decide +kernel
theorem dX6_worth_7 : decode cX6_worth 7 = .ok (.ifCond .eq 13, 3) := by decide +kernel
theorem dX6_worth_10 : decode cX6_worth 10 = .ok (.iload_n 2, 1) := by decide +kernel
theorem dX6_worth_11 : decode cX6_worth 11 = .ok (.iconst 0, 1) := by decide +kernel
theorem dX6_worth_12 : decode cX6_worth 12 = .ok (.bipush 9, 2) := by decide +kernel
theorem dX6_worth_14 : decode cX6_worth 14 = .ok (.invokestatic 57, 3) := by decide +kernel
theorem dX6_worth_17 : decode cX6_worth 17 = .ok (.ifCond .ne 5, 3) := by decide +kernel
theorem dX6_worth_20 : decode cX6_worth 20 = .ok (.iconst (-1), 1) := by decide +kernel
theorem dX6_worth_21 : decode cX6_worth 21 = .ok (.ireturn, 1) := by decide +kernel
theorem dX6_worth_22 : decode cX6_worth 22 = .ok (.aload_n 0, 1) := by decide +kernel
theorem dX6_worth_23 : decode cX6_worth 23 = .ok (.getfield 29, 3) := by decide +kernel
theorem dX6_worth_26 : decode cX6_worth 26 = .ok (.aload_n 0, 1) := by decide +kernel
theorem dX6_worth_27 : decode cX6_worth 27 = .ok (.getfield 10, 3) := by decide +kernel
theorem dX6_worth_30 : decode cX6_worth 30 = .ok (.invokevirtual 61, 3) := by decide +kernel
theorem dX6_worth_33 : decode cX6_worth 33 = .ok (.aload_n 0, 1) := by decide +kernel
theorem dX6_worth_34 : decode cX6_worth 34 = .ok (.getfield 10, 3) := by decide +kernel
theorem dX6_worth_37 : decode cX6_worth 37 = .ok (.getfield 93, 3) := by decide +kernel
theorem dX6_worth_40 : decode cX6_worth 40 = .ok (.iload_n 1, 1) := by decide +kernel
theorem dX6_worth_41 : decode cX6_worth 41 = .ok (.invokevirtual 97, 3) := by decide +kernel
theorem dX6_worth_44 : decode cX6_worth 44 = .ok (.istore_n 3, 1) := by decide +kernel
theorem dX6_worth_45 : decode cX6_worth 45 = .ok (.aload_n 0, 1) := by decide +kernel
theorem dX6_worth_46 : decode cX6_worth 46 = .ok (.getfield 10, 3) := by decide +kernel
theorem dX6_worth_49 : decode cX6_worth 49 = .ok (.getfield 93, 3) := by decide +kernel
theorem dX6_worth_52 : decode cX6_worth 52 = .ok (.iload_n 1, 1) := by decide +kernel
theorem dX6_worth_53 : decode cX6_worth 53 = .ok (.iload_n 2, 1) := by decide +kernel
theorem dX6_worth_54 : decode cX6_worth 54 = .ok (.invokevirtual 103, 3) := by decide +kernel
theorem dX6_worth_57 : decode cX6_worth 57 = .ok (.iload_n 3, 1) := by decide +kernel
theorem dX6_worth_58 : decode cX6_worth 58 = .ok (.ireturn, 1) := by decide +kernel
set_option maxRecDepth 20000 in
theorem ggX6_set_X6_isWithin : GoodIn wsX6_set wsX6_isWithin := goodIn_r _ [9] (by decide +kernel) (by decide +kernel)
set_option maxRecDepth 20000 in
theorem gX6_set_X6_isWithin : GoodIn wsX6_set (va_wsS RX6 57 yX6_isWithin wsX6_isWithin) := goodIn_app (goodIn_of _ (by decide +kernel)) ggX6_set_X6_isWithin
set_option maxRecDepth 20000 in
theorem ggX6_set_X0_record : GoodIn wsX6_set wsX0_record := goodIn_r _ [14, 15, 16, 17, 18, 19, 13, 20, 21, 22, 23, 24, 25, 26, 27, 28, 29, 30, 31, 32, 33, 34, 35, 36, 37, 38, 39, 40, 41, 42, 43, 44, 45, 46, 47, 48, 49, 50, 51, 52, 53, 54, 55, 56, 57, 58, 59, 60, 61, 62, 63, 64, 65, 66, 67, 68, 98, 99, 79, 80, 81, 82, 83, 84, 85, 86, 87, 88, 89, 90, 91, 92, 93, 94, 95, 96, 97, 100] (by decide +kernel) (by decide +kernel)
set_option maxRecDepth 20000 in
theorem gX6_set_X0_record : GoodIn wsX6_set (wsV RX6 61 RX0 yX0_record wsX0_record) := goodIn_app (goodIn_of _ (by decide +kernel)) ggX6_set_X0_record
theorem dX6_set_0 : decode cX6_set 0 = .ok (.iload_n 1, 1) := by decide +kernel
theorem dX6_set_1 : decode cX6_set 1 = .ok (.ifCond .ne 47, 3) := by decide +kernel
theorem dX6_set_4 : decode cX6_set 4 = .ok (.iload_n 2, 1) := by decide +kernel
theorem dX6_set_5 : decode cX6_set 5 = .ok (.iconst 0, 1) := by decide +kernel
theorem dX6_set_6 : decode cX6_set 6 = .ok (.iconst 2, 1) := by decide +kernel
theorem dX6_set_7 : decode cX6_set 7 = .ok (.invokestatic 57, 3) := by decide +kernel
theorem dX6_set_10 : decode cX6_set 10 = .ok (.ifCond .eq 38, 3) := by decide +kernel
theorem dX6_set_13 : decode cX6_set 13 = .ok (.aload_n 0, 1) := by decide +kernel
theorem dX6_set_14 : decode cX6_set 14 = .ok (.getfield 29, 3) := by decide +kernel
theorem dX6_set_17 : decode cX6_set 17 = .ok (.aload_n 0, 1) := by decide +kernel
theorem dX6_set_18 : decode cX6_set 18 = .ok (.getfield 10, 3) := by decide +kernel
theorem dX6_set_21 : decode cX6_set 21 = .ok (.invokevirtual 61, 3) := by decide +kernel
theorem dX6_set_24 : decode cX6_set 24 = .ok (.aload_n 0, 1) := by decide +kernel
theorem dX6_set_25 : decode cX6_set 25 = .ok (.getfield 10, 3) := by decide +kernel
theorem dX6_set_28 : decode cX6_set 28 = .ok (.getfield 73, 3) := by decide +kernel
theorem dX6_set_31 : decode cX6_set 31 = .ok (.getfield 107, 3) := by decide +kernel
theorem dX6_set_34 : decode cX6_set 34 = .ok (.istore_n 3, 1) := by decide +kernel
theorem dX6_set_35 : decode cX6_set 35 = .ok (.aload_n 0, 1) := by decide +kernel
theorem dX6_set_36 : decode cX6_set 36 = .ok (.getfield 10, 3) := by decide +kernel
theorem dX6_set_39 : decode cX6_set 39 = .ok (.getfield 73, 3) := by decide +kernel
theorem dX6_set_42 : decode cX6_set 42 = .ok (.iload_n 2, 1) := by decide +kernel
theorem dX6_set_43 : decode cX6_set 43 = .ok (.putfield 107, 3) := by decide +kernel
theorem dX6_set_46 : decode cX6_set 46 = .ok (.iload_n 3, 1) := by decide +kernel
theorem dX6_set_47 : decode cX6_set 47 = .ok (.ireturn, 1) := by decide +kernel
theorem dX6_set_48 : decode cX6_set 48 = .ok (.iload_n 1, 1) := by decide +kernel
theorem dX6_set_49 : decode cX6_set 49 = .ok (.iconst 1, 1) := by decide +kernel
theorem dX6_set_50 : decode cX6_set 50 = .ok (.if_icmp .ne 42, 3) := by decide +kernel
theorem dX6_set_53 : decode cX6_set 53 = .ok (.iload_n 2, 1) := by decide +kernel
theorem dX6_set_54 : decode cX6_set 54 = .ok (.iconst 1, 1) := by decide +kernel
theorem dX6_set_55 : decode cX6_set 55 = .ok (.bipush 9, 2) := by decide +kernel
theorem dX6_set_57 : decode cX6_set 57 = .ok (.invokestatic 57, 3) := by decide +kernel
theorem dX6_set_60 : decode cX6_set 60 = .ok (.ifCond .eq 32, 3) := by decide +kernel
theorem dX6_set_63 : decode cX6_set 63 = .ok (.aload_n 0, 1) := by decide +kernel
theorem dX6_set_64 : decode cX6_set 64 = .ok (.getfield 29, 3) := by decide +kernel
theorem dX6_set_67 : decode cX6_set 67 = .ok (.aload_n 0, 1) := by decide +kernel
theorem dX6_set_68 : decode cX6_set 68 = .ok (.getfield 10, 3) := by decide +kernel
theorem dX6_set_71 : decode cX6_set 71 = .ok (.invokevirtual 61, 3) := by decide +kernel
theorem dX6_set_74 : decode cX6_set 74 = .ok (.aload_n 0, 1) := by decide +kernel
theorem dX6_set_75 : decode cX6_set 75 = .ok (.getfield 10, 3) := by decide +kernel
theorem dX6_set_78 : decode cX6_set 78 = .ok (.getfield 110, 3) := by decide +kernel
theorem dX6_set_81 : decode cX6_set 81 = .ok (.istore_n 3, 1) := by decide +kernel
theorem dX6_set_82 : decode cX6_set 82 = .ok (.aload_n 0, 1) := by decide +kernel
theorem dX6_set_83 : decode cX6_set 83 = .ok (.getfield 10, 3) := by decide +kernel
theorem dX6_set_86 : decode cX6_set 86 = .ok (.iload_n 2, 1) := by decide +kernel
theorem dX6_set_87 : decode cX6_set 87 = .ok (.putfield 110, 3) := by decide +kernel
theorem dX6_set_90 : decode cX6_set 90 = .ok (.iload_n 3, 1) := by decide +kernel
theorem dX6_set_91 : decode cX6_set 91 = .ok (.ireturn, 1) := by decide +kernel
theorem dX6_set_92 : decode cX6_set 92 = .ok (.iconst (-1), 1) := by decide +kernel
theorem dX6_set_93 : decode cX6_set 93 = .ok (.ireturn, 1) := by decide +kernel
set_option maxRecDepth 20000 in
theorem ggX6_empty_X0_record : GoodIn wsX6_empty wsX0_record := goodIn_r _ [8, 9, 10, 11, 12, 13, 7, 14, 15, 16, 17, 18, 19, 20, 21, 22, 23, 24, 25, 26, 27, 28, 29, 30, 31, 32, 33, 34, 35, 36, 37, 38, 39, 40, 41, 42, 43, 44, 45, 46, 47, 48, 49, 50, 51, 52, 53, 54, 55, 56, 57, 58, 59, 60, 61, 62, 100, 101, 89, 90, 91, 92, 93, 94, 95, 96, 97, 98, 99, 102, 103, 104, 105, 106, 107, 108, 109, 110] (by decide +kernel) (by decide +kernel)
set_option maxRecDepth 20000 in
theorem gX6_empty_X0_record : GoodIn wsX6_empty (wsV RX6 61 RX0 yX0_record wsX0_record) := goodIn_app (goodIn_of _ (by decide +kernel)) ggX6_empty_X0_record
set_option maxRecDepth 20000 in
theorem ggX6_empty_X5_emptyPockets : GoodIn wsX6_empty wsX5_emptyPockets := goodIn_r _ [66, 29, 26, 30, 67, 68, 69, 51, 70, 53, 71, 72, 73, 74, 75, 76, 77, 78, 89, 90, 91, 92, 93, 94, 95, 96, 97, 98, 99, 110] (by decide +kernel) (by decide +kernel)
set_option maxRecDepth 20000 in
theorem gX6_empty_X5_emptyPockets : GoodIn wsX6_empty (wsV RX6 113 RX5 yX5_emptyPockets wsX5_emptyPockets) := goodIn_app (goodIn_of _ (by decide +kernel)) ggX6_empty_X5_emptyPockets
theorem dX6_empty_0 : decode cX6_empty 0 = .ok (.aload_n 0, 1) := by decide +kernel
theorem dX6_empty_1 : decode cX6_empty 1 = .ok (.getfield 29, 3) := by decide +kernel
theorem dX6_empty_4 : decode cX6_empty 4 = .ok (.aload_n 0, 1) := by decide +kernel
theorem dX6_empty_5 : decode cX6_empty 5 = .ok (.getfield 10, 3) := by decide +kernel
theorem dX6_empty_8 : decode cX6_empty 8 = .ok (.invokevirtual 61, 3) := by decide +kernel
theorem dX6_empty_11 : decode cX6_empty 11 = .ok (.aload_n 0, 1) := by decide +kernel
theorem dX6_empty_12 : decode cX6_empty 12 = .ok (.getfield 10, 3) := by decide +kernel
theorem dX6_empty_15 : decode cX6_empty 15 = .ok (.invokevirtual 113, 3) := by decide +kernel
theorem dX6_empty_18 : decode cX6_empty 18 = .ok (.aload_n 0, 1) := by decide +kernel
theorem dX6_empty_19 : decode cX6_empty 19 = .ok (.getfield 10, 3) := by decide +kernel
theorem dX6_empty_22 : decode cX6_empty 22 = .ok (.getfield 116, 3) := by decide +kernel
theorem dX6_empty_25 : decode cX6_empty 25 = .ok (.ireturn, 1) := by decide +kernel
set_option maxRecDepth 20000 in
theorem ggX6_append_X6_isWithin : GoodIn wsX6_append wsX6_isWithin := goodIn_r _ [6] (by decide +kernel) (by decide +kernel)
set_option maxRecDepth 20000 in
theorem gX6_append_X6_isWithin : GoodIn wsX6_append (va_wsS RX6 57 yX6_isWithin wsX6_isWithin) := goodIn_app (goodIn_of _ (by decide +kernel)) ggX6_append_X6_isWithin
set_option maxRecDepth 20000 in
theorem ggX6_append_X1_write : GoodIn wsX6_append wsX1_write := goodIn_r _ [11, 12, 13, 14, 15, 16, 17, 18, 19, 30, 31, 32] (by decide +kernel) (by decide +kernel)
set_option maxRecDepth 20000 in
theorem gX6_append_X1_write : GoodIn wsX6_append (wsV RX6 122 RX1 yX1_write wsX1_write) := goodIn_app (goodIn_of _ (by decide +kernel)) ggX6_append_X1_write
theorem dX6_append_0 : decode cX6_append 0 = .ok (.iload_n 1, 1) := by decide +kernel
theorem dX6_append_1 : decode cX6_append 1 = .ok (.bipush 33, 2) := by decide +kernel
theorem dX6_append_3 : decode cX6_append 3 = .ok (.bipush 126, 2) := by decide +kernel
theorem dX6_append_5 : decode cX6_append 5 = .ok (.invokestatic 57, 3) := by decide +kernel
theorem dX6_append_8 : decode cX6_append 8 = .ok (.ifCond .ne 5, 3) := by decide +kernel
theorem dX6_append_11 : decode cX6_append 11 = .ok (.iconst (-1), 1) := by decide +kernel
theorem dX6_append_12 : decode cX6_append 12 = .ok (.ireturn, 1) := by decide +kernel
theorem dX6_append_13 : decode cX6_append 13 = .ok (.aload_n 0, 1) := by decide +kernel
theorem dX6_append_14 : decode cX6_append 14 = .ok (.getfield 43, 3) := by decide +kernel
theorem dX6_append_17 : decode cX6_append 17 = .ok (.getfield 119, 3) := by decide +kernel
theorem dX6_append_20 : decode cX6_append 20 = .ok (.bipush 60, 2) := by decide +kernel
theorem dX6_append_22 : decode cX6_append 22 = .ok (.if_icmp .lt 6, 3) := by decide +kernel
theorem dX6_append_25 : decode cX6_append 25 = .ok (.bipush (-3), 2) := by decide +kernel
theorem dX6_append_27 : decode cX6_append 27 = .ok (.ireturn, 1) := by decide +kernel
theorem dX6_append_28 : decode cX6_append 28 = .ok (.aload_n 0, 1) := by decide +kernel
theorem dX6_append_29 : decode cX6_append 29 = .ok (.getfield 43, 3) := by decide +kernel
theorem dX6_append_32 : decode cX6_append 32 = .ok (.iload_n 1, 1) := by decide +kernel
theorem dX6_append_33 : decode cX6_append 33 = .ok (.invokevirtual 122, 3) := by decide +kernel
theorem dX6_append_36 : decode cX6_append 36 = .ok (.aload_n 0, 1) := by decide +kernel
theorem dX6_append_37 : decode cX6_append 37 = .ok (.getfield 43, 3) := by decide +kernel
theorem dX6_append_40 : decode cX6_append 40 = .ok (.getfield 119, 3) := by decide +kernel
theorem dX6_append_43 : decode cX6_append 43 = .ok (.ireturn, 1) := by decide +kernel
set_option maxRecDepth 20000 in
theorem ggX6_clear_X1_wipe : GoodIn wsX6_clear wsX1_wipe := goodIn_r _ [7, 8, 19, 20] (by decide +kernel) (by decide +kernel)
set_option maxRecDepth 20000 in
theorem gX6_clear_X1_wipe : GoodIn wsX6_clear (wsV RX6 125 RX1 yX1_wipe wsX1_wipe) := goodIn_app (goodIn_of _ (by decide +kernel)) ggX6_clear_X1_wipe
theorem dX6_clear_0 : decode cX6_clear 0 = .ok (.aload_n 0, 1) := by decide +kernel
theorem dX6_clear_1 : decode cX6_clear 1 = .ok (.getfield 43, 3) := by decide +kernel
theorem dX6_clear_4 : decode cX6_clear 4 = .ok (.getfield 119, 3) := by decide +kernel
theorem dX6_clear_7 : decode cX6_clear 7 = .ok (.istore_n 1, 1) := by decide +kernel
theorem dX6_clear_8 : decode cX6_clear 8 = .ok (.aload_n 0, 1) := by decide +kernel
theorem dX6_clear_9 : decode cX6_clear 9 = .ok (.getfield 43, 3) := by decide +kernel
theorem dX6_clear_12 : decode cX6_clear 12 = .ok (.invokevirtual 125, 3) := by decide +kernel
theorem dX6_clear_15 : decode cX6_clear 15 = .ok (.iload_n 1, 1) := by decide +kernel
theorem dX6_clear_16 : decode cX6_clear 16 = .ok (.ireturn, 1) := by decide +kernel
set_option maxRecDepth 20000 in
theorem ggX6_fault_X1_faultAsBoard : GoodIn wsX6_fault wsX1_faultAsBoard := goodIn_r _ [6, 7, 8, 9, 10, 5, 11, 12, 13, 14, 15, 16, 17, 18, 19, 20, 21, 45, 46, 47] (by decide +kernel) (by decide +kernel)
set_option maxRecDepth 20000 in
theorem gX6_fault_X1_faultAsBoard : GoodIn wsX6_fault (wsV RX6 128 RX1 yX1_faultAsBoard wsX1_faultAsBoard) := goodIn_app (goodIn_of _ (by decide +kernel)) ggX6_fault_X1_faultAsBoard
set_option maxRecDepth 20000 in
theorem ggX6_fault_X1_faultAsShots : GoodIn wsX6_fault wsX1_faultAsShots := goodIn_r _ [25, 7, 8, 9, 10, 5, 11, 12, 13, 14, 15, 16, 17, 18, 26, 27, 28, 29, 30, 31, 32, 33, 34, 45, 46, 47] (by decide +kernel) (by decide +kernel)
set_option maxRecDepth 20000 in
theorem gX6_fault_X1_faultAsShots : GoodIn wsX6_fault (wsV RX6 131 RX1 yX1_faultAsShots wsX1_faultAsShots) := goodIn_app (goodIn_of _ (by decide +kernel)) ggX6_fault_X1_faultAsShots
theorem dX6_fault_0 : decode cX6_fault 0 = .ok (.iload_n 1, 1) := by decide +kernel
theorem dX6_fault_1 : decode cX6_fault 1 = .ok (.lookupswitch 43 #[(0, 27), (1, 35)], 27) := by decide +kernel
theorem dX6_fault_28 : decode cX6_fault 28 = .ok (.aload_n 0, 1) := by decide +kernel
theorem dX6_fault_29 : decode cX6_fault 29 = .ok (.getfield 43, 3) := by decide +kernel
theorem dX6_fault_32 : decode cX6_fault 32 = .ok (.invokevirtual 128, 3) := by decide +kernel
theorem dX6_fault_35 : decode cX6_fault 35 = .ok (.ireturn, 1) := by decide +kernel
theorem dX6_fault_36 : decode cX6_fault 36 = .ok (.aload_n 0, 1) := by decide +kernel
theorem dX6_fault_37 : decode cX6_fault 37 = .ok (.getfield 43, 3) := by decide +kernel
theorem dX6_fault_40 : decode cX6_fault 40 = .ok (.invokevirtual 131, 3) := by decide +kernel
theorem dX6_fault_43 : decode cX6_fault 43 = .ok (.ireturn, 1) := by decide +kernel
theorem dX6_fault_44 : decode cX6_fault 44 = .ok (.iconst (-1), 1) := by decide +kernel
theorem dX6_fault_45 : decode cX6_fault 45 = .ok (.ireturn, 1) := by decide +kernel
set_option maxRecDepth 20000 in
theorem ggX6_board_X1_faultAsBoard : GoodIn wsX6_board wsX1_faultAsBoard := goodIn_r _ [9, 10, 11, 12, 13, 8, 14, 15, 16, 17, 18, 19, 20, 21, 22, 23, 24, 128, 129, 130] (by decide +kernel) (by decide +kernel)
set_option maxRecDepth 20000 in
theorem gX6_board_X1_faultAsBoard : GoodIn wsX6_board (wsV RX6 128 RX1 yX1_faultAsBoard wsX1_faultAsBoard) := goodIn_app (goodIn_of _ (by decide +kernel)) ggX6_board_X1_faultAsBoard
set_option maxRecDepth 20000 in
theorem ggX6_board_X0_record : GoodIn wsX6_board wsX0_record := goodIn_r _ [29, 30, 31, 32, 33, 34, 28, 35, 36, 37, 38, 39, 40, 41, 42, 43, 44, 45, 46, 47, 48, 49, 50, 51, 52, 53, 54, 55, 56, 57, 58, 59, 60, 61, 62, 63, 64, 65, 66, 67, 68, 69, 70, 71, 19, 72, 21, 73, 74, 75, 76, 77, 78, 79, 80, 81, 131, 132, 117, 118, 119, 120, 121, 122, 123, 124, 125, 126, 127, 133, 134, 135, 136, 137, 138, 139, 140, 130] (by decide +kernel) (by decide +kernel)
set_option maxRecDepth 20000 in
theorem gX6_board_X0_record : GoodIn wsX6_board (wsV RX6 61 RX0 yX0_record wsX0_record) := goodIn_app (goodIn_of _ (by decide +kernel)) ggX6_board_X0_record
set_option maxRecDepth 20000 in
theorem ggX6_board_X1_codeAt : GoodIn wsX6_board wsX1_codeAt := goodIn_r _ [14, 10, 15, 16, 17, 18, 19, 20, 21, 128, 129, 130] (by decide +kernel) (by decide +kernel)
set_option maxRecDepth 20000 in
theorem gX6_board_X1_codeAt : GoodIn wsX6_board (wsV RX6 134 RX1 yX1_codeAt wsX1_codeAt) := goodIn_app (goodIn_of _ (by decide +kernel)) ggX6_board_X1_codeAt
set_option maxRecDepth 20000 in
theorem ggX6_board_X2_readSign : GoodIn wsX6_board wsX2_readSign := goodIn_r _ [86, 61, 62, 63, 64, 87, 88, 89, 19, 90, 21, 133, 134, 135, 136, 137, 138, 139, 140, 130] (by decide +kernel) (by decide +kernel)
set_option maxRecDepth 20000 in
theorem gX6_board_X2_readSign : GoodIn wsX6_board (wsV RX6 137 RX2 yX2_readSign wsX2_readSign) := goodIn_app (goodIn_of _ (by decide +kernel)) ggX6_board_X2_readSign
set_option maxRecDepth 20000 in
theorem ggX6_board_X1_wipe : GoodIn wsX6_board wsX1_wipe := goodIn_r _ [94, 10, 128, 129] (by decide +kernel) (by decide +kernel)
set_option maxRecDepth 20000 in
theorem gX6_board_X1_wipe : GoodIn wsX6_board (wsV RX6 125 RX1 yX1_wipe wsX1_wipe) := goodIn_app (goodIn_of _ (by decide +kernel)) ggX6_board_X1_wipe
set_option maxRecDepth 20000 in
theorem ggX6_board_X2_allPins : GoodIn wsX6_board wsX2_allPins := goodIn_r _ [98, 99, 100, 101, 59, 102, 62, 103, 104, 105, 19, 106, 21, 133, 134, 135, 136, 137, 138, 139, 140, 130] (by decide +kernel) (by decide +kernel)
set_option maxRecDepth 20000 in
theorem gX6_board_X2_allPins : GoodIn wsX6_board (wsV RX6 140 RX2 yX2_allPins wsX2_allPins) := goodIn_app (goodIn_of _ (by decide +kernel)) ggX6_board_X2_allPins
theorem dX6_board_0 : decode cX6_board 0 = .ok (.aload_n 0, 1) := by decide +kernel
theorem dX6_board_1 : decode cX6_board 1 = .ok (.getfield 43, 3) := by decide +kernel
theorem dX6_board_4 : decode cX6_board 4 = .ok (.invokevirtual 128, 3) := by decide +kernel
theorem dX6_board_7 : decode cX6_board 7 = .ok (.bipush (-4), 2) := by decide +kernel
theorem dX6_board_9 : decode cX6_board 9 = .ok (.if_icmp .eq 6, 3) := by decide +kernel
theorem dX6_board_12 : decode cX6_board 12 = .ok (.bipush (-2), 2) := by decide +kernel
theorem dX6_board_14 : decode cX6_board 14 = .ok (.ireturn, 1) := by decide +kernel
theorem dX6_board_15 : decode cX6_board 15 = .ok (.aload_n 0, 1) := by decide +kernel
theorem dX6_board_16 : decode cX6_board 16 = .ok (.getfield 29, 3) := by decide +kernel
theorem dX6_board_19 : decode cX6_board 19 = .ok (.aload_n 0, 1) := by decide +kernel
theorem dX6_board_20 : decode cX6_board 20 = .ok (.getfield 10, 3) := by decide +kernel
theorem dX6_board_23 : decode cX6_board 23 = .ok (.invokevirtual 61, 3) := by decide +kernel
theorem dX6_board_26 : decode cX6_board 26 = .ok (.iconst 0, 1) := by decide +kernel
theorem dX6_board_27 : decode cX6_board 27 = .ok (.istore_n 1, 1) := by decide +kernel
theorem dX6_board_28 : decode cX6_board 28 = .ok (.iload_n 1, 1) := by decide +kernel
theorem dX6_board_29 : decode cX6_board 29 = .ok (.bipush 35, 2) := by decide +kernel
theorem dX6_board_31 : decode cX6_board 31 = .ok (.if_icmp .ge 28, 3) := by decide +kernel
theorem dX6_board_34 : decode cX6_board 34 = .ok (.aload_n 0, 1) := by decide +kernel
theorem dX6_board_35 : decode cX6_board 35 = .ok (.getfield 10, 3) := by decide +kernel
theorem dX6_board_38 : decode cX6_board 38 = .ok (.getfield 73, 3) := by decide +kernel
theorem dX6_board_41 : decode cX6_board 41 = .ok (.iload_n 1, 1) := by decide +kernel
theorem dX6_board_42 : decode cX6_board 42 = .ok (.aload_n 0, 1) := by decide +kernel
theorem dX6_board_43 : decode cX6_board 43 = .ok (.getfield 43, 3) := by decide +kernel
theorem dX6_board_46 : decode cX6_board 46 = .ok (.iload_n 1, 1) := by decide +kernel
theorem dX6_board_47 : decode cX6_board 47 = .ok (.invokevirtual 134, 3) := by decide +kernel
theorem dX6_board_50 : decode cX6_board 50 = .ok (.invokevirtual 137, 3) := by decide +kernel
theorem dX6_board_53 : decode cX6_board 53 = .ok (.iinc 1 1, 3) := by decide +kernel
theorem dX6_board_56 : decode cX6_board 56 = .ok (.goto (-28), 3) := by decide +kernel
theorem dX6_board_59 : decode cX6_board 59 = .ok (.aload_n 0, 1) := by decide +kernel
theorem dX6_board_60 : decode cX6_board 60 = .ok (.getfield 43, 3) := by decide +kernel
theorem dX6_board_63 : decode cX6_board 63 = .ok (.invokevirtual 125, 3) := by decide +kernel
theorem dX6_board_66 : decode cX6_board 66 = .ok (.aload_n 0, 1) := by decide +kernel
theorem dX6_board_67 : decode cX6_board 67 = .ok (.getfield 10, 3) := by decide +kernel
theorem dX6_board_70 : decode cX6_board 70 = .ok (.getfield 73, 3) := by decide +kernel
theorem dX6_board_73 : decode cX6_board 73 = .ok (.invokevirtual 140, 3) := by decide +kernel
theorem dX6_board_76 : decode cX6_board 76 = .ok (.ireturn, 1) := by decide +kernel
set_option maxRecDepth 20000 in
theorem ggX6_shots_X1_faultAsShots : GoodIn wsX6_shots wsX1_faultAsShots := goodIn_r _ [9, 10, 11, 12, 13, 8, 14, 15, 16, 17, 18, 19, 20, 21, 22, 23, 24, 25, 26, 27, 28, 29, 30, 203, 204, 205] (by decide +kernel) (by decide +kernel)
set_option maxRecDepth 20000 in
theorem gX6_shots_X1_faultAsShots : GoodIn wsX6_shots (wsV RX6 131 RX1 yX1_faultAsShots wsX1_faultAsShots) := goodIn_app (goodIn_of _ (by decide +kernel)) ggX6_shots_X1_faultAsShots
set_option maxRecDepth 20000 in
theorem ggX6_shots_X0_record : GoodIn wsX6_shots wsX0_record := goodIn_r _ [35, 36, 37, 38, 39, 40, 34, 41, 42, 43, 44, 45, 46, 47, 48, 49, 50, 51, 52, 53, 54, 55, 56, 57, 58, 59, 60, 61, 62, 63, 64, 65, 66, 67, 68, 69, 70, 71, 72, 73, 74, 75, 76, 77, 19, 78, 21, 79, 80, 81, 82, 83, 84, 85, 86, 87, 206, 207, 192, 193, 194, 195, 196, 197, 198, 199, 200, 201, 202, 208, 209, 210, 211, 212, 213, 214, 215, 205] (by decide +kernel) (by decide +kernel)
set_option maxRecDepth 20000 in
theorem gX6_shots_X0_record : GoodIn wsX6_shots (wsV RX6 61 RX0 yX0_record wsX0_record) := goodIn_app (goodIn_of _ (by decide +kernel)) ggX6_shots_X0_record
set_option maxRecDepth 20000 in
theorem ggX6_shots_X6_shootAsThePadTells : GoodIn wsX6_shots wsX6_shootAsThePadTells := goodIn_r _ [91, 92, 1, 93, 3, 94, 12, 13, 8, 14, 10, 15, 16, 17, 18, 19, 20, 21, 95, 96, 97, 49, 98, 56, 53, 57, 99, 100, 101, 102, 103, 104, 105, 106, 107, 108, 109, 110, 111, 26, 27, 28, 29, 30, 112, 113, 114, 115, 61, 59, 60, 51, 116, 58, 117, 118, 119, 65, 120, 121, 122, 123, 124, 125, 126, 70, 127, 128, 129, 130, 68, 131, 132, 133, 134, 135, 67, 72, 136, 137, 138, 139, 71, 73, 69, 74, 140, 141, 142, 143, 144, 145, 146, 147, 148, 149, 150, 151, 152, 153, 154, 155, 156, 157, 158, 80, 81, 82, 159, 160, 161, 162, 163, 164, 165, 54, 52, 166, 167, 168, 169, 170, 55, 171, 172, 173, 174, 175, 176, 177, 182, 183, 184, 185, 186, 187, 188, 189, 190, 191, 203, 204, 205, 192, 193, 194, 195, 196, 197, 198, 199, 200, 201, 202, 208, 209, 210, 211, 212, 213, 214, 215] (by decide +kernel) (by decide +kernel)
set_option maxRecDepth 20000 in
theorem gX6_shots_X6_shootAsThePadTells : GoodIn wsX6_shots (wsV RX6 146 RX6 yX6_shootAsThePadTells wsX6_shootAsThePadTells) := goodIn_app (goodIn_of _ (by decide +kernel)) ggX6_shots_X6_shootAsThePadTells
set_option maxRecDepth 20000 in
theorem ggX6_shots_X1_wipe : GoodIn wsX6_shots wsX1_wipe := goodIn_r _ [181, 10, 203, 204] (by decide +kernel) (by decide +kernel)
set_option maxRecDepth 20000 in
theorem gX6_shots_X1_wipe : GoodIn wsX6_shots (wsV RX6 125 RX1 yX1_wipe wsX1_wipe) := goodIn_app (goodIn_of _ (by decide +kernel)) ggX6_shots_X1_wipe
theorem dX6_shots_0 : decode cX6_shots 0 = .ok (.aload_n 0, 1) := by decide +kernel
theorem dX6_shots_1 : decode cX6_shots 1 = .ok (.getfield 43, 3) := by decide +kernel
theorem dX6_shots_4 : decode cX6_shots 4 = .ok (.invokevirtual 131, 3) := by decide +kernel
theorem dX6_shots_7 : decode cX6_shots 7 = .ok (.bipush (-4), 2) := by decide +kernel
theorem dX6_shots_9 : decode cX6_shots 9 = .ok (.if_icmp .eq 6, 3) := by decide +kernel
theorem dX6_shots_12 : decode cX6_shots 12 = .ok (.bipush (-2), 2) := by decide +kernel
theorem dX6_shots_14 : decode cX6_shots 14 = .ok (.ireturn, 1) := by decide +kernel
theorem dX6_shots_15 : decode cX6_shots 15 = .ok (.aload_n 0, 1) := by decide +kernel
theorem dX6_shots_16 : decode cX6_shots 16 = .ok (.getfield 29, 3) := by decide +kernel
theorem dX6_shots_19 : decode cX6_shots 19 = .ok (.aload_n 0, 1) := by decide +kernel
theorem dX6_shots_20 : decode cX6_shots 20 = .ok (.getfield 10, 3) := by decide +kernel
theorem dX6_shots_23 : decode cX6_shots 23 = .ok (.invokevirtual 61, 3) := by decide +kernel
theorem dX6_shots_26 : decode cX6_shots 26 = .ok (.aload_n 0, 1) := by decide +kernel
theorem dX6_shots_27 : decode cX6_shots 27 = .ok (.getfield 10, 3) := by decide +kernel
theorem dX6_shots_30 : decode cX6_shots 30 = .ok (.getfield 143, 3) := by decide +kernel
theorem dX6_shots_33 : decode cX6_shots 33 = .ok (.istore_n 1, 1) := by decide +kernel
theorem dX6_shots_34 : decode cX6_shots 34 = .ok (.aload_n 0, 1) := by decide +kernel
theorem dX6_shots_35 : decode cX6_shots 35 = .ok (.invokevirtual 146, 3) := by decide +kernel
theorem dX6_shots_38 : decode cX6_shots 38 = .ok (.aload_n 0, 1) := by decide +kernel
theorem dX6_shots_39 : decode cX6_shots 39 = .ok (.getfield 43, 3) := by decide +kernel
theorem dX6_shots_42 : decode cX6_shots 42 = .ok (.invokevirtual 125, 3) := by decide +kernel
theorem dX6_shots_45 : decode cX6_shots 45 = .ok (.aload_n 0, 1) := by decide +kernel
theorem dX6_shots_46 : decode cX6_shots 46 = .ok (.getfield 10, 3) := by decide +kernel
theorem dX6_shots_49 : decode cX6_shots 49 = .ok (.getfield 143, 3) := by decide +kernel
theorem dX6_shots_52 : decode cX6_shots 52 = .ok (.iload_n 1, 1) := by decide +kernel
theorem dX6_shots_53 : decode cX6_shots 53 = .ok (.isub, 1) := by decide +kernel
theorem dX6_shots_54 : decode cX6_shots 54 = .ok (.ireturn, 1) := by decide +kernel
set_option maxRecDepth 20000 in
theorem ggX6_why_X6_isWithin : GoodIn wsX6_why wsX6_isWithin := goodIn_r _ [7] (by decide +kernel) (by decide +kernel)
set_option maxRecDepth 20000 in
theorem gX6_why_X6_isWithin : GoodIn wsX6_why (va_wsS RX6 57 yX6_isWithin wsX6_isWithin) := goodIn_app (goodIn_of _ (by decide +kernel)) ggX6_why_X6_isWithin
theorem dX6_why_0 : decode cX6_why 0 = .ok (.iload_n 1, 1) := by decide +kernel
theorem dX6_why_1 : decode cX6_why 1 = .ok (.iconst 0, 1) := by decide +kernel
theorem dX6_why_2 : decode cX6_why 2 = .ok (.iconst 2, 1) := by decide +kernel
theorem dX6_why_3 : decode cX6_why 3 = .ok (.invokestatic 57, 3) := by decide +kernel
theorem dX6_why_6 : decode cX6_why 6 = .ok (.ifCond .ne 5, 3) := by decide +kernel
theorem dX6_why_9 : decode cX6_why 9 = .ok (.iconst (-1), 1) := by decide +kernel
theorem dX6_why_10 : decode cX6_why 10 = .ok (.ireturn, 1) := by decide +kernel
theorem dX6_why_11 : decode cX6_why 11 = .ok (.aload_n 0, 1) := by decide +kernel
theorem dX6_why_12 : decode cX6_why 12 = .ok (.getfield 47, 3) := by decide +kernel
theorem dX6_why_15 : decode cX6_why 15 = .ok (.ifCond .ne 6, 3) := by decide +kernel
theorem dX6_why_18 : decode cX6_why 18 = .ok (.bipush (-4), 2) := by decide +kernel
theorem dX6_why_20 : decode cX6_why 20 = .ok (.ireturn, 1) := by decide +kernel
theorem dX6_why_21 : decode cX6_why 21 = .ok (.iload_n 1, 1) := by decide +kernel
theorem dX6_why_22 : decode cX6_why 22 = .ok (.lookupswitch 36 #[(0, 26), (1, 31)], 26) := by decide +kernel
theorem dX6_why_48 : decode cX6_why 48 = .ok (.aload_n 0, 1) := by decide +kernel
theorem dX6_why_49 : decode cX6_why 49 = .ok (.getfield 47, 3) := by decide +kernel
theorem dX6_why_52 : decode cX6_why 52 = .ok (.ireturn, 1) := by decide +kernel
theorem dX6_why_53 : decode cX6_why 53 = .ok (.aload_n 0, 1) := by decide +kernel
theorem dX6_why_54 : decode cX6_why 54 = .ok (.getfield 51, 3) := by decide +kernel
theorem dX6_why_57 : decode cX6_why 57 = .ok (.ireturn, 1) := by decide +kernel
theorem dX6_why_58 : decode cX6_why 58 = .ok (.aload_n 0, 1) := by decide +kernel
theorem dX6_why_59 : decode cX6_why 59 = .ok (.getfield 54, 3) := by decide +kernel
theorem dX6_why_62 : decode cX6_why 62 = .ok (.ireturn, 1) := by decide +kernel
set_option maxRecDepth 20000 in
theorem ggX6_sign_X6_isWithin : GoodIn wsX6_sign wsX6_isWithin := goodIn_r _ [6] (by decide +kernel) (by decide +kernel)
set_option maxRecDepth 20000 in
theorem gX6_sign_X6_isWithin : GoodIn wsX6_sign (va_wsS RX6 57 yX6_isWithin wsX6_isWithin) := goodIn_app (goodIn_of _ (by decide +kernel)) ggX6_sign_X6_isWithin
set_option maxRecDepth 20000 in
theorem ggX6_sign_X2_signOf : GoodIn wsX6_sign wsX2_signOf := goodIn_r _ [11, 12, 13, 14, 15, 16, 10, 17, 18, 19, 20, 21, 22, 23, 24, 46, 47, 48, 49, 50, 51, 52, 53, 54] (by decide +kernel) (by decide +kernel)
set_option maxRecDepth 20000 in
theorem gX6_sign_X2_signOf : GoodIn wsX6_sign (wsV RX6 149 RX2 yX2_signOf wsX2_signOf) := goodIn_app (goodIn_of _ (by decide +kernel)) ggX6_sign_X2_signOf
theorem dX6_sign_0 : decode cX6_sign 0 = .ok (.iload_n 1, 1) := by decide +kernel
theorem dX6_sign_1 : decode cX6_sign 1 = .ok (.iconst 0, 1) := by decide +kernel
theorem dX6_sign_2 : decode cX6_sign 2 = .ok (.bipush 34, 2) := by decide +kernel
theorem dX6_sign_4 : decode cX6_sign 4 = .ok (.invokestatic 57, 3) := by decide +kernel
theorem dX6_sign_7 : decode cX6_sign 7 = .ok (.ifCond .ne 5, 3) := by decide +kernel
theorem dX6_sign_10 : decode cX6_sign 10 = .ok (.iconst (-1), 1) := by decide +kernel
theorem dX6_sign_11 : decode cX6_sign 11 = .ok (.ireturn, 1) := by decide +kernel
theorem dX6_sign_12 : decode cX6_sign 12 = .ok (.aload_n 0, 1) := by decide +kernel
theorem dX6_sign_13 : decode cX6_sign 13 = .ok (.getfield 10, 3) := by decide +kernel
theorem dX6_sign_16 : decode cX6_sign 16 = .ok (.getfield 73, 3) := by decide +kernel
theorem dX6_sign_19 : decode cX6_sign 19 = .ok (.iload_n 1, 1) := by decide +kernel
theorem dX6_sign_20 : decode cX6_sign 20 = .ok (.invokevirtual 149, 3) := by decide +kernel
theorem dX6_sign_23 : decode cX6_sign 23 = .ok (.ireturn, 1) := by decide +kernel
set_option maxRecDepth 20000 in
theorem ggX6_pin_X6_isWithin : GoodIn wsX6_pin wsX6_isWithin := goodIn_r _ [11] (by decide +kernel) (by decide +kernel)
set_option maxRecDepth 20000 in
theorem gX6_pin_X6_isWithin : GoodIn wsX6_pin (va_wsS RX6 57 yX6_isWithin wsX6_isWithin) := goodIn_app (goodIn_of _ (by decide +kernel)) ggX6_pin_X6_isWithin
set_option maxRecDepth 20000 in
theorem ggX6_pin_X2_isOut : GoodIn wsX6_pin wsX2_isOut := goodIn_r _ [16, 17, 18, 19, 20, 21, 22, 23, 86, 87, 88, 89, 90, 91, 92, 93, 94] (by decide +kernel) (by decide +kernel)
set_option maxRecDepth 20000 in
theorem gX6_pin_X2_isOut : GoodIn wsX6_pin (wsV RX6 152 RX2 yX2_isOut wsX2_isOut) := goodIn_app (goodIn_of _ (by decide +kernel)) ggX6_pin_X2_isOut
set_option maxRecDepth 20000 in
theorem ggX6_pin_X4_at : GoodIn wsX6_pin wsX4_at := goodIn_r _ [22, 23, 94] (by decide +kernel) (by decide +kernel)
set_option maxRecDepth 20000 in
theorem gX6_pin_X4_at : GoodIn wsX6_pin (wsV RX6 97 RX4 yX4_at wsX4_at) := goodIn_app (goodIn_of _ (by decide +kernel)) ggX6_pin_X4_at
set_option maxRecDepth 20000 in
theorem ggX6_pin_X3_isOpenTo : GoodIn wsX6_pin wsX3_isOpenTo := goodIn_r _ [29, 30, 31, 32, 28, 33, 34, 35, 36, 37, 38, 10, 39, 40, 41, 42, 43, 44, 45, 46, 47, 15, 48, 49, 13, 14, 16, 17, 18, 19, 20, 21, 22, 23, 50, 51, 52, 53, 54, 55, 56, 57, 58, 59, 60, 61, 62, 63, 64, 86, 87, 88, 89, 90, 91, 92, 93, 94] (by decide +kernel) (by decide +kernel)
set_option maxRecDepth 20000 in
theorem gX6_pin_X3_isOpenTo : GoodIn wsX6_pin (wsV RX6 168 RX3 yX3_isOpenTo wsX3_isOpenTo) := goodIn_app (goodIn_of _ (by decide +kernel)) ggX6_pin_X3_isOpenTo
theorem dX6_pin_0 : decode cX6_pin 0 = .ok (.iload_n 1, 1) := by decide +kernel
theorem dX6_pin_1 : decode cX6_pin 1 = .ok (.iconst 0, 1) := by decide +kernel
theorem dX6_pin_2 : decode cX6_pin 2 = .ok (.bipush 34, 2) := by decide +kernel
theorem dX6_pin_4 : decode cX6_pin 4 = .ok (.invokestatic 57, 3) := by decide +kernel
theorem dX6_pin_7 : decode cX6_pin 7 = .ok (.ifCond .ne 5, 3) := by decide +kernel
theorem dX6_pin_10 : decode cX6_pin 10 = .ok (.iconst (-1), 1) := by decide +kernel
theorem dX6_pin_11 : decode cX6_pin 11 = .ok (.ireturn, 1) := by decide +kernel
theorem dX6_pin_12 : decode cX6_pin 12 = .ok (.aload_n 0, 1) := by decide +kernel
theorem dX6_pin_13 : decode cX6_pin 13 = .ok (.getfield 10, 3) := by decide +kernel
theorem dX6_pin_16 : decode cX6_pin 16 = .ok (.getfield 73, 3) := by decide +kernel
theorem dX6_pin_19 : decode cX6_pin 19 = .ok (.astore_n 3, 1) := by decide +kernel
theorem dX6_pin_20 : decode cX6_pin 20 = .ok (.iload_n 2, 1) := by decide +kernel
theorem dX6_pin_21 : decode cX6_pin 21 = .ok (.tableswitch 117 0 4 #[35, 59, 68, 90, 99], 35) := by decide +kernel
theorem dX6_pin_56 : decode cX6_pin 56 = .ok (.aload_n 3, 1) := by decide +kernel
theorem dX6_pin_57 : decode cX6_pin 57 = .ok (.iload_n 1, 1) := by decide +kernel
theorem dX6_pin_58 : decode cX6_pin 58 = .ok (.invokevirtual 152, 3) := by decide +kernel
theorem dX6_pin_61 : decode cX6_pin 61 = .ok (.ifCond .eq 8, 3) := by decide +kernel
theorem dX6_pin_64 : decode cX6_pin 64 = .ok (.bipush (-4), 2) := by decide +kernel
theorem dX6_pin_66 : decode cX6_pin 66 = .ok (.goto 13, 3) := by decide +kernel
theorem dX6_pin_69 : decode cX6_pin 69 = .ok (.aload_n 3, 1) := by decide +kernel
theorem dX6_pin_70 : decode cX6_pin 70 = .ok (.getfield 156, 3) := by decide +kernel
theorem dX6_pin_73 : decode cX6_pin 73 = .ok (.iload_n 1, 1) := by decide +kernel
theorem dX6_pin_74 : decode cX6_pin 74 = .ok (.invokevirtual 97, 3) := by decide +kernel
theorem dX6_pin_77 : decode cX6_pin 77 = .ok (.iconst 3, 1) := by decide +kernel
theorem dX6_pin_78 : decode cX6_pin 78 = .ok (.iadd, 1) := by decide +kernel
theorem dX6_pin_79 : decode cX6_pin 79 = .ok (.ireturn, 1) := by decide +kernel
theorem dX6_pin_80 : decode cX6_pin 80 = .ok (.aload_n 3, 1) := by decide +kernel
theorem dX6_pin_81 : decode cX6_pin 81 = .ok (.getfield 159, 3) := by decide +kernel
theorem dX6_pin_84 : decode cX6_pin 84 = .ok (.iload_n 1, 1) := by decide +kernel
theorem dX6_pin_85 : decode cX6_pin 85 = .ok (.invokevirtual 97, 3) := by decide +kernel
theorem dX6_pin_88 : decode cX6_pin 88 = .ok (.ireturn, 1) := by decide +kernel
theorem dX6_pin_89 : decode cX6_pin 89 = .ok (.aload_n 3, 1) := by decide +kernel
theorem dX6_pin_90 : decode cX6_pin 90 = .ok (.iload_n 1, 1) := by decide +kernel
theorem dX6_pin_91 : decode cX6_pin 91 = .ok (.invokevirtual 152, 3) := by decide +kernel
theorem dX6_pin_94 : decode cX6_pin 94 = .ok (.ifCond .eq 8, 3) := by decide +kernel
theorem dX6_pin_97 : decode cX6_pin 97 = .ok (.bipush (-4), 2) := by decide +kernel
theorem dX6_pin_99 : decode cX6_pin 99 = .ok (.goto 11, 3) := by decide +kernel
theorem dX6_pin_102 : decode cX6_pin 102 = .ok (.aload_n 3, 1) := by decide +kernel
theorem dX6_pin_103 : decode cX6_pin 103 = .ok (.getfield 162, 3) := by decide +kernel
theorem dX6_pin_106 : decode cX6_pin 106 = .ok (.iload_n 1, 1) := by decide +kernel
theorem dX6_pin_107 : decode cX6_pin 107 = .ok (.invokevirtual 97, 3) := by decide +kernel
theorem dX6_pin_110 : decode cX6_pin 110 = .ok (.ireturn, 1) := by decide +kernel
theorem dX6_pin_111 : decode cX6_pin 111 = .ok (.aload_n 3, 1) := by decide +kernel
theorem dX6_pin_112 : decode cX6_pin 112 = .ok (.getfield 165, 3) := by decide +kernel
theorem dX6_pin_115 : decode cX6_pin 115 = .ok (.iload_n 1, 1) := by decide +kernel
theorem dX6_pin_116 : decode cX6_pin 116 = .ok (.invokevirtual 97, 3) := by decide +kernel
theorem dX6_pin_119 : decode cX6_pin 119 = .ok (.ireturn, 1) := by decide +kernel
theorem dX6_pin_120 : decode cX6_pin 120 = .ok (.aload_n 0, 1) := by decide +kernel
theorem dX6_pin_121 : decode cX6_pin 121 = .ok (.getfield 36, 3) := by decide +kernel
theorem dX6_pin_124 : decode cX6_pin 124 = .ok (.aload_n 3, 1) := by decide +kernel
theorem dX6_pin_125 : decode cX6_pin 125 = .ok (.iload_n 1, 1) := by decide +kernel
theorem dX6_pin_126 : decode cX6_pin 126 = .ok (.invokevirtual 168, 3) := by decide +kernel
theorem dX6_pin_129 : decode cX6_pin 129 = .ok (.ifCond .eq 7, 3) := by decide +kernel
theorem dX6_pin_132 : decode cX6_pin 132 = .ok (.iconst 1, 1) := by decide +kernel
theorem dX6_pin_133 : decode cX6_pin 133 = .ok (.goto 4, 3) := by decide +kernel
theorem dX6_pin_136 : decode cX6_pin 136 = .ok (.iconst 0, 1) := by decide +kernel
theorem dX6_pin_137 : decode cX6_pin 137 = .ok (.ireturn, 1) := by decide +kernel
theorem dX6_pin_138 : decode cX6_pin 138 = .ok (.iconst (-1), 1) := by decide +kernel
theorem dX6_pin_139 : decode cX6_pin 139 = .ok (.ireturn, 1) := by decide +kernel
set_option maxRecDepth 20000 in
theorem ggX6_pocket_X6_isWithin : GoodIn wsX6_pocket wsX6_isWithin := goodIn_r _ [10] (by decide +kernel) (by decide +kernel)
set_option maxRecDepth 20000 in
theorem gX6_pocket_X6_isWithin : GoodIn wsX6_pocket (va_wsS RX6 57 yX6_isWithin wsX6_isWithin) := goodIn_app (goodIn_of _ (by decide +kernel)) ggX6_pocket_X6_isWithin
set_option maxRecDepth 20000 in
theorem ggX6_pocket_X4_at : GoodIn wsX6_pocket wsX4_at := goodIn_r _ [15, 16, 92] (by decide +kernel) (by decide +kernel)
set_option maxRecDepth 20000 in
theorem gX6_pocket_X4_at : GoodIn wsX6_pocket (wsV RX6 97 RX4 yX4_at wsX4_at) := goodIn_app (goodIn_of _ (by decide +kernel)) ggX6_pocket_X4_at
set_option maxRecDepth 20000 in
theorem ggX6_pocket_X5_isFull : GoodIn wsX6_pocket wsX5_isFull := goodIn_r _ [21, 22, 23, 24, 12, 13, 14, 15, 16, 81, 82, 83, 84, 85, 86, 87, 88, 89, 90, 91, 92] (by decide +kernel) (by decide +kernel)
set_option maxRecDepth 20000 in
theorem gX6_pocket_X5_isFull : GoodIn wsX6_pocket (wsV RX6 175 RX5 yX5_isFull wsX5_isFull) := goodIn_app (goodIn_of _ (by decide +kernel)) ggX6_pocket_X5_isFull
set_option maxRecDepth 20000 in
theorem ggX6_pocket_X3_startsTo : GoodIn wsX6_pocket wsX3_startsTo := goodIn_r _ [29, 30, 9, 31, 32, 33, 34, 28, 35, 36, 37, 38, 39, 40, 41, 42, 43, 44, 45, 46, 47, 48, 12, 13, 14, 15, 16, 49, 50, 51, 52, 53, 54, 55, 56, 57, 58, 59, 60, 61, 62, 63, 93, 94, 95, 96, 97, 98, 99, 100, 92] (by decide +kernel) (by decide +kernel)
set_option maxRecDepth 20000 in
theorem gX6_pocket_X3_startsTo : GoodIn wsX6_pocket (wsV RX6 181 RX3 yX3_startsTo wsX3_startsTo) := goodIn_app (goodIn_of _ (by decide +kernel)) ggX6_pocket_X3_startsTo
set_option maxRecDepth 20000 in
theorem ggX6_pocket_J6_bitCount_0f7a4 : GoodIn wsX6_pocket wsJ6_bitCount_0f7a4 := goodIn_r _ [67, 68, 69, 70] (by decide +kernel) (by decide +kernel)
set_option maxRecDepth 20000 in
theorem gX6_pocket_J6_bitCount_0f7a4 : GoodIn wsX6_pocket (va_wsS RX6 185 yJ6_bitCount_0f7a4 wsJ6_bitCount_0f7a4) := goodIn_app (goodIn_of _ (by decide +kernel)) ggX6_pocket_J6_bitCount_0f7a4
theorem dX6_pocket_0 : decode cX6_pocket 0 = .ok (.iload_n 1, 1) := by decide +kernel
theorem dX6_pocket_1 : decode cX6_pocket 1 = .ok (.iconst 0, 1) := by decide +kernel
theorem dX6_pocket_2 : decode cX6_pocket 2 = .ok (.bipush 6, 2) := by decide +kernel
theorem dX6_pocket_4 : decode cX6_pocket 4 = .ok (.invokestatic 57, 3) := by decide +kernel
theorem dX6_pocket_7 : decode cX6_pocket 7 = .ok (.ifCond .ne 5, 3) := by decide +kernel
theorem dX6_pocket_10 : decode cX6_pocket 10 = .ok (.iconst (-1), 1) := by decide +kernel
theorem dX6_pocket_11 : decode cX6_pocket 11 = .ok (.ireturn, 1) := by decide +kernel
theorem dX6_pocket_12 : decode cX6_pocket 12 = .ok (.iload_n 2, 1) := by decide +kernel
theorem dX6_pocket_13 : decode cX6_pocket 13 = .ok (.tableswitch 107 0 4 #[35, 47, 59, 76, 88], 35) := by decide +kernel
theorem dX6_pocket_48 : decode cX6_pocket 48 = .ok (.aload_n 0, 1) := by decide +kernel
theorem dX6_pocket_49 : decode cX6_pocket 49 = .ok (.getfield 10, 3) := by decide +kernel
theorem dX6_pocket_52 : decode cX6_pocket 52 = .ok (.getfield 93, 3) := by decide +kernel
theorem dX6_pocket_55 : decode cX6_pocket 55 = .ok (.iload_n 1, 1) := by decide +kernel
theorem dX6_pocket_56 : decode cX6_pocket 56 = .ok (.invokevirtual 97, 3) := by decide +kernel
theorem dX6_pocket_59 : decode cX6_pocket 59 = .ok (.ireturn, 1) := by decide +kernel
theorem dX6_pocket_60 : decode cX6_pocket 60 = .ok (.aload_n 0, 1) := by decide +kernel
theorem dX6_pocket_61 : decode cX6_pocket 61 = .ok (.getfield 10, 3) := by decide +kernel
theorem dX6_pocket_64 : decode cX6_pocket 64 = .ok (.getfield 172, 3) := by decide +kernel
theorem dX6_pocket_67 : decode cX6_pocket 67 = .ok (.iload_n 1, 1) := by decide +kernel
theorem dX6_pocket_68 : decode cX6_pocket 68 = .ok (.invokevirtual 97, 3) := by decide +kernel
theorem dX6_pocket_71 : decode cX6_pocket 71 = .ok (.ireturn, 1) := by decide +kernel
theorem dX6_pocket_72 : decode cX6_pocket 72 = .ok (.aload_n 0, 1) := by decide +kernel
theorem dX6_pocket_73 : decode cX6_pocket 73 = .ok (.getfield 10, 3) := by decide +kernel
theorem dX6_pocket_76 : decode cX6_pocket 76 = .ok (.iload_n 1, 1) := by decide +kernel
theorem dX6_pocket_77 : decode cX6_pocket 77 = .ok (.invokevirtual 175, 3) := by decide +kernel
theorem dX6_pocket_80 : decode cX6_pocket 80 = .ok (.ifCond .eq 7, 3) := by decide +kernel
theorem dX6_pocket_83 : decode cX6_pocket 83 = .ok (.iconst 1, 1) := by decide +kernel
theorem dX6_pocket_84 : decode cX6_pocket 84 = .ok (.goto 4, 3) := by decide +kernel
theorem dX6_pocket_87 : decode cX6_pocket 87 = .ok (.iconst 0, 1) := by decide +kernel
theorem dX6_pocket_88 : decode cX6_pocket 88 = .ok (.ireturn, 1) := by decide +kernel
theorem dX6_pocket_89 : decode cX6_pocket 89 = .ok (.aload_n 0, 1) := by decide +kernel
theorem dX6_pocket_90 : decode cX6_pocket 90 = .ok (.getfield 10, 3) := by decide +kernel
theorem dX6_pocket_93 : decode cX6_pocket 93 = .ok (.getfield 178, 3) := by decide +kernel
theorem dX6_pocket_96 : decode cX6_pocket 96 = .ok (.iload_n 1, 1) := by decide +kernel
theorem dX6_pocket_97 : decode cX6_pocket 97 = .ok (.invokevirtual 97, 3) := by decide +kernel
theorem dX6_pocket_100 : decode cX6_pocket 100 = .ok (.ireturn, 1) := by decide +kernel
theorem dX6_pocket_101 : decode cX6_pocket 101 = .ok (.aload_n 0, 1) := by decide +kernel
theorem dX6_pocket_102 : decode cX6_pocket 102 = .ok (.getfield 36, 3) := by decide +kernel
theorem dX6_pocket_105 : decode cX6_pocket 105 = .ok (.aload_n 0, 1) := by decide +kernel
theorem dX6_pocket_106 : decode cX6_pocket 106 = .ok (.getfield 10, 3) := by decide +kernel
theorem dX6_pocket_109 : decode cX6_pocket 109 = .ok (.getfield 73, 3) := by decide +kernel
theorem dX6_pocket_112 : decode cX6_pocket 112 = .ok (.iload_n 1, 1) := by decide +kernel
theorem dX6_pocket_113 : decode cX6_pocket 113 = .ok (.invokevirtual 181, 3) := by decide +kernel
theorem dX6_pocket_116 : decode cX6_pocket 116 = .ok (.invokestatic 185, 3) := by decide +kernel
theorem dX6_pocket_119 : decode cX6_pocket 119 = .ok (.ireturn, 1) := by decide +kernel
theorem dX6_pocket_120 : decode cX6_pocket 120 = .ok (.iconst (-1), 1) := by decide +kernel
theorem dX6_pocket_121 : decode cX6_pocket 121 = .ok (.ireturn, 1) := by decide +kernel
set_option maxRecDepth 20000 in
theorem ggX6_reach_X3_pocketsForward : GoodIn wsX6_reach wsX3_pocketsForward := goodIn_r _ [8, 9, 10, 11, 7, 12, 13, 14, 15, 16, 17, 18, 19, 20, 21, 22, 23, 24, 25, 26, 27, 28, 29, 30, 31, 32, 33, 34, 35, 36, 37, 38, 39, 40, 41, 42, 43, 44, 45, 46, 47, 48, 49, 50, 51, 52, 53, 54, 55, 89, 90, 91, 92, 93, 94, 95, 96, 97] (by decide +kernel) (by decide +kernel)
set_option maxRecDepth 20000 in
theorem gX6_reach_X3_pocketsForward : GoodIn wsX6_reach (wsV RX6 190 RX3 yX3_pocketsForward wsX3_pocketsForward) := goodIn_app (goodIn_of _ (by decide +kernel)) ggX6_reach_X3_pocketsForward
set_option maxRecDepth 20000 in
theorem ggX6_reach_X3_pocketsBackward : GoodIn wsX6_reach wsX3_pocketsBackward := goodIn_r _ [59, 60, 61, 62, 7, 63, 21, 18, 22, 64, 65, 66, 67, 23, 24, 25, 26, 27, 28, 29, 30, 31, 32, 33, 34, 35, 36, 37, 38, 39, 40, 41, 42, 43, 44, 45, 46, 47, 48, 49, 50, 51, 52, 53, 54, 55, 89, 90, 91, 92, 93, 94, 95, 96, 97] (by decide +kernel) (by decide +kernel)
set_option maxRecDepth 20000 in
theorem gX6_reach_X3_pocketsBackward : GoodIn wsX6_reach (wsV RX6 194 RX3 yX3_pocketsBackward wsX3_pocketsBackward) := goodIn_app (goodIn_of _ (by decide +kernel)) ggX6_reach_X3_pocketsBackward
theorem dX6_reach_0 : decode cX6_reach 0 = .ok (.iload_n 1, 1) := by decide +kernel
theorem dX6_reach_1 : decode cX6_reach 1 = .ok (.lookupswitch 57 #[(0, 27), (1, 42)], 27) := by decide +kernel
theorem dX6_reach_28 : decode cX6_reach 28 = .ok (.aload_n 0, 1) := by decide +kernel
theorem dX6_reach_29 : decode cX6_reach 29 = .ok (.getfield 36, 3) := by decide +kernel
theorem dX6_reach_32 : decode cX6_reach 32 = .ok (.aload_n 0, 1) := by decide +kernel
theorem dX6_reach_33 : decode cX6_reach 33 = .ok (.getfield 10, 3) := by decide +kernel
theorem dX6_reach_36 : decode cX6_reach 36 = .ok (.getfield 73, 3) := by decide +kernel
theorem dX6_reach_39 : decode cX6_reach 39 = .ok (.invokevirtual 190, 3) := by decide +kernel
theorem dX6_reach_42 : decode cX6_reach 42 = .ok (.ireturn, 1) := by decide +kernel
theorem dX6_reach_43 : decode cX6_reach 43 = .ok (.aload_n 0, 1) := by decide +kernel
theorem dX6_reach_44 : decode cX6_reach 44 = .ok (.getfield 36, 3) := by decide +kernel
theorem dX6_reach_47 : decode cX6_reach 47 = .ok (.aload_n 0, 1) := by decide +kernel
theorem dX6_reach_48 : decode cX6_reach 48 = .ok (.getfield 10, 3) := by decide +kernel
theorem dX6_reach_51 : decode cX6_reach 51 = .ok (.getfield 73, 3) := by decide +kernel
theorem dX6_reach_54 : decode cX6_reach 54 = .ok (.invokevirtual 194, 3) := by decide +kernel
theorem dX6_reach_57 : decode cX6_reach 57 = .ok (.ireturn, 1) := by decide +kernel
theorem dX6_reach_58 : decode cX6_reach 58 = .ok (.iconst (-1), 1) := by decide +kernel
theorem dX6_reach_59 : decode cX6_reach 59 = .ok (.ireturn, 1) := by decide +kernel
set_option maxRecDepth 20000 in
theorem ggX6_ways_X6_isWithin : GoodIn wsX6_ways wsX6_isWithin := goodIn_r _ [7] (by decide +kernel) (by decide +kernel)
set_option maxRecDepth 20000 in
theorem gX6_ways_X6_isWithin : GoodIn wsX6_ways (va_wsS RX6 57 yX6_isWithin wsX6_isWithin) := goodIn_app (goodIn_of _ (by decide +kernel)) ggX6_ways_X6_isWithin
set_option maxRecDepth 20000 in
theorem ggX6_ways_X3_waysRowByRow : GoodIn wsX6_ways wsX3_waysRowByRow := goodIn_r _ [12, 13, 14, 15, 16, 17, 18, 19, 20, 21, 22, 23, 24, 25, 6, 26, 27, 28, 29, 30, 31, 32, 33, 34, 35, 36, 37, 38, 39, 40, 41, 42, 43, 44, 45, 46, 47, 48, 49, 50, 51, 52, 53, 54, 55, 56, 57, 58, 59, 60, 61, 11, 62, 63, 64, 65, 66, 67, 68, 69, 70, 71, 72, 73, 74, 75, 76, 77, 78, 109, 110, 111, 112, 113, 114, 115, 116, 117, 118, 119] (by decide +kernel) (by decide +kernel)
set_option maxRecDepth 20000 in
theorem gX6_ways_X3_waysRowByRow : GoodIn wsX6_ways (wsV RX6 197 RX3 yX3_waysRowByRow wsX3_waysRowByRow) := goodIn_app (goodIn_of _ (by decide +kernel)) ggX6_ways_X3_waysRowByRow
set_option maxRecDepth 20000 in
theorem ggX6_ways_X6_waysFromAllPlaces : GoodIn wsX6_ways wsX6_waysFromAllPlaces := goodIn_r _ [81, 82, 83, 6, 84, 85, 25, 26, 86, 28, 29, 30, 31, 32, 33, 34, 35, 36, 37, 38, 39, 18, 40, 20, 41, 42, 43, 44, 45, 46, 47, 48, 49, 50, 51, 52, 53, 54, 55, 56, 57, 87, 63, 64, 65, 112, 113, 114, 115, 116, 117, 118, 119, 111] (by decide +kernel) (by decide +kernel)
set_option maxRecDepth 20000 in
theorem gX6_ways_X6_waysFromAllPlaces : GoodIn wsX6_ways (va_wsS RX6 200 yX6_waysFromAllPlaces wsX6_waysFromAllPlaces) := goodIn_app (goodIn_of _ (by decide +kernel)) ggX6_ways_X6_waysFromAllPlaces
theorem dX6_ways_0 : decode cX6_ways 0 = .ok (.iload_n 1, 1) := by decide +kernel
theorem dX6_ways_1 : decode cX6_ways 1 = .ok (.iconst 0, 1) := by decide +kernel
theorem dX6_ways_2 : decode cX6_ways 2 = .ok (.bipush 6, 2) := by decide +kernel
theorem dX6_ways_4 : decode cX6_ways 4 = .ok (.invokestatic 57, 3) := by decide +kernel
theorem dX6_ways_7 : decode cX6_ways 7 = .ok (.ifCond .ne 5, 3) := by decide +kernel
theorem dX6_ways_10 : decode cX6_ways 10 = .ok (.iconst (-1), 1) := by decide +kernel
theorem dX6_ways_11 : decode cX6_ways 11 = .ok (.ireturn, 1) := by decide +kernel
theorem dX6_ways_12 : decode cX6_ways 12 = .ok (.iload_n 2, 1) := by decide +kernel
theorem dX6_ways_13 : decode cX6_ways 13 = .ok (.lookupswitch 55 #[(0, 27), (1, 43)], 27) := by decide +kernel
theorem dX6_ways_40 : decode cX6_ways 40 = .ok (.aload_n 0, 1) := by decide +kernel
theorem dX6_ways_41 : decode cX6_ways 41 = .ok (.getfield 36, 3) := by decide +kernel
theorem dX6_ways_44 : decode cX6_ways 44 = .ok (.aload_n 0, 1) := by decide +kernel
theorem dX6_ways_45 : decode cX6_ways 45 = .ok (.getfield 10, 3) := by decide +kernel
theorem dX6_ways_48 : decode cX6_ways 48 = .ok (.getfield 73, 3) := by decide +kernel
theorem dX6_ways_51 : decode cX6_ways 51 = .ok (.iload_n 1, 1) := by decide +kernel
theorem dX6_ways_52 : decode cX6_ways 52 = .ok (.invokevirtual 197, 3) := by decide +kernel
theorem dX6_ways_55 : decode cX6_ways 55 = .ok (.ireturn, 1) := by decide +kernel
theorem dX6_ways_56 : decode cX6_ways 56 = .ok (.aload_n 0, 1) := by decide +kernel
theorem dX6_ways_57 : decode cX6_ways 57 = .ok (.getfield 10, 3) := by decide +kernel
theorem dX6_ways_60 : decode cX6_ways 60 = .ok (.getfield 73, 3) := by decide +kernel
theorem dX6_ways_63 : decode cX6_ways 63 = .ok (.iload_n 1, 1) := by decide +kernel
theorem dX6_ways_64 : decode cX6_ways 64 = .ok (.invokestatic 200, 3) := by decide +kernel
theorem dX6_ways_67 : decode cX6_ways 67 = .ok (.ireturn, 1) := by decide +kernel
theorem dX6_ways_68 : decode cX6_ways 68 = .ok (.iconst (-1), 1) := by decide +kernel
theorem dX6_ways_69 : decode cX6_ways 69 = .ok (.ireturn, 1) := by decide +kernel
set_option maxRecDepth 20000 in
theorem ggX6_count_X4_total : GoodIn wsX6_count wsX4_total := goodIn_r _ [12, 13, 144] (by decide +kernel) (by decide +kernel)
set_option maxRecDepth 20000 in
theorem gX6_count_X4_total : GoodIn wsX6_count (wsV RX6 203 RX4 yX4_total wsX4_total) := goodIn_app (goodIn_of _ (by decide +kernel)) ggX6_count_X4_total
set_option maxRecDepth 20000 in
theorem ggX6_count_X2_allPins : GoodIn wsX6_count wsX2_allPins := goodIn_r _ [18, 19, 20, 21, 17, 22, 23, 24, 9, 10, 11, 12, 13, 145, 146, 147, 148, 149, 150, 151, 152, 144] (by decide +kernel) (by decide +kernel)
set_option maxRecDepth 20000 in
theorem gX6_count_X2_allPins : GoodIn wsX6_count (wsV RX6 140 RX2 yX2_allPins wsX2_allPins) := goodIn_app (goodIn_of _ (by decide +kernel)) ggX6_count_X2_allPins
set_option maxRecDepth 20000 in
theorem ggX6_count_X2_straightOnes : GoodIn wsX6_count wsX2_straightOnes := goodIn_r _ [28, 29, 30, 31, 32, 17, 33, 23, 34, 35, 36, 11, 37, 13, 145, 146, 147, 148, 149, 150, 151, 152, 144] (by decide +kernel) (by decide +kernel)
set_option maxRecDepth 20000 in
theorem gX6_count_X2_straightOnes : GoodIn wsX6_count (wsV RX6 209 RX2 yX2_straightOnes wsX2_straightOnes) := goodIn_app (goodIn_of _ (by decide +kernel)) ggX6_count_X2_straightOnes
set_option maxRecDepth 20000 in
theorem ggX6_count_X2_bendsTogether : GoodIn wsX6_count wsX2_bendsTogether := goodIn_r _ [41, 29, 42, 43, 44, 45, 34, 35, 36, 11, 37, 13, 145, 146, 147, 148, 149, 150, 151, 152, 144] (by decide +kernel) (by decide +kernel)
set_option maxRecDepth 20000 in
theorem gX6_count_X2_bendsTogether : GoodIn wsX6_count (wsV RX6 212 RX2 yX2_bendsTogether wsX2_bendsTogether) := goodIn_app (goodIn_of _ (by decide +kernel)) ggX6_count_X2_bendsTogether
set_option maxRecDepth 20000 in
theorem ggX6_count_X2_allBells : GoodIn wsX6_count wsX2_allBells := goodIn_r _ [49, 50, 24, 9, 10, 11, 12, 13, 145, 146, 147, 148, 149, 150, 151, 152, 144] (by decide +kernel) (by decide +kernel)
set_option maxRecDepth 20000 in
theorem gX6_count_X2_allBells : GoodIn wsX6_count (wsV RX6 90 RX2 yX2_allBells wsX2_allBells) := goodIn_app (goodIn_of _ (by decide +kernel)) ggX6_count_X2_allBells
set_option maxRecDepth 20000 in
theorem ggX6_count_X5_fullPockets : GoodIn wsX6_count wsX5_fullPockets := goodIn_r _ [55, 56, 57, 58, 54, 59, 60, 61, 62, 35, 36, 11, 37, 13, 133, 134, 135, 136, 137, 138, 139, 140, 141, 142, 143, 144] (by decide +kernel) (by decide +kernel)
set_option maxRecDepth 20000 in
theorem gX6_count_X5_fullPockets : GoodIn wsX6_count (wsV RX6 215 RX5 yX5_fullPockets wsX5_fullPockets) := goodIn_app (goodIn_of _ (by decide +kernel)) ggX6_count_X5_fullPockets
set_option maxRecDepth 20000 in
theorem ggX6_count_X3_pocketsForward : GoodIn wsX6_count wsX3_pocketsForward := goodIn_r _ [67, 68, 69, 70, 66, 71, 72, 73, 74, 75, 76, 77, 78, 79, 80, 81, 82, 83, 84, 85, 86, 17, 87, 30, 31, 32, 33, 23, 34, 35, 36, 11, 37, 13, 88, 89, 90, 91, 29, 92, 93, 94, 95, 96, 44, 97, 98, 99, 100, 145, 146, 147, 148, 149, 150, 151, 152, 144] (by decide +kernel) (by decide +kernel)
set_option maxRecDepth 20000 in
theorem gX6_count_X3_pocketsForward : GoodIn wsX6_count (wsV RX6 190 RX3 yX3_pocketsForward wsX3_pocketsForward) := goodIn_app (goodIn_of _ (by decide +kernel)) ggX6_count_X3_pocketsForward
set_option maxRecDepth 20000 in
theorem ggX6_count_J6_bitCount_0f7a4 : GoodIn wsX6_count wsJ6_bitCount_0f7a4 := goodIn_r _ [104, 105, 106, 107] (by decide +kernel) (by decide +kernel)
set_option maxRecDepth 20000 in
theorem gX6_count_J6_bitCount_0f7a4 : GoodIn wsX6_count (va_wsS RX6 185 yJ6_bitCount_0f7a4 wsJ6_bitCount_0f7a4) := goodIn_app (goodIn_of _ (by decide +kernel)) ggX6_count_J6_bitCount_0f7a4
set_option maxRecDepth 20000 in
theorem ggX6_count_X6_countSoFar : GoodIn wsX6_count wsX6_countSoFar := goodIn_r _ [111, 1, 112, 113, 6, 114, 115, 116, 117, 118, 119, 120, 121, 122, 123, 124, 125, 126, 127, 128, 129, 130, 131, 132, 133, 134, 135, 136, 137, 138, 139, 140, 141, 142, 143, 145, 146, 147, 148, 149, 150, 151, 152, 153, 154, 155, 156] (by decide +kernel) (by decide +kernel)
set_option maxRecDepth 20000 in
theorem gX6_count_X6_countSoFar : GoodIn wsX6_count (wsV RX6 218 RX6 yX6_countSoFar wsX6_countSoFar) := goodIn_app (goodIn_of _ (by decide +kernel)) ggX6_count_X6_countSoFar
theorem dX6_count_0 : decode cX6_count 0 = .ok (.iload_n 1, 1) := by decide +kernel
theorem dX6_count_1 : decode cX6_count 1 = .ok (.tableswitch 160 0 9 #[55, 63, 71, 82, 90, 101, 112, 123, 134, 142], 55) := by decide +kernel
theorem dX6_count_56 : decode cX6_count 56 = .ok (.aload_n 0, 1) := by decide +kernel
theorem dX6_count_57 : decode cX6_count 57 = .ok (.getfield 10, 3) := by decide +kernel
theorem dX6_count_60 : decode cX6_count 60 = .ok (.getfield 143, 3) := by decide +kernel
theorem dX6_count_63 : decode cX6_count 63 = .ok (.ireturn, 1) := by decide +kernel
theorem dX6_count_64 : decode cX6_count 64 = .ok (.aload_n 0, 1) := by decide +kernel
theorem dX6_count_65 : decode cX6_count 65 = .ok (.getfield 10, 3) := by decide +kernel
theorem dX6_count_68 : decode cX6_count 68 = .ok (.getfield 116, 3) := by decide +kernel
theorem dX6_count_71 : decode cX6_count 71 = .ok (.ireturn, 1) := by decide +kernel
theorem dX6_count_72 : decode cX6_count 72 = .ok (.aload_n 0, 1) := by decide +kernel
theorem dX6_count_73 : decode cX6_count 73 = .ok (.getfield 10, 3) := by decide +kernel
theorem dX6_count_76 : decode cX6_count 76 = .ok (.getfield 172, 3) := by decide +kernel
theorem dX6_count_79 : decode cX6_count 79 = .ok (.invokevirtual 203, 3) := by decide +kernel
theorem dX6_count_82 : decode cX6_count 82 = .ok (.ireturn, 1) := by decide +kernel
theorem dX6_count_83 : decode cX6_count 83 = .ok (.aload_n 0, 1) := by decide +kernel
theorem dX6_count_84 : decode cX6_count 84 = .ok (.getfield 10, 3) := by decide +kernel
theorem dX6_count_87 : decode cX6_count 87 = .ok (.getfield 206, 3) := by decide +kernel
theorem dX6_count_90 : decode cX6_count 90 = .ok (.ireturn, 1) := by decide +kernel
theorem dX6_count_91 : decode cX6_count 91 = .ok (.aload_n 0, 1) := by decide +kernel
theorem dX6_count_92 : decode cX6_count 92 = .ok (.getfield 10, 3) := by decide +kernel
theorem dX6_count_95 : decode cX6_count 95 = .ok (.getfield 73, 3) := by decide +kernel
theorem dX6_count_98 : decode cX6_count 98 = .ok (.invokevirtual 140, 3) := by decide +kernel
theorem dX6_count_101 : decode cX6_count 101 = .ok (.ireturn, 1) := by decide +kernel
theorem dX6_count_102 : decode cX6_count 102 = .ok (.aload_n 0, 1) := by decide +kernel
theorem dX6_count_103 : decode cX6_count 103 = .ok (.getfield 10, 3) := by decide +kernel
theorem dX6_count_106 : decode cX6_count 106 = .ok (.getfield 73, 3) := by decide +kernel
theorem dX6_count_109 : decode cX6_count 109 = .ok (.invokevirtual 209, 3) := by decide +kernel
theorem dX6_count_112 : decode cX6_count 112 = .ok (.ireturn, 1) := by decide +kernel
theorem dX6_count_113 : decode cX6_count 113 = .ok (.aload_n 0, 1) := by decide +kernel
theorem dX6_count_114 : decode cX6_count 114 = .ok (.getfield 10, 3) := by decide +kernel
theorem dX6_count_117 : decode cX6_count 117 = .ok (.getfield 73, 3) := by decide +kernel
theorem dX6_count_120 : decode cX6_count 120 = .ok (.invokevirtual 212, 3) := by decide +kernel
theorem dX6_count_123 : decode cX6_count 123 = .ok (.ireturn, 1) := by decide +kernel
theorem dX6_count_124 : decode cX6_count 124 = .ok (.aload_n 0, 1) := by decide +kernel
theorem dX6_count_125 : decode cX6_count 125 = .ok (.getfield 10, 3) := by decide +kernel
theorem dX6_count_128 : decode cX6_count 128 = .ok (.getfield 73, 3) := by decide +kernel
theorem dX6_count_131 : decode cX6_count 131 = .ok (.invokevirtual 90, 3) := by decide +kernel
theorem dX6_count_134 : decode cX6_count 134 = .ok (.ireturn, 1) := by decide +kernel
theorem dX6_count_135 : decode cX6_count 135 = .ok (.aload_n 0, 1) := by decide +kernel
theorem dX6_count_136 : decode cX6_count 136 = .ok (.getfield 10, 3) := by decide +kernel
theorem dX6_count_139 : decode cX6_count 139 = .ok (.invokevirtual 215, 3) := by decide +kernel
theorem dX6_count_142 : decode cX6_count 142 = .ok (.ireturn, 1) := by decide +kernel
theorem dX6_count_143 : decode cX6_count 143 = .ok (.aload_n 0, 1) := by decide +kernel
theorem dX6_count_144 : decode cX6_count 144 = .ok (.getfield 36, 3) := by decide +kernel
theorem dX6_count_147 : decode cX6_count 147 = .ok (.aload_n 0, 1) := by decide +kernel
theorem dX6_count_148 : decode cX6_count 148 = .ok (.getfield 10, 3) := by decide +kernel
theorem dX6_count_151 : decode cX6_count 151 = .ok (.getfield 73, 3) := by decide +kernel
theorem dX6_count_154 : decode cX6_count 154 = .ok (.invokevirtual 190, 3) := by decide +kernel
theorem dX6_count_157 : decode cX6_count 157 = .ok (.invokestatic 185, 3) := by decide +kernel
theorem dX6_count_160 : decode cX6_count 160 = .ok (.ireturn, 1) := by decide +kernel
theorem dX6_count_161 : decode cX6_count 161 = .ok (.aload_n 0, 1) := by decide +kernel
theorem dX6_count_162 : decode cX6_count 162 = .ok (.iload_n 1, 1) := by decide +kernel
theorem dX6_count_163 : decode cX6_count 163 = .ok (.invokevirtual 218, 3) := by decide +kernel
theorem dX6_count_166 : decode cX6_count 166 = .ok (.ireturn, 1) := by decide +kernel
theorem dX6_mean_0 : decode cX6_mean 0 = .ok (.aload_n 0, 1) := by decide +kernel
theorem dX6_mean_1 : decode cX6_mean 1 = .ok (.getfield 10, 3) := by decide +kernel
theorem dX6_mean_4 : decode cX6_mean 4 = .ok (.getfield 221, 3) := by decide +kernel
theorem dX6_mean_7 : decode cX6_mean 7 = .ok (.ifCond .gt 5, 3) := by decide +kernel
theorem dX6_mean_10 : decode cX6_mean 10 = .ok (.dconst 0, 1) := by decide +kernel
theorem dX6_mean_11 : decode cX6_mean 11 = .ok (.dreturn, 1) := by decide +kernel
theorem dX6_mean_12 : decode cX6_mean 12 = .ok (.aload_n 0, 1) := by decide +kernel
theorem dX6_mean_13 : decode cX6_mean 13 = .ok (.getfield 10, 3) := by decide +kernel
theorem dX6_mean_16 : decode cX6_mean 16 = .ok (.getfield 143, 3) := by decide +kernel
theorem dX6_mean_19 : decode cX6_mean 19 = .ok (.i2d, 1) := by decide +kernel
theorem dX6_mean_20 : decode cX6_mean 20 = .ok (.aload_n 0, 1) := by decide +kernel
theorem dX6_mean_21 : decode cX6_mean 21 = .ok (.getfield 10, 3) := by decide +kernel
theorem dX6_mean_24 : decode cX6_mean 24 = .ok (.getfield 221, 3) := by decide +kernel
theorem dX6_mean_27 : decode cX6_mean 27 = .ok (.i2d, 1) := by decide +kernel
theorem dX6_mean_28 : decode cX6_mean 28 = .ok (.ddiv, 1) := by decide +kernel
theorem dX6_mean_29 : decode cX6_mean 29 = .ok (.dreturn, 1) := by decide +kernel
set_option maxRecDepth 20000 in
theorem ggX6_ends_X6_isWithin : GoodIn wsX6_ends wsX6_isWithin := goodIn_r _ [6] (by decide +kernel) (by decide +kernel)
set_option maxRecDepth 20000 in
theorem gX6_ends_X6_isWithin : GoodIn wsX6_ends (va_wsS RX6 57 yX6_isWithin wsX6_isWithin) := goodIn_app (goodIn_of _ (by decide +kernel)) ggX6_ends_X6_isWithin
set_option maxRecDepth 20000 in
theorem ggX6_ends_X2_endFrom : GoodIn wsX6_ends wsX2_endFrom := goodIn_r _ [11, 12, 5, 13, 14, 15, 16, 10, 17, 18, 19, 20, 21, 22, 23, 24, 25, 26, 27, 28, 29, 30, 31, 32, 33, 34, 35, 36, 37, 38, 39, 40, 41, 42, 43, 44, 66, 67, 68, 69, 70, 71, 72, 73, 74] (by decide +kernel) (by decide +kernel)
set_option maxRecDepth 20000 in
theorem gX6_ends_X2_endFrom : GoodIn wsX6_ends (wsV RX6 224 RX2 yX2_endFrom wsX2_endFrom) := goodIn_app (goodIn_of _ (by decide +kernel)) ggX6_ends_X2_endFrom
theorem dX6_ends_0 : decode cX6_ends 0 = .ok (.iload_n 1, 1) := by decide +kernel
theorem dX6_ends_1 : decode cX6_ends 1 = .ok (.iconst 0, 1) := by decide +kernel
theorem dX6_ends_2 : decode cX6_ends 2 = .ok (.bipush 6, 2) := by decide +kernel
theorem dX6_ends_4 : decode cX6_ends 4 = .ok (.invokestatic 57, 3) := by decide +kernel
theorem dX6_ends_7 : decode cX6_ends 7 = .ok (.ifCond .ne 5, 3) := by decide +kernel
theorem dX6_ends_10 : decode cX6_ends 10 = .ok (.iconst (-1), 1) := by decide +kernel
theorem dX6_ends_11 : decode cX6_ends 11 = .ok (.ireturn, 1) := by decide +kernel
theorem dX6_ends_12 : decode cX6_ends 12 = .ok (.aload_n 0, 1) := by decide +kernel
theorem dX6_ends_13 : decode cX6_ends 13 = .ok (.getfield 10, 3) := by decide +kernel
theorem dX6_ends_16 : decode cX6_ends 16 = .ok (.getfield 73, 3) := by decide +kernel
theorem dX6_ends_19 : decode cX6_ends 19 = .ok (.iload_n 1, 1) := by decide +kernel
theorem dX6_ends_20 : decode cX6_ends 20 = .ok (.invokevirtual 224, 3) := by decide +kernel
theorem dX6_ends_23 : decode cX6_ends 23 = .ok (.ireturn, 1) := by decide +kernel
set_option maxRecDepth 20000 in
theorem ggX6_ifShot_X6_isWithin : GoodIn wsX6_ifShot wsX6_isWithin := goodIn_r _ [11] (by decide +kernel) (by decide +kernel)
set_option maxRecDepth 20000 in
theorem gX6_ifShot_X6_isWithin : GoodIn wsX6_ifShot (va_wsS RX6 57 yX6_isWithin wsX6_isWithin) := goodIn_app (goodIn_of _ (by decide +kernel)) ggX6_ifShot_X6_isWithin
set_option maxRecDepth 20000 in
theorem ggX6_ifShot_X5_copyFrom : GoodIn wsX6_ifShot wsX5_copyFrom := goodIn_r _ [16, 17, 18, 19, 20, 21, 22, 23, 24, 25, 26, 27, 28, 29, 30, 31, 32, 33, 34, 35, 36, 37, 38, 39, 40, 41, 42, 43, 44, 45, 46, 47, 48, 49, 50, 51, 52, 53, 54, 55, 151, 152, 153, 154, 155, 156, 157, 158, 159, 160, 161, 162, 163, 164, 165, 166, 167, 168, 169, 170] (by decide +kernel) (by decide +kernel)
set_option maxRecDepth 20000 in
theorem gX6_ifShot_X5_copyFrom : GoodIn wsX6_ifShot (wsV RX6 227 RX5 yX5_copyFrom wsX5_copyFrom) := goodIn_app (goodIn_of _ (by decide +kernel)) ggX6_ifShot_X5_copyFrom
set_option maxRecDepth 20000 in
theorem ggX6_ifShot_X5_shootBall : GoodIn wsX6_ifShot wsX5_shootBall := goodIn_r _ [59, 22, 27, 25, 26, 17, 60, 24, 61, 62, 63, 31, 64, 65, 10, 66, 67, 68, 69, 70, 36, 71, 72, 73, 74, 34, 75, 76, 77, 44, 78, 46, 79, 80, 81, 82, 33, 38, 83, 84, 85, 86, 37, 39, 35, 40, 87, 88, 89, 90, 91, 92, 93, 94, 95, 96, 97, 98, 9, 11, 99, 100, 101, 102, 103, 104, 105, 48, 49, 50, 106, 107, 108, 109, 110, 111, 15, 112, 20, 23, 19, 18, 113, 114, 115, 116, 117, 21, 118, 151, 152, 153, 154, 155, 156, 157, 158, 159, 160, 161, 162, 163, 164, 165, 166, 167, 168, 169, 170] (by decide +kernel) (by decide +kernel)
set_option maxRecDepth 20000 in
theorem gX6_ifShot_X5_shootBall : GoodIn wsX6_ifShot (wsV RX6 65 RX5 yX5_shootBall wsX5_shootBall) := goodIn_app (goodIn_of _ (by decide +kernel)) ggX6_ifShot_X5_shootBall
set_option maxRecDepth 20000 in
theorem ggX6_ifShot_X3_pocketsForward : GoodIn wsX6_ifShot wsX3_pocketsForward := goodIn_r _ [123, 124, 125, 126, 122, 127, 128, 129, 130, 131, 132, 10, 133, 134, 135, 136, 65, 66, 137, 138, 139, 31, 140, 71, 72, 73, 74, 34, 75, 76, 77, 44, 78, 46, 79, 80, 81, 82, 33, 38, 103, 104, 105, 48, 49, 50, 106, 107, 108, 162, 163, 164, 165, 166, 167, 168, 169, 170] (by decide +kernel) (by decide +kernel)
set_option maxRecDepth 20000 in
theorem gX6_ifShot_X3_pocketsForward : GoodIn wsX6_ifShot (wsV RX6 190 RX3 yX3_pocketsForward wsX3_pocketsForward) := goodIn_app (goodIn_of _ (by decide +kernel)) ggX6_ifShot_X3_pocketsForward
theorem dX6_ifShot_0 : decode cX6_ifShot 0 = .ok (.iload_n 1, 1) := by decide +kernel
theorem dX6_ifShot_1 : decode cX6_ifShot 1 = .ok (.iconst 0, 1) := by decide +kernel
theorem dX6_ifShot_2 : decode cX6_ifShot 2 = .ok (.bipush 6, 2) := by decide +kernel
theorem dX6_ifShot_4 : decode cX6_ifShot 4 = .ok (.invokestatic 57, 3) := by decide +kernel
theorem dX6_ifShot_7 : decode cX6_ifShot 7 = .ok (.ifCond .eq 23, 3) := by decide +kernel
theorem dX6_ifShot_10 : decode cX6_ifShot 10 = .ok (.iload_n 3, 1) := by decide +kernel
theorem dX6_ifShot_11 : decode cX6_ifShot 11 = .ok (.iconst 1, 1) := by decide +kernel
theorem dX6_ifShot_12 : decode cX6_ifShot 12 = .ok (.bipush 20, 2) := by decide +kernel
theorem dX6_ifShot_14 : decode cX6_ifShot 14 = .ok (.invokestatic 57, 3) := by decide +kernel
theorem dX6_ifShot_17 : decode cX6_ifShot 17 = .ok (.ifCond .eq 13, 3) := by decide +kernel
theorem dX6_ifShot_20 : decode cX6_ifShot 20 = .ok (.iload 4, 2) := by decide +kernel
theorem dX6_ifShot_22 : decode cX6_ifShot 22 = .ok (.iconst 0, 1) := by decide +kernel
theorem dX6_ifShot_23 : decode cX6_ifShot 23 = .ok (.iconst 2, 1) := by decide +kernel
theorem dX6_ifShot_24 : decode cX6_ifShot 24 = .ok (.invokestatic 57, 3) := by decide +kernel
theorem dX6_ifShot_27 : decode cX6_ifShot 27 = .ok (.ifCond .ne 5, 3) := by decide +kernel
theorem dX6_ifShot_30 : decode cX6_ifShot 30 = .ok (.iconst (-1), 1) := by decide +kernel
theorem dX6_ifShot_31 : decode cX6_ifShot 31 = .ok (.ireturn, 1) := by decide +kernel
theorem dX6_ifShot_32 : decode cX6_ifShot 32 = .ok (.aload_n 0, 1) := by decide +kernel
theorem dX6_ifShot_33 : decode cX6_ifShot 33 = .ok (.getfield 16, 3) := by decide +kernel
theorem dX6_ifShot_36 : decode cX6_ifShot 36 = .ok (.aload_n 0, 1) := by decide +kernel
theorem dX6_ifShot_37 : decode cX6_ifShot 37 = .ok (.getfield 10, 3) := by decide +kernel
theorem dX6_ifShot_40 : decode cX6_ifShot 40 = .ok (.invokevirtual 227, 3) := by decide +kernel
theorem dX6_ifShot_43 : decode cX6_ifShot 43 = .ok (.iconst 0, 1) := by decide +kernel
theorem dX6_ifShot_44 : decode cX6_ifShot 44 = .ok (.istore 5, 2) := by decide +kernel
theorem dX6_ifShot_46 : decode cX6_ifShot 46 = .ok (.iload 5, 2) := by decide +kernel
theorem dX6_ifShot_48 : decode cX6_ifShot 48 = .ok (.iload_n 3, 1) := by decide +kernel
theorem dX6_ifShot_49 : decode cX6_ifShot 49 = .ok (.if_icmp .ge 29, 3) := by decide +kernel
theorem dX6_ifShot_52 : decode cX6_ifShot 52 = .ok (.aload_n 0, 1) := by decide +kernel
theorem dX6_ifShot_53 : decode cX6_ifShot 53 = .ok (.getfield 16, 3) := by decide +kernel
theorem dX6_ifShot_56 : decode cX6_ifShot 56 = .ok (.getfield 116, 3) := by decide +kernel
theorem dX6_ifShot_59 : decode cX6_ifShot 59 = .ok (.ifCond .le 19, 3) := by decide +kernel
theorem dX6_ifShot_62 : decode cX6_ifShot 62 = .ok (.aload_n 0, 1) := by decide +kernel
theorem dX6_ifShot_63 : decode cX6_ifShot 63 = .ok (.getfield 16, 3) := by decide +kernel
theorem dX6_ifShot_66 : decode cX6_ifShot 66 = .ok (.iload_n 1, 1) := by decide +kernel
theorem dX6_ifShot_67 : decode cX6_ifShot 67 = .ok (.iload_n 2, 1) := by decide +kernel
theorem dX6_ifShot_68 : decode cX6_ifShot 68 = .ok (.invokevirtual 65, 3) := by decide +kernel
theorem dX6_ifShot_71 : decode cX6_ifShot 71 = .ok (.pop, 1) := by decide +kernel
theorem dX6_ifShot_72 : decode cX6_ifShot 72 = .ok (.iinc 5 1, 3) := by decide +kernel
theorem dX6_ifShot_75 : decode cX6_ifShot 75 = .ok (.goto (-29), 3) := by decide +kernel
theorem dX6_ifShot_78 : decode cX6_ifShot 78 = .ok (.iload 4, 2) := by decide +kernel
theorem dX6_ifShot_80 : decode cX6_ifShot 80 = .ok (.lookupswitch 60 #[(0, 28), (1, 44)], 28) := by decide +kernel
theorem dX6_ifShot_108 : decode cX6_ifShot 108 = .ok (.aload_n 0, 1) := by decide +kernel
theorem dX6_ifShot_109 : decode cX6_ifShot 109 = .ok (.getfield 16, 3) := by decide +kernel
theorem dX6_ifShot_112 : decode cX6_ifShot 112 = .ok (.getfield 143, 3) := by decide +kernel
theorem dX6_ifShot_115 : decode cX6_ifShot 115 = .ok (.aload_n 0, 1) := by decide +kernel
theorem dX6_ifShot_116 : decode cX6_ifShot 116 = .ok (.getfield 10, 3) := by decide +kernel
theorem dX6_ifShot_119 : decode cX6_ifShot 119 = .ok (.getfield 143, 3) := by decide +kernel
theorem dX6_ifShot_122 : decode cX6_ifShot 122 = .ok (.isub, 1) := by decide +kernel
theorem dX6_ifShot_123 : decode cX6_ifShot 123 = .ok (.ireturn, 1) := by decide +kernel
theorem dX6_ifShot_124 : decode cX6_ifShot 124 = .ok (.aload_n 0, 1) := by decide +kernel
theorem dX6_ifShot_125 : decode cX6_ifShot 125 = .ok (.getfield 16, 3) := by decide +kernel
theorem dX6_ifShot_128 : decode cX6_ifShot 128 = .ok (.getfield 206, 3) := by decide +kernel
theorem dX6_ifShot_131 : decode cX6_ifShot 131 = .ok (.aload_n 0, 1) := by decide +kernel
theorem dX6_ifShot_132 : decode cX6_ifShot 132 = .ok (.getfield 10, 3) := by decide +kernel
theorem dX6_ifShot_135 : decode cX6_ifShot 135 = .ok (.getfield 206, 3) := by decide +kernel
theorem dX6_ifShot_138 : decode cX6_ifShot 138 = .ok (.isub, 1) := by decide +kernel
theorem dX6_ifShot_139 : decode cX6_ifShot 139 = .ok (.ireturn, 1) := by decide +kernel
theorem dX6_ifShot_140 : decode cX6_ifShot 140 = .ok (.aload_n 0, 1) := by decide +kernel
theorem dX6_ifShot_141 : decode cX6_ifShot 141 = .ok (.getfield 36, 3) := by decide +kernel
theorem dX6_ifShot_144 : decode cX6_ifShot 144 = .ok (.aload_n 0, 1) := by decide +kernel
theorem dX6_ifShot_145 : decode cX6_ifShot 145 = .ok (.getfield 16, 3) := by decide +kernel
theorem dX6_ifShot_148 : decode cX6_ifShot 148 = .ok (.getfield 73, 3) := by decide +kernel
theorem dX6_ifShot_151 : decode cX6_ifShot 151 = .ok (.invokevirtual 190, 3) := by decide +kernel
theorem dX6_ifShot_154 : decode cX6_ifShot 154 = .ok (.ireturn, 1) := by decide +kernel
set_option maxRecDepth 20000 in
theorem ggX6_best_X5_copyFrom : GoodIn wsX6_best wsX5_copyFrom := goodIn_r _ [11, 12, 13, 14, 15, 16, 17, 18, 19, 20, 21, 22, 23, 24, 25, 26, 27, 28, 29, 30, 31, 32, 33, 34, 35, 36, 37, 38, 39, 40, 41, 42, 43, 44, 45, 46, 47, 48, 49, 50, 156, 157, 158, 159, 160, 161, 162, 163, 164, 165, 166, 167, 168, 169, 170, 171, 172, 173, 174, 175] (by decide +kernel) (by decide +kernel)
set_option maxRecDepth 20000 in
theorem gX6_best_X5_copyFrom : GoodIn wsX6_best (wsV RX6 227 RX5 yX5_copyFrom wsX5_copyFrom) := goodIn_app (goodIn_of _ (by decide +kernel)) ggX6_best_X5_copyFrom
set_option maxRecDepth 20000 in
theorem ggX6_best_X5_shootBall : GoodIn wsX6_best wsX5_shootBall := goodIn_r _ [54, 17, 22, 20, 21, 12, 55, 19, 56, 57, 58, 26, 59, 60, 61, 62, 63, 64, 65, 66, 31, 67, 68, 69, 70, 29, 71, 72, 73, 39, 74, 41, 75, 76, 77, 78, 28, 33, 79, 80, 81, 82, 32, 34, 30, 35, 83, 84, 85, 86, 87, 88, 89, 90, 91, 92, 93, 94, 95, 96, 97, 98, 99, 100, 101, 102, 103, 43, 44, 45, 104, 105, 106, 107, 108, 109, 10, 110, 15, 18, 14, 13, 111, 112, 113, 114, 115, 16, 116, 156, 157, 158, 159, 160, 161, 162, 163, 164, 165, 166, 167, 168, 169, 170, 171, 172, 173, 174, 175] (by decide +kernel) (by decide +kernel)
set_option maxRecDepth 20000 in
theorem gX6_best_X5_shootBall : GoodIn wsX6_best (wsV RX6 65 RX5 yX5_shootBall wsX5_shootBall) := goodIn_app (goodIn_of _ (by decide +kernel)) ggX6_best_X5_shootBall
set_option maxRecDepth 20000 in
theorem ggX6_best_X3_pocketsForward : GoodIn wsX6_best wsX3_pocketsForward := goodIn_r _ [121, 122, 123, 124, 120, 125, 126, 127, 128, 129, 130, 61, 131, 132, 133, 134, 60, 62, 135, 136, 137, 26, 138, 67, 68, 69, 70, 29, 71, 72, 73, 39, 74, 41, 75, 76, 77, 78, 28, 33, 101, 102, 103, 43, 44, 45, 104, 105, 106, 167, 168, 169, 170, 171, 172, 173, 174, 175] (by decide +kernel) (by decide +kernel)
set_option maxRecDepth 20000 in
theorem gX6_best_X3_pocketsForward : GoodIn wsX6_best (wsV RX6 190 RX3 yX3_pocketsForward wsX3_pocketsForward) := goodIn_app (goodIn_of _ (by decide +kernel)) ggX6_best_X3_pocketsForward
set_option maxRecDepth 20000 in
theorem ggX6_best_J6_bitCount_0f7a4 : GoodIn wsX6_best wsJ6_bitCount_0f7a4 := goodIn_r _ [142, 143, 144, 145] (by decide +kernel) (by decide +kernel)
set_option maxRecDepth 20000 in
theorem gX6_best_J6_bitCount_0f7a4 : GoodIn wsX6_best (va_wsS RX6 185 yJ6_bitCount_0f7a4 wsJ6_bitCount_0f7a4) := goodIn_app (goodIn_of _ (by decide +kernel)) ggX6_best_J6_bitCount_0f7a4
theorem dX6_best_0 : decode cX6_best 0 = .ok (.aload_n 0, 1) := by decide +kernel
theorem dX6_best_1 : decode cX6_best 1 = .ok (.getfield 10, 3) := by decide +kernel
theorem dX6_best_4 : decode cX6_best 4 = .ok (.getfield 116, 3) := by decide +kernel
theorem dX6_best_7 : decode cX6_best 7 = .ok (.ifCond .gt 6, 3) := by decide +kernel
theorem dX6_best_10 : decode cX6_best 10 = .ok (.bipush (-2), 2) := by decide +kernel
theorem dX6_best_12 : decode cX6_best 12 = .ok (.ireturn, 1) := by decide +kernel
theorem dX6_best_13 : decode cX6_best 13 = .ok (.iconst 0, 1) := by decide +kernel
theorem dX6_best_14 : decode cX6_best 14 = .ok (.istore_n 2, 1) := by decide +kernel
theorem dX6_best_15 : decode cX6_best 15 = .ok (.iconst (-1), 1) := by decide +kernel
theorem dX6_best_16 : decode cX6_best 16 = .ok (.istore_n 3, 1) := by decide +kernel
theorem dX6_best_17 : decode cX6_best 17 = .ok (.iconst (-1), 1) := by decide +kernel
theorem dX6_best_18 : decode cX6_best 18 = .ok (.istore 4, 2) := by decide +kernel
theorem dX6_best_20 : decode cX6_best 20 = .ok (.iconst 0, 1) := by decide +kernel
theorem dX6_best_21 : decode cX6_best 21 = .ok (.istore 5, 2) := by decide +kernel
theorem dX6_best_23 : decode cX6_best 23 = .ok (.iload 5, 2) := by decide +kernel
theorem dX6_best_25 : decode cX6_best 25 = .ok (.bipush 7, 2) := by decide +kernel
theorem dX6_best_27 : decode cX6_best 27 = .ok (.if_icmp .ge 96, 3) := by decide +kernel
theorem dX6_best_30 : decode cX6_best 30 = .ok (.aload_n 0, 1) := by decide +kernel
theorem dX6_best_31 : decode cX6_best 31 = .ok (.getfield 16, 3) := by decide +kernel
theorem dX6_best_34 : decode cX6_best 34 = .ok (.aload_n 0, 1) := by decide +kernel
theorem dX6_best_35 : decode cX6_best 35 = .ok (.getfield 10, 3) := by decide +kernel
theorem dX6_best_38 : decode cX6_best 38 = .ok (.invokevirtual 227, 3) := by decide +kernel
theorem dX6_best_41 : decode cX6_best 41 = .ok (.aload_n 0, 1) := by decide +kernel
theorem dX6_best_42 : decode cX6_best 42 = .ok (.getfield 16, 3) := by decide +kernel
theorem dX6_best_45 : decode cX6_best 45 = .ok (.iload 5, 2) := by decide +kernel
theorem dX6_best_47 : decode cX6_best 47 = .ok (.iload_n 1, 1) := by decide +kernel
theorem dX6_best_48 : decode cX6_best 48 = .ok (.invokevirtual 65, 3) := by decide +kernel
theorem dX6_best_51 : decode cX6_best 51 = .ok (.pop, 1) := by decide +kernel
theorem dX6_best_52 : decode cX6_best 52 = .ok (.aload_n 0, 1) := by decide +kernel
theorem dX6_best_53 : decode cX6_best 53 = .ok (.getfield 16, 3) := by decide +kernel
theorem dX6_best_56 : decode cX6_best 56 = .ok (.getfield 143, 3) := by decide +kernel
theorem dX6_best_59 : decode cX6_best 59 = .ok (.aload_n 0, 1) := by decide +kernel
theorem dX6_best_60 : decode cX6_best 60 = .ok (.getfield 10, 3) := by decide +kernel
theorem dX6_best_63 : decode cX6_best 63 = .ok (.getfield 143, 3) := by decide +kernel
theorem dX6_best_66 : decode cX6_best 66 = .ok (.isub, 1) := by decide +kernel
theorem dX6_best_67 : decode cX6_best 67 = .ok (.istore 6, 2) := by decide +kernel
theorem dX6_best_69 : decode cX6_best 69 = .ok (.aload_n 0, 1) := by decide +kernel
theorem dX6_best_70 : decode cX6_best 70 = .ok (.getfield 36, 3) := by decide +kernel
theorem dX6_best_73 : decode cX6_best 73 = .ok (.aload_n 0, 1) := by decide +kernel
theorem dX6_best_74 : decode cX6_best 74 = .ok (.getfield 16, 3) := by decide +kernel
theorem dX6_best_77 : decode cX6_best 77 = .ok (.getfield 73, 3) := by decide +kernel
theorem dX6_best_80 : decode cX6_best 80 = .ok (.invokevirtual 190, 3) := by decide +kernel
theorem dX6_best_83 : decode cX6_best 83 = .ok (.invokestatic 185, 3) := by decide +kernel
theorem dX6_best_86 : decode cX6_best 86 = .ok (.istore 7, 2) := by decide +kernel
theorem dX6_best_88 : decode cX6_best 88 = .ok (.iload 6, 2) := by decide +kernel
theorem dX6_best_90 : decode cX6_best 90 = .ok (.iload_n 3, 1) := by decide +kernel
theorem dX6_best_91 : decode cX6_best 91 = .ok (.if_icmp .gt 16, 3) := by decide +kernel
theorem dX6_best_94 : decode cX6_best 94 = .ok (.iload 6, 2) := by decide +kernel
theorem dX6_best_96 : decode cX6_best 96 = .ok (.iload_n 3, 1) := by decide +kernel
theorem dX6_best_97 : decode cX6_best 97 = .ok (.if_icmp .ne 20, 3) := by decide +kernel
theorem dX6_best_100 : decode cX6_best 100 = .ok (.iload 7, 2) := by decide +kernel
theorem dX6_best_102 : decode cX6_best 102 = .ok (.iload 4, 2) := by decide +kernel
theorem dX6_best_104 : decode cX6_best 104 = .ok (.if_icmp .le 13, 3) := by decide +kernel
theorem dX6_best_107 : decode cX6_best 107 = .ok (.iload 5, 2) := by decide +kernel
theorem dX6_best_109 : decode cX6_best 109 = .ok (.istore_n 2, 1) := by decide +kernel
theorem dX6_best_110 : decode cX6_best 110 = .ok (.iload 6, 2) := by decide +kernel
theorem dX6_best_112 : decode cX6_best 112 = .ok (.istore_n 3, 1) := by decide +kernel
theorem dX6_best_113 : decode cX6_best 113 = .ok (.iload 7, 2) := by decide +kernel
theorem dX6_best_115 : decode cX6_best 115 = .ok (.istore 4, 2) := by decide +kernel
theorem dX6_best_117 : decode cX6_best 117 = .ok (.iinc 5 1, 3) := by decide +kernel
theorem dX6_best_120 : decode cX6_best 120 = .ok (.goto (-97), 3) := by decide +kernel
theorem dX6_best_123 : decode cX6_best 123 = .ok (.iload_n 2, 1) := by decide +kernel
theorem dX6_best_124 : decode cX6_best 124 = .ok (.ireturn, 1) := by decide +kernel
set_option maxRecDepth 20000 in
theorem ggX6_undo_X0_takeBack : GoodIn wsX6_undo wsX0_takeBack := goodIn_r _ [8, 9, 10, 11, 12, 7, 13, 14, 15, 16, 17, 18, 19, 20, 21, 22, 23, 24, 25, 26, 27, 28, 29, 30, 31, 32, 33, 34, 35, 36, 37, 38, 39, 40, 41, 42, 43, 44, 45, 46, 47, 48, 49, 50, 51, 52, 53, 54, 55, 56, 57, 58, 69, 70, 71, 72, 73, 74, 75, 76, 77, 78, 79, 80, 81, 82, 83, 84, 85, 86, 87, 88, 89, 90] (by decide +kernel) (by decide +kernel)
set_option maxRecDepth 20000 in
theorem gX6_undo_X0_takeBack : GoodIn wsX6_undo (wsV RX6 233 RX0 yX0_takeBack wsX0_takeBack) := goodIn_app (goodIn_of _ (by decide +kernel)) ggX6_undo_X0_takeBack
theorem dX6_undo_0 : decode cX6_undo 0 = .ok (.aload_n 0, 1) := by decide +kernel
theorem dX6_undo_1 : decode cX6_undo 1 = .ok (.getfield 29, 3) := by decide +kernel
theorem dX6_undo_4 : decode cX6_undo 4 = .ok (.getfield 230, 3) := by decide +kernel
theorem dX6_undo_7 : decode cX6_undo 7 = .ok (.ifCond .gt 6, 3) := by decide +kernel
theorem dX6_undo_10 : decode cX6_undo 10 = .ok (.bipush (-2), 2) := by decide +kernel
theorem dX6_undo_12 : decode cX6_undo 12 = .ok (.ireturn, 1) := by decide +kernel
theorem dX6_undo_13 : decode cX6_undo 13 = .ok (.aload_n 0, 1) := by decide +kernel
theorem dX6_undo_14 : decode cX6_undo 14 = .ok (.getfield 29, 3) := by decide +kernel
theorem dX6_undo_17 : decode cX6_undo 17 = .ok (.aload_n 0, 1) := by decide +kernel
theorem dX6_undo_18 : decode cX6_undo 18 = .ok (.getfield 10, 3) := by decide +kernel
theorem dX6_undo_21 : decode cX6_undo 21 = .ok (.invokevirtual 233, 3) := by decide +kernel
theorem dX6_undo_24 : decode cX6_undo 24 = .ok (.aload_n 0, 1) := by decide +kernel
theorem dX6_undo_25 : decode cX6_undo 25 = .ok (.getfield 29, 3) := by decide +kernel
theorem dX6_undo_28 : decode cX6_undo 28 = .ok (.getfield 230, 3) := by decide +kernel
theorem dX6_undo_31 : decode cX6_undo 31 = .ok (.ireturn, 1) := by decide +kernel
set_option maxRecDepth 20000 in
theorem ggX6_save_X5_copyFrom : GoodIn wsX6_save wsX5_copyFrom := goodIn_r _ [9, 10, 11, 12, 13, 14, 15, 16, 17, 18, 19, 20, 21, 22, 23, 24, 25, 26, 27, 28, 29, 30, 31, 32, 33, 34, 35, 36, 37, 38, 39, 40, 41, 42, 43, 44, 45, 46, 47, 48, 59, 60, 61, 62, 63, 64, 65, 66, 67, 68, 69, 70, 71, 72, 73, 74, 75, 76, 77, 78] (by decide +kernel) (by decide +kernel)
set_option maxRecDepth 20000 in
theorem gX6_save_X5_copyFrom : GoodIn wsX6_save (wsV RX6 227 RX5 yX5_copyFrom wsX5_copyFrom) := goodIn_app (goodIn_of _ (by decide +kernel)) ggX6_save_X5_copyFrom
theorem dX6_save_0 : decode cX6_save 0 = .ok (.aload_n 0, 1) := by decide +kernel
theorem dX6_save_1 : decode cX6_save 1 = .ok (.getfield 19, 3) := by decide +kernel
theorem dX6_save_4 : decode cX6_save 4 = .ok (.aload_n 0, 1) := by decide +kernel
theorem dX6_save_5 : decode cX6_save 5 = .ok (.getfield 10, 3) := by decide +kernel
theorem dX6_save_8 : decode cX6_save 8 = .ok (.invokevirtual 227, 3) := by decide +kernel
theorem dX6_save_11 : decode cX6_save 11 = .ok (.aload_n 0, 1) := by decide +kernel
theorem dX6_save_12 : decode cX6_save 12 = .ok (.iconst 1, 1) := by decide +kernel
theorem dX6_save_13 : decode cX6_save 13 = .ok (.putfield 22, 3) := by decide +kernel
theorem dX6_save_16 : decode cX6_save 16 = .ok (.aload_n 0, 1) := by decide +kernel
theorem dX6_save_17 : decode cX6_save 17 = .ok (.getfield 10, 3) := by decide +kernel
theorem dX6_save_20 : decode cX6_save 20 = .ok (.getfield 143, 3) := by decide +kernel
theorem dX6_save_23 : decode cX6_save 23 = .ok (.ireturn, 1) := by decide +kernel
set_option maxRecDepth 20000 in
theorem ggX6_restore_X0_record : GoodIn wsX6_restore wsX0_record := goodIn_r _ [10, 11, 12, 13, 14, 15, 9, 16, 17, 18, 19, 20, 21, 22, 23, 24, 25, 26, 27, 28, 29, 30, 31, 32, 33, 34, 35, 36, 37, 38, 39, 40, 41, 42, 43, 44, 45, 46, 47, 48, 49, 50, 51, 52, 53, 54, 55, 56, 57, 58, 59, 60, 61, 62, 63, 64, 87, 88, 76, 77, 78, 79, 80, 81, 82, 83, 84, 85, 86, 89, 90, 91, 92, 93, 94, 95, 96, 97] (by decide +kernel) (by decide +kernel)
set_option maxRecDepth 20000 in
theorem gX6_restore_X0_record : GoodIn wsX6_restore (wsV RX6 61 RX0 yX0_record wsX0_record) := goodIn_app (goodIn_of _ (by decide +kernel)) ggX6_restore_X0_record
set_option maxRecDepth 20000 in
theorem ggX6_restore_X5_copyFrom : GoodIn wsX6_restore wsX5_copyFrom := goodIn_r _ [25, 26, 27, 28, 29, 30, 31, 32, 33, 34, 35, 36, 37, 38, 39, 40, 41, 42, 43, 44, 45, 46, 47, 48, 49, 50, 51, 52, 53, 54, 55, 56, 57, 58, 59, 60, 61, 62, 63, 64, 76, 77, 78, 79, 80, 81, 82, 83, 84, 85, 86, 89, 90, 91, 92, 93, 94, 95, 96, 97] (by decide +kernel) (by decide +kernel)
set_option maxRecDepth 20000 in
theorem gX6_restore_X5_copyFrom : GoodIn wsX6_restore (wsV RX6 227 RX5 yX5_copyFrom wsX5_copyFrom) := goodIn_app (goodIn_of _ (by decide +kernel)) ggX6_restore_X5_copyFrom
theorem dX6_restore_0 : decode cX6_restore 0 = .ok (.aload_n 0, 1) := by decide +kernel
theorem dX6_restore_1 : decode cX6_restore 1 = .ok (.getfield 22, 3) := by decide +kernel
theorem dX6_restore_4 : decode cX6_restore 4 = .ok (.ifCond .ne 6, 3) := by decide +kernel
theorem dX6_restore_7 : decode cX6_restore 7 = .ok (.bipush (-2), 2) := by decide +kernel
theorem dX6_restore_9 : decode cX6_restore 9 = .ok (.ireturn, 1) := by decide +kernel
theorem dX6_restore_10 : decode cX6_restore 10 = .ok (.aload_n 0, 1) := by decide +kernel
theorem dX6_restore_11 : decode cX6_restore 11 = .ok (.getfield 29, 3) := by decide +kernel
theorem dX6_restore_14 : decode cX6_restore 14 = .ok (.aload_n 0, 1) := by decide +kernel
theorem dX6_restore_15 : decode cX6_restore 15 = .ok (.getfield 10, 3) := by decide +kernel
theorem dX6_restore_18 : decode cX6_restore 18 = .ok (.invokevirtual 61, 3) := by decide +kernel
theorem dX6_restore_21 : decode cX6_restore 21 = .ok (.aload_n 0, 1) := by decide +kernel
theorem dX6_restore_22 : decode cX6_restore 22 = .ok (.getfield 10, 3) := by decide +kernel
theorem dX6_restore_25 : decode cX6_restore 25 = .ok (.aload_n 0, 1) := by decide +kernel
theorem dX6_restore_26 : decode cX6_restore 26 = .ok (.getfield 19, 3) := by decide +kernel
theorem dX6_restore_29 : decode cX6_restore 29 = .ok (.invokevirtual 227, 3) := by decide +kernel
theorem dX6_restore_32 : decode cX6_restore 32 = .ok (.aload_n 0, 1) := by decide +kernel
theorem dX6_restore_33 : decode cX6_restore 33 = .ok (.getfield 10, 3) := by decide +kernel
theorem dX6_restore_36 : decode cX6_restore 36 = .ok (.getfield 143, 3) := by decide +kernel
theorem dX6_restore_39 : decode cX6_restore 39 = .ok (.ireturn, 1) := by decide +kernel
theorem dX6_isWithin_0 : decode cX6_isWithin 0 = .ok (.iload_n 0, 1) := by decide +kernel
theorem dX6_isWithin_1 : decode cX6_isWithin 1 = .ok (.iload_n 1, 1) := by decide +kernel
theorem dX6_isWithin_2 : decode cX6_isWithin 2 = .ok (.if_icmp .lt 12, 3) := by decide +kernel
theorem dX6_isWithin_5 : decode cX6_isWithin 5 = .ok (.iload_n 0, 1) := by decide +kernel
theorem dX6_isWithin_6 : decode cX6_isWithin 6 = .ok (.iload_n 2, 1) := by decide +kernel
theorem dX6_isWithin_7 : decode cX6_isWithin 7 = .ok (.if_icmp .gt 7, 3) := by decide +kernel
theorem dX6_isWithin_10 : decode cX6_isWithin 10 = .ok (.iconst 1, 1) := by decide +kernel
theorem dX6_isWithin_11 : decode cX6_isWithin 11 = .ok (.goto 4, 3) := by decide +kernel
theorem dX6_isWithin_14 : decode cX6_isWithin 14 = .ok (.iconst 0, 1) := by decide +kernel
theorem dX6_isWithin_15 : decode cX6_isWithin 15 = .ok (.ireturn, 1) := by decide +kernel
theorem dX6_bit_0 : decode cX6_bit 0 = .ok (.iconst 1, 1) := by decide +kernel
theorem dX6_bit_1 : decode cX6_bit 1 = .ok (.iload_n 0, 1) := by decide +kernel
theorem dX6_bit_2 : decode cX6_bit 2 = .ok (.ishl, 1) := by decide +kernel
theorem dX6_bit_3 : decode cX6_bit 3 = .ok (.ireturn, 1) := by decide +kernel
set_option maxRecDepth 20000 in
theorem ggX6_isIn_X6_bit : GoodIn wsX6_isIn wsX6_bit := goodIn_r _ [4] (by decide +kernel) (by decide +kernel)
set_option maxRecDepth 20000 in
theorem gX6_isIn_X6_bit : GoodIn wsX6_isIn (va_wsS RX6 236 yX6_bit wsX6_bit) := goodIn_app (goodIn_of _ (by decide +kernel)) ggX6_isIn_X6_bit
theorem dX6_isIn_0 : decode cX6_isIn 0 = .ok (.iload_n 0, 1) := by decide +kernel
theorem dX6_isIn_1 : decode cX6_isIn 1 = .ok (.iload_n 1, 1) := by decide +kernel
theorem dX6_isIn_2 : decode cX6_isIn 2 = .ok (.invokestatic 236, 3) := by decide +kernel
theorem dX6_isIn_5 : decode cX6_isIn 5 = .ok (.iand, 1) := by decide +kernel
theorem dX6_isIn_6 : decode cX6_isIn 6 = .ok (.ifCond .eq 7, 3) := by decide +kernel
theorem dX6_isIn_9 : decode cX6_isIn 9 = .ok (.iconst 1, 1) := by decide +kernel
theorem dX6_isIn_10 : decode cX6_isIn 10 = .ok (.goto 4, 3) := by decide +kernel
theorem dX6_isIn_13 : decode cX6_isIn 13 = .ok (.iconst 0, 1) := by decide +kernel
theorem dX6_isIn_14 : decode cX6_isIn 14 = .ok (.ireturn, 1) := by decide +kernel
theorem dX6_pinAt_0 : decode cX6_pinAt 0 = .ok (.bipush 7, 2) := by decide +kernel
theorem dX6_pinAt_2 : decode cX6_pinAt 2 = .ok (.iload_n 0, 1) := by decide +kernel
theorem dX6_pinAt_3 : decode cX6_pinAt 3 = .ok (.imul, 1) := by decide +kernel
theorem dX6_pinAt_4 : decode cX6_pinAt 4 = .ok (.iload_n 1, 1) := by decide +kernel
theorem dX6_pinAt_5 : decode cX6_pinAt 5 = .ok (.iadd, 1) := by decide +kernel
theorem dX6_pinAt_6 : decode cX6_pinAt 6 = .ok (.ireturn, 1) := by decide +kernel
theorem dX6_placeBeside_0 : decode cX6_placeBeside 0 = .ok (.iconst 0, 1) := by decide +kernel
theorem dX6_placeBeside_1 : decode cX6_placeBeside 1 = .ok (.bipush 6, 2) := by decide +kernel
theorem dX6_placeBeside_3 : decode cX6_placeBeside 3 = .ok (.iload_n 0, 1) := by decide +kernel
theorem dX6_placeBeside_4 : decode cX6_placeBeside 4 = .ok (.iload_n 1, 1) := by decide +kernel
theorem dX6_placeBeside_5 : decode cX6_placeBeside 5 = .ok (.iadd, 1) := by decide +kernel
theorem dX6_placeBeside_6 : decode cX6_placeBeside 6 = .ok (.invokestatic 239, 3) := by decide +kernel
theorem dX6_placeBeside_9 : decode cX6_placeBeside 9 = .ok (.invokestatic 244, 3) := by decide +kernel
theorem dX6_placeBeside_12 : decode cX6_placeBeside 12 = .ok (.ireturn, 1) := by decide +kernel
theorem dX6_countSoFar_0 : decode cX6_countSoFar 0 = .ok (.iload_n 1, 1) := by decide +kernel
theorem dX6_countSoFar_1 : decode cX6_countSoFar 1 = .ok (.tableswitch 132 10 18 #[51, 59, 67, 78, 89, 97, 108, 116, 124], 51) := by decide +kernel
theorem dX6_countSoFar_52 : decode cX6_countSoFar 52 = .ok (.aload_n 0, 1) := by decide +kernel
theorem dX6_countSoFar_53 : decode cX6_countSoFar 53 = .ok (.getfield 10, 3) := by decide +kernel
theorem dX6_countSoFar_56 : decode cX6_countSoFar 56 = .ok (.getfield 221, 3) := by decide +kernel
theorem dX6_countSoFar_59 : decode cX6_countSoFar 59 = .ok (.ireturn, 1) := by decide +kernel
theorem dX6_countSoFar_60 : decode cX6_countSoFar 60 = .ok (.aload_n 0, 1) := by decide +kernel
theorem dX6_countSoFar_61 : decode cX6_countSoFar 61 = .ok (.getfield 10, 3) := by decide +kernel
theorem dX6_countSoFar_64 : decode cX6_countSoFar 64 = .ok (.getfield 247, 3) := by decide +kernel
theorem dX6_countSoFar_67 : decode cX6_countSoFar 67 = .ok (.ireturn, 1) := by decide +kernel
theorem dX6_countSoFar_68 : decode cX6_countSoFar 68 = .ok (.aload_n 0, 1) := by decide +kernel
theorem dX6_countSoFar_69 : decode cX6_countSoFar 69 = .ok (.getfield 10, 3) := by decide +kernel
theorem dX6_countSoFar_72 : decode cX6_countSoFar 72 = .ok (.getfield 73, 3) := by decide +kernel
theorem dX6_countSoFar_75 : decode cX6_countSoFar 75 = .ok (.getfield 250, 3) := by decide +kernel
theorem dX6_countSoFar_78 : decode cX6_countSoFar 78 = .ok (.ireturn, 1) := by decide +kernel
theorem dX6_countSoFar_79 : decode cX6_countSoFar 79 = .ok (.aload_n 0, 1) := by decide +kernel
theorem dX6_countSoFar_80 : decode cX6_countSoFar 80 = .ok (.getfield 10, 3) := by decide +kernel
theorem dX6_countSoFar_83 : decode cX6_countSoFar 83 = .ok (.getfield 73, 3) := by decide +kernel
theorem dX6_countSoFar_86 : decode cX6_countSoFar 86 = .ok (.getfield 253, 3) := by decide +kernel
theorem dX6_countSoFar_89 : decode cX6_countSoFar 89 = .ok (.ireturn, 1) := by decide +kernel
theorem dX6_countSoFar_90 : decode cX6_countSoFar 90 = .ok (.aload_n 0, 1) := by decide +kernel
theorem dX6_countSoFar_91 : decode cX6_countSoFar 91 = .ok (.getfield 10, 3) := by decide +kernel
theorem dX6_countSoFar_94 : decode cX6_countSoFar 94 = .ok (.getfield 256, 3) := by decide +kernel
theorem dX6_countSoFar_97 : decode cX6_countSoFar 97 = .ok (.ireturn, 1) := by decide +kernel
theorem dX6_countSoFar_98 : decode cX6_countSoFar 98 = .ok (.aload_n 0, 1) := by decide +kernel
theorem dX6_countSoFar_99 : decode cX6_countSoFar 99 = .ok (.getfield 10, 3) := by decide +kernel
theorem dX6_countSoFar_102 : decode cX6_countSoFar 102 = .ok (.getfield 73, 3) := by decide +kernel
theorem dX6_countSoFar_105 : decode cX6_countSoFar 105 = .ok (.getfield 107, 3) := by decide +kernel
theorem dX6_countSoFar_108 : decode cX6_countSoFar 108 = .ok (.ireturn, 1) := by decide +kernel
theorem dX6_countSoFar_109 : decode cX6_countSoFar 109 = .ok (.aload_n 0, 1) := by decide +kernel
theorem dX6_countSoFar_110 : decode cX6_countSoFar 110 = .ok (.getfield 10, 3) := by decide +kernel
theorem dX6_countSoFar_113 : decode cX6_countSoFar 113 = .ok (.getfield 110, 3) := by decide +kernel
theorem dX6_countSoFar_116 : decode cX6_countSoFar 116 = .ok (.ireturn, 1) := by decide +kernel
theorem dX6_countSoFar_117 : decode cX6_countSoFar 117 = .ok (.aload_n 0, 1) := by decide +kernel
theorem dX6_countSoFar_118 : decode cX6_countSoFar 118 = .ok (.getfield 43, 3) := by decide +kernel
theorem dX6_countSoFar_121 : decode cX6_countSoFar 121 = .ok (.getfield 119, 3) := by decide +kernel
theorem dX6_countSoFar_124 : decode cX6_countSoFar 124 = .ok (.ireturn, 1) := by decide +kernel
theorem dX6_countSoFar_125 : decode cX6_countSoFar 125 = .ok (.aload_n 0, 1) := by decide +kernel
theorem dX6_countSoFar_126 : decode cX6_countSoFar 126 = .ok (.getfield 29, 3) := by decide +kernel
theorem dX6_countSoFar_129 : decode cX6_countSoFar 129 = .ok (.getfield 230, 3) := by decide +kernel
theorem dX6_countSoFar_132 : decode cX6_countSoFar 132 = .ok (.ireturn, 1) := by decide +kernel
theorem dX6_countSoFar_133 : decode cX6_countSoFar 133 = .ok (.iconst (-1), 1) := by decide +kernel
theorem dX6_countSoFar_134 : decode cX6_countSoFar 134 = .ok (.ireturn, 1) := by decide +kernel
set_option maxRecDepth 20000 in
theorem ggX6_shootAsThePadTells_X1_codeAt : GoodIn wsX6_shootAsThePadTells wsX1_codeAt := goodIn_r _ [9, 10, 11, 12, 13, 14, 15, 16, 17, 140, 141, 142] (by decide +kernel) (by decide +kernel)
set_option maxRecDepth 20000 in
theorem gX6_shootAsThePadTells_X1_codeAt : GoodIn wsX6_shootAsThePadTells (wsV RX6 134 RX1 yX1_codeAt wsX1_codeAt) := goodIn_app (goodIn_of _ (by decide +kernel)) ggX6_shootAsThePadTells_X1_codeAt
set_option maxRecDepth 20000 in
theorem ggX6_shootAsThePadTells_X5_emptyPockets : GoodIn wsX6_shootAsThePadTells wsX5_emptyPockets := goodIn_r _ [22, 23, 24, 25, 26, 27, 28, 15, 29, 17, 30, 31, 32, 33, 34, 35, 36, 37, 143, 144, 145, 146, 147, 148, 149, 150, 151, 152, 153, 142] (by decide +kernel) (by decide +kernel)
set_option maxRecDepth 20000 in
theorem gX6_shootAsThePadTells_X5_emptyPockets : GoodIn wsX6_shootAsThePadTells (wsV RX6 113 RX5 yX5_emptyPockets wsX5_emptyPockets) := goodIn_app (goodIn_of _ (by decide +kernel)) ggX6_shootAsThePadTells_X5_emptyPockets
set_option maxRecDepth 20000 in
theorem ggX6_shootAsThePadTells_X1_isPlace : GoodIn wsX6_shootAsThePadTells wsX1_isPlace := goodIn_r _ [40, 41, 42, 43] (by decide +kernel) (by decide +kernel)
set_option maxRecDepth 20000 in
theorem gX6_shootAsThePadTells_X1_isPlace : GoodIn wsX6_shootAsThePadTells (va_wsS RX6 259 yX1_isPlace wsX1_isPlace) := goodIn_app (goodIn_of _ (by decide +kernel)) ggX6_shootAsThePadTells_X1_isPlace
set_option maxRecDepth 20000 in
theorem ggX6_shootAsThePadTells_X5_shootBall : GoodIn wsX6_shootAsThePadTells wsX5_shootBall := goodIn_r _ [47, 23, 48, 49, 50, 51, 52, 53, 54, 55, 56, 57, 58, 59, 42, 60, 61, 62, 63, 64, 65, 66, 67, 68, 69, 70, 71, 13, 14, 15, 16, 17, 72, 73, 74, 75, 76, 77, 78, 79, 80, 81, 82, 83, 84, 85, 86, 87, 88, 89, 90, 91, 92, 93, 94, 95, 96, 97, 41, 43, 98, 99, 100, 101, 102, 103, 104, 105, 106, 107, 108, 109, 110, 111, 112, 113, 21, 114, 115, 25, 24, 116, 117, 118, 119, 120, 121, 122, 123, 143, 144, 145, 146, 147, 148, 149, 150, 151, 152, 153, 154, 155, 156, 157, 158, 159, 160, 161, 142] (by decide +kernel) (by decide +kernel)
set_option maxRecDepth 20000 in
theorem gX6_shootAsThePadTells_X5_shootBall : GoodIn wsX6_shootAsThePadTells (wsV RX6 65 RX5 yX5_shootBall wsX5_shootBall) := goodIn_app (goodIn_of _ (by decide +kernel)) ggX6_shootAsThePadTells_X5_shootBall
set_option maxRecDepth 20000 in
theorem ggX6_shootAsThePadTells_X6_noteStop : GoodIn wsX6_shootAsThePadTells wsX6_noteStop := goodIn_r _ [127, 1, 128, 129, 130, 131, 132, 133, 134, 135, 136, 137, 138, 139] (by decide +kernel) (by decide +kernel)
set_option maxRecDepth 20000 in
theorem gX6_shootAsThePadTells_X6_noteStop : GoodIn wsX6_shootAsThePadTells (wsV RX6 262 RX6 yX6_noteStop wsX6_noteStop) := goodIn_app (goodIn_of _ (by decide +kernel)) ggX6_shootAsThePadTells_X6_noteStop
theorem dX6_shootAsThePadTells_0 : decode cX6_shootAsThePadTells 0 = .ok (.aload_n 0, 1) := by decide +kernel
theorem dX6_shootAsThePadTells_1 : decode cX6_shootAsThePadTells 1 = .ok (.iconst 0, 1) := by decide +kernel
theorem dX6_shootAsThePadTells_2 : decode cX6_shootAsThePadTells 2 = .ok (.putfield 47, 3) := by decide +kernel
theorem dX6_shootAsThePadTells_5 : decode cX6_shootAsThePadTells 5 = .ok (.iconst 0, 1) := by decide +kernel
theorem dX6_shootAsThePadTells_6 : decode cX6_shootAsThePadTells 6 = .ok (.istore_n 1, 1) := by decide +kernel
theorem dX6_shootAsThePadTells_7 : decode cX6_shootAsThePadTells 7 = .ok (.iconst 0, 1) := by decide +kernel
theorem dX6_shootAsThePadTells_8 : decode cX6_shootAsThePadTells 8 = .ok (.istore_n 2, 1) := by decide +kernel
theorem dX6_shootAsThePadTells_9 : decode cX6_shootAsThePadTells 9 = .ok (.iload_n 2, 1) := by decide +kernel
theorem dX6_shootAsThePadTells_10 : decode cX6_shootAsThePadTells 10 = .ok (.aload_n 0, 1) := by decide +kernel
theorem dX6_shootAsThePadTells_11 : decode cX6_shootAsThePadTells 11 = .ok (.getfield 43, 3) := by decide +kernel
theorem dX6_shootAsThePadTells_14 : decode cX6_shootAsThePadTells 14 = .ok (.getfield 119, 3) := by decide +kernel
theorem dX6_shootAsThePadTells_17 : decode cX6_shootAsThePadTells 17 = .ok (.if_icmp .ge 108, 3) := by decide +kernel
theorem dX6_shootAsThePadTells_20 : decode cX6_shootAsThePadTells 20 = .ok (.aload_n 0, 1) := by decide +kernel
theorem dX6_shootAsThePadTells_21 : decode cX6_shootAsThePadTells 21 = .ok (.getfield 47, 3) := by decide +kernel
theorem dX6_shootAsThePadTells_24 : decode cX6_shootAsThePadTells 24 = .ok (.ifCond .ne 101, 3) := by decide +kernel
theorem dX6_shootAsThePadTells_27 : decode cX6_shootAsThePadTells 27 = .ok (.aload_n 0, 1) := by decide +kernel
theorem dX6_shootAsThePadTells_28 : decode cX6_shootAsThePadTells 28 = .ok (.getfield 43, 3) := by decide +kernel
theorem dX6_shootAsThePadTells_31 : decode cX6_shootAsThePadTells 31 = .ok (.iload_n 2, 1) := by decide +kernel
theorem dX6_shootAsThePadTells_32 : decode cX6_shootAsThePadTells 32 = .ok (.invokevirtual 134, 3) := by decide +kernel
theorem dX6_shootAsThePadTells_35 : decode cX6_shootAsThePadTells 35 = .ok (.istore_n 3, 1) := by decide +kernel
theorem dX6_shootAsThePadTells_36 : decode cX6_shootAsThePadTells 36 = .ok (.iload_n 3, 1) := by decide +kernel
theorem dX6_shootAsThePadTells_37 : decode cX6_shootAsThePadTells 37 = .ok (.bipush 44, 2) := by decide +kernel
theorem dX6_shootAsThePadTells_39 : decode cX6_shootAsThePadTells 39 = .ok (.if_icmp .ne 9, 3) := by decide +kernel
theorem dX6_shootAsThePadTells_42 : decode cX6_shootAsThePadTells 42 = .ok (.iinc 1 1, 3) := by decide +kernel
theorem dX6_shootAsThePadTells_45 : decode cX6_shootAsThePadTells 45 = .ok (.goto 74, 3) := by decide +kernel
theorem dX6_shootAsThePadTells_48 : decode cX6_shootAsThePadTells 48 = .ok (.iload_n 3, 1) := by decide +kernel
theorem dX6_shootAsThePadTells_49 : decode cX6_shootAsThePadTells 49 = .ok (.bipush 101, 2) := by decide +kernel
theorem dX6_shootAsThePadTells_51 : decode cX6_shootAsThePadTells 51 = .ok (.if_icmp .ne 13, 3) := by decide +kernel
theorem dX6_shootAsThePadTells_54 : decode cX6_shootAsThePadTells 54 = .ok (.aload_n 0, 1) := by decide +kernel
theorem dX6_shootAsThePadTells_55 : decode cX6_shootAsThePadTells 55 = .ok (.getfield 10, 3) := by decide +kernel
theorem dX6_shootAsThePadTells_58 : decode cX6_shootAsThePadTells 58 = .ok (.invokevirtual 113, 3) := by decide +kernel
theorem dX6_shootAsThePadTells_61 : decode cX6_shootAsThePadTells 61 = .ok (.goto 58, 3) := by decide +kernel
theorem dX6_shootAsThePadTells_64 : decode cX6_shootAsThePadTells 64 = .ok (.iload_n 3, 1) := by decide +kernel
theorem dX6_shootAsThePadTells_65 : decode cX6_shootAsThePadTells 65 = .ok (.invokestatic 259, 3) := by decide +kernel
theorem dX6_shootAsThePadTells_68 : decode cX6_shootAsThePadTells 68 = .ok (.ifCond .eq 51, 3) := by decide +kernel
theorem dX6_shootAsThePadTells_71 : decode cX6_shootAsThePadTells 71 = .ok (.aload_n 0, 1) := by decide +kernel
theorem dX6_shootAsThePadTells_72 : decode cX6_shootAsThePadTells 72 = .ok (.getfield 10, 3) := by decide +kernel
theorem dX6_shootAsThePadTells_75 : decode cX6_shootAsThePadTells 75 = .ok (.iload_n 3, 1) := by decide +kernel
theorem dX6_shootAsThePadTells_76 : decode cX6_shootAsThePadTells 76 = .ok (.bipush 48, 2) := by decide +kernel
theorem dX6_shootAsThePadTells_78 : decode cX6_shootAsThePadTells 78 = .ok (.isub, 1) := by decide +kernel
theorem dX6_shootAsThePadTells_79 : decode cX6_shootAsThePadTells 79 = .ok (.aload_n 0, 1) := by decide +kernel
theorem dX6_shootAsThePadTells_80 : decode cX6_shootAsThePadTells 80 = .ok (.getfield 43, 3) := by decide +kernel
theorem dX6_shootAsThePadTells_83 : decode cX6_shootAsThePadTells 83 = .ok (.iload_n 2, 1) := by decide +kernel
theorem dX6_shootAsThePadTells_84 : decode cX6_shootAsThePadTells 84 = .ok (.iconst 1, 1) := by decide +kernel
theorem dX6_shootAsThePadTells_85 : decode cX6_shootAsThePadTells 85 = .ok (.iadd, 1) := by decide +kernel
theorem dX6_shootAsThePadTells_86 : decode cX6_shootAsThePadTells 86 = .ok (.invokevirtual 134, 3) := by decide +kernel
theorem dX6_shootAsThePadTells_89 : decode cX6_shootAsThePadTells 89 = .ok (.bipush 33, 2) := by decide +kernel
theorem dX6_shootAsThePadTells_91 : decode cX6_shootAsThePadTells 91 = .ok (.if_icmp .ne 7, 3) := by decide +kernel
theorem dX6_shootAsThePadTells_94 : decode cX6_shootAsThePadTells 94 = .ok (.iconst 1, 1) := by decide +kernel
theorem dX6_shootAsThePadTells_95 : decode cX6_shootAsThePadTells 95 = .ok (.goto 4, 3) := by decide +kernel
theorem dX6_shootAsThePadTells_98 : decode cX6_shootAsThePadTells 98 = .ok (.iconst 0, 1) := by decide +kernel
theorem dX6_shootAsThePadTells_99 : decode cX6_shootAsThePadTells 99 = .ok (.invokevirtual 65, 3) := by decide +kernel
theorem dX6_shootAsThePadTells_102 : decode cX6_shootAsThePadTells 102 = .ok (.istore 4, 2) := by decide +kernel
theorem dX6_shootAsThePadTells_104 : decode cX6_shootAsThePadTells 104 = .ok (.iload 4, 2) := by decide +kernel
theorem dX6_shootAsThePadTells_106 : decode cX6_shootAsThePadTells 106 = .ok (.bipush 10, 2) := by decide +kernel
theorem dX6_shootAsThePadTells_108 : decode cX6_shootAsThePadTells 108 = .ok (.if_icmp .ge 11, 3) := by decide +kernel
theorem dX6_shootAsThePadTells_111 : decode cX6_shootAsThePadTells 111 = .ok (.aload_n 0, 1) := by decide +kernel
theorem dX6_shootAsThePadTells_112 : decode cX6_shootAsThePadTells 112 = .ok (.iload 4, 2) := by decide +kernel
theorem dX6_shootAsThePadTells_114 : decode cX6_shootAsThePadTells 114 = .ok (.iload_n 1, 1) := by decide +kernel
theorem dX6_shootAsThePadTells_115 : decode cX6_shootAsThePadTells 115 = .ok (.iload_n 2, 1) := by decide +kernel
theorem dX6_shootAsThePadTells_116 : decode cX6_shootAsThePadTells 116 = .ok (.invokevirtual 262, 3) := by decide +kernel
theorem dX6_shootAsThePadTells_119 : decode cX6_shootAsThePadTells 119 = .ok (.iinc 2 1, 3) := by decide +kernel
theorem dX6_shootAsThePadTells_122 : decode cX6_shootAsThePadTells 122 = .ok (.goto (-113), 3) := by decide +kernel
theorem dX6_shootAsThePadTells_125 : decode cX6_shootAsThePadTells 125 = .ok (.return_, 1) := by decide +kernel
theorem dX6_noteStop_0 : decode cX6_noteStop 0 = .ok (.aload_n 0, 1) := by decide +kernel
theorem dX6_noteStop_1 : decode cX6_noteStop 1 = .ok (.iload_n 1, 1) := by decide +kernel
theorem dX6_noteStop_2 : decode cX6_noteStop 2 = .ok (.putfield 47, 3) := by decide +kernel
theorem dX6_noteStop_5 : decode cX6_noteStop 5 = .ok (.aload_n 0, 1) := by decide +kernel
theorem dX6_noteStop_6 : decode cX6_noteStop 6 = .ok (.iload_n 2, 1) := by decide +kernel
theorem dX6_noteStop_7 : decode cX6_noteStop 7 = .ok (.putfield 51, 3) := by decide +kernel
theorem dX6_noteStop_10 : decode cX6_noteStop 10 = .ok (.aload_n 0, 1) := by decide +kernel
theorem dX6_noteStop_11 : decode cX6_noteStop 11 = .ok (.iload_n 3, 1) := by decide +kernel
theorem dX6_noteStop_12 : decode cX6_noteStop 12 = .ok (.putfield 54, 3) := by decide +kernel
theorem dX6_noteStop_15 : decode cX6_noteStop 15 = .ok (.return_, 1) := by decide +kernel
set_option maxRecDepth 20000 in
theorem ggX6_waysFromAllPlaces_X6_waysFrom : GoodIn wsX6_waysFromAllPlaces wsX6_waysFrom := goodIn_r _ [4, 5, 6, 3, 7, 8, 9, 10, 11, 12, 13, 14, 15, 16, 17, 18, 19, 20, 21, 22, 23, 24, 25, 26, 27, 28, 29, 30, 31, 32, 33, 34, 35, 36, 37, 38, 39, 40, 41, 42, 43, 44, 1, 2, 45, 46, 47, 48, 49, 50, 51, 52, 53] (by decide +kernel) (by decide +kernel)
set_option maxRecDepth 20000 in
theorem gX6_waysFromAllPlaces_X6_waysFrom : GoodIn wsX6_waysFromAllPlaces (va_wsS RX6 266 yX6_waysFrom wsX6_waysFrom) := goodIn_app (goodIn_of _ (by decide +kernel)) ggX6_waysFromAllPlaces_X6_waysFrom
theorem dX6_waysFromAllPlaces_0 : decode cX6_waysFromAllPlaces 0 = .ok (.iconst 0, 1) := by decide +kernel
theorem dX6_waysFromAllPlaces_1 : decode cX6_waysFromAllPlaces 1 = .ok (.istore_n 2, 1) := by decide +kernel
theorem dX6_waysFromAllPlaces_2 : decode cX6_waysFromAllPlaces 2 = .ok (.iconst 0, 1) := by decide +kernel
theorem dX6_waysFromAllPlaces_3 : decode cX6_waysFromAllPlaces 3 = .ok (.istore_n 3, 1) := by decide +kernel
theorem dX6_waysFromAllPlaces_4 : decode cX6_waysFromAllPlaces 4 = .ok (.iload_n 3, 1) := by decide +kernel
theorem dX6_waysFromAllPlaces_5 : decode cX6_waysFromAllPlaces 5 = .ok (.bipush 7, 2) := by decide +kernel
theorem dX6_waysFromAllPlaces_7 : decode cX6_waysFromAllPlaces 7 = .ok (.if_icmp .ge 19, 3) := by decide +kernel
theorem dX6_waysFromAllPlaces_10 : decode cX6_waysFromAllPlaces 10 = .ok (.iload_n 2, 1) := by decide +kernel
theorem dX6_waysFromAllPlaces_11 : decode cX6_waysFromAllPlaces 11 = .ok (.aload_n 0, 1) := by decide +kernel
theorem dX6_waysFromAllPlaces_12 : decode cX6_waysFromAllPlaces 12 = .ok (.iconst 0, 1) := by decide +kernel
theorem dX6_waysFromAllPlaces_13 : decode cX6_waysFromAllPlaces 13 = .ok (.iload_n 3, 1) := by decide +kernel
theorem dX6_waysFromAllPlaces_14 : decode cX6_waysFromAllPlaces 14 = .ok (.iload_n 1, 1) := by decide +kernel
theorem dX6_waysFromAllPlaces_15 : decode cX6_waysFromAllPlaces 15 = .ok (.invokestatic 266, 3) := by decide +kernel
theorem dX6_waysFromAllPlaces_18 : decode cX6_waysFromAllPlaces 18 = .ok (.iadd, 1) := by decide +kernel
theorem dX6_waysFromAllPlaces_19 : decode cX6_waysFromAllPlaces 19 = .ok (.istore_n 2, 1) := by decide +kernel
theorem dX6_waysFromAllPlaces_20 : decode cX6_waysFromAllPlaces 20 = .ok (.iinc 3 1, 3) := by decide +kernel
theorem dX6_waysFromAllPlaces_23 : decode cX6_waysFromAllPlaces 23 = .ok (.goto (-19), 3) := by decide +kernel
theorem dX6_waysFromAllPlaces_26 : decode cX6_waysFromAllPlaces 26 = .ok (.iload_n 2, 1) := by decide +kernel
theorem dX6_waysFromAllPlaces_27 : decode cX6_waysFromAllPlaces 27 = .ok (.ireturn, 1) := by decide +kernel
set_option maxRecDepth 20000 in
theorem ggX6_waysFrom_X6_pinAt : GoodIn wsX6_waysFrom wsX6_pinAt := goodIn_r _ [4] (by decide +kernel) (by decide +kernel)
set_option maxRecDepth 20000 in
theorem gX6_waysFrom_X6_pinAt : GoodIn wsX6_waysFrom (va_wsS RX6 270 yX6_pinAt wsX6_pinAt) := goodIn_app (goodIn_of _ (by decide +kernel)) ggX6_waysFrom_X6_pinAt
set_option maxRecDepth 20000 in
theorem ggX6_waysFrom_X2_nextPlaces : GoodIn wsX6_waysFrom wsX2_nextPlaces := goodIn_r _ [9, 10, 11, 12, 8, 13, 14, 15, 16, 17, 18, 19, 20, 21, 3, 22, 23, 24, 25, 26, 27, 28, 29, 30, 31, 32, 33, 34, 35, 36, 37, 44, 45, 46, 47, 48, 49, 50, 51, 52] (by decide +kernel) (by decide +kernel)
set_option maxRecDepth 20000 in
theorem gX6_waysFrom_X2_nextPlaces : GoodIn wsX6_waysFrom (wsV RX6 273 RX2 yX2_nextPlaces wsX2_nextPlaces) := goodIn_app (goodIn_of _ (by decide +kernel)) ggX6_waysFrom_X2_nextPlaces
set_option maxRecDepth 20000 in
theorem ggX6_waysFrom_X6_isIn : GoodIn wsX6_waysFrom wsX6_isIn := goodIn_r _ [40, 41, 21, 3, 22] (by decide +kernel) (by decide +kernel)
set_option maxRecDepth 20000 in
theorem gX6_waysFrom_X6_isIn : GoodIn wsX6_waysFrom (va_wsS RX6 276 yX6_isIn wsX6_isIn) := goodIn_app (goodIn_of _ (by decide +kernel)) ggX6_waysFrom_X6_isIn
set_option maxRecDepth 20000 in
theorem ggX6_waysFrom_X6_waysFrom : GoodIn wsX6_waysFrom wsX6_waysFrom := goodIn_r _ [0, 1, 2, 3, 4, 5, 6, 7, 8, 9, 10, 11, 12, 13, 14, 15, 16, 17, 18, 19, 20, 21, 22, 23, 24, 25, 26, 27, 28, 29, 30, 31, 32, 33, 34, 35, 36, 37, 38, 39, 40, 41, 42, 43, 44, 45, 46, 47, 48, 49, 50, 51, 52] (by decide +kernel) (by decide +kernel)
set_option maxRecDepth 20000 in
theorem gX6_waysFrom_X6_waysFrom : GoodIn wsX6_waysFrom (va_wsS RX6 266 yX6_waysFrom wsX6_waysFrom) := goodIn_app (goodIn_of _ (by decide +kernel)) ggX6_waysFrom_X6_waysFrom
theorem dX6_waysFrom_0 : decode cX6_waysFrom 0 = .ok (.iload_n 1, 1) := by decide +kernel
theorem dX6_waysFrom_1 : decode cX6_waysFrom 1 = .ok (.iconst 5, 1) := by decide +kernel
theorem dX6_waysFrom_2 : decode cX6_waysFrom 2 = .ok (.if_icmp .lt 14, 3) := by decide +kernel
theorem dX6_waysFrom_5 : decode cX6_waysFrom 5 = .ok (.iload_n 2, 1) := by decide +kernel
theorem dX6_waysFrom_6 : decode cX6_waysFrom 6 = .ok (.iload_n 3, 1) := by decide +kernel
theorem dX6_waysFrom_7 : decode cX6_waysFrom 7 = .ok (.if_icmp .ne 7, 3) := by decide +kernel
theorem dX6_waysFrom_10 : decode cX6_waysFrom 10 = .ok (.iconst 1, 1) := by decide +kernel
theorem dX6_waysFrom_11 : decode cX6_waysFrom 11 = .ok (.goto 4, 3) := by decide +kernel
theorem dX6_waysFrom_14 : decode cX6_waysFrom 14 = .ok (.iconst 0, 1) := by decide +kernel
theorem dX6_waysFrom_15 : decode cX6_waysFrom 15 = .ok (.ireturn, 1) := by decide +kernel
theorem dX6_waysFrom_16 : decode cX6_waysFrom 16 = .ok (.iconst 0, 1) := by decide +kernel
theorem dX6_waysFrom_17 : decode cX6_waysFrom 17 = .ok (.istore 4, 2) := by decide +kernel
theorem dX6_waysFrom_19 : decode cX6_waysFrom 19 = .ok (.aload_n 0, 1) := by decide +kernel
theorem dX6_waysFrom_20 : decode cX6_waysFrom 20 = .ok (.iload_n 1, 1) := by decide +kernel
theorem dX6_waysFrom_21 : decode cX6_waysFrom 21 = .ok (.iload_n 2, 1) := by decide +kernel
theorem dX6_waysFrom_22 : decode cX6_waysFrom 22 = .ok (.invokestatic 270, 3) := by decide +kernel
theorem dX6_waysFrom_25 : decode cX6_waysFrom 25 = .ok (.invokevirtual 273, 3) := by decide +kernel
theorem dX6_waysFrom_28 : decode cX6_waysFrom 28 = .ok (.istore 5, 2) := by decide +kernel
theorem dX6_waysFrom_30 : decode cX6_waysFrom 30 = .ok (.iconst 0, 1) := by decide +kernel
theorem dX6_waysFrom_31 : decode cX6_waysFrom 31 = .ok (.istore 6, 2) := by decide +kernel
theorem dX6_waysFrom_33 : decode cX6_waysFrom 33 = .ok (.iload 6, 2) := by decide +kernel
theorem dX6_waysFrom_35 : decode cX6_waysFrom 35 = .ok (.bipush 7, 2) := by decide +kernel
theorem dX6_waysFrom_37 : decode cX6_waysFrom 37 = .ok (.if_icmp .ge 34, 3) := by decide +kernel
theorem dX6_waysFrom_40 : decode cX6_waysFrom 40 = .ok (.iload 5, 2) := by decide +kernel
theorem dX6_waysFrom_42 : decode cX6_waysFrom 42 = .ok (.iload 6, 2) := by decide +kernel
theorem dX6_waysFrom_44 : decode cX6_waysFrom 44 = .ok (.invokestatic 276, 3) := by decide +kernel
theorem dX6_waysFrom_47 : decode cX6_waysFrom 47 = .ok (.ifCond .eq 18, 3) := by decide +kernel
theorem dX6_waysFrom_50 : decode cX6_waysFrom 50 = .ok (.iload 4, 2) := by decide +kernel
theorem dX6_waysFrom_52 : decode cX6_waysFrom 52 = .ok (.aload_n 0, 1) := by decide +kernel
theorem dX6_waysFrom_53 : decode cX6_waysFrom 53 = .ok (.iload_n 1, 1) := by decide +kernel
theorem dX6_waysFrom_54 : decode cX6_waysFrom 54 = .ok (.iconst 1, 1) := by decide +kernel
theorem dX6_waysFrom_55 : decode cX6_waysFrom 55 = .ok (.iadd, 1) := by decide +kernel
theorem dX6_waysFrom_56 : decode cX6_waysFrom 56 = .ok (.iload 6, 2) := by decide +kernel
theorem dX6_waysFrom_58 : decode cX6_waysFrom 58 = .ok (.iload_n 3, 1) := by decide +kernel
theorem dX6_waysFrom_59 : decode cX6_waysFrom 59 = .ok (.invokestatic 266, 3) := by decide +kernel
theorem dX6_waysFrom_62 : decode cX6_waysFrom 62 = .ok (.iadd, 1) := by decide +kernel
theorem dX6_waysFrom_63 : decode cX6_waysFrom 63 = .ok (.istore 4, 2) := by decide +kernel
theorem dX6_waysFrom_65 : decode cX6_waysFrom 65 = .ok (.iinc 6 1, 3) := by decide +kernel
theorem dX6_waysFrom_68 : decode cX6_waysFrom 68 = .ok (.goto (-35), 3) := by decide +kernel
theorem dX6_waysFrom_71 : decode cX6_waysFrom 71 = .ok (.iload 4, 2) := by decide +kernel
theorem dX6_waysFrom_73 : decode cX6_waysFrom 73 = .ok (.ireturn, 1) := by decide +kernel
theorem dX7_init_0 : decode cX7_init 0 = .ok (.aload_n 0, 1) := by decide +kernel
theorem dX7_init_1 : decode cX7_init 1 = .ok (.invokespecial 1, 3) := by decide +kernel
theorem dX7_init_4 : decode cX7_init 4 = .ok (.aload_n 0, 1) := by decide +kernel
theorem dX7_init_5 : decode cX7_init 5 = .ok (.sipush 206, 3) := by decide +kernel
theorem dX7_init_8 : decode cX7_init 8 = .ok (.newarray .int, 2) := by decide +kernel
theorem dX7_init_10 : decode cX7_init 10 = .ok (.putfield 7, 3) := by decide +kernel
theorem dX7_init_13 : decode cX7_init 13 = .ok (.aload_n 0, 1) := by decide +kernel
theorem dX7_init_14 : decode cX7_init 14 = .ok (.sipush 206, 3) := by decide +kernel
theorem dX7_init_17 : decode cX7_init 17 = .ok (.newarray .int, 2) := by decide +kernel
theorem dX7_init_19 : decode cX7_init 19 = .ok (.putfield 13, 3) := by decide +kernel
theorem dX7_init_22 : decode cX7_init 22 = .ok (.aload_n 0, 1) := by decide +kernel
theorem dX7_init_23 : decode cX7_init 23 = .ok (.sipush 824, 3) := by decide +kernel
theorem dX7_init_26 : decode cX7_init 26 = .ok (.newarray .int, 2) := by decide +kernel
theorem dX7_init_28 : decode cX7_init 28 = .ok (.putfield 16, 3) := by decide +kernel
theorem dX7_init_31 : decode cX7_init 31 = .ok (.aload_n 0, 1) := by decide +kernel
theorem dX7_init_32 : decode cX7_init 32 = .ok (.sipush 206, 3) := by decide +kernel
theorem dX7_init_35 : decode cX7_init 35 = .ok (.newarray .int, 2) := by decide +kernel
theorem dX7_init_37 : decode cX7_init 37 = .ok (.putfield 19, 3) := by decide +kernel
theorem dX7_init_40 : decode cX7_init 40 = .ok (.aload_n 0, 1) := by decide +kernel
theorem dX7_init_41 : decode cX7_init 41 = .ok (.bipush 60, 2) := by decide +kernel
theorem dX7_init_43 : decode cX7_init 43 = .ok (.newarray .int, 2) := by decide +kernel
theorem dX7_init_45 : decode cX7_init 45 = .ok (.putfield 22, 3) := by decide +kernel
theorem dX7_init_48 : decode cX7_init 48 = .ok (.aload_n 0, 1) := by decide +kernel
theorem dX7_init_49 : decode cX7_init 49 = .ok (.iconst 3, 1) := by decide +kernel
theorem dX7_init_50 : decode cX7_init 50 = .ok (.newarray .int, 2) := by decide +kernel
theorem dX7_init_52 : decode cX7_init 52 = .ok (.putfield 25, 3) := by decide +kernel
theorem dX7_init_55 : decode cX7_init 55 = .ok (.aload_n 0, 1) := by decide +kernel
theorem dX7_init_56 : decode cX7_init 56 = .ok (.bipush 7, 2) := by decide +kernel
theorem dX7_init_58 : decode cX7_init 58 = .ok (.newarray .int, 2) := by decide +kernel
theorem dX7_init_60 : decode cX7_init 60 = .ok (.putfield 28, 3) := by decide +kernel
theorem dX7_init_63 : decode cX7_init 63 = .ok (.aload_n 0, 1) := by decide +kernel
theorem dX7_init_64 : decode cX7_init 64 = .ok (.bipush 7, 2) := by decide +kernel
theorem dX7_init_66 : decode cX7_init 66 = .ok (.newarray .int, 2) := by decide +kernel
theorem dX7_init_68 : decode cX7_init 68 = .ok (.putfield 31, 3) := by decide +kernel
theorem dX7_init_71 : decode cX7_init 71 = .ok (.aload_n 0, 1) := by decide +kernel
theorem dX7_init_72 : decode cX7_init 72 = .ok (.getfield 7, 3) := by decide +kernel
theorem dX7_init_75 : decode cX7_init 75 = .ok (.iconst 1, 1) := by decide +kernel
theorem dX7_init_76 : decode cX7_init 76 = .ok (.bipush 20, 2) := by decide +kernel
theorem dX7_init_78 : decode cX7_init 78 = .ok (.iastore, 1) := by decide +kernel
theorem dX7_init_79 : decode cX7_init 79 = .ok (.aload_n 0, 1) := by decide +kernel
theorem dX7_init_80 : decode cX7_init 80 = .ok (.getfield 7, 3) := by decide +kernel
theorem dX7_init_83 : decode cX7_init 83 = .ok (.bipush 8, 2) := by decide +kernel
theorem dX7_init_85 : decode cX7_init 85 = .ok (.iconst 1, 1) := by decide +kernel
theorem dX7_init_86 : decode cX7_init 86 = .ok (.iastore, 1) := by decide +kernel
theorem dX7_init_87 : decode cX7_init 87 = .ok (.aload_n 0, 1) := by decide +kernel
theorem dX7_init_88 : decode cX7_init 88 = .ok (.getfield 7, 3) := by decide +kernel
theorem dX7_init_91 : decode cX7_init 91 = .ok (.bipush 9, 2) := by decide +kernel
theorem dX7_init_93 : decode cX7_init 93 = .ok (.iconst 3, 1) := by decide +kernel
theorem dX7_init_94 : decode cX7_init 94 = .ok (.iastore, 1) := by decide +kernel
theorem dX7_init_95 : decode cX7_init 95 = .ok (.iconst 0, 1) := by decide +kernel
theorem dX7_init_96 : decode cX7_init 96 = .ok (.istore_n 1, 1) := by decide +kernel
theorem dX7_init_97 : decode cX7_init 97 = .ok (.iload_n 1, 1) := by decide +kernel
theorem dX7_init_98 : decode cX7_init 98 = .ok (.bipush 7, 2) := by decide +kernel
theorem dX7_init_100 : decode cX7_init 100 = .ok (.if_icmp .ge 36, 3) := by decide +kernel
theorem dX7_init_103 : decode cX7_init 103 = .ok (.aload_n 0, 1) := by decide +kernel
theorem dX7_init_104 : decode cX7_init 104 = .ok (.getfield 7, 3) := by decide +kernel
theorem dX7_init_107 : decode cX7_init 107 = .ok (.sipush 185, 3) := by decide +kernel
theorem dX7_init_110 : decode cX7_init 110 = .ok (.iconst 3, 1) := by decide +kernel
theorem dX7_init_111 : decode cX7_init 111 = .ok (.iload_n 1, 1) := by decide +kernel
theorem dX7_init_112 : decode cX7_init 112 = .ok (.imul, 1) := by decide +kernel
theorem dX7_init_113 : decode cX7_init 113 = .ok (.iadd, 1) := by decide +kernel
theorem dX7_init_114 : decode cX7_init 114 = .ok (.iload_n 1, 1) := by decide +kernel
theorem dX7_init_115 : decode cX7_init 115 = .ok (.iconst 3, 1) := by decide +kernel
theorem dX7_init_116 : decode cX7_init 116 = .ok (.if_icmp .le 7, 3) := by decide +kernel
theorem dX7_init_119 : decode cX7_init 119 = .ok (.iload_n 1, 1) := by decide +kernel
theorem dX7_init_120 : decode cX7_init 120 = .ok (.goto 7, 3) := by decide +kernel
theorem dX7_init_123 : decode cX7_init 123 = .ok (.bipush 6, 2) := by decide +kernel
theorem dX7_init_125 : decode cX7_init 125 = .ok (.iload_n 1, 1) := by decide +kernel
theorem dX7_init_126 : decode cX7_init 126 = .ok (.isub, 1) := by decide +kernel
theorem dX7_init_127 : decode cX7_init 127 = .ok (.iconst 2, 1) := by decide +kernel
theorem dX7_init_128 : decode cX7_init 128 = .ok (.isub, 1) := by decide +kernel
theorem dX7_init_129 : decode cX7_init 129 = .ok (.iastore, 1) := by decide +kernel
theorem dX7_init_130 : decode cX7_init 130 = .ok (.iinc 1 1, 3) := by decide +kernel
theorem dX7_init_133 : decode cX7_init 133 = .ok (.goto (-36), 3) := by decide +kernel
theorem dX7_init_136 : decode cX7_init 136 = .ok (.return_, 1) := by decide +kernel
theorem dX7_in_0 : decode cX7_in 0 = .ok (.iload_n 0, 1) := by decide +kernel
theorem dX7_in_1 : decode cX7_in 1 = .ok (.iload_n 1, 1) := by decide +kernel
theorem dX7_in_2 : decode cX7_in 2 = .ok (.if_icmp .lt 12, 3) := by decide +kernel
theorem dX7_in_5 : decode cX7_in 5 = .ok (.iload_n 0, 1) := by decide +kernel
theorem dX7_in_6 : decode cX7_in 6 = .ok (.iload_n 2, 1) := by decide +kernel
theorem dX7_in_7 : decode cX7_in 7 = .ok (.if_icmp .gt 7, 3) := by decide +kernel
theorem dX7_in_10 : decode cX7_in 10 = .ok (.iconst 1, 1) := by decide +kernel
theorem dX7_in_11 : decode cX7_in 11 = .ok (.goto 4, 3) := by decide +kernel
theorem dX7_in_14 : decode cX7_in 14 = .ok (.iconst 0, 1) := by decide +kernel
theorem dX7_in_15 : decode cX7_in 15 = .ok (.ireturn, 1) := by decide +kernel
theorem dX7_copies_0 : decode cX7_copies 0 = .ok (.iconst 0, 1) := by decide +kernel
theorem dX7_copies_1 : decode cX7_copies 1 = .ok (.istore 4, 2) := by decide +kernel
theorem dX7_copies_3 : decode cX7_copies 3 = .ok (.iload 4, 2) := by decide +kernel
theorem dX7_copies_5 : decode cX7_copies 5 = .ok (.sipush 206, 3) := by decide +kernel
theorem dX7_copies_8 : decode cX7_copies 8 = .ok (.if_icmp .ge 21, 3) := by decide +kernel
theorem dX7_copies_11 : decode cX7_copies 11 = .ok (.aload_n 2, 1) := by decide +kernel
theorem dX7_copies_12 : decode cX7_copies 12 = .ok (.iload_n 3, 1) := by decide +kernel
theorem dX7_copies_13 : decode cX7_copies 13 = .ok (.iload 4, 2) := by decide +kernel
theorem dX7_copies_15 : decode cX7_copies 15 = .ok (.iadd, 1) := by decide +kernel
theorem dX7_copies_16 : decode cX7_copies 16 = .ok (.aload_n 0, 1) := by decide +kernel
theorem dX7_copies_17 : decode cX7_copies 17 = .ok (.iload_n 1, 1) := by decide +kernel
theorem dX7_copies_18 : decode cX7_copies 18 = .ok (.iload 4, 2) := by decide +kernel
theorem dX7_copies_20 : decode cX7_copies 20 = .ok (.iadd, 1) := by decide +kernel
theorem dX7_copies_21 : decode cX7_copies 21 = .ok (.iaload, 1) := by decide +kernel
theorem dX7_copies_22 : decode cX7_copies 22 = .ok (.iastore, 1) := by decide +kernel
theorem dX7_copies_23 : decode cX7_copies 23 = .ok (.iinc 4 1, 3) := by decide +kernel
theorem dX7_copies_26 : decode cX7_copies 26 = .ok (.goto (-23), 3) := by decide +kernel
theorem dX7_copies_29 : decode cX7_copies 29 = .ok (.return_, 1) := by decide +kernel
set_option maxRecDepth 20000 in
theorem ggX7_records_X7_copies : GoodIn wsX7_records wsX7_copies := goodIn_r _ [7] (by decide +kernel) (by decide +kernel)
set_option maxRecDepth 20000 in
theorem gX7_records_X7_copies : GoodIn wsX7_records (va_wsS RX7 38 yX7_copies wsX7_copies) := goodIn_app (goodIn_of _ (by decide +kernel)) ggX7_records_X7_copies
theorem dX7_records_0 : decode cX7_records 0 = .ok (.aload_n 0, 1) := by decide +kernel
theorem dX7_records_1 : decode cX7_records 1 = .ok (.getfield 34, 3) := by decide +kernel
theorem dX7_records_4 : decode cX7_records 4 = .ok (.iconst 4, 1) := by decide +kernel
theorem dX7_records_5 : decode cX7_records 5 = .ok (.if_icmp .ne 44, 3) := by decide +kernel
theorem dX7_records_8 : decode cX7_records 8 = .ok (.iconst 0, 1) := by decide +kernel
theorem dX7_records_9 : decode cX7_records 9 = .ok (.istore_n 1, 1) := by decide +kernel
theorem dX7_records_10 : decode cX7_records 10 = .ok (.iload_n 1, 1) := by decide +kernel
theorem dX7_records_11 : decode cX7_records 11 = .ok (.sipush 618, 3) := by decide +kernel
theorem dX7_records_14 : decode cX7_records 14 = .ok (.if_icmp .ge 25, 3) := by decide +kernel
theorem dX7_records_17 : decode cX7_records 17 = .ok (.aload_n 0, 1) := by decide +kernel
theorem dX7_records_18 : decode cX7_records 18 = .ok (.getfield 16, 3) := by decide +kernel
theorem dX7_records_21 : decode cX7_records 21 = .ok (.iload_n 1, 1) := by decide +kernel
theorem dX7_records_22 : decode cX7_records 22 = .ok (.aload_n 0, 1) := by decide +kernel
theorem dX7_records_23 : decode cX7_records 23 = .ok (.getfield 16, 3) := by decide +kernel
theorem dX7_records_26 : decode cX7_records 26 = .ok (.iload_n 1, 1) := by decide +kernel
theorem dX7_records_27 : decode cX7_records 27 = .ok (.sipush 206, 3) := by decide +kernel
theorem dX7_records_30 : decode cX7_records 30 = .ok (.iadd, 1) := by decide +kernel
theorem dX7_records_31 : decode cX7_records 31 = .ok (.iaload, 1) := by decide +kernel
theorem dX7_records_32 : decode cX7_records 32 = .ok (.iastore, 1) := by decide +kernel
theorem dX7_records_33 : decode cX7_records 33 = .ok (.iinc 1 1, 3) := by decide +kernel
theorem dX7_records_36 : decode cX7_records 36 = .ok (.goto (-26), 3) := by decide +kernel
theorem dX7_records_39 : decode cX7_records 39 = .ok (.aload_n 0, 1) := by decide +kernel
theorem dX7_records_40 : decode cX7_records 40 = .ok (.dup, 1) := by decide +kernel
theorem dX7_records_41 : decode cX7_records 41 = .ok (.getfield 34, 3) := by decide +kernel
theorem dX7_records_44 : decode cX7_records 44 = .ok (.iconst 1, 1) := by decide +kernel
theorem dX7_records_45 : decode cX7_records 45 = .ok (.isub, 1) := by decide +kernel
theorem dX7_records_46 : decode cX7_records 46 = .ok (.putfield 34, 3) := by decide +kernel
theorem dX7_records_49 : decode cX7_records 49 = .ok (.aload_n 0, 1) := by decide +kernel
theorem dX7_records_50 : decode cX7_records 50 = .ok (.getfield 7, 3) := by decide +kernel
theorem dX7_records_53 : decode cX7_records 53 = .ok (.iconst 0, 1) := by decide +kernel
theorem dX7_records_54 : decode cX7_records 54 = .ok (.aload_n 0, 1) := by decide +kernel
theorem dX7_records_55 : decode cX7_records 55 = .ok (.getfield 16, 3) := by decide +kernel
theorem dX7_records_58 : decode cX7_records 58 = .ok (.sipush 206, 3) := by decide +kernel
theorem dX7_records_61 : decode cX7_records 61 = .ok (.aload_n 0, 1) := by decide +kernel
theorem dX7_records_62 : decode cX7_records 62 = .ok (.getfield 34, 3) := by decide +kernel
theorem dX7_records_65 : decode cX7_records 65 = .ok (.imul, 1) := by decide +kernel
theorem dX7_records_66 : decode cX7_records 66 = .ok (.invokestatic 38, 3) := by decide +kernel
theorem dX7_records_69 : decode cX7_records 69 = .ok (.aload_n 0, 1) := by decide +kernel
theorem dX7_records_70 : decode cX7_records 70 = .ok (.dup, 1) := by decide +kernel
theorem dX7_records_71 : decode cX7_records 71 = .ok (.getfield 34, 3) := by decide +kernel
theorem dX7_records_74 : decode cX7_records 74 = .ok (.iconst 1, 1) := by decide +kernel
theorem dX7_records_75 : decode cX7_records 75 = .ok (.iadd, 1) := by decide +kernel
theorem dX7_records_76 : decode cX7_records 76 = .ok (.putfield 34, 3) := by decide +kernel
theorem dX7_records_79 : decode cX7_records 79 = .ok (.return_, 1) := by decide +kernel
theorem dX7_ones_0 : decode cX7_ones 0 = .ok (.iconst 0, 1) := by decide +kernel
theorem dX7_ones_1 : decode cX7_ones 1 = .ok (.istore_n 1, 1) := by decide +kernel
theorem dX7_ones_2 : decode cX7_ones 2 = .ok (.iconst 0, 1) := by decide +kernel
theorem dX7_ones_3 : decode cX7_ones 3 = .ok (.istore_n 2, 1) := by decide +kernel
theorem dX7_ones_4 : decode cX7_ones 4 = .ok (.iload_n 2, 1) := by decide +kernel
theorem dX7_ones_5 : decode cX7_ones 5 = .ok (.bipush 7, 2) := by decide +kernel
theorem dX7_ones_7 : decode cX7_ones 7 = .ok (.if_icmp .ge 17, 3) := by decide +kernel
theorem dX7_ones_10 : decode cX7_ones 10 = .ok (.iload_n 1, 1) := by decide +kernel
theorem dX7_ones_11 : decode cX7_ones 11 = .ok (.iload_n 0, 1) := by decide +kernel
theorem dX7_ones_12 : decode cX7_ones 12 = .ok (.iload_n 2, 1) := by decide +kernel
theorem dX7_ones_13 : decode cX7_ones 13 = .ok (.ishr, 1) := by decide +kernel
theorem dX7_ones_14 : decode cX7_ones 14 = .ok (.iconst 1, 1) := by decide +kernel
theorem dX7_ones_15 : decode cX7_ones 15 = .ok (.iand, 1) := by decide +kernel
theorem dX7_ones_16 : decode cX7_ones 16 = .ok (.iadd, 1) := by decide +kernel
theorem dX7_ones_17 : decode cX7_ones 17 = .ok (.istore_n 1, 1) := by decide +kernel
theorem dX7_ones_18 : decode cX7_ones 18 = .ok (.iinc 2 1, 3) := by decide +kernel
theorem dX7_ones_21 : decode cX7_ones 21 = .ok (.goto (-17), 3) := by decide +kernel
theorem dX7_ones_24 : decode cX7_ones 24 = .ok (.iload_n 1, 1) := by decide +kernel
theorem dX7_ones_25 : decode cX7_ones 25 = .ok (.ireturn, 1) := by decide +kernel
set_option maxRecDepth 20000 in
theorem ggX7_isPin_X7_in : GoodIn wsX7_isPin wsX7_in := goodIn_r _ [4] (by decide +kernel) (by decide +kernel)
set_option maxRecDepth 20000 in
theorem gX7_isPin_X7_in : GoodIn wsX7_isPin (va_wsS RX7 42 yX7_in wsX7_in) := goodIn_app (goodIn_of _ (by decide +kernel)) ggX7_isPin_X7_in
theorem dX7_isPin_0 : decode cX7_isPin 0 = .ok (.iload_n 0, 1) := by decide +kernel
theorem dX7_isPin_1 : decode cX7_isPin 1 = .ok (.iconst 0, 1) := by decide +kernel
theorem dX7_isPin_2 : decode cX7_isPin 2 = .ok (.bipush 34, 2) := by decide +kernel
theorem dX7_isPin_4 : decode cX7_isPin 4 = .ok (.invokestatic 42, 3) := by decide +kernel
theorem dX7_isPin_7 : decode cX7_isPin 7 = .ok (.ireturn, 1) := by decide +kernel
set_option maxRecDepth 20000 in
theorem ggX7_isPlace_X7_in : GoodIn wsX7_isPlace wsX7_in := goodIn_r _ [4] (by decide +kernel) (by decide +kernel)
set_option maxRecDepth 20000 in
theorem gX7_isPlace_X7_in : GoodIn wsX7_isPlace (va_wsS RX7 42 yX7_in wsX7_in) := goodIn_app (goodIn_of _ (by decide +kernel)) ggX7_isPlace_X7_in
theorem dX7_isPlace_0 : decode cX7_isPlace 0 = .ok (.iload_n 0, 1) := by decide +kernel
theorem dX7_isPlace_1 : decode cX7_isPlace 1 = .ok (.iconst 0, 1) := by decide +kernel
theorem dX7_isPlace_2 : decode cX7_isPlace 2 = .ok (.bipush 6, 2) := by decide +kernel
theorem dX7_isPlace_4 : decode cX7_isPlace 4 = .ok (.invokestatic 42, 3) := by decide +kernel
theorem dX7_isPlace_7 : decode cX7_isPlace 7 = .ok (.ireturn, 1) := by decide +kernel
theorem dX7_of_0 : decode cX7_of 0 = .ok (.aload_n 0, 1) := by decide +kernel
theorem dX7_of_1 : decode cX7_of 1 = .ok (.getfield 7, 3) := by decide +kernel
theorem dX7_of_4 : decode cX7_of 4 = .ok (.bipush 10, 2) := by decide +kernel
theorem dX7_of_6 : decode cX7_of 6 = .ok (.iconst 5, 1) := by decide +kernel
theorem dX7_of_7 : decode cX7_of 7 = .ok (.iload_n 1, 1) := by decide +kernel
theorem dX7_of_8 : decode cX7_of 8 = .ok (.imul, 1) := by decide +kernel
theorem dX7_of_9 : decode cX7_of 9 = .ok (.iadd, 1) := by decide +kernel
theorem dX7_of_10 : decode cX7_of 10 = .ok (.iload_n 2, 1) := by decide +kernel
theorem dX7_of_11 : decode cX7_of 11 = .ok (.iadd, 1) := by decide +kernel
theorem dX7_of_12 : decode cX7_of 12 = .ok (.iaload, 1) := by decide +kernel
theorem dX7_of_13 : decode cX7_of 13 = .ok (.ireturn, 1) := by decide +kernel
theorem dX7_lays_0 : decode cX7_lays 0 = .ok (.aload_n 0, 1) := by decide +kernel
theorem dX7_lays_1 : decode cX7_lays 1 = .ok (.getfield 7, 3) := by decide +kernel
theorem dX7_lays_4 : decode cX7_lays 4 = .ok (.bipush 10, 2) := by decide +kernel
theorem dX7_lays_6 : decode cX7_lays 6 = .ok (.iconst 5, 1) := by decide +kernel
theorem dX7_lays_7 : decode cX7_lays 7 = .ok (.iload_n 1, 1) := by decide +kernel
theorem dX7_lays_8 : decode cX7_lays 8 = .ok (.imul, 1) := by decide +kernel
theorem dX7_lays_9 : decode cX7_lays 9 = .ok (.iadd, 1) := by decide +kernel
theorem dX7_lays_10 : decode cX7_lays 10 = .ok (.iload_n 2, 1) := by decide +kernel
theorem dX7_lays_11 : decode cX7_lays 11 = .ok (.iadd, 1) := by decide +kernel
theorem dX7_lays_12 : decode cX7_lays 12 = .ok (.iload_n 3, 1) := by decide +kernel
theorem dX7_lays_13 : decode cX7_lays 13 = .ok (.iastore, 1) := by decide +kernel
theorem dX7_lays_14 : decode cX7_lays 14 = .ok (.return_, 1) := by decide +kernel
theorem dX7_inPocket_0 : decode cX7_inPocket 0 = .ok (.aload_n 0, 1) := by decide +kernel
theorem dX7_inPocket_1 : decode cX7_inPocket 1 = .ok (.getfield 7, 3) := by decide +kernel
theorem dX7_inPocket_4 : decode cX7_inPocket 4 = .ok (.sipush 185, 3) := by decide +kernel
theorem dX7_inPocket_7 : decode cX7_inPocket 7 = .ok (.iconst 3, 1) := by decide +kernel
theorem dX7_inPocket_8 : decode cX7_inPocket 8 = .ok (.iload_n 1, 1) := by decide +kernel
theorem dX7_inPocket_9 : decode cX7_inPocket 9 = .ok (.imul, 1) := by decide +kernel
theorem dX7_inPocket_10 : decode cX7_inPocket 10 = .ok (.iadd, 1) := by decide +kernel
theorem dX7_inPocket_11 : decode cX7_inPocket 11 = .ok (.iload_n 2, 1) := by decide +kernel
theorem dX7_inPocket_12 : decode cX7_inPocket 12 = .ok (.iadd, 1) := by decide +kernel
theorem dX7_inPocket_13 : decode cX7_inPocket 13 = .ok (.iaload, 1) := by decide +kernel
theorem dX7_inPocket_14 : decode cX7_inPocket 14 = .ok (.ireturn, 1) := by decide +kernel
theorem dX7_adds_0 : decode cX7_adds 0 = .ok (.aload_n 0, 1) := by decide +kernel
theorem dX7_adds_1 : decode cX7_adds 1 = .ok (.getfield 7, 3) := by decide +kernel
theorem dX7_adds_4 : decode cX7_adds 4 = .ok (.sipush 185, 3) := by decide +kernel
theorem dX7_adds_7 : decode cX7_adds 7 = .ok (.iconst 3, 1) := by decide +kernel
theorem dX7_adds_8 : decode cX7_adds 8 = .ok (.iload_n 1, 1) := by decide +kernel
theorem dX7_adds_9 : decode cX7_adds 9 = .ok (.imul, 1) := by decide +kernel
theorem dX7_adds_10 : decode cX7_adds 10 = .ok (.iadd, 1) := by decide +kernel
theorem dX7_adds_11 : decode cX7_adds 11 = .ok (.iload_n 2, 1) := by decide +kernel
theorem dX7_adds_12 : decode cX7_adds 12 = .ok (.iadd, 1) := by decide +kernel
theorem dX7_adds_13 : decode cX7_adds 13 = .ok (.dup2, 1) := by decide +kernel
theorem dX7_adds_14 : decode cX7_adds 14 = .ok (.iaload, 1) := by decide +kernel
theorem dX7_adds_15 : decode cX7_adds 15 = .ok (.iload_n 3, 1) := by decide +kernel
theorem dX7_adds_16 : decode cX7_adds 16 = .ok (.iadd, 1) := by decide +kernel
theorem dX7_adds_17 : decode cX7_adds 17 = .ok (.iastore, 1) := by decide +kernel
theorem dX7_adds_18 : decode cX7_adds 18 = .ok (.return_, 1) := by decide +kernel
set_option maxRecDepth 20000 in
theorem ggX7_isFull_X7_inPocket : GoodIn wsX7_isFull wsX7_inPocket := goodIn_r _ [6, 1, 7, 8, 9, 10, 11, 12, 13, 14, 15, 16, 17, 18, 19, 20, 21, 22, 23] (by decide +kernel) (by decide +kernel)
set_option maxRecDepth 20000 in
theorem gX7_isFull_X7_inPocket : GoodIn wsX7_isFull (wsV RX7 46 RX7 yX7_inPocket wsX7_inPocket) := goodIn_app (goodIn_of _ (by decide +kernel)) ggX7_isFull_X7_inPocket
theorem dX7_isFull_0 : decode cX7_isFull 0 = .ok (.aload_n 0, 1) := by decide +kernel
theorem dX7_isFull_1 : decode cX7_isFull 1 = .ok (.iload_n 1, 1) := by decide +kernel
theorem dX7_isFull_2 : decode cX7_isFull 2 = .ok (.iconst 1, 1) := by decide +kernel
theorem dX7_isFull_3 : decode cX7_isFull 3 = .ok (.invokevirtual 46, 3) := by decide +kernel
theorem dX7_isFull_6 : decode cX7_isFull 6 = .ok (.aload_n 0, 1) := by decide +kernel
theorem dX7_isFull_7 : decode cX7_isFull 7 = .ok (.getfield 7, 3) := by decide +kernel
theorem dX7_isFull_10 : decode cX7_isFull 10 = .ok (.bipush 9, 2) := by decide +kernel
theorem dX7_isFull_12 : decode cX7_isFull 12 = .ok (.iaload, 1) := by decide +kernel
theorem dX7_isFull_13 : decode cX7_isFull 13 = .ok (.if_icmp .lt 7, 3) := by decide +kernel
theorem dX7_isFull_16 : decode cX7_isFull 16 = .ok (.iconst 1, 1) := by decide +kernel
theorem dX7_isFull_17 : decode cX7_isFull 17 = .ok (.goto 4, 3) := by decide +kernel
theorem dX7_isFull_20 : decode cX7_isFull 20 = .ok (.iconst 0, 1) := by decide +kernel
theorem dX7_isFull_21 : decode cX7_isFull 21 = .ok (.ireturn, 1) := by decide +kernel
set_option maxRecDepth 20000 in
theorem ggX7_sends_X7_of : GoodIn wsX7_sends wsX7_of := goodIn_r _ [6, 1, 7, 8, 9, 10, 11, 12, 13, 14, 15, 16, 17, 18, 19, 20, 21, 22, 23] (by decide +kernel) (by decide +kernel)
set_option maxRecDepth 20000 in
theorem gX7_sends_X7_of : GoodIn wsX7_sends (wsV RX7 50 RX7 yX7_of wsX7_of) := goodIn_app (goodIn_of _ (by decide +kernel)) ggX7_sends_X7_of
theorem dX7_sends_0 : decode cX7_sends 0 = .ok (.aload_n 0, 1) := by decide +kernel
theorem dX7_sends_1 : decode cX7_sends 1 = .ok (.iload_n 1, 1) := by decide +kernel
theorem dX7_sends_2 : decode cX7_sends 2 = .ok (.iconst 0, 1) := by decide +kernel
theorem dX7_sends_3 : decode cX7_sends 3 = .ok (.invokevirtual 50, 3) := by decide +kernel
theorem dX7_sends_6 : decode cX7_sends 6 = .ok (.istore_n 2, 1) := by decide +kernel
theorem dX7_sends_7 : decode cX7_sends 7 = .ok (.iload_n 2, 1) := by decide +kernel
theorem dX7_sends_8 : decode cX7_sends 8 = .ok (.ifCond .ge 7, 3) := by decide +kernel
theorem dX7_sends_11 : decode cX7_sends 11 = .ok (.iconst (-1), 1) := by decide +kernel
theorem dX7_sends_12 : decode cX7_sends 12 = .ok (.goto 20, 3) := by decide +kernel
theorem dX7_sends_15 : decode cX7_sends 15 = .ok (.iload_n 2, 1) := by decide +kernel
theorem dX7_sends_16 : decode cX7_sends 16 = .ok (.ifCond .le 7, 3) := by decide +kernel
theorem dX7_sends_19 : decode cX7_sends 19 = .ok (.iconst 1, 1) := by decide +kernel
theorem dX7_sends_20 : decode cX7_sends 20 = .ok (.goto 12, 3) := by decide +kernel
theorem dX7_sends_23 : decode cX7_sends 23 = .ok (.aload_n 0, 1) := by decide +kernel
theorem dX7_sends_24 : decode cX7_sends 24 = .ok (.getfield 7, 3) := by decide +kernel
theorem dX7_sends_27 : decode cX7_sends 27 = .ok (.bipush 8, 2) := by decide +kernel
theorem dX7_sends_29 : decode cX7_sends 29 = .ok (.iaload, 1) := by decide +kernel
theorem dX7_sends_30 : decode cX7_sends 30 = .ok (.iconst 1, 1) := by decide +kernel
theorem dX7_sends_31 : decode cX7_sends 31 = .ok (.isub, 1) := by decide +kernel
theorem dX7_sends_32 : decode cX7_sends 32 = .ok (.ireturn, 1) := by decide +kernel
set_option maxRecDepth 20000 in
theorem ggX7_moved_X7_in : GoodIn wsX7_moved wsX7_in := goodIn_r _ [4] (by decide +kernel) (by decide +kernel)
set_option maxRecDepth 20000 in
theorem gX7_moved_X7_in : GoodIn wsX7_moved (va_wsS RX7 42 yX7_in wsX7_in) := goodIn_app (goodIn_of _ (by decide +kernel)) ggX7_moved_X7_in
theorem dX7_moved_0 : decode cX7_moved 0 = .ok (.iload_n 0, 1) := by decide +kernel
theorem dX7_moved_1 : decode cX7_moved 1 = .ok (.iload_n 1, 1) := by decide +kernel
theorem dX7_moved_2 : decode cX7_moved 2 = .ok (.iadd, 1) := by decide +kernel
theorem dX7_moved_3 : decode cX7_moved 3 = .ok (.iconst 0, 1) := by decide +kernel
theorem dX7_moved_4 : decode cX7_moved 4 = .ok (.bipush 6, 2) := by decide +kernel
theorem dX7_moved_6 : decode cX7_moved 6 = .ok (.invokestatic 42, 3) := by decide +kernel
theorem dX7_moved_9 : decode cX7_moved 9 = .ok (.ifCond .eq 9, 3) := by decide +kernel
theorem dX7_moved_12 : decode cX7_moved 12 = .ok (.iload_n 0, 1) := by decide +kernel
theorem dX7_moved_13 : decode cX7_moved 13 = .ok (.iload_n 1, 1) := by decide +kernel
theorem dX7_moved_14 : decode cX7_moved 14 = .ok (.iadd, 1) := by decide +kernel
theorem dX7_moved_15 : decode cX7_moved 15 = .ok (.goto 4, 3) := by decide +kernel
theorem dX7_moved_18 : decode cX7_moved 18 = .ok (.iload_n 0, 1) := by decide +kernel
theorem dX7_moved_19 : decode cX7_moved 19 = .ok (.ireturn, 1) := by decide +kernel
set_option maxRecDepth 20000 in
theorem ggX7_bends_X7_of : GoodIn wsX7_bends wsX7_of := goodIn_r _ [6, 1, 14, 15, 16, 17, 18, 19, 20, 21, 22, 23, 24, 25, 26, 27, 28, 29, 30] (by decide +kernel) (by decide +kernel)
set_option maxRecDepth 20000 in
theorem gX7_bends_X7_of : GoodIn wsX7_bends (wsV RX7 50 RX7 yX7_of wsX7_of) := goodIn_app (goodIn_of _ (by decide +kernel)) ggX7_bends_X7_of
set_option maxRecDepth 20000 in
theorem ggX7_bends_X7_in : GoodIn wsX7_bends wsX7_in := goodIn_r _ [9] (by decide +kernel) (by decide +kernel)
set_option maxRecDepth 20000 in
theorem gX7_bends_X7_in : GoodIn wsX7_bends (va_wsS RX7 42 yX7_in wsX7_in) := goodIn_app (goodIn_of _ (by decide +kernel)) ggX7_bends_X7_in
set_option maxRecDepth 20000 in
theorem ggX7_bends_X7_lays : GoodIn wsX7_bends wsX7_lays := goodIn_r _ [13, 1, 14, 15, 16, 17, 18, 19, 20, 21, 22, 23, 24, 25, 26, 27, 28, 29, 30] (by decide +kernel) (by decide +kernel)
set_option maxRecDepth 20000 in
theorem gX7_bends_X7_lays : GoodIn wsX7_bends (wsV RX7 53 RX7 yX7_lays wsX7_lays) := goodIn_app (goodIn_of _ (by decide +kernel)) ggX7_bends_X7_lays
theorem dX7_bends_0 : decode cX7_bends 0 = .ok (.aload_n 0, 1) := by decide +kernel
theorem dX7_bends_1 : decode cX7_bends 1 = .ok (.iload_n 1, 1) := by decide +kernel
theorem dX7_bends_2 : decode cX7_bends 2 = .ok (.iconst 0, 1) := by decide +kernel
theorem dX7_bends_3 : decode cX7_bends 3 = .ok (.invokevirtual 50, 3) := by decide +kernel
theorem dX7_bends_6 : decode cX7_bends 6 = .ok (.iload_n 2, 1) := by decide +kernel
theorem dX7_bends_7 : decode cX7_bends 7 = .ok (.iadd, 1) := by decide +kernel
theorem dX7_bends_8 : decode cX7_bends 8 = .ok (.istore_n 3, 1) := by decide +kernel
theorem dX7_bends_9 : decode cX7_bends 9 = .ok (.iload_n 3, 1) := by decide +kernel
theorem dX7_bends_10 : decode cX7_bends 10 = .ok (.bipush (-3), 2) := by decide +kernel
theorem dX7_bends_12 : decode cX7_bends 12 = .ok (.iconst 3, 1) := by decide +kernel
theorem dX7_bends_13 : decode cX7_bends 13 = .ok (.invokestatic 42, 3) := by decide +kernel
theorem dX7_bends_16 : decode cX7_bends 16 = .ok (.ifCond .eq 21, 3) := by decide +kernel
theorem dX7_bends_19 : decode cX7_bends 19 = .ok (.aload_n 0, 1) := by decide +kernel
theorem dX7_bends_20 : decode cX7_bends 20 = .ok (.iload_n 1, 1) := by decide +kernel
theorem dX7_bends_21 : decode cX7_bends 21 = .ok (.iconst 0, 1) := by decide +kernel
theorem dX7_bends_22 : decode cX7_bends 22 = .ok (.iload_n 3, 1) := by decide +kernel
theorem dX7_bends_23 : decode cX7_bends 23 = .ok (.invokevirtual 53, 3) := by decide +kernel
theorem dX7_bends_26 : decode cX7_bends 26 = .ok (.aload_n 0, 1) := by decide +kernel
theorem dX7_bends_27 : decode cX7_bends 27 = .ok (.getfield 7, 3) := by decide +kernel
theorem dX7_bends_30 : decode cX7_bends 30 = .ok (.bipush 6, 2) := by decide +kernel
theorem dX7_bends_32 : decode cX7_bends 32 = .ok (.dup2, 1) := by decide +kernel
theorem dX7_bends_33 : decode cX7_bends 33 = .ok (.iaload, 1) := by decide +kernel
theorem dX7_bends_34 : decode cX7_bends 34 = .ok (.iconst 1, 1) := by decide +kernel
theorem dX7_bends_35 : decode cX7_bends 35 = .ok (.iadd, 1) := by decide +kernel
theorem dX7_bends_36 : decode cX7_bends 36 = .ok (.iastore, 1) := by decide +kernel
theorem dX7_bends_37 : decode cX7_bends 37 = .ok (.return_, 1) := by decide +kernel
set_option maxRecDepth 20000 in
theorem ggX7_falls_X7_of : GoodIn wsX7_falls wsX7_of := goodIn_r _ [6, 7, 26, 27, 28, 29, 30, 31, 32, 33, 34, 35, 36, 37, 38, 39, 40, 41, 42] (by decide +kernel) (by decide +kernel)
set_option maxRecDepth 20000 in
theorem gX7_falls_X7_of : GoodIn wsX7_falls (wsV RX7 50 RX7 yX7_of wsX7_of) := goodIn_app (goodIn_of _ (by decide +kernel)) ggX7_falls_X7_of
set_option maxRecDepth 20000 in
theorem ggX7_falls_X7_lays : GoodIn wsX7_falls wsX7_lays := goodIn_r _ [11, 7, 26, 27, 28, 29, 30, 31, 32, 33, 34, 35, 36, 37, 38, 39, 40, 41, 42] (by decide +kernel) (by decide +kernel)
set_option maxRecDepth 20000 in
theorem gX7_falls_X7_lays : GoodIn wsX7_falls (wsV RX7 53 RX7 yX7_lays wsX7_lays) := goodIn_app (goodIn_of _ (by decide +kernel)) ggX7_falls_X7_lays
set_option maxRecDepth 20000 in
theorem ggX7_falls_X7_sends : GoodIn wsX7_falls wsX7_sends := goodIn_r _ [15, 7, 2, 3, 4, 5, 6, 26, 27, 28, 29, 30, 31, 32, 33, 34, 35, 36, 37, 38, 39, 40, 41, 42] (by decide +kernel) (by decide +kernel)
set_option maxRecDepth 20000 in
theorem gX7_falls_X7_sends : GoodIn wsX7_falls (wsV RX7 60 RX7 yX7_sends wsX7_sends) := goodIn_app (goodIn_of _ (by decide +kernel)) ggX7_falls_X7_sends
set_option maxRecDepth 20000 in
theorem ggX7_falls_X7_bends : GoodIn wsX7_falls wsX7_bends := goodIn_r _ [19, 7, 2, 3, 4, 5, 6, 20, 21, 22, 8, 9, 10, 11, 26, 27, 28, 29, 30, 31, 32, 33, 34, 35, 36, 37, 38, 39, 40, 41, 42] (by decide +kernel) (by decide +kernel)
set_option maxRecDepth 20000 in
theorem gX7_falls_X7_bends : GoodIn wsX7_falls (wsV RX7 64 RX7 yX7_bends wsX7_bends) := goodIn_app (goodIn_of _ (by decide +kernel)) ggX7_falls_X7_bends
set_option maxRecDepth 20000 in
theorem ggX7_falls_X7_moved : GoodIn wsX7_falls wsX7_moved := goodIn_r _ [25, 20, 21, 5, 22] (by decide +kernel) (by decide +kernel)
set_option maxRecDepth 20000 in
theorem gX7_falls_X7_moved : GoodIn wsX7_falls (va_wsS RX7 68 yX7_moved wsX7_moved) := goodIn_app (goodIn_of _ (by decide +kernel)) ggX7_falls_X7_moved
theorem dX7_falls_0 : decode cX7_falls 0 = .ok (.aload_n 0, 1) := by decide +kernel
theorem dX7_falls_1 : decode cX7_falls 1 = .ok (.iload_n 1, 1) := by decide +kernel
theorem dX7_falls_2 : decode cX7_falls 2 = .ok (.iconst 4, 1) := by decide +kernel
theorem dX7_falls_3 : decode cX7_falls 3 = .ok (.aload_n 0, 1) := by decide +kernel
theorem dX7_falls_4 : decode cX7_falls 4 = .ok (.iload_n 1, 1) := by decide +kernel
theorem dX7_falls_5 : decode cX7_falls 5 = .ok (.iconst 4, 1) := by decide +kernel
theorem dX7_falls_6 : decode cX7_falls 6 = .ok (.invokevirtual 50, 3) := by decide +kernel
theorem dX7_falls_9 : decode cX7_falls 9 = .ok (.iconst 1, 1) := by decide +kernel
theorem dX7_falls_10 : decode cX7_falls 10 = .ok (.iadd, 1) := by decide +kernel
theorem dX7_falls_11 : decode cX7_falls 11 = .ok (.invokevirtual 53, 3) := by decide +kernel
theorem dX7_falls_14 : decode cX7_falls 14 = .ok (.aload_n 0, 1) := by decide +kernel
theorem dX7_falls_15 : decode cX7_falls 15 = .ok (.iload_n 1, 1) := by decide +kernel
theorem dX7_falls_16 : decode cX7_falls 16 = .ok (.iconst 1, 1) := by decide +kernel
theorem dX7_falls_17 : decode cX7_falls 17 = .ok (.invokevirtual 50, 3) := by decide +kernel
theorem dX7_falls_20 : decode cX7_falls 20 = .ok (.iconst 1, 1) := by decide +kernel
theorem dX7_falls_21 : decode cX7_falls 21 = .ok (.if_icmp .ne 5, 3) := by decide +kernel
theorem dX7_falls_24 : decode cX7_falls 24 = .ok (.iload_n 2, 1) := by decide +kernel
theorem dX7_falls_25 : decode cX7_falls 25 = .ok (.ireturn, 1) := by decide +kernel
theorem dX7_falls_26 : decode cX7_falls 26 = .ok (.aload_n 0, 1) := by decide +kernel
theorem dX7_falls_27 : decode cX7_falls 27 = .ok (.dup, 1) := by decide +kernel
theorem dX7_falls_28 : decode cX7_falls 28 = .ok (.getfield 57, 3) := by decide +kernel
theorem dX7_falls_31 : decode cX7_falls 31 = .ok (.aload_n 0, 1) := by decide +kernel
theorem dX7_falls_32 : decode cX7_falls 32 = .ok (.iload_n 1, 1) := by decide +kernel
theorem dX7_falls_33 : decode cX7_falls 33 = .ok (.iconst 2, 1) := by decide +kernel
theorem dX7_falls_34 : decode cX7_falls 34 = .ok (.invokevirtual 50, 3) := by decide +kernel
theorem dX7_falls_37 : decode cX7_falls 37 = .ok (.iadd, 1) := by decide +kernel
theorem dX7_falls_38 : decode cX7_falls 38 = .ok (.putfield 57, 3) := by decide +kernel
theorem dX7_falls_41 : decode cX7_falls 41 = .ok (.aload_n 0, 1) := by decide +kernel
theorem dX7_falls_42 : decode cX7_falls 42 = .ok (.iload_n 1, 1) := by decide +kernel
theorem dX7_falls_43 : decode cX7_falls 43 = .ok (.invokevirtual 60, 3) := by decide +kernel
theorem dX7_falls_46 : decode cX7_falls 46 = .ok (.istore 4, 2) := by decide +kernel
theorem dX7_falls_48 : decode cX7_falls 48 = .ok (.iload 4, 2) := by decide +kernel
theorem dX7_falls_50 : decode cX7_falls 50 = .ok (.ifCond .ne 33, 3) := by decide +kernel
theorem dX7_falls_53 : decode cX7_falls 53 = .ok (.aload_n 0, 1) := by decide +kernel
theorem dX7_falls_54 : decode cX7_falls 54 = .ok (.iload_n 1, 1) := by decide +kernel
theorem dX7_falls_55 : decode cX7_falls 55 = .ok (.iconst 3, 1) := by decide +kernel
theorem dX7_falls_56 : decode cX7_falls 56 = .ok (.invokevirtual 50, 3) := by decide +kernel
theorem dX7_falls_59 : decode cX7_falls 59 = .ok (.ifCond .ne 7, 3) := by decide +kernel
theorem dX7_falls_62 : decode cX7_falls 62 = .ok (.iconst (-1), 1) := by decide +kernel
theorem dX7_falls_63 : decode cX7_falls 63 = .ok (.goto 4, 3) := by decide +kernel
theorem dX7_falls_66 : decode cX7_falls 66 = .ok (.iconst 1, 1) := by decide +kernel
theorem dX7_falls_67 : decode cX7_falls 67 = .ok (.istore 4, 2) := by decide +kernel
theorem dX7_falls_69 : decode cX7_falls 69 = .ok (.aload_n 0, 1) := by decide +kernel
theorem dX7_falls_70 : decode cX7_falls 70 = .ok (.iload_n 1, 1) := by decide +kernel
theorem dX7_falls_71 : decode cX7_falls 71 = .ok (.iconst 3, 1) := by decide +kernel
theorem dX7_falls_72 : decode cX7_falls 72 = .ok (.iconst 1, 1) := by decide +kernel
theorem dX7_falls_73 : decode cX7_falls 73 = .ok (.aload_n 0, 1) := by decide +kernel
theorem dX7_falls_74 : decode cX7_falls 74 = .ok (.iload_n 1, 1) := by decide +kernel
theorem dX7_falls_75 : decode cX7_falls 75 = .ok (.iconst 3, 1) := by decide +kernel
theorem dX7_falls_76 : decode cX7_falls 76 = .ok (.invokevirtual 50, 3) := by decide +kernel
theorem dX7_falls_79 : decode cX7_falls 79 = .ok (.isub, 1) := by decide +kernel
theorem dX7_falls_80 : decode cX7_falls 80 = .ok (.invokevirtual 53, 3) := by decide +kernel
theorem dX7_falls_83 : decode cX7_falls 83 = .ok (.iload_n 3, 1) := by decide +kernel
theorem dX7_falls_84 : decode cX7_falls 84 = .ok (.ifCond .eq 10, 3) := by decide +kernel
theorem dX7_falls_87 : decode cX7_falls 87 = .ok (.aload_n 0, 1) := by decide +kernel
theorem dX7_falls_88 : decode cX7_falls 88 = .ok (.iload_n 1, 1) := by decide +kernel
theorem dX7_falls_89 : decode cX7_falls 89 = .ok (.iload 4, 2) := by decide +kernel
theorem dX7_falls_91 : decode cX7_falls 91 = .ok (.invokevirtual 64, 3) := by decide +kernel
theorem dX7_falls_94 : decode cX7_falls 94 = .ok (.iload_n 2, 1) := by decide +kernel
theorem dX7_falls_95 : decode cX7_falls 95 = .ok (.iload 4, 2) := by decide +kernel
theorem dX7_falls_97 : decode cX7_falls 97 = .ok (.invokestatic 68, 3) := by decide +kernel
theorem dX7_falls_100 : decode cX7_falls 100 = .ok (.ireturn, 1) := by decide +kernel
set_option maxRecDepth 20000 in
theorem ggX7_fallsAll_X7_falls : GoodIn wsX7_fallsAll wsX7_falls := goodIn_r _ [6, 1, 7, 8, 9, 5, 10, 11, 12, 13, 14, 15, 16, 17, 18, 19, 20, 21, 22, 23, 24, 25, 26, 27, 28, 29, 30, 31, 32, 33, 34, 35, 36, 37, 38, 39, 40, 41, 42, 43, 44, 45, 46] (by decide +kernel) (by decide +kernel)
set_option maxRecDepth 20000 in
theorem gX7_fallsAll_X7_falls : GoodIn wsX7_fallsAll (wsV RX7 71 RX7 yX7_falls wsX7_falls) := goodIn_app (goodIn_of _ (by decide +kernel)) ggX7_fallsAll_X7_falls
theorem dX7_fallsAll_0 : decode cX7_fallsAll 0 = .ok (.aload_n 0, 1) := by decide +kernel
theorem dX7_fallsAll_1 : decode cX7_fallsAll 1 = .ok (.iconst 0, 1) := by decide +kernel
theorem dX7_fallsAll_2 : decode cX7_fallsAll 2 = .ok (.putfield 57, 3) := by decide +kernel
theorem dX7_fallsAll_5 : decode cX7_fallsAll 5 = .ok (.iload_n 1, 1) := by decide +kernel
theorem dX7_fallsAll_6 : decode cX7_fallsAll 6 = .ok (.istore_n 3, 1) := by decide +kernel
theorem dX7_fallsAll_7 : decode cX7_fallsAll 7 = .ok (.iconst 0, 1) := by decide +kernel
theorem dX7_fallsAll_8 : decode cX7_fallsAll 8 = .ok (.istore 4, 2) := by decide +kernel
theorem dX7_fallsAll_10 : decode cX7_fallsAll 10 = .ok (.iload 4, 2) := by decide +kernel
theorem dX7_fallsAll_12 : decode cX7_fallsAll 12 = .ok (.iconst 5, 1) := by decide +kernel
theorem dX7_fallsAll_13 : decode cX7_fallsAll 13 = .ok (.if_icmp .ge 23, 3) := by decide +kernel
theorem dX7_fallsAll_16 : decode cX7_fallsAll 16 = .ok (.aload_n 0, 1) := by decide +kernel
theorem dX7_fallsAll_17 : decode cX7_fallsAll 17 = .ok (.bipush 7, 2) := by decide +kernel
theorem dX7_fallsAll_19 : decode cX7_fallsAll 19 = .ok (.iload 4, 2) := by decide +kernel
theorem dX7_fallsAll_21 : decode cX7_fallsAll 21 = .ok (.imul, 1) := by decide +kernel
theorem dX7_fallsAll_22 : decode cX7_fallsAll 22 = .ok (.iload_n 3, 1) := by decide +kernel
theorem dX7_fallsAll_23 : decode cX7_fallsAll 23 = .ok (.iadd, 1) := by decide +kernel
theorem dX7_fallsAll_24 : decode cX7_fallsAll 24 = .ok (.iload_n 3, 1) := by decide +kernel
theorem dX7_fallsAll_25 : decode cX7_fallsAll 25 = .ok (.iload_n 2, 1) := by decide +kernel
theorem dX7_fallsAll_26 : decode cX7_fallsAll 26 = .ok (.invokevirtual 71, 3) := by decide +kernel
theorem dX7_fallsAll_29 : decode cX7_fallsAll 29 = .ok (.istore_n 3, 1) := by decide +kernel
theorem dX7_fallsAll_30 : decode cX7_fallsAll 30 = .ok (.iinc 4 1, 3) := by decide +kernel
theorem dX7_fallsAll_33 : decode cX7_fallsAll 33 = .ok (.goto (-23), 3) := by decide +kernel
theorem dX7_fallsAll_36 : decode cX7_fallsAll 36 = .ok (.iload_n 3, 1) := by decide +kernel
theorem dX7_fallsAll_37 : decode cX7_fallsAll 37 = .ok (.ireturn, 1) := by decide +kernel
set_option maxRecDepth 20000 in
theorem ggX7_goShoot_X7_fallsAll : GoodIn wsX7_goShoot wsX7_fallsAll := goodIn_r _ [7, 2, 8, 9, 10, 6, 11, 12, 13, 14, 15, 1, 16, 17, 18, 19, 20, 21, 22, 23, 24, 25, 26, 27, 28, 29, 30, 31, 32, 33, 46, 47, 48, 49, 50, 51, 52, 53, 54, 55, 56, 57, 58, 59, 60, 61, 62] (by decide +kernel) (by decide +kernel)
set_option maxRecDepth 20000 in
theorem gX7_goShoot_X7_fallsAll : GoodIn wsX7_goShoot (wsV RX7 75 RX7 yX7_fallsAll wsX7_fallsAll) := goodIn_app (goodIn_of _ (by decide +kernel)) ggX7_goShoot_X7_fallsAll
set_option maxRecDepth 20000 in
theorem ggX7_goShoot_X7_adds : GoodIn wsX7_goShoot wsX7_adds := goodIn_r _ [37, 1, 46, 47, 48, 49, 50, 51, 52, 53, 54, 55, 56, 57, 58, 59, 60, 61, 62] (by decide +kernel) (by decide +kernel)
set_option maxRecDepth 20000 in
theorem gX7_goShoot_X7_adds : GoodIn wsX7_goShoot (wsV RX7 79 RX7 yX7_adds wsX7_adds) := goodIn_app (goodIn_of _ (by decide +kernel)) ggX7_goShoot_X7_adds
set_option maxRecDepth 20000 in
theorem ggX7_goShoot_X7_isFull : GoodIn wsX7_goShoot wsX7_isFull := goodIn_r _ [41, 1, 42, 43, 44, 6, 45, 46, 47, 48, 49, 50, 51, 52, 53, 54, 55, 56, 57, 58, 59, 60, 61, 62] (by decide +kernel) (by decide +kernel)
set_option maxRecDepth 20000 in
theorem gX7_goShoot_X7_isFull : GoodIn wsX7_goShoot (wsV RX7 82 RX7 yX7_isFull wsX7_isFull) := goodIn_app (goodIn_of _ (by decide +kernel)) ggX7_goShoot_X7_isFull
set_option maxRecDepth 20000 in
theorem ggX7_goShoot_X7_inPocket : GoodIn wsX7_goShoot wsX7_inPocket := goodIn_r _ [45, 1, 46, 47, 48, 49, 50, 51, 52, 53, 54, 55, 56, 57, 58, 59, 60, 61, 62] (by decide +kernel) (by decide +kernel)
set_option maxRecDepth 20000 in
theorem gX7_goShoot_X7_inPocket : GoodIn wsX7_goShoot (wsV RX7 46 RX7 yX7_inPocket wsX7_inPocket) := goodIn_app (goodIn_of _ (by decide +kernel)) ggX7_goShoot_X7_inPocket
theorem dX7_goShoot_0 : decode cX7_goShoot 0 = .ok (.aload_n 0, 1) := by decide +kernel
theorem dX7_goShoot_1 : decode cX7_goShoot 1 = .ok (.getfield 7, 3) := by decide +kernel
theorem dX7_goShoot_4 : decode cX7_goShoot 4 = .ok (.iconst 1, 1) := by decide +kernel
theorem dX7_goShoot_5 : decode cX7_goShoot 5 = .ok (.iaload, 1) := by decide +kernel
theorem dX7_goShoot_6 : decode cX7_goShoot 6 = .ok (.ifCond .ne 16, 3) := by decide +kernel
theorem dX7_goShoot_9 : decode cX7_goShoot 9 = .ok (.aload_n 0, 1) := by decide +kernel
theorem dX7_goShoot_10 : decode cX7_goShoot 10 = .ok (.getfield 7, 3) := by decide +kernel
theorem dX7_goShoot_13 : decode cX7_goShoot 13 = .ok (.bipush 7, 2) := by decide +kernel
theorem dX7_goShoot_15 : decode cX7_goShoot 15 = .ok (.dup2, 1) := by decide +kernel
theorem dX7_goShoot_16 : decode cX7_goShoot 16 = .ok (.iaload, 1) := by decide +kernel
theorem dX7_goShoot_17 : decode cX7_goShoot 17 = .ok (.iconst 1, 1) := by decide +kernel
theorem dX7_goShoot_18 : decode cX7_goShoot 18 = .ok (.iadd, 1) := by decide +kernel
theorem dX7_goShoot_19 : decode cX7_goShoot 19 = .ok (.iastore, 1) := by decide +kernel
theorem dX7_goShoot_20 : decode cX7_goShoot 20 = .ok (.iconst 1, 1) := by decide +kernel
theorem dX7_goShoot_21 : decode cX7_goShoot 21 = .ok (.ireturn, 1) := by decide +kernel
theorem dX7_goShoot_22 : decode cX7_goShoot 22 = .ok (.aload_n 0, 1) := by decide +kernel
theorem dX7_goShoot_23 : decode cX7_goShoot 23 = .ok (.getfield 7, 3) := by decide +kernel
theorem dX7_goShoot_26 : decode cX7_goShoot 26 = .ok (.iconst 1, 1) := by decide +kernel
theorem dX7_goShoot_27 : decode cX7_goShoot 27 = .ok (.dup2, 1) := by decide +kernel
theorem dX7_goShoot_28 : decode cX7_goShoot 28 = .ok (.iaload, 1) := by decide +kernel
theorem dX7_goShoot_29 : decode cX7_goShoot 29 = .ok (.iconst 1, 1) := by decide +kernel
theorem dX7_goShoot_30 : decode cX7_goShoot 30 = .ok (.isub, 1) := by decide +kernel
theorem dX7_goShoot_31 : decode cX7_goShoot 31 = .ok (.iastore, 1) := by decide +kernel
theorem dX7_goShoot_32 : decode cX7_goShoot 32 = .ok (.aload_n 0, 1) := by decide +kernel
theorem dX7_goShoot_33 : decode cX7_goShoot 33 = .ok (.getfield 7, 3) := by decide +kernel
theorem dX7_goShoot_36 : decode cX7_goShoot 36 = .ok (.iconst 3, 1) := by decide +kernel
theorem dX7_goShoot_37 : decode cX7_goShoot 37 = .ok (.dup2, 1) := by decide +kernel
theorem dX7_goShoot_38 : decode cX7_goShoot 38 = .ok (.iaload, 1) := by decide +kernel
theorem dX7_goShoot_39 : decode cX7_goShoot 39 = .ok (.iconst 1, 1) := by decide +kernel
theorem dX7_goShoot_40 : decode cX7_goShoot 40 = .ok (.iadd, 1) := by decide +kernel
theorem dX7_goShoot_41 : decode cX7_goShoot 41 = .ok (.iastore, 1) := by decide +kernel
theorem dX7_goShoot_42 : decode cX7_goShoot 42 = .ok (.aload_n 0, 1) := by decide +kernel
theorem dX7_goShoot_43 : decode cX7_goShoot 43 = .ok (.getfield 7, 3) := by decide +kernel
theorem dX7_goShoot_46 : decode cX7_goShoot 46 = .ok (.iconst 4, 1) := by decide +kernel
theorem dX7_goShoot_47 : decode cX7_goShoot 47 = .ok (.dup2, 1) := by decide +kernel
theorem dX7_goShoot_48 : decode cX7_goShoot 48 = .ok (.iaload, 1) := by decide +kernel
theorem dX7_goShoot_49 : decode cX7_goShoot 49 = .ok (.iload_n 2, 1) := by decide +kernel
theorem dX7_goShoot_50 : decode cX7_goShoot 50 = .ok (.ifCond .eq 7, 3) := by decide +kernel
theorem dX7_goShoot_53 : decode cX7_goShoot 53 = .ok (.iconst 1, 1) := by decide +kernel
theorem dX7_goShoot_54 : decode cX7_goShoot 54 = .ok (.goto 4, 3) := by decide +kernel
theorem dX7_goShoot_57 : decode cX7_goShoot 57 = .ok (.iconst 0, 1) := by decide +kernel
theorem dX7_goShoot_58 : decode cX7_goShoot 58 = .ok (.iadd, 1) := by decide +kernel
theorem dX7_goShoot_59 : decode cX7_goShoot 59 = .ok (.iastore, 1) := by decide +kernel
theorem dX7_goShoot_60 : decode cX7_goShoot 60 = .ok (.aload_n 0, 1) := by decide +kernel
theorem dX7_goShoot_61 : decode cX7_goShoot 61 = .ok (.iload_n 1, 1) := by decide +kernel
theorem dX7_goShoot_62 : decode cX7_goShoot 62 = .ok (.iload_n 2, 1) := by decide +kernel
theorem dX7_goShoot_63 : decode cX7_goShoot 63 = .ok (.invokevirtual 75, 3) := by decide +kernel
theorem dX7_goShoot_66 : decode cX7_goShoot 66 = .ok (.istore_n 3, 1) := by decide +kernel
theorem dX7_goShoot_67 : decode cX7_goShoot 67 = .ok (.aload_n 0, 1) := by decide +kernel
theorem dX7_goShoot_68 : decode cX7_goShoot 68 = .ok (.getfield 57, 3) := by decide +kernel
theorem dX7_goShoot_71 : decode cX7_goShoot 71 = .ok (.istore 4, 2) := by decide +kernel
theorem dX7_goShoot_73 : decode cX7_goShoot 73 = .ok (.aload_n 0, 1) := by decide +kernel
theorem dX7_goShoot_74 : decode cX7_goShoot 74 = .ok (.getfield 7, 3) := by decide +kernel
theorem dX7_goShoot_77 : decode cX7_goShoot 77 = .ok (.iconst 5, 1) := by decide +kernel
theorem dX7_goShoot_78 : decode cX7_goShoot 78 = .ok (.dup2, 1) := by decide +kernel
theorem dX7_goShoot_79 : decode cX7_goShoot 79 = .ok (.iaload, 1) := by decide +kernel
theorem dX7_goShoot_80 : decode cX7_goShoot 80 = .ok (.aload_n 0, 1) := by decide +kernel
theorem dX7_goShoot_81 : decode cX7_goShoot 81 = .ok (.getfield 57, 3) := by decide +kernel
theorem dX7_goShoot_84 : decode cX7_goShoot 84 = .ok (.iadd, 1) := by decide +kernel
theorem dX7_goShoot_85 : decode cX7_goShoot 85 = .ok (.iastore, 1) := by decide +kernel
theorem dX7_goShoot_86 : decode cX7_goShoot 86 = .ok (.aload_n 0, 1) := by decide +kernel
theorem dX7_goShoot_87 : decode cX7_goShoot 87 = .ok (.iload_n 3, 1) := by decide +kernel
theorem dX7_goShoot_88 : decode cX7_goShoot 88 = .ok (.iconst 2, 1) := by decide +kernel
theorem dX7_goShoot_89 : decode cX7_goShoot 89 = .ok (.iconst 1, 1) := by decide +kernel
theorem dX7_goShoot_90 : decode cX7_goShoot 90 = .ok (.invokevirtual 79, 3) := by decide +kernel
theorem dX7_goShoot_93 : decode cX7_goShoot 93 = .ok (.aload_n 0, 1) := by decide +kernel
theorem dX7_goShoot_94 : decode cX7_goShoot 94 = .ok (.iload_n 3, 1) := by decide +kernel
theorem dX7_goShoot_95 : decode cX7_goShoot 95 = .ok (.invokevirtual 82, 3) := by decide +kernel
theorem dX7_goShoot_98 : decode cX7_goShoot 98 = .ok (.ifCond .eq 16, 3) := by decide +kernel
theorem dX7_goShoot_101 : decode cX7_goShoot 101 = .ok (.aload_n 0, 1) := by decide +kernel
theorem dX7_goShoot_102 : decode cX7_goShoot 102 = .ok (.getfield 7, 3) := by decide +kernel
theorem dX7_goShoot_105 : decode cX7_goShoot 105 = .ok (.iconst 2, 1) := by decide +kernel
theorem dX7_goShoot_106 : decode cX7_goShoot 106 = .ok (.dup2, 1) := by decide +kernel
theorem dX7_goShoot_107 : decode cX7_goShoot 107 = .ok (.iaload, 1) := by decide +kernel
theorem dX7_goShoot_108 : decode cX7_goShoot 108 = .ok (.iconst 1, 1) := by decide +kernel
theorem dX7_goShoot_109 : decode cX7_goShoot 109 = .ok (.iadd, 1) := by decide +kernel
theorem dX7_goShoot_110 : decode cX7_goShoot 110 = .ok (.iastore, 1) := by decide +kernel
theorem dX7_goShoot_111 : decode cX7_goShoot 111 = .ok (.goto 21, 3) := by decide +kernel
theorem dX7_goShoot_114 : decode cX7_goShoot 114 = .ok (.iload 4, 2) := by decide +kernel
theorem dX7_goShoot_116 : decode cX7_goShoot 116 = .ok (.aload_n 0, 1) := by decide +kernel
theorem dX7_goShoot_117 : decode cX7_goShoot 117 = .ok (.iload_n 3, 1) := by decide +kernel
theorem dX7_goShoot_118 : decode cX7_goShoot 118 = .ok (.iconst 0, 1) := by decide +kernel
theorem dX7_goShoot_119 : decode cX7_goShoot 119 = .ok (.invokevirtual 46, 3) := by decide +kernel
theorem dX7_goShoot_122 : decode cX7_goShoot 122 = .ok (.iadd, 1) := by decide +kernel
theorem dX7_goShoot_123 : decode cX7_goShoot 123 = .ok (.istore 4, 2) := by decide +kernel
theorem dX7_goShoot_125 : decode cX7_goShoot 125 = .ok (.aload_n 0, 1) := by decide +kernel
theorem dX7_goShoot_126 : decode cX7_goShoot 126 = .ok (.iload_n 3, 1) := by decide +kernel
theorem dX7_goShoot_127 : decode cX7_goShoot 127 = .ok (.iconst 1, 1) := by decide +kernel
theorem dX7_goShoot_128 : decode cX7_goShoot 128 = .ok (.iconst 1, 1) := by decide +kernel
theorem dX7_goShoot_129 : decode cX7_goShoot 129 = .ok (.invokevirtual 79, 3) := by decide +kernel
theorem dX7_goShoot_132 : decode cX7_goShoot 132 = .ok (.aload_n 0, 1) := by decide +kernel
theorem dX7_goShoot_133 : decode cX7_goShoot 133 = .ok (.getfield 7, 3) := by decide +kernel
theorem dX7_goShoot_136 : decode cX7_goShoot 136 = .ok (.iconst 0, 1) := by decide +kernel
theorem dX7_goShoot_137 : decode cX7_goShoot 137 = .ok (.dup2, 1) := by decide +kernel
theorem dX7_goShoot_138 : decode cX7_goShoot 138 = .ok (.iaload, 1) := by decide +kernel
theorem dX7_goShoot_139 : decode cX7_goShoot 139 = .ok (.iload 4, 2) := by decide +kernel
theorem dX7_goShoot_141 : decode cX7_goShoot 141 = .ok (.iadd, 1) := by decide +kernel
theorem dX7_goShoot_142 : decode cX7_goShoot 142 = .ok (.iastore, 1) := by decide +kernel
theorem dX7_goShoot_143 : decode cX7_goShoot 143 = .ok (.bipush 10, 2) := by decide +kernel
theorem dX7_goShoot_145 : decode cX7_goShoot 145 = .ok (.iload 4, 2) := by decide +kernel
theorem dX7_goShoot_147 : decode cX7_goShoot 147 = .ok (.iadd, 1) := by decide +kernel
theorem dX7_goShoot_148 : decode cX7_goShoot 148 = .ok (.ireturn, 1) := by decide +kernel
set_option maxRecDepth 20000 in
theorem ggX7_goEmpty_X7_inPocket : GoodIn wsX7_goEmpty wsX7_inPocket := goodIn_r _ [6, 1, 11, 12, 13, 14, 15, 16, 17, 18, 19, 20, 21, 22, 23, 24, 25, 26, 27] (by decide +kernel) (by decide +kernel)
set_option maxRecDepth 20000 in
theorem gX7_goEmpty_X7_inPocket : GoodIn wsX7_goEmpty (wsV RX7 46 RX7 yX7_inPocket wsX7_inPocket) := goodIn_app (goodIn_of _ (by decide +kernel)) ggX7_goEmpty_X7_inPocket
set_option maxRecDepth 20000 in
theorem ggX7_goEmpty_X7_adds : GoodIn wsX7_goEmpty wsX7_adds := goodIn_r _ [10, 1, 11, 12, 13, 14, 15, 16, 17, 18, 19, 20, 21, 22, 23, 24, 25, 26, 27] (by decide +kernel) (by decide +kernel)
set_option maxRecDepth 20000 in
theorem gX7_goEmpty_X7_adds : GoodIn wsX7_goEmpty (wsV RX7 79 RX7 yX7_adds wsX7_adds) := goodIn_app (goodIn_of _ (by decide +kernel)) ggX7_goEmpty_X7_adds
theorem dX7_goEmpty_0 : decode cX7_goEmpty 0 = .ok (.aload_n 0, 1) := by decide +kernel
theorem dX7_goEmpty_1 : decode cX7_goEmpty 1 = .ok (.getfield 7, 3) := by decide +kernel
theorem dX7_goEmpty_4 : decode cX7_goEmpty 4 = .ok (.iconst 1, 1) := by decide +kernel
theorem dX7_goEmpty_5 : decode cX7_goEmpty 5 = .ok (.dup2, 1) := by decide +kernel
theorem dX7_goEmpty_6 : decode cX7_goEmpty 6 = .ok (.iaload, 1) := by decide +kernel
theorem dX7_goEmpty_7 : decode cX7_goEmpty 7 = .ok (.aload_n 0, 1) := by decide +kernel
theorem dX7_goEmpty_8 : decode cX7_goEmpty 8 = .ok (.getfield 7, 3) := by decide +kernel
theorem dX7_goEmpty_11 : decode cX7_goEmpty 11 = .ok (.iconst 2, 1) := by decide +kernel
theorem dX7_goEmpty_12 : decode cX7_goEmpty 12 = .ok (.iaload, 1) := by decide +kernel
theorem dX7_goEmpty_13 : decode cX7_goEmpty 13 = .ok (.iadd, 1) := by decide +kernel
theorem dX7_goEmpty_14 : decode cX7_goEmpty 14 = .ok (.iastore, 1) := by decide +kernel
theorem dX7_goEmpty_15 : decode cX7_goEmpty 15 = .ok (.aload_n 0, 1) := by decide +kernel
theorem dX7_goEmpty_16 : decode cX7_goEmpty 16 = .ok (.getfield 7, 3) := by decide +kernel
theorem dX7_goEmpty_19 : decode cX7_goEmpty 19 = .ok (.iconst 2, 1) := by decide +kernel
theorem dX7_goEmpty_20 : decode cX7_goEmpty 20 = .ok (.iconst 0, 1) := by decide +kernel
theorem dX7_goEmpty_21 : decode cX7_goEmpty 21 = .ok (.iastore, 1) := by decide +kernel
theorem dX7_goEmpty_22 : decode cX7_goEmpty 22 = .ok (.iconst 0, 1) := by decide +kernel
theorem dX7_goEmpty_23 : decode cX7_goEmpty 23 = .ok (.istore_n 1, 1) := by decide +kernel
theorem dX7_goEmpty_24 : decode cX7_goEmpty 24 = .ok (.iload_n 1, 1) := by decide +kernel
theorem dX7_goEmpty_25 : decode cX7_goEmpty 25 = .ok (.bipush 7, 2) := by decide +kernel
theorem dX7_goEmpty_27 : decode cX7_goEmpty 27 = .ok (.if_icmp .ge 37, 3) := by decide +kernel
theorem dX7_goEmpty_30 : decode cX7_goEmpty 30 = .ok (.aload_n 0, 1) := by decide +kernel
theorem dX7_goEmpty_31 : decode cX7_goEmpty 31 = .ok (.getfield 7, 3) := by decide +kernel
theorem dX7_goEmpty_34 : decode cX7_goEmpty 34 = .ok (.iconst 1, 1) := by decide +kernel
theorem dX7_goEmpty_35 : decode cX7_goEmpty 35 = .ok (.dup2, 1) := by decide +kernel
theorem dX7_goEmpty_36 : decode cX7_goEmpty 36 = .ok (.iaload, 1) := by decide +kernel
theorem dX7_goEmpty_37 : decode cX7_goEmpty 37 = .ok (.aload_n 0, 1) := by decide +kernel
theorem dX7_goEmpty_38 : decode cX7_goEmpty 38 = .ok (.iload_n 1, 1) := by decide +kernel
theorem dX7_goEmpty_39 : decode cX7_goEmpty 39 = .ok (.iconst 1, 1) := by decide +kernel
theorem dX7_goEmpty_40 : decode cX7_goEmpty 40 = .ok (.invokevirtual 46, 3) := by decide +kernel
theorem dX7_goEmpty_43 : decode cX7_goEmpty 43 = .ok (.iadd, 1) := by decide +kernel
theorem dX7_goEmpty_44 : decode cX7_goEmpty 44 = .ok (.iastore, 1) := by decide +kernel
theorem dX7_goEmpty_45 : decode cX7_goEmpty 45 = .ok (.aload_n 0, 1) := by decide +kernel
theorem dX7_goEmpty_46 : decode cX7_goEmpty 46 = .ok (.iload_n 1, 1) := by decide +kernel
theorem dX7_goEmpty_47 : decode cX7_goEmpty 47 = .ok (.iconst 1, 1) := by decide +kernel
theorem dX7_goEmpty_48 : decode cX7_goEmpty 48 = .ok (.aload_n 0, 1) := by decide +kernel
theorem dX7_goEmpty_49 : decode cX7_goEmpty 49 = .ok (.iload_n 1, 1) := by decide +kernel
theorem dX7_goEmpty_50 : decode cX7_goEmpty 50 = .ok (.iconst 1, 1) := by decide +kernel
theorem dX7_goEmpty_51 : decode cX7_goEmpty 51 = .ok (.invokevirtual 46, 3) := by decide +kernel
theorem dX7_goEmpty_54 : decode cX7_goEmpty 54 = .ok (.ineg, 1) := by decide +kernel
theorem dX7_goEmpty_55 : decode cX7_goEmpty 55 = .ok (.invokevirtual 79, 3) := by decide +kernel
theorem dX7_goEmpty_58 : decode cX7_goEmpty 58 = .ok (.iinc 1 1, 3) := by decide +kernel
theorem dX7_goEmpty_61 : decode cX7_goEmpty 61 = .ok (.goto (-37), 3) := by decide +kernel
theorem dX7_goEmpty_64 : decode cX7_goEmpty 64 = .ok (.aload_n 0, 1) := by decide +kernel
theorem dX7_goEmpty_65 : decode cX7_goEmpty 65 = .ok (.getfield 7, 3) := by decide +kernel
theorem dX7_goEmpty_68 : decode cX7_goEmpty 68 = .ok (.iconst 1, 1) := by decide +kernel
theorem dX7_goEmpty_69 : decode cX7_goEmpty 69 = .ok (.iaload, 1) := by decide +kernel
theorem dX7_goEmpty_70 : decode cX7_goEmpty 70 = .ok (.ireturn, 1) := by decide +kernel
set_option maxRecDepth 20000 in
theorem ggX7_shoot_X7_isPlace : GoodIn wsX7_shoot wsX7_isPlace := goodIn_r _ [4, 5, 6, 3, 7] (by decide +kernel) (by decide +kernel)
set_option maxRecDepth 20000 in
theorem gX7_shoot_X7_isPlace : GoodIn wsX7_shoot (va_wsS RX7 86 yX7_isPlace wsX7_isPlace) := goodIn_app (goodIn_of _ (by decide +kernel)) ggX7_shoot_X7_isPlace
set_option maxRecDepth 20000 in
theorem ggX7_shoot_X7_records : GoodIn wsX7_shoot wsX7_records := goodIn_r _ [11, 12, 13, 14, 15, 16, 3, 17, 62, 63, 64, 65, 66, 67, 68, 69, 70, 71, 72, 73, 74, 75, 76, 77, 78] (by decide +kernel) (by decide +kernel)
set_option maxRecDepth 20000 in
theorem gX7_shoot_X7_records : GoodIn wsX7_shoot (wsV RX7 89 RX7 yX7_records wsX7_records) := goodIn_app (goodIn_of _ (by decide +kernel)) ggX7_shoot_X7_records
set_option maxRecDepth 20000 in
theorem ggX7_shoot_X7_goShoot : GoodIn wsX7_shoot wsX7_goShoot := goodIn_r _ [21, 14, 22, 23, 24, 25, 3, 26, 27, 28, 29, 30, 31, 32, 33, 34, 35, 36, 37, 38, 39, 40, 41, 42, 43, 44, 45, 46, 5, 6, 7, 47, 48, 49, 50, 51, 52, 53, 54, 55, 56, 57, 58, 59, 60, 61, 62, 63, 64, 65, 66, 67, 68, 69, 70, 71, 72, 73, 74, 75, 76, 77, 78] (by decide +kernel) (by decide +kernel)
set_option maxRecDepth 20000 in
theorem gX7_shoot_X7_goShoot : GoodIn wsX7_shoot (wsV RX7 92 RX7 yX7_goShoot wsX7_goShoot) := goodIn_app (goodIn_of _ (by decide +kernel)) ggX7_shoot_X7_goShoot
theorem dX7_shoot_0 : decode cX7_shoot 0 = .ok (.iload_n 1, 1) := by decide +kernel
theorem dX7_shoot_1 : decode cX7_shoot 1 = .ok (.invokestatic 86, 3) := by decide +kernel
theorem dX7_shoot_4 : decode cX7_shoot 4 = .ok (.ifCond .ne 5, 3) := by decide +kernel
theorem dX7_shoot_7 : decode cX7_shoot 7 = .ok (.iconst (-1), 1) := by decide +kernel
theorem dX7_shoot_8 : decode cX7_shoot 8 = .ok (.ireturn, 1) := by decide +kernel
theorem dX7_shoot_9 : decode cX7_shoot 9 = .ok (.aload_n 0, 1) := by decide +kernel
theorem dX7_shoot_10 : decode cX7_shoot 10 = .ok (.invokevirtual 89, 3) := by decide +kernel
theorem dX7_shoot_13 : decode cX7_shoot 13 = .ok (.aload_n 0, 1) := by decide +kernel
theorem dX7_shoot_14 : decode cX7_shoot 14 = .ok (.iload_n 1, 1) := by decide +kernel
theorem dX7_shoot_15 : decode cX7_shoot 15 = .ok (.iload_n 2, 1) := by decide +kernel
theorem dX7_shoot_16 : decode cX7_shoot 16 = .ok (.invokevirtual 92, 3) := by decide +kernel
theorem dX7_shoot_19 : decode cX7_shoot 19 = .ok (.ireturn, 1) := by decide +kernel
set_option maxRecDepth 20000 in
theorem ggX7_bend_X7_isPin : GoodIn wsX7_bend wsX7_isPin := goodIn_r _ [5, 6, 7, 4, 8] (by decide +kernel) (by decide +kernel)
set_option maxRecDepth 20000 in
theorem gX7_bend_X7_isPin : GoodIn wsX7_bend (va_wsS RX7 95 yX7_isPin wsX7_isPin) := goodIn_app (goodIn_of _ (by decide +kernel)) ggX7_bend_X7_isPin
set_option maxRecDepth 20000 in
theorem ggX7_bend_X7_records : GoodIn wsX7_bend wsX7_records := goodIn_r _ [12, 13, 14, 1, 15, 16, 4, 17, 26, 27, 28, 29, 30, 31, 32, 33, 34, 35, 36, 37, 38, 39, 40, 41, 42] (by decide +kernel) (by decide +kernel)
set_option maxRecDepth 20000 in
theorem gX7_bend_X7_records : GoodIn wsX7_bend (wsV RX7 89 RX7 yX7_records wsX7_records) := goodIn_app (goodIn_of _ (by decide +kernel)) ggX7_bend_X7_records
set_option maxRecDepth 20000 in
theorem ggX7_bend_X7_of : GoodIn wsX7_bend wsX7_of := goodIn_r _ [21, 1, 26, 27, 28, 29, 30, 31, 32, 33, 34, 35, 36, 37, 38, 39, 40, 41, 42] (by decide +kernel) (by decide +kernel)
set_option maxRecDepth 20000 in
theorem gX7_bend_X7_of : GoodIn wsX7_bend (wsV RX7 50 RX7 yX7_of wsX7_of) := goodIn_app (goodIn_of _ (by decide +kernel)) ggX7_bend_X7_of
set_option maxRecDepth 20000 in
theorem ggX7_bend_X7_in : GoodIn wsX7_bend wsX7_in := goodIn_r _ [8] (by decide +kernel) (by decide +kernel)
set_option maxRecDepth 20000 in
theorem gX7_bend_X7_in : GoodIn wsX7_bend (va_wsS RX7 42 yX7_in wsX7_in) := goodIn_app (goodIn_of _ (by decide +kernel)) ggX7_bend_X7_in
set_option maxRecDepth 20000 in
theorem ggX7_bend_X7_lays : GoodIn wsX7_bend wsX7_lays := goodIn_r _ [25, 1, 26, 27, 28, 29, 30, 31, 32, 33, 34, 35, 36, 37, 38, 39, 40, 41, 42] (by decide +kernel) (by decide +kernel)
set_option maxRecDepth 20000 in
theorem gX7_bend_X7_lays : GoodIn wsX7_bend (wsV RX7 53 RX7 yX7_lays wsX7_lays) := goodIn_app (goodIn_of _ (by decide +kernel)) ggX7_bend_X7_lays
theorem dX7_bend_0 : decode cX7_bend 0 = .ok (.iload_n 1, 1) := by decide +kernel
theorem dX7_bend_1 : decode cX7_bend 1 = .ok (.invokestatic 95, 3) := by decide +kernel
theorem dX7_bend_4 : decode cX7_bend 4 = .ok (.ifCond .ne 5, 3) := by decide +kernel
theorem dX7_bend_7 : decode cX7_bend 7 = .ok (.iconst (-1), 1) := by decide +kernel
theorem dX7_bend_8 : decode cX7_bend 8 = .ok (.ireturn, 1) := by decide +kernel
theorem dX7_bend_9 : decode cX7_bend 9 = .ok (.aload_n 0, 1) := by decide +kernel
theorem dX7_bend_10 : decode cX7_bend 10 = .ok (.invokevirtual 89, 3) := by decide +kernel
theorem dX7_bend_13 : decode cX7_bend 13 = .ok (.aload_n 0, 1) := by decide +kernel
theorem dX7_bend_14 : decode cX7_bend 14 = .ok (.iload_n 1, 1) := by decide +kernel
theorem dX7_bend_15 : decode cX7_bend 15 = .ok (.iconst 0, 1) := by decide +kernel
theorem dX7_bend_16 : decode cX7_bend 16 = .ok (.invokevirtual 50, 3) := by decide +kernel
theorem dX7_bend_19 : decode cX7_bend 19 = .ok (.iload_n 2, 1) := by decide +kernel
theorem dX7_bend_20 : decode cX7_bend 20 = .ok (.ifCond .eq 7, 3) := by decide +kernel
theorem dX7_bend_23 : decode cX7_bend 23 = .ok (.iconst 1, 1) := by decide +kernel
theorem dX7_bend_24 : decode cX7_bend 24 = .ok (.goto 4, 3) := by decide +kernel
theorem dX7_bend_27 : decode cX7_bend 27 = .ok (.iconst (-1), 1) := by decide +kernel
theorem dX7_bend_28 : decode cX7_bend 28 = .ok (.iadd, 1) := by decide +kernel
theorem dX7_bend_29 : decode cX7_bend 29 = .ok (.istore_n 3, 1) := by decide +kernel
theorem dX7_bend_30 : decode cX7_bend 30 = .ok (.aload_n 0, 1) := by decide +kernel
theorem dX7_bend_31 : decode cX7_bend 31 = .ok (.iload_n 1, 1) := by decide +kernel
theorem dX7_bend_32 : decode cX7_bend 32 = .ok (.iconst 1, 1) := by decide +kernel
theorem dX7_bend_33 : decode cX7_bend 33 = .ok (.invokevirtual 50, 3) := by decide +kernel
theorem dX7_bend_36 : decode cX7_bend 36 = .ok (.iconst 1, 1) := by decide +kernel
theorem dX7_bend_37 : decode cX7_bend 37 = .ok (.if_icmp .ne 7, 3) := by decide +kernel
theorem dX7_bend_40 : decode cX7_bend 40 = .ok (.iconst 2, 1) := by decide +kernel
theorem dX7_bend_41 : decode cX7_bend 41 = .ok (.goto 18, 3) := by decide +kernel
theorem dX7_bend_44 : decode cX7_bend 44 = .ok (.iload_n 3, 1) := by decide +kernel
theorem dX7_bend_45 : decode cX7_bend 45 = .ok (.bipush (-3), 2) := by decide +kernel
theorem dX7_bend_47 : decode cX7_bend 47 = .ok (.iconst 3, 1) := by decide +kernel
theorem dX7_bend_48 : decode cX7_bend 48 = .ok (.invokestatic 42, 3) := by decide +kernel
theorem dX7_bend_51 : decode cX7_bend 51 = .ok (.ifCond .eq 7, 3) := by decide +kernel
theorem dX7_bend_54 : decode cX7_bend 54 = .ok (.iconst 0, 1) := by decide +kernel
theorem dX7_bend_55 : decode cX7_bend 55 = .ok (.goto 4, 3) := by decide +kernel
theorem dX7_bend_58 : decode cX7_bend 58 = .ok (.iconst 3, 1) := by decide +kernel
theorem dX7_bend_59 : decode cX7_bend 59 = .ok (.istore 4, 2) := by decide +kernel
theorem dX7_bend_61 : decode cX7_bend 61 = .ok (.iload 4, 2) := by decide +kernel
theorem dX7_bend_63 : decode cX7_bend 63 = .ok (.ifCond .le 17, 3) := by decide +kernel
theorem dX7_bend_66 : decode cX7_bend 66 = .ok (.aload_n 0, 1) := by decide +kernel
theorem dX7_bend_67 : decode cX7_bend 67 = .ok (.getfield 7, 3) := by decide +kernel
theorem dX7_bend_70 : decode cX7_bend 70 = .ok (.bipush 7, 2) := by decide +kernel
theorem dX7_bend_72 : decode cX7_bend 72 = .ok (.dup2, 1) := by decide +kernel
theorem dX7_bend_73 : decode cX7_bend 73 = .ok (.iaload, 1) := by decide +kernel
theorem dX7_bend_74 : decode cX7_bend 74 = .ok (.iconst 1, 1) := by decide +kernel
theorem dX7_bend_75 : decode cX7_bend 75 = .ok (.iadd, 1) := by decide +kernel
theorem dX7_bend_76 : decode cX7_bend 76 = .ok (.iastore, 1) := by decide +kernel
theorem dX7_bend_77 : decode cX7_bend 77 = .ok (.iload 4, 2) := by decide +kernel
theorem dX7_bend_79 : decode cX7_bend 79 = .ok (.ireturn, 1) := by decide +kernel
theorem dX7_bend_80 : decode cX7_bend 80 = .ok (.aload_n 0, 1) := by decide +kernel
theorem dX7_bend_81 : decode cX7_bend 81 = .ok (.iload_n 1, 1) := by decide +kernel
theorem dX7_bend_82 : decode cX7_bend 82 = .ok (.iconst 0, 1) := by decide +kernel
theorem dX7_bend_83 : decode cX7_bend 83 = .ok (.iload_n 3, 1) := by decide +kernel
theorem dX7_bend_84 : decode cX7_bend 84 = .ok (.invokevirtual 53, 3) := by decide +kernel
theorem dX7_bend_87 : decode cX7_bend 87 = .ok (.bipush 10, 2) := by decide +kernel
theorem dX7_bend_89 : decode cX7_bend 89 = .ok (.iload_n 3, 1) := by decide +kernel
theorem dX7_bend_90 : decode cX7_bend 90 = .ok (.iadd, 1) := by decide +kernel
theorem dX7_bend_91 : decode cX7_bend 91 = .ok (.iconst 3, 1) := by decide +kernel
theorem dX7_bend_92 : decode cX7_bend 92 = .ok (.iadd, 1) := by decide +kernel
theorem dX7_bend_93 : decode cX7_bend 93 = .ok (.ireturn, 1) := by decide +kernel
set_option maxRecDepth 20000 in
theorem ggX7_outOnes_X7_of : GoodIn wsX7_outOnes wsX7_of := goodIn_r _ [5, 6, 7, 8, 9, 10, 11, 12, 13, 14, 15, 16, 17, 18, 19, 20, 21, 22, 23] (by decide +kernel) (by decide +kernel)
set_option maxRecDepth 20000 in
theorem gX7_outOnes_X7_of : GoodIn wsX7_outOnes (wsV RX7 50 RX7 yX7_of wsX7_of) := goodIn_app (goodIn_of _ (by decide +kernel)) ggX7_outOnes_X7_of
theorem dX7_outOnes_0 : decode cX7_outOnes 0 = .ok (.iconst 0, 1) := by decide +kernel
theorem dX7_outOnes_1 : decode cX7_outOnes 1 = .ok (.istore_n 1, 1) := by decide +kernel
theorem dX7_outOnes_2 : decode cX7_outOnes 2 = .ok (.iconst 0, 1) := by decide +kernel
theorem dX7_outOnes_3 : decode cX7_outOnes 3 = .ok (.istore_n 2, 1) := by decide +kernel
theorem dX7_outOnes_4 : decode cX7_outOnes 4 = .ok (.iload_n 2, 1) := by decide +kernel
theorem dX7_outOnes_5 : decode cX7_outOnes 5 = .ok (.bipush 35, 2) := by decide +kernel
theorem dX7_outOnes_7 : decode cX7_outOnes 7 = .ok (.if_icmp .ge 18, 3) := by decide +kernel
theorem dX7_outOnes_10 : decode cX7_outOnes 10 = .ok (.iload_n 1, 1) := by decide +kernel
theorem dX7_outOnes_11 : decode cX7_outOnes 11 = .ok (.aload_n 0, 1) := by decide +kernel
theorem dX7_outOnes_12 : decode cX7_outOnes 12 = .ok (.iload_n 2, 1) := by decide +kernel
theorem dX7_outOnes_13 : decode cX7_outOnes 13 = .ok (.iconst 1, 1) := by decide +kernel
theorem dX7_outOnes_14 : decode cX7_outOnes 14 = .ok (.invokevirtual 50, 3) := by decide +kernel
theorem dX7_outOnes_17 : decode cX7_outOnes 17 = .ok (.iadd, 1) := by decide +kernel
theorem dX7_outOnes_18 : decode cX7_outOnes 18 = .ok (.istore_n 1, 1) := by decide +kernel
theorem dX7_outOnes_19 : decode cX7_outOnes 19 = .ok (.iinc 2 1, 3) := by decide +kernel
theorem dX7_outOnes_22 : decode cX7_outOnes 22 = .ok (.goto (-18), 3) := by decide +kernel
theorem dX7_outOnes_25 : decode cX7_outOnes 25 = .ok (.iload_n 1, 1) := by decide +kernel
theorem dX7_outOnes_26 : decode cX7_outOnes 26 = .ok (.ireturn, 1) := by decide +kernel
set_option maxRecDepth 20000 in
theorem ggX7_pull_X7_isPin : GoodIn wsX7_pull wsX7_isPin := goodIn_r _ [4, 5, 6, 3, 7] (by decide +kernel) (by decide +kernel)
set_option maxRecDepth 20000 in
theorem gX7_pull_X7_isPin : GoodIn wsX7_pull (va_wsS RX7 95 yX7_isPin wsX7_isPin) := goodIn_app (goodIn_of _ (by decide +kernel)) ggX7_pull_X7_isPin
set_option maxRecDepth 20000 in
theorem ggX7_pull_X7_records : GoodIn wsX7_pull wsX7_records := goodIn_r _ [11, 12, 13, 14, 15, 16, 3, 17, 30, 31, 32, 33, 34, 35, 36, 37, 38, 39, 40, 41, 42, 43, 44, 45, 46] (by decide +kernel) (by decide +kernel)
set_option maxRecDepth 20000 in
theorem gX7_pull_X7_records : GoodIn wsX7_pull (wsV RX7 89 RX7 yX7_records wsX7_records) := goodIn_app (goodIn_of _ (by decide +kernel)) ggX7_pull_X7_records
set_option maxRecDepth 20000 in
theorem ggX7_pull_X7_of : GoodIn wsX7_pull wsX7_of := goodIn_r _ [21, 14, 30, 31, 32, 33, 34, 35, 36, 37, 38, 39, 40, 41, 42, 43, 44, 45, 46] (by decide +kernel) (by decide +kernel)
set_option maxRecDepth 20000 in
theorem gX7_pull_X7_of : GoodIn wsX7_pull (wsV RX7 50 RX7 yX7_of wsX7_of) := goodIn_app (goodIn_of _ (by decide +kernel)) ggX7_pull_X7_of
set_option maxRecDepth 20000 in
theorem ggX7_pull_X7_lays : GoodIn wsX7_pull wsX7_lays := goodIn_r _ [25, 14, 30, 31, 32, 33, 34, 35, 36, 37, 38, 39, 40, 41, 42, 43, 44, 45, 46] (by decide +kernel) (by decide +kernel)
set_option maxRecDepth 20000 in
theorem gX7_pull_X7_lays : GoodIn wsX7_pull (wsV RX7 53 RX7 yX7_lays wsX7_lays) := goodIn_app (goodIn_of _ (by decide +kernel)) ggX7_pull_X7_lays
set_option maxRecDepth 20000 in
theorem ggX7_pull_X7_outOnes : GoodIn wsX7_pull wsX7_outOnes := goodIn_r _ [29, 18, 19, 20, 3, 21, 14, 30, 31, 32, 33, 34, 35, 36, 37, 38, 39, 40, 41, 42, 43, 44, 45, 46] (by decide +kernel) (by decide +kernel)
set_option maxRecDepth 20000 in
theorem gX7_pull_X7_outOnes : GoodIn wsX7_pull (wsV RX7 98 RX7 yX7_outOnes wsX7_outOnes) := goodIn_app (goodIn_of _ (by decide +kernel)) ggX7_pull_X7_outOnes
theorem dX7_pull_0 : decode cX7_pull 0 = .ok (.iload_n 1, 1) := by decide +kernel
theorem dX7_pull_1 : decode cX7_pull 1 = .ok (.invokestatic 95, 3) := by decide +kernel
theorem dX7_pull_4 : decode cX7_pull 4 = .ok (.ifCond .ne 5, 3) := by decide +kernel
theorem dX7_pull_7 : decode cX7_pull 7 = .ok (.iconst (-1), 1) := by decide +kernel
theorem dX7_pull_8 : decode cX7_pull 8 = .ok (.ireturn, 1) := by decide +kernel
theorem dX7_pull_9 : decode cX7_pull 9 = .ok (.aload_n 0, 1) := by decide +kernel
theorem dX7_pull_10 : decode cX7_pull 10 = .ok (.invokevirtual 89, 3) := by decide +kernel
theorem dX7_pull_13 : decode cX7_pull 13 = .ok (.aload_n 0, 1) := by decide +kernel
theorem dX7_pull_14 : decode cX7_pull 14 = .ok (.iload_n 1, 1) := by decide +kernel
theorem dX7_pull_15 : decode cX7_pull 15 = .ok (.iconst 1, 1) := by decide +kernel
theorem dX7_pull_16 : decode cX7_pull 16 = .ok (.iconst 1, 1) := by decide +kernel
theorem dX7_pull_17 : decode cX7_pull 17 = .ok (.aload_n 0, 1) := by decide +kernel
theorem dX7_pull_18 : decode cX7_pull 18 = .ok (.iload_n 1, 1) := by decide +kernel
theorem dX7_pull_19 : decode cX7_pull 19 = .ok (.iconst 1, 1) := by decide +kernel
theorem dX7_pull_20 : decode cX7_pull 20 = .ok (.invokevirtual 50, 3) := by decide +kernel
theorem dX7_pull_23 : decode cX7_pull 23 = .ok (.isub, 1) := by decide +kernel
theorem dX7_pull_24 : decode cX7_pull 24 = .ok (.invokevirtual 53, 3) := by decide +kernel
theorem dX7_pull_27 : decode cX7_pull 27 = .ok (.aload_n 0, 1) := by decide +kernel
theorem dX7_pull_28 : decode cX7_pull 28 = .ok (.iload_n 1, 1) := by decide +kernel
theorem dX7_pull_29 : decode cX7_pull 29 = .ok (.iconst 0, 1) := by decide +kernel
theorem dX7_pull_30 : decode cX7_pull 30 = .ok (.iconst 0, 1) := by decide +kernel
theorem dX7_pull_31 : decode cX7_pull 31 = .ok (.invokevirtual 53, 3) := by decide +kernel
theorem dX7_pull_34 : decode cX7_pull 34 = .ok (.aload_n 0, 1) := by decide +kernel
theorem dX7_pull_35 : decode cX7_pull 35 = .ok (.iload_n 1, 1) := by decide +kernel
theorem dX7_pull_36 : decode cX7_pull 36 = .ok (.iconst 3, 1) := by decide +kernel
theorem dX7_pull_37 : decode cX7_pull 37 = .ok (.iconst 0, 1) := by decide +kernel
theorem dX7_pull_38 : decode cX7_pull 38 = .ok (.invokevirtual 53, 3) := by decide +kernel
theorem dX7_pull_41 : decode cX7_pull 41 = .ok (.aload_n 0, 1) := by decide +kernel
theorem dX7_pull_42 : decode cX7_pull 42 = .ok (.invokevirtual 98, 3) := by decide +kernel
theorem dX7_pull_45 : decode cX7_pull 45 = .ok (.ireturn, 1) := by decide +kernel
set_option maxRecDepth 20000 in
theorem ggX7_allBells_X7_of : GoodIn wsX7_allBells wsX7_of := goodIn_r _ [5, 6, 7, 8, 9, 10, 11, 12, 13, 14, 15, 16, 17, 18, 19, 20, 21, 22, 23] (by decide +kernel) (by decide +kernel)
set_option maxRecDepth 20000 in
theorem gX7_allBells_X7_of : GoodIn wsX7_allBells (wsV RX7 50 RX7 yX7_of wsX7_of) := goodIn_app (goodIn_of _ (by decide +kernel)) ggX7_allBells_X7_of
theorem dX7_allBells_0 : decode cX7_allBells 0 = .ok (.iconst 0, 1) := by decide +kernel
theorem dX7_allBells_1 : decode cX7_allBells 1 = .ok (.istore_n 1, 1) := by decide +kernel
theorem dX7_allBells_2 : decode cX7_allBells 2 = .ok (.iconst 0, 1) := by decide +kernel
theorem dX7_allBells_3 : decode cX7_allBells 3 = .ok (.istore_n 2, 1) := by decide +kernel
theorem dX7_allBells_4 : decode cX7_allBells 4 = .ok (.iload_n 2, 1) := by decide +kernel
theorem dX7_allBells_5 : decode cX7_allBells 5 = .ok (.bipush 35, 2) := by decide +kernel
theorem dX7_allBells_7 : decode cX7_allBells 7 = .ok (.if_icmp .ge 18, 3) := by decide +kernel
theorem dX7_allBells_10 : decode cX7_allBells 10 = .ok (.iload_n 1, 1) := by decide +kernel
theorem dX7_allBells_11 : decode cX7_allBells 11 = .ok (.aload_n 0, 1) := by decide +kernel
theorem dX7_allBells_12 : decode cX7_allBells 12 = .ok (.iload_n 2, 1) := by decide +kernel
theorem dX7_allBells_13 : decode cX7_allBells 13 = .ok (.iconst 2, 1) := by decide +kernel
theorem dX7_allBells_14 : decode cX7_allBells 14 = .ok (.invokevirtual 50, 3) := by decide +kernel
theorem dX7_allBells_17 : decode cX7_allBells 17 = .ok (.iadd, 1) := by decide +kernel
theorem dX7_allBells_18 : decode cX7_allBells 18 = .ok (.istore_n 1, 1) := by decide +kernel
theorem dX7_allBells_19 : decode cX7_allBells 19 = .ok (.iinc 2 1, 3) := by decide +kernel
theorem dX7_allBells_22 : decode cX7_allBells 22 = .ok (.goto (-18), 3) := by decide +kernel
theorem dX7_allBells_25 : decode cX7_allBells 25 = .ok (.iload_n 1, 1) := by decide +kernel
theorem dX7_allBells_26 : decode cX7_allBells 26 = .ok (.ireturn, 1) := by decide +kernel
set_option maxRecDepth 20000 in
theorem ggX7_bell_X7_isPin : GoodIn wsX7_bell wsX7_isPin := goodIn_r _ [4, 5, 6, 3, 7] (by decide +kernel) (by decide +kernel)
set_option maxRecDepth 20000 in
theorem gX7_bell_X7_isPin : GoodIn wsX7_bell (va_wsS RX7 95 yX7_isPin wsX7_isPin) := goodIn_app (goodIn_of _ (by decide +kernel)) ggX7_bell_X7_isPin
set_option maxRecDepth 20000 in
theorem ggX7_bell_X7_records : GoodIn wsX7_bell wsX7_records := goodIn_r _ [11, 12, 13, 14, 15, 16, 3, 17, 30, 31, 32, 33, 34, 35, 36, 37, 38, 39, 40, 41, 42, 43, 44, 45, 46] (by decide +kernel) (by decide +kernel)
set_option maxRecDepth 20000 in
theorem gX7_bell_X7_records : GoodIn wsX7_bell (wsV RX7 89 RX7 yX7_records wsX7_records) := goodIn_app (goodIn_of _ (by decide +kernel)) ggX7_bell_X7_records
set_option maxRecDepth 20000 in
theorem ggX7_bell_X7_of : GoodIn wsX7_bell wsX7_of := goodIn_r _ [21, 14, 30, 31, 32, 33, 34, 35, 36, 37, 38, 39, 40, 41, 42, 43, 44, 45, 46] (by decide +kernel) (by decide +kernel)
set_option maxRecDepth 20000 in
theorem gX7_bell_X7_of : GoodIn wsX7_bell (wsV RX7 50 RX7 yX7_of wsX7_of) := goodIn_app (goodIn_of _ (by decide +kernel)) ggX7_bell_X7_of
set_option maxRecDepth 20000 in
theorem ggX7_bell_X7_lays : GoodIn wsX7_bell wsX7_lays := goodIn_r _ [25, 14, 30, 31, 32, 33, 34, 35, 36, 37, 38, 39, 40, 41, 42, 43, 44, 45, 46] (by decide +kernel) (by decide +kernel)
set_option maxRecDepth 20000 in
theorem gX7_bell_X7_lays : GoodIn wsX7_bell (wsV RX7 53 RX7 yX7_lays wsX7_lays) := goodIn_app (goodIn_of _ (by decide +kernel)) ggX7_bell_X7_lays
set_option maxRecDepth 20000 in
theorem ggX7_bell_X7_allBells : GoodIn wsX7_bell wsX7_allBells := goodIn_r _ [29, 18, 19, 20, 3, 21, 14, 30, 31, 32, 33, 34, 35, 36, 37, 38, 39, 40, 41, 42, 43, 44, 45, 46] (by decide +kernel) (by decide +kernel)
set_option maxRecDepth 20000 in
theorem gX7_bell_X7_allBells : GoodIn wsX7_bell (wsV RX7 102 RX7 yX7_allBells wsX7_allBells) := goodIn_app (goodIn_of _ (by decide +kernel)) ggX7_bell_X7_allBells
theorem dX7_bell_0 : decode cX7_bell 0 = .ok (.iload_n 1, 1) := by decide +kernel
theorem dX7_bell_1 : decode cX7_bell 1 = .ok (.invokestatic 95, 3) := by decide +kernel
theorem dX7_bell_4 : decode cX7_bell 4 = .ok (.ifCond .ne 5, 3) := by decide +kernel
theorem dX7_bell_7 : decode cX7_bell 7 = .ok (.iconst (-1), 1) := by decide +kernel
theorem dX7_bell_8 : decode cX7_bell 8 = .ok (.ireturn, 1) := by decide +kernel
theorem dX7_bell_9 : decode cX7_bell 9 = .ok (.aload_n 0, 1) := by decide +kernel
theorem dX7_bell_10 : decode cX7_bell 10 = .ok (.invokevirtual 89, 3) := by decide +kernel
theorem dX7_bell_13 : decode cX7_bell 13 = .ok (.aload_n 0, 1) := by decide +kernel
theorem dX7_bell_14 : decode cX7_bell 14 = .ok (.iload_n 1, 1) := by decide +kernel
theorem dX7_bell_15 : decode cX7_bell 15 = .ok (.iconst 2, 1) := by decide +kernel
theorem dX7_bell_16 : decode cX7_bell 16 = .ok (.iconst 1, 1) := by decide +kernel
theorem dX7_bell_17 : decode cX7_bell 17 = .ok (.aload_n 0, 1) := by decide +kernel
theorem dX7_bell_18 : decode cX7_bell 18 = .ok (.iload_n 1, 1) := by decide +kernel
theorem dX7_bell_19 : decode cX7_bell 19 = .ok (.iconst 2, 1) := by decide +kernel
theorem dX7_bell_20 : decode cX7_bell 20 = .ok (.invokevirtual 50, 3) := by decide +kernel
theorem dX7_bell_23 : decode cX7_bell 23 = .ok (.isub, 1) := by decide +kernel
theorem dX7_bell_24 : decode cX7_bell 24 = .ok (.invokevirtual 53, 3) := by decide +kernel
theorem dX7_bell_27 : decode cX7_bell 27 = .ok (.aload_n 0, 1) := by decide +kernel
theorem dX7_bell_28 : decode cX7_bell 28 = .ok (.invokevirtual 102, 3) := by decide +kernel
theorem dX7_bell_31 : decode cX7_bell 31 = .ok (.ireturn, 1) := by decide +kernel
set_option maxRecDepth 20000 in
theorem ggX7_worth_X7_isPlace : GoodIn wsX7_worth wsX7_isPlace := goodIn_r _ [4, 5, 6, 3, 7] (by decide +kernel) (by decide +kernel)
set_option maxRecDepth 20000 in
theorem gX7_worth_X7_isPlace : GoodIn wsX7_worth (va_wsS RX7 86 yX7_isPlace wsX7_isPlace) := goodIn_app (goodIn_of _ (by decide +kernel)) ggX7_worth_X7_isPlace
set_option maxRecDepth 20000 in
theorem ggX7_worth_X7_in : GoodIn wsX7_worth wsX7_in := goodIn_r _ [7] (by decide +kernel) (by decide +kernel)
set_option maxRecDepth 20000 in
theorem gX7_worth_X7_in : GoodIn wsX7_worth (va_wsS RX7 42 yX7_in wsX7_in) := goodIn_app (goodIn_of _ (by decide +kernel)) ggX7_worth_X7_in
set_option maxRecDepth 20000 in
theorem ggX7_worth_X7_records : GoodIn wsX7_worth wsX7_records := goodIn_r _ [11, 12, 13, 14, 15, 16, 3, 17, 26, 27, 28, 29, 30, 31, 32, 33, 34, 35, 36, 37, 38, 39, 40, 41, 42] (by decide +kernel) (by decide +kernel)
set_option maxRecDepth 20000 in
theorem gX7_worth_X7_records : GoodIn wsX7_worth (wsV RX7 89 RX7 yX7_records wsX7_records) := goodIn_app (goodIn_of _ (by decide +kernel)) ggX7_worth_X7_records
set_option maxRecDepth 20000 in
theorem ggX7_worth_X7_inPocket : GoodIn wsX7_worth wsX7_inPocket := goodIn_r _ [21, 14, 26, 27, 28, 29, 30, 31, 32, 33, 34, 35, 36, 37, 38, 39, 40, 41, 42] (by decide +kernel) (by decide +kernel)
set_option maxRecDepth 20000 in
theorem gX7_worth_X7_inPocket : GoodIn wsX7_worth (wsV RX7 46 RX7 yX7_inPocket wsX7_inPocket) := goodIn_app (goodIn_of _ (by decide +kernel)) ggX7_worth_X7_inPocket
set_option maxRecDepth 20000 in
theorem ggX7_worth_X7_adds : GoodIn wsX7_worth wsX7_adds := goodIn_r _ [25, 14, 26, 27, 28, 29, 30, 31, 32, 33, 34, 35, 36, 37, 38, 39, 40, 41, 42] (by decide +kernel) (by decide +kernel)
set_option maxRecDepth 20000 in
theorem gX7_worth_X7_adds : GoodIn wsX7_worth (wsV RX7 79 RX7 yX7_adds wsX7_adds) := goodIn_app (goodIn_of _ (by decide +kernel)) ggX7_worth_X7_adds
theorem dX7_worth_0 : decode cX7_worth 0 = .ok (.iload_n 1, 1) := by decide +kernel
theorem dX7_worth_1 : decode cX7_worth 1 = .ok (.invokestatic 86, 3) := by decide +kernel
theorem dX7_worth_4 : decode cX7_worth 4 = .ok (.ifCond .eq 13, 3) := by decide +kernel
theorem dX7_worth_7 : decode cX7_worth 7 = .ok (.iload_n 2, 1) := by decide +kernel
theorem dX7_worth_8 : decode cX7_worth 8 = .ok (.iconst 0, 1) := by decide +kernel
theorem dX7_worth_9 : decode cX7_worth 9 = .ok (.bipush 9, 2) := by decide +kernel
theorem dX7_worth_11 : decode cX7_worth 11 = .ok (.invokestatic 42, 3) := by decide +kernel
theorem dX7_worth_14 : decode cX7_worth 14 = .ok (.ifCond .ne 5, 3) := by decide +kernel
theorem dX7_worth_17 : decode cX7_worth 17 = .ok (.iconst (-1), 1) := by decide +kernel
theorem dX7_worth_18 : decode cX7_worth 18 = .ok (.ireturn, 1) := by decide +kernel
theorem dX7_worth_19 : decode cX7_worth 19 = .ok (.aload_n 0, 1) := by decide +kernel
theorem dX7_worth_20 : decode cX7_worth 20 = .ok (.invokevirtual 89, 3) := by decide +kernel
theorem dX7_worth_23 : decode cX7_worth 23 = .ok (.aload_n 0, 1) := by decide +kernel
theorem dX7_worth_24 : decode cX7_worth 24 = .ok (.iload_n 1, 1) := by decide +kernel
theorem dX7_worth_25 : decode cX7_worth 25 = .ok (.iconst 0, 1) := by decide +kernel
theorem dX7_worth_26 : decode cX7_worth 26 = .ok (.invokevirtual 46, 3) := by decide +kernel
theorem dX7_worth_29 : decode cX7_worth 29 = .ok (.istore_n 3, 1) := by decide +kernel
theorem dX7_worth_30 : decode cX7_worth 30 = .ok (.aload_n 0, 1) := by decide +kernel
theorem dX7_worth_31 : decode cX7_worth 31 = .ok (.iload_n 1, 1) := by decide +kernel
theorem dX7_worth_32 : decode cX7_worth 32 = .ok (.iconst 0, 1) := by decide +kernel
theorem dX7_worth_33 : decode cX7_worth 33 = .ok (.iload_n 2, 1) := by decide +kernel
theorem dX7_worth_34 : decode cX7_worth 34 = .ok (.iload_n 3, 1) := by decide +kernel
theorem dX7_worth_35 : decode cX7_worth 35 = .ok (.isub, 1) := by decide +kernel
theorem dX7_worth_36 : decode cX7_worth 36 = .ok (.invokevirtual 79, 3) := by decide +kernel
theorem dX7_worth_39 : decode cX7_worth 39 = .ok (.iload_n 3, 1) := by decide +kernel
theorem dX7_worth_40 : decode cX7_worth 40 = .ok (.ireturn, 1) := by decide +kernel
set_option maxRecDepth 20000 in
theorem ggX7_set_X7_in : GoodIn wsX7_set wsX7_in := goodIn_r _ [5] (by decide +kernel) (by decide +kernel)
set_option maxRecDepth 20000 in
theorem gX7_set_X7_in : GoodIn wsX7_set (va_wsS RX7 42 yX7_in wsX7_in) := goodIn_app (goodIn_of _ (by decide +kernel)) ggX7_set_X7_in
set_option maxRecDepth 20000 in
theorem ggX7_set_X7_records : GoodIn wsX7_set wsX7_records := goodIn_r _ [9, 10, 11, 1, 12, 13, 4, 14, 15, 16, 17, 18, 19, 20, 21, 22, 23, 24, 25, 26, 27, 28, 29, 30, 31] (by decide +kernel) (by decide +kernel)
set_option maxRecDepth 20000 in
theorem gX7_set_X7_records : GoodIn wsX7_set (wsV RX7 89 RX7 yX7_records wsX7_records) := goodIn_app (goodIn_of _ (by decide +kernel)) ggX7_set_X7_records
theorem dX7_set_0 : decode cX7_set 0 = .ok (.iload_n 1, 1) := by decide +kernel
theorem dX7_set_1 : decode cX7_set 1 = .ok (.iconst 0, 1) := by decide +kernel
theorem dX7_set_2 : decode cX7_set 2 = .ok (.iconst 1, 1) := by decide +kernel
theorem dX7_set_3 : decode cX7_set 3 = .ok (.invokestatic 42, 3) := by decide +kernel
theorem dX7_set_6 : decode cX7_set 6 = .ok (.ifCond .eq 21, 3) := by decide +kernel
theorem dX7_set_9 : decode cX7_set 9 = .ok (.iload_n 2, 1) := by decide +kernel
theorem dX7_set_10 : decode cX7_set 10 = .ok (.iload_n 1, 1) := by decide +kernel
theorem dX7_set_11 : decode cX7_set 11 = .ok (.iload_n 1, 1) := by decide +kernel
theorem dX7_set_12 : decode cX7_set 12 = .ok (.ifCond .ne 7, 3) := by decide +kernel
theorem dX7_set_15 : decode cX7_set 15 = .ok (.iconst 2, 1) := by decide +kernel
theorem dX7_set_16 : decode cX7_set 16 = .ok (.goto 5, 3) := by decide +kernel
theorem dX7_set_19 : decode cX7_set 19 = .ok (.bipush 9, 2) := by decide +kernel
theorem dX7_set_21 : decode cX7_set 21 = .ok (.invokestatic 42, 3) := by decide +kernel
theorem dX7_set_24 : decode cX7_set 24 = .ok (.ifCond .ne 5, 3) := by decide +kernel
theorem dX7_set_27 : decode cX7_set 27 = .ok (.iconst (-1), 1) := by decide +kernel
theorem dX7_set_28 : decode cX7_set 28 = .ok (.ireturn, 1) := by decide +kernel
theorem dX7_set_29 : decode cX7_set 29 = .ok (.aload_n 0, 1) := by decide +kernel
theorem dX7_set_30 : decode cX7_set 30 = .ok (.invokevirtual 89, 3) := by decide +kernel
theorem dX7_set_33 : decode cX7_set 33 = .ok (.aload_n 0, 1) := by decide +kernel
theorem dX7_set_34 : decode cX7_set 34 = .ok (.getfield 7, 3) := by decide +kernel
theorem dX7_set_37 : decode cX7_set 37 = .ok (.bipush 8, 2) := by decide +kernel
theorem dX7_set_39 : decode cX7_set 39 = .ok (.iload_n 1, 1) := by decide +kernel
theorem dX7_set_40 : decode cX7_set 40 = .ok (.iadd, 1) := by decide +kernel
theorem dX7_set_41 : decode cX7_set 41 = .ok (.iaload, 1) := by decide +kernel
theorem dX7_set_42 : decode cX7_set 42 = .ok (.istore_n 3, 1) := by decide +kernel
theorem dX7_set_43 : decode cX7_set 43 = .ok (.aload_n 0, 1) := by decide +kernel
theorem dX7_set_44 : decode cX7_set 44 = .ok (.getfield 7, 3) := by decide +kernel
theorem dX7_set_47 : decode cX7_set 47 = .ok (.bipush 8, 2) := by decide +kernel
theorem dX7_set_49 : decode cX7_set 49 = .ok (.iload_n 1, 1) := by decide +kernel
theorem dX7_set_50 : decode cX7_set 50 = .ok (.iadd, 1) := by decide +kernel
theorem dX7_set_51 : decode cX7_set 51 = .ok (.iload_n 2, 1) := by decide +kernel
theorem dX7_set_52 : decode cX7_set 52 = .ok (.iastore, 1) := by decide +kernel
theorem dX7_set_53 : decode cX7_set 53 = .ok (.iload_n 3, 1) := by decide +kernel
theorem dX7_set_54 : decode cX7_set 54 = .ok (.ireturn, 1) := by decide +kernel
set_option maxRecDepth 20000 in
theorem ggX7_empty_X7_records : GoodIn wsX7_empty wsX7_records := goodIn_r _ [5, 6, 7, 8, 9, 10, 4, 11, 24, 25, 26, 27, 28, 29, 30, 31, 32, 33, 34, 35, 36, 37, 38, 39, 40] (by decide +kernel) (by decide +kernel)
set_option maxRecDepth 20000 in
theorem gX7_empty_X7_records : GoodIn wsX7_empty (wsV RX7 89 RX7 yX7_records wsX7_records) := goodIn_app (goodIn_of _ (by decide +kernel)) ggX7_empty_X7_records
set_option maxRecDepth 20000 in
theorem ggX7_empty_X7_goEmpty : GoodIn wsX7_empty wsX7_goEmpty := goodIn_r _ [15, 8, 16, 17, 18, 4, 19, 20, 21, 22, 23, 24, 25, 26, 27, 28, 29, 30, 31, 32, 33, 34, 35, 36, 37, 38, 39, 40] (by decide +kernel) (by decide +kernel)
set_option maxRecDepth 20000 in
theorem gX7_empty_X7_goEmpty : GoodIn wsX7_empty (wsV RX7 105 RX7 yX7_goEmpty wsX7_goEmpty) := goodIn_app (goodIn_of _ (by decide +kernel)) ggX7_empty_X7_goEmpty
theorem dX7_empty_0 : decode cX7_empty 0 = .ok (.aload_n 0, 1) := by decide +kernel
theorem dX7_empty_1 : decode cX7_empty 1 = .ok (.invokevirtual 89, 3) := by decide +kernel
theorem dX7_empty_4 : decode cX7_empty 4 = .ok (.aload_n 0, 1) := by decide +kernel
theorem dX7_empty_5 : decode cX7_empty 5 = .ok (.invokevirtual 105, 3) := by decide +kernel
theorem dX7_empty_8 : decode cX7_empty 8 = .ok (.ireturn, 1) := by decide +kernel
set_option maxRecDepth 20000 in
theorem ggX7_append_X7_in : GoodIn wsX7_append wsX7_in := goodIn_r _ [6] (by decide +kernel) (by decide +kernel)
set_option maxRecDepth 20000 in
theorem gX7_append_X7_in : GoodIn wsX7_append (va_wsS RX7 42 yX7_in wsX7_in) := goodIn_app (goodIn_of _ (by decide +kernel)) ggX7_append_X7_in
theorem dX7_append_0 : decode cX7_append 0 = .ok (.iload_n 1, 1) := by decide +kernel
theorem dX7_append_1 : decode cX7_append 1 = .ok (.bipush 33, 2) := by decide +kernel
theorem dX7_append_3 : decode cX7_append 3 = .ok (.bipush 126, 2) := by decide +kernel
theorem dX7_append_5 : decode cX7_append 5 = .ok (.invokestatic 42, 3) := by decide +kernel
theorem dX7_append_8 : decode cX7_append 8 = .ok (.ifCond .ne 5, 3) := by decide +kernel
theorem dX7_append_11 : decode cX7_append 11 = .ok (.iconst (-1), 1) := by decide +kernel
theorem dX7_append_12 : decode cX7_append 12 = .ok (.ireturn, 1) := by decide +kernel
theorem dX7_append_13 : decode cX7_append 13 = .ok (.aload_n 0, 1) := by decide +kernel
theorem dX7_append_14 : decode cX7_append 14 = .ok (.getfield 108, 3) := by decide +kernel
theorem dX7_append_17 : decode cX7_append 17 = .ok (.bipush 60, 2) := by decide +kernel
theorem dX7_append_19 : decode cX7_append 19 = .ok (.if_icmp .ne 6, 3) := by decide +kernel
theorem dX7_append_22 : decode cX7_append 22 = .ok (.bipush (-3), 2) := by decide +kernel
theorem dX7_append_24 : decode cX7_append 24 = .ok (.ireturn, 1) := by decide +kernel
theorem dX7_append_25 : decode cX7_append 25 = .ok (.aload_n 0, 1) := by decide +kernel
theorem dX7_append_26 : decode cX7_append 26 = .ok (.getfield 22, 3) := by decide +kernel
theorem dX7_append_29 : decode cX7_append 29 = .ok (.aload_n 0, 1) := by decide +kernel
theorem dX7_append_30 : decode cX7_append 30 = .ok (.getfield 108, 3) := by decide +kernel
theorem dX7_append_33 : decode cX7_append 33 = .ok (.iload_n 1, 1) := by decide +kernel
theorem dX7_append_34 : decode cX7_append 34 = .ok (.iastore, 1) := by decide +kernel
theorem dX7_append_35 : decode cX7_append 35 = .ok (.aload_n 0, 1) := by decide +kernel
theorem dX7_append_36 : decode cX7_append 36 = .ok (.dup, 1) := by decide +kernel
theorem dX7_append_37 : decode cX7_append 37 = .ok (.getfield 108, 3) := by decide +kernel
theorem dX7_append_40 : decode cX7_append 40 = .ok (.iconst 1, 1) := by decide +kernel
theorem dX7_append_41 : decode cX7_append 41 = .ok (.iadd, 1) := by decide +kernel
theorem dX7_append_42 : decode cX7_append 42 = .ok (.putfield 108, 3) := by decide +kernel
theorem dX7_append_45 : decode cX7_append 45 = .ok (.aload_n 0, 1) := by decide +kernel
theorem dX7_append_46 : decode cX7_append 46 = .ok (.getfield 108, 3) := by decide +kernel
theorem dX7_append_49 : decode cX7_append 49 = .ok (.ireturn, 1) := by decide +kernel
theorem dX7_clear_0 : decode cX7_clear 0 = .ok (.aload_n 0, 1) := by decide +kernel
theorem dX7_clear_1 : decode cX7_clear 1 = .ok (.getfield 108, 3) := by decide +kernel
theorem dX7_clear_4 : decode cX7_clear 4 = .ok (.istore_n 1, 1) := by decide +kernel
theorem dX7_clear_5 : decode cX7_clear 5 = .ok (.aload_n 0, 1) := by decide +kernel
theorem dX7_clear_6 : decode cX7_clear 6 = .ok (.iconst 0, 1) := by decide +kernel
theorem dX7_clear_7 : decode cX7_clear 7 = .ok (.putfield 108, 3) := by decide +kernel
theorem dX7_clear_10 : decode cX7_clear 10 = .ok (.iload_n 1, 1) := by decide +kernel
theorem dX7_clear_11 : decode cX7_clear 11 = .ok (.ireturn, 1) := by decide +kernel
theorem dX7_here_0 : decode cX7_here 0 = .ok (.aload_n 0, 1) := by decide +kernel
theorem dX7_here_1 : decode cX7_here 1 = .ok (.getfield 111, 3) := by decide +kernel
theorem dX7_here_4 : decode cX7_here 4 = .ok (.aload_n 0, 1) := by decide +kernel
theorem dX7_here_5 : decode cX7_here 5 = .ok (.getfield 108, 3) := by decide +kernel
theorem dX7_here_8 : decode cX7_here 8 = .ok (.if_icmp .ge 15, 3) := by decide +kernel
theorem dX7_here_11 : decode cX7_here 11 = .ok (.aload_n 0, 1) := by decide +kernel
theorem dX7_here_12 : decode cX7_here 12 = .ok (.getfield 22, 3) := by decide +kernel
theorem dX7_here_15 : decode cX7_here 15 = .ok (.aload_n 0, 1) := by decide +kernel
theorem dX7_here_16 : decode cX7_here 16 = .ok (.getfield 111, 3) := by decide +kernel
theorem dX7_here_19 : decode cX7_here 19 = .ok (.iaload, 1) := by decide +kernel
theorem dX7_here_20 : decode cX7_here 20 = .ok (.goto 4, 3) := by decide +kernel
theorem dX7_here_23 : decode cX7_here 23 = .ok (.iconst 0, 1) := by decide +kernel
theorem dX7_here_24 : decode cX7_here 24 = .ok (.ireturn, 1) := by decide +kernel
theorem dX7_takes_0 : decode cX7_takes 0 = .ok (.aload_n 0, 1) := by decide +kernel
theorem dX7_takes_1 : decode cX7_takes 1 = .ok (.aload_n 0, 1) := by decide +kernel
theorem dX7_takes_2 : decode cX7_takes 2 = .ok (.getfield 114, 3) := by decide +kernel
theorem dX7_takes_5 : decode cX7_takes 5 = .ok (.ifCond .eq 11, 3) := by decide +kernel
theorem dX7_takes_8 : decode cX7_takes 8 = .ok (.iload_n 1, 1) := by decide +kernel
theorem dX7_takes_9 : decode cX7_takes 9 = .ok (.ifCond .eq 7, 3) := by decide +kernel
theorem dX7_takes_12 : decode cX7_takes 12 = .ok (.iconst 1, 1) := by decide +kernel
theorem dX7_takes_13 : decode cX7_takes 13 = .ok (.goto 4, 3) := by decide +kernel
theorem dX7_takes_16 : decode cX7_takes 16 = .ok (.iconst 0, 1) := by decide +kernel
theorem dX7_takes_17 : decode cX7_takes 17 = .ok (.putfield 114, 3) := by decide +kernel
theorem dX7_takes_20 : decode cX7_takes 20 = .ok (.aload_n 0, 1) := by decide +kernel
theorem dX7_takes_21 : decode cX7_takes 21 = .ok (.dup, 1) := by decide +kernel
theorem dX7_takes_22 : decode cX7_takes 22 = .ok (.getfield 111, 3) := by decide +kernel
theorem dX7_takes_25 : decode cX7_takes 25 = .ok (.aload_n 0, 1) := by decide +kernel
theorem dX7_takes_26 : decode cX7_takes 26 = .ok (.getfield 114, 3) := by decide +kernel
theorem dX7_takes_29 : decode cX7_takes 29 = .ok (.ifCond .eq 7, 3) := by decide +kernel
theorem dX7_takes_32 : decode cX7_takes 32 = .ok (.iconst 1, 1) := by decide +kernel
theorem dX7_takes_33 : decode cX7_takes 33 = .ok (.goto 4, 3) := by decide +kernel
theorem dX7_takes_36 : decode cX7_takes 36 = .ok (.iconst 0, 1) := by decide +kernel
theorem dX7_takes_37 : decode cX7_takes 37 = .ok (.iadd, 1) := by decide +kernel
theorem dX7_takes_38 : decode cX7_takes 38 = .ok (.putfield 111, 3) := by decide +kernel
theorem dX7_takes_41 : decode cX7_takes 41 = .ok (.return_, 1) := by decide +kernel
theorem dX7_isSign_0 : decode cX7_isSign 0 = .ok (.iload_n 0, 1) := by decide +kernel
theorem dX7_isSign_1 : decode cX7_isSign 1 = .ok (.bipush 60, 2) := by decide +kernel
theorem dX7_isSign_3 : decode cX7_isSign 3 = .ok (.if_icmp .eq 27, 3) := by decide +kernel
theorem dX7_isSign_6 : decode cX7_isSign 6 = .ok (.iload_n 0, 1) := by decide +kernel
theorem dX7_isSign_7 : decode cX7_isSign 7 = .ok (.bipush 124, 2) := by decide +kernel
theorem dX7_isSign_9 : decode cX7_isSign 9 = .ok (.if_icmp .eq 21, 3) := by decide +kernel
theorem dX7_isSign_12 : decode cX7_isSign 12 = .ok (.iload_n 0, 1) := by decide +kernel
theorem dX7_isSign_13 : decode cX7_isSign 13 = .ok (.bipush 62, 2) := by decide +kernel
theorem dX7_isSign_15 : decode cX7_isSign 15 = .ok (.if_icmp .eq 15, 3) := by decide +kernel
theorem dX7_isSign_18 : decode cX7_isSign 18 = .ok (.iload_n 0, 1) := by decide +kernel
theorem dX7_isSign_19 : decode cX7_isSign 19 = .ok (.bipush 46, 2) := by decide +kernel
theorem dX7_isSign_21 : decode cX7_isSign 21 = .ok (.if_icmp .eq 9, 3) := by decide +kernel
theorem dX7_isSign_24 : decode cX7_isSign 24 = .ok (.iload_n 0, 1) := by decide +kernel
theorem dX7_isSign_25 : decode cX7_isSign 25 = .ok (.bipush 111, 2) := by decide +kernel
theorem dX7_isSign_27 : decode cX7_isSign 27 = .ok (.if_icmp .ne 7, 3) := by decide +kernel
theorem dX7_isSign_30 : decode cX7_isSign 30 = .ok (.iconst 1, 1) := by decide +kernel
theorem dX7_isSign_31 : decode cX7_isSign 31 = .ok (.goto 4, 3) := by decide +kernel
theorem dX7_isSign_34 : decode cX7_isSign 34 = .ok (.iconst 0, 1) := by decide +kernel
theorem dX7_isSign_35 : decode cX7_isSign 35 = .ok (.ireturn, 1) := by decide +kernel
set_option maxRecDepth 20000 in
theorem ggX7_isBoard_X7_here : GoodIn wsX7_isBoard wsX7_here := goodIn_r _ [7, 1, 2, 8, 12, 13, 14, 15, 16, 17, 18, 19, 20, 21, 22, 23, 24, 25, 26, 27, 28] (by decide +kernel) (by decide +kernel)
set_option maxRecDepth 20000 in
theorem gX7_isBoard_X7_here : GoodIn wsX7_isBoard (wsV RX7 118 RX7 yX7_here wsX7_here) := goodIn_app (goodIn_of _ (by decide +kernel)) ggX7_isBoard_X7_here
set_option maxRecDepth 20000 in
theorem ggX7_isBoard_X7_isSign : GoodIn wsX7_isBoard wsX7_isSign := goodIn_r _ [11] (by decide +kernel) (by decide +kernel)
set_option maxRecDepth 20000 in
theorem gX7_isBoard_X7_isSign : GoodIn wsX7_isBoard (va_wsS RX7 121 yX7_isSign wsX7_isSign) := goodIn_app (goodIn_of _ (by decide +kernel)) ggX7_isBoard_X7_isSign
theorem dX7_isBoard_0 : decode cX7_isBoard 0 = .ok (.aload_n 0, 1) := by decide +kernel
theorem dX7_isBoard_1 : decode cX7_isBoard 1 = .ok (.iconst 0, 1) := by decide +kernel
theorem dX7_isBoard_2 : decode cX7_isBoard 2 = .ok (.putfield 111, 3) := by decide +kernel
theorem dX7_isBoard_5 : decode cX7_isBoard 5 = .ok (.aload_n 0, 1) := by decide +kernel
theorem dX7_isBoard_6 : decode cX7_isBoard 6 = .ok (.getfield 111, 3) := by decide +kernel
theorem dX7_isBoard_9 : decode cX7_isBoard 9 = .ok (.bipush 35, 2) := by decide +kernel
theorem dX7_isBoard_11 : decode cX7_isBoard 11 = .ok (.if_icmp .ge 26, 3) := by decide +kernel
theorem dX7_isBoard_14 : decode cX7_isBoard 14 = .ok (.aload_n 0, 1) := by decide +kernel
theorem dX7_isBoard_15 : decode cX7_isBoard 15 = .ok (.invokevirtual 118, 3) := by decide +kernel
theorem dX7_isBoard_18 : decode cX7_isBoard 18 = .ok (.invokestatic 121, 3) := by decide +kernel
theorem dX7_isBoard_21 : decode cX7_isBoard 21 = .ok (.ifCond .eq 16, 3) := by decide +kernel
theorem dX7_isBoard_24 : decode cX7_isBoard 24 = .ok (.aload_n 0, 1) := by decide +kernel
theorem dX7_isBoard_25 : decode cX7_isBoard 25 = .ok (.dup, 1) := by decide +kernel
theorem dX7_isBoard_26 : decode cX7_isBoard 26 = .ok (.getfield 111, 3) := by decide +kernel
theorem dX7_isBoard_29 : decode cX7_isBoard 29 = .ok (.iconst 1, 1) := by decide +kernel
theorem dX7_isBoard_30 : decode cX7_isBoard 30 = .ok (.iadd, 1) := by decide +kernel
theorem dX7_isBoard_31 : decode cX7_isBoard 31 = .ok (.putfield 111, 3) := by decide +kernel
theorem dX7_isBoard_34 : decode cX7_isBoard 34 = .ok (.goto (-29), 3) := by decide +kernel
theorem dX7_isBoard_37 : decode cX7_isBoard 37 = .ok (.aload_n 0, 1) := by decide +kernel
theorem dX7_isBoard_38 : decode cX7_isBoard 38 = .ok (.getfield 111, 3) := by decide +kernel
theorem dX7_isBoard_41 : decode cX7_isBoard 41 = .ok (.bipush 35, 2) := by decide +kernel
theorem dX7_isBoard_43 : decode cX7_isBoard 43 = .ok (.if_icmp .ne 16, 3) := by decide +kernel
theorem dX7_isBoard_46 : decode cX7_isBoard 46 = .ok (.aload_n 0, 1) := by decide +kernel
theorem dX7_isBoard_47 : decode cX7_isBoard 47 = .ok (.getfield 108, 3) := by decide +kernel
theorem dX7_isBoard_50 : decode cX7_isBoard 50 = .ok (.bipush 35, 2) := by decide +kernel
theorem dX7_isBoard_52 : decode cX7_isBoard 52 = .ok (.if_icmp .ne 7, 3) := by decide +kernel
theorem dX7_isBoard_55 : decode cX7_isBoard 55 = .ok (.iconst 1, 1) := by decide +kernel
theorem dX7_isBoard_56 : decode cX7_isBoard 56 = .ok (.goto 4, 3) := by decide +kernel
theorem dX7_isBoard_59 : decode cX7_isBoard 59 = .ok (.iconst 0, 1) := by decide +kernel
theorem dX7_isBoard_60 : decode cX7_isBoard 60 = .ok (.ireturn, 1) := by decide +kernel
set_option maxRecDepth 20000 in
theorem ggX7_takesShot_X7_here : GoodIn wsX7_takesShot wsX7_here := goodIn_r _ [9, 3, 10, 11, 22, 23, 24, 25, 26, 27, 28, 29, 30, 31, 32, 33, 34, 35, 36, 37, 38] (by decide +kernel) (by decide +kernel)
set_option maxRecDepth 20000 in
theorem gX7_takesShot_X7_here : GoodIn wsX7_takesShot (wsV RX7 118 RX7 yX7_here wsX7_here) := goodIn_app (goodIn_of _ (by decide +kernel)) ggX7_takesShot_X7_here
set_option maxRecDepth 20000 in
theorem ggX7_takesShot_X7_isPlace : GoodIn wsX7_takesShot wsX7_isPlace := goodIn_r _ [14, 15, 16, 8, 17] (by decide +kernel) (by decide +kernel)
set_option maxRecDepth 20000 in
theorem gX7_takesShot_X7_isPlace : GoodIn wsX7_takesShot (va_wsS RX7 86 yX7_isPlace wsX7_isPlace) := goodIn_app (goodIn_of _ (by decide +kernel)) ggX7_takesShot_X7_isPlace
set_option maxRecDepth 20000 in
theorem ggX7_takesShot_X7_takes : GoodIn wsX7_takesShot wsX7_takes := goodIn_r _ [21, 4, 3, 22, 23, 24, 25, 26, 27, 28, 29, 30, 31, 32, 33, 34, 35, 36, 37, 38] (by decide +kernel) (by decide +kernel)
set_option maxRecDepth 20000 in
theorem gX7_takesShot_X7_takes : GoodIn wsX7_takesShot (wsV RX7 130 RX7 yX7_takes wsX7_takes) := goodIn_app (goodIn_of _ (by decide +kernel)) ggX7_takesShot_X7_takes
theorem dX7_takesShot_0 : decode cX7_takesShot 0 = .ok (.aload_n 0, 1) := by decide +kernel
theorem dX7_takesShot_1 : decode cX7_takesShot 1 = .ok (.iconst 0, 1) := by decide +kernel
theorem dX7_takesShot_2 : decode cX7_takesShot 2 = .ok (.putfield 124, 3) := by decide +kernel
theorem dX7_takesShot_5 : decode cX7_takesShot 5 = .ok (.aload_n 0, 1) := by decide +kernel
theorem dX7_takesShot_6 : decode cX7_takesShot 6 = .ok (.aload_n 0, 1) := by decide +kernel
theorem dX7_takesShot_7 : decode cX7_takesShot 7 = .ok (.invokevirtual 118, 3) := by decide +kernel
theorem dX7_takesShot_10 : decode cX7_takesShot 10 = .ok (.bipush 48, 2) := by decide +kernel
theorem dX7_takesShot_12 : decode cX7_takesShot 12 = .ok (.isub, 1) := by decide +kernel
theorem dX7_takesShot_13 : decode cX7_takesShot 13 = .ok (.putfield 127, 3) := by decide +kernel
theorem dX7_takesShot_16 : decode cX7_takesShot 16 = .ok (.aload_n 0, 1) := by decide +kernel
theorem dX7_takesShot_17 : decode cX7_takesShot 17 = .ok (.invokevirtual 118, 3) := by decide +kernel
theorem dX7_takesShot_20 : decode cX7_takesShot 20 = .ok (.bipush 101, 2) := by decide +kernel
theorem dX7_takesShot_22 : decode cX7_takesShot 22 = .ok (.if_icmp .ne 20, 3) := by decide +kernel
theorem dX7_takesShot_25 : decode cX7_takesShot 25 = .ok (.aload_n 0, 1) := by decide +kernel
theorem dX7_takesShot_26 : decode cX7_takesShot 26 = .ok (.bipush (-4), 2) := by decide +kernel
theorem dX7_takesShot_28 : decode cX7_takesShot 28 = .ok (.putfield 127, 3) := by decide +kernel
theorem dX7_takesShot_31 : decode cX7_takesShot 31 = .ok (.aload_n 0, 1) := by decide +kernel
theorem dX7_takesShot_32 : decode cX7_takesShot 32 = .ok (.dup, 1) := by decide +kernel
theorem dX7_takesShot_33 : decode cX7_takesShot 33 = .ok (.getfield 111, 3) := by decide +kernel
theorem dX7_takesShot_36 : decode cX7_takesShot 36 = .ok (.iconst 1, 1) := by decide +kernel
theorem dX7_takesShot_37 : decode cX7_takesShot 37 = .ok (.iadd, 1) := by decide +kernel
theorem dX7_takesShot_38 : decode cX7_takesShot 38 = .ok (.putfield 111, 3) := by decide +kernel
theorem dX7_takesShot_41 : decode cX7_takesShot 41 = .ok (.return_, 1) := by decide +kernel
theorem dX7_takesShot_42 : decode cX7_takesShot 42 = .ok (.aload_n 0, 1) := by decide +kernel
theorem dX7_takesShot_43 : decode cX7_takesShot 43 = .ok (.aload_n 0, 1) := by decide +kernel
theorem dX7_takesShot_44 : decode cX7_takesShot 44 = .ok (.getfield 127, 3) := by decide +kernel
theorem dX7_takesShot_47 : decode cX7_takesShot 47 = .ok (.invokestatic 86, 3) := by decide +kernel
theorem dX7_takesShot_50 : decode cX7_takesShot 50 = .ok (.invokevirtual 130, 3) := by decide +kernel
theorem dX7_takesShot_53 : decode cX7_takesShot 53 = .ok (.aload_n 0, 1) := by decide +kernel
theorem dX7_takesShot_54 : decode cX7_takesShot 54 = .ok (.getfield 114, 3) := by decide +kernel
theorem dX7_takesShot_57 : decode cX7_takesShot 57 = .ok (.ifCond .eq 27, 3) := by decide +kernel
theorem dX7_takesShot_60 : decode cX7_takesShot 60 = .ok (.aload_n 0, 1) := by decide +kernel
theorem dX7_takesShot_61 : decode cX7_takesShot 61 = .ok (.invokevirtual 118, 3) := by decide +kernel
theorem dX7_takesShot_64 : decode cX7_takesShot 64 = .ok (.bipush 33, 2) := by decide +kernel
theorem dX7_takesShot_66 : decode cX7_takesShot 66 = .ok (.if_icmp .ne 18, 3) := by decide +kernel
theorem dX7_takesShot_69 : decode cX7_takesShot 69 = .ok (.aload_n 0, 1) := by decide +kernel
theorem dX7_takesShot_70 : decode cX7_takesShot 70 = .ok (.iconst 1, 1) := by decide +kernel
theorem dX7_takesShot_71 : decode cX7_takesShot 71 = .ok (.putfield 124, 3) := by decide +kernel
theorem dX7_takesShot_74 : decode cX7_takesShot 74 = .ok (.aload_n 0, 1) := by decide +kernel
theorem dX7_takesShot_75 : decode cX7_takesShot 75 = .ok (.dup, 1) := by decide +kernel
theorem dX7_takesShot_76 : decode cX7_takesShot 76 = .ok (.getfield 111, 3) := by decide +kernel
theorem dX7_takesShot_79 : decode cX7_takesShot 79 = .ok (.iconst 1, 1) := by decide +kernel
theorem dX7_takesShot_80 : decode cX7_takesShot 80 = .ok (.iadd, 1) := by decide +kernel
theorem dX7_takesShot_81 : decode cX7_takesShot 81 = .ok (.putfield 111, 3) := by decide +kernel
theorem dX7_takesShot_84 : decode cX7_takesShot 84 = .ok (.return_, 1) := by decide +kernel
set_option maxRecDepth 20000 in
theorem ggX7_areShots_X7_takesShot : GoodIn wsX7_areShots wsX7_takesShot := goodIn_r _ [8, 9, 10, 1, 2, 11, 12, 13, 7, 14, 3, 15, 16, 17, 18, 19, 20, 21, 22, 23, 24, 25, 26, 27, 28, 29, 30, 31, 32, 33, 34, 35, 36, 37, 38, 39, 40, 41, 42] (by decide +kernel) (by decide +kernel)
set_option maxRecDepth 20000 in
theorem gX7_areShots_X7_takesShot : GoodIn wsX7_areShots (wsV RX7 134 RX7 yX7_takesShot wsX7_takesShot) := goodIn_app (goodIn_of _ (by decide +kernel)) ggX7_areShots_X7_takesShot
set_option maxRecDepth 20000 in
theorem ggX7_areShots_X7_here : GoodIn wsX7_areShots wsX7_here := goodIn_r _ [14, 1, 3, 15, 26, 27, 28, 29, 30, 31, 32, 33, 34, 35, 36, 37, 38, 39, 40, 41, 42] (by decide +kernel) (by decide +kernel)
set_option maxRecDepth 20000 in
theorem gX7_areShots_X7_here : GoodIn wsX7_areShots (wsV RX7 118 RX7 yX7_here wsX7_here) := goodIn_app (goodIn_of _ (by decide +kernel)) ggX7_areShots_X7_here
set_option maxRecDepth 20000 in
theorem ggX7_areShots_X7_takes : GoodIn wsX7_areShots wsX7_takes := goodIn_r _ [25, 2, 1, 26, 27, 28, 29, 30, 31, 32, 33, 34, 35, 36, 37, 38, 39, 40, 41, 42] (by decide +kernel) (by decide +kernel)
set_option maxRecDepth 20000 in
theorem gX7_areShots_X7_takes : GoodIn wsX7_areShots (wsV RX7 130 RX7 yX7_takes wsX7_takes) := goodIn_app (goodIn_of _ (by decide +kernel)) ggX7_areShots_X7_takes
theorem dX7_areShots_0 : decode cX7_areShots 0 = .ok (.aload_n 0, 1) := by decide +kernel
theorem dX7_areShots_1 : decode cX7_areShots 1 = .ok (.iconst 0, 1) := by decide +kernel
theorem dX7_areShots_2 : decode cX7_areShots 2 = .ok (.putfield 111, 3) := by decide +kernel
theorem dX7_areShots_5 : decode cX7_areShots 5 = .ok (.aload_n 0, 1) := by decide +kernel
theorem dX7_areShots_6 : decode cX7_areShots 6 = .ok (.iconst 1, 1) := by decide +kernel
theorem dX7_areShots_7 : decode cX7_areShots 7 = .ok (.putfield 114, 3) := by decide +kernel
theorem dX7_areShots_10 : decode cX7_areShots 10 = .ok (.aload_n 0, 1) := by decide +kernel
theorem dX7_areShots_11 : decode cX7_areShots 11 = .ok (.invokevirtual 134, 3) := by decide +kernel
theorem dX7_areShots_14 : decode cX7_areShots 14 = .ok (.aload_n 0, 1) := by decide +kernel
theorem dX7_areShots_15 : decode cX7_areShots 15 = .ok (.getfield 114, 3) := by decide +kernel
theorem dX7_areShots_18 : decode cX7_areShots 18 = .ok (.ifCond .eq 46, 3) := by decide +kernel
theorem dX7_areShots_21 : decode cX7_areShots 21 = .ok (.aload_n 0, 1) := by decide +kernel
theorem dX7_areShots_22 : decode cX7_areShots 22 = .ok (.getfield 111, 3) := by decide +kernel
theorem dX7_areShots_25 : decode cX7_areShots 25 = .ok (.aload_n 0, 1) := by decide +kernel
theorem dX7_areShots_26 : decode cX7_areShots 26 = .ok (.getfield 108, 3) := by decide +kernel
theorem dX7_areShots_29 : decode cX7_areShots 29 = .ok (.if_icmp .ge 35, 3) := by decide +kernel
theorem dX7_areShots_32 : decode cX7_areShots 32 = .ok (.aload_n 0, 1) := by decide +kernel
theorem dX7_areShots_33 : decode cX7_areShots 33 = .ok (.aload_n 0, 1) := by decide +kernel
theorem dX7_areShots_34 : decode cX7_areShots 34 = .ok (.invokevirtual 118, 3) := by decide +kernel
theorem dX7_areShots_37 : decode cX7_areShots 37 = .ok (.bipush 44, 2) := by decide +kernel
theorem dX7_areShots_39 : decode cX7_areShots 39 = .ok (.if_icmp .ne 7, 3) := by decide +kernel
theorem dX7_areShots_42 : decode cX7_areShots 42 = .ok (.iconst 1, 1) := by decide +kernel
theorem dX7_areShots_43 : decode cX7_areShots 43 = .ok (.goto 4, 3) := by decide +kernel
theorem dX7_areShots_46 : decode cX7_areShots 46 = .ok (.iconst 0, 1) := by decide +kernel
theorem dX7_areShots_47 : decode cX7_areShots 47 = .ok (.invokevirtual 130, 3) := by decide +kernel
theorem dX7_areShots_50 : decode cX7_areShots 50 = .ok (.aload_n 0, 1) := by decide +kernel
theorem dX7_areShots_51 : decode cX7_areShots 51 = .ok (.getfield 114, 3) := by decide +kernel
theorem dX7_areShots_54 : decode cX7_areShots 54 = .ok (.ifCond .eq (-40), 3) := by decide +kernel
theorem dX7_areShots_57 : decode cX7_areShots 57 = .ok (.aload_n 0, 1) := by decide +kernel
theorem dX7_areShots_58 : decode cX7_areShots 58 = .ok (.invokevirtual 134, 3) := by decide +kernel
theorem dX7_areShots_61 : decode cX7_areShots 61 = .ok (.goto (-47), 3) := by decide +kernel
theorem dX7_areShots_64 : decode cX7_areShots 64 = .ok (.aload_n 0, 1) := by decide +kernel
theorem dX7_areShots_65 : decode cX7_areShots 65 = .ok (.getfield 114, 3) := by decide +kernel
theorem dX7_areShots_68 : decode cX7_areShots 68 = .ok (.ireturn, 1) := by decide +kernel
set_option maxRecDepth 20000 in
theorem ggX7_fault_X7_in : GoodIn wsX7_fault wsX7_in := goodIn_r _ [5] (by decide +kernel) (by decide +kernel)
set_option maxRecDepth 20000 in
theorem gX7_fault_X7_in : GoodIn wsX7_fault (va_wsS RX7 42 yX7_in wsX7_in) := goodIn_app (goodIn_of _ (by decide +kernel)) ggX7_fault_X7_in
set_option maxRecDepth 20000 in
theorem ggX7_fault_X7_isBoard : GoodIn wsX7_fault wsX7_isBoard := goodIn_r _ [9, 1, 10, 11, 12, 13, 4, 14, 15, 16, 17, 18, 37, 38, 39, 40, 41, 42, 43, 44, 45, 46, 47, 48, 49, 50, 51, 52, 53] (by decide +kernel) (by decide +kernel)
set_option maxRecDepth 20000 in
theorem gX7_fault_X7_isBoard : GoodIn wsX7_fault (wsV RX7 137 RX7 yX7_isBoard wsX7_isBoard) := goodIn_app (goodIn_of _ (by decide +kernel)) ggX7_fault_X7_isBoard
set_option maxRecDepth 20000 in
theorem ggX7_fault_X7_areShots : GoodIn wsX7_fault wsX7_areShots := goodIn_r _ [22, 1, 23, 10, 24, 25, 26, 4, 27, 28, 29, 11, 12, 13, 14, 15, 30, 31, 32, 2, 3, 5, 33, 34, 35, 36, 37, 38, 39, 40, 41, 42, 43, 44, 45, 46, 47, 48, 49, 50, 51, 52, 53] (by decide +kernel) (by decide +kernel)
set_option maxRecDepth 20000 in
theorem gX7_fault_X7_areShots : GoodIn wsX7_fault (wsV RX7 141 RX7 yX7_areShots wsX7_areShots) := goodIn_app (goodIn_of _ (by decide +kernel)) ggX7_fault_X7_areShots
theorem dX7_fault_0 : decode cX7_fault 0 = .ok (.iload_n 1, 1) := by decide +kernel
theorem dX7_fault_1 : decode cX7_fault 1 = .ok (.iconst 0, 1) := by decide +kernel
theorem dX7_fault_2 : decode cX7_fault 2 = .ok (.iconst 1, 1) := by decide +kernel
theorem dX7_fault_3 : decode cX7_fault 3 = .ok (.invokestatic 42, 3) := by decide +kernel
theorem dX7_fault_6 : decode cX7_fault 6 = .ok (.ifCond .ne 5, 3) := by decide +kernel
theorem dX7_fault_9 : decode cX7_fault 9 = .ok (.iconst (-1), 1) := by decide +kernel
theorem dX7_fault_10 : decode cX7_fault 10 = .ok (.ireturn, 1) := by decide +kernel
theorem dX7_fault_11 : decode cX7_fault 11 = .ok (.iload_n 1, 1) := by decide +kernel
theorem dX7_fault_12 : decode cX7_fault 12 = .ok (.ifCond .ne 13, 3) := by decide +kernel
theorem dX7_fault_15 : decode cX7_fault 15 = .ok (.aload_n 0, 1) := by decide +kernel
theorem dX7_fault_16 : decode cX7_fault 16 = .ok (.invokevirtual 137, 3) := by decide +kernel
theorem dX7_fault_19 : decode cX7_fault 19 = .ok (.ifCond .eq 18, 3) := by decide +kernel
theorem dX7_fault_22 : decode cX7_fault 22 = .ok (.goto 10, 3) := by decide +kernel
theorem dX7_fault_25 : decode cX7_fault 25 = .ok (.aload_n 0, 1) := by decide +kernel
theorem dX7_fault_26 : decode cX7_fault 26 = .ok (.invokevirtual 141, 3) := by decide +kernel
theorem dX7_fault_29 : decode cX7_fault 29 = .ok (.ifCond .eq 8, 3) := by decide +kernel
theorem dX7_fault_32 : decode cX7_fault 32 = .ok (.bipush (-4), 2) := by decide +kernel
theorem dX7_fault_34 : decode cX7_fault 34 = .ok (.goto 7, 3) := by decide +kernel
theorem dX7_fault_37 : decode cX7_fault 37 = .ok (.aload_n 0, 1) := by decide +kernel
theorem dX7_fault_38 : decode cX7_fault 38 = .ok (.getfield 111, 3) := by decide +kernel
theorem dX7_fault_41 : decode cX7_fault 41 = .ok (.ireturn, 1) := by decide +kernel
set_option maxRecDepth 20000 in
theorem ggX7_board_X7_isBoard : GoodIn wsX7_board wsX7_isBoard := goodIn_r _ [7, 8, 2, 9, 10, 11, 6, 12, 1, 13, 14, 15, 38, 39, 40, 41, 42, 43, 44, 45, 46, 47, 48, 49, 50, 51, 52, 53, 54] (by decide +kernel) (by decide +kernel)
set_option maxRecDepth 20000 in
theorem gX7_board_X7_isBoard : GoodIn wsX7_board (wsV RX7 137 RX7 yX7_isBoard wsX7_isBoard) := goodIn_app (goodIn_of _ (by decide +kernel)) ggX7_board_X7_isBoard
set_option maxRecDepth 20000 in
theorem ggX7_board_X7_records : GoodIn wsX7_board wsX7_records := goodIn_r _ [19, 20, 21, 22, 23, 24, 6, 25, 38, 39, 40, 41, 42, 43, 44, 45, 46, 47, 48, 49, 50, 51, 52, 53, 54] (by decide +kernel) (by decide +kernel)
set_option maxRecDepth 20000 in
theorem gX7_board_X7_records : GoodIn wsX7_board (wsV RX7 89 RX7 yX7_records wsX7_records) := goodIn_app (goodIn_of _ (by decide +kernel)) ggX7_board_X7_records
set_option maxRecDepth 20000 in
theorem ggX7_board_X7_lays : GoodIn wsX7_board wsX7_lays := goodIn_r _ [29, 22, 38, 39, 40, 41, 42, 43, 44, 45, 46, 47, 48, 49, 50, 51, 52, 53, 54] (by decide +kernel) (by decide +kernel)
set_option maxRecDepth 20000 in
theorem gX7_board_X7_lays : GoodIn wsX7_board (wsV RX7 53 RX7 yX7_lays wsX7_lays) := goodIn_app (goodIn_of _ (by decide +kernel)) ggX7_board_X7_lays
set_option maxRecDepth 20000 in
theorem ggX7_board_X7_outOnes : GoodIn wsX7_board wsX7_outOnes := goodIn_r _ [33, 34, 35, 36, 6, 37, 22, 38, 39, 40, 41, 42, 43, 44, 45, 46, 47, 48, 49, 50, 51, 52, 53, 54] (by decide +kernel) (by decide +kernel)
set_option maxRecDepth 20000 in
theorem gX7_board_X7_outOnes : GoodIn wsX7_board (wsV RX7 98 RX7 yX7_outOnes wsX7_outOnes) := goodIn_app (goodIn_of _ (by decide +kernel)) ggX7_board_X7_outOnes
theorem dX7_board_0 : decode cX7_board 0 = .ok (.aload_n 0, 1) := by decide +kernel
theorem dX7_board_1 : decode cX7_board 1 = .ok (.invokevirtual 137, 3) := by decide +kernel
theorem dX7_board_4 : decode cX7_board 4 = .ok (.ifCond .ne 6, 3) := by decide +kernel
theorem dX7_board_7 : decode cX7_board 7 = .ok (.bipush (-2), 2) := by decide +kernel
theorem dX7_board_9 : decode cX7_board 9 = .ok (.ireturn, 1) := by decide +kernel
theorem dX7_board_10 : decode cX7_board 10 = .ok (.aload_n 0, 1) := by decide +kernel
theorem dX7_board_11 : decode cX7_board 11 = .ok (.invokevirtual 89, 3) := by decide +kernel
theorem dX7_board_14 : decode cX7_board 14 = .ok (.iconst 0, 1) := by decide +kernel
theorem dX7_board_15 : decode cX7_board 15 = .ok (.istore_n 1, 1) := by decide +kernel
theorem dX7_board_16 : decode cX7_board 16 = .ok (.iload_n 1, 1) := by decide +kernel
theorem dX7_board_17 : decode cX7_board 17 = .ok (.bipush 35, 2) := by decide +kernel
theorem dX7_board_19 : decode cX7_board 19 = .ok (.if_icmp .ge 84, 3) := by decide +kernel
theorem dX7_board_22 : decode cX7_board 22 = .ok (.aload_n 0, 1) := by decide +kernel
theorem dX7_board_23 : decode cX7_board 23 = .ok (.getfield 22, 3) := by decide +kernel
theorem dX7_board_26 : decode cX7_board 26 = .ok (.iload_n 1, 1) := by decide +kernel
theorem dX7_board_27 : decode cX7_board 27 = .ok (.iaload, 1) := by decide +kernel
theorem dX7_board_28 : decode cX7_board 28 = .ok (.istore_n 2, 1) := by decide +kernel
theorem dX7_board_29 : decode cX7_board 29 = .ok (.aload_n 0, 1) := by decide +kernel
theorem dX7_board_30 : decode cX7_board 30 = .ok (.iload_n 1, 1) := by decide +kernel
theorem dX7_board_31 : decode cX7_board 31 = .ok (.iconst 0, 1) := by decide +kernel
theorem dX7_board_32 : decode cX7_board 32 = .ok (.iload_n 2, 1) := by decide +kernel
theorem dX7_board_33 : decode cX7_board 33 = .ok (.bipush 60, 2) := by decide +kernel
theorem dX7_board_35 : decode cX7_board 35 = .ok (.if_icmp .ne 7, 3) := by decide +kernel
theorem dX7_board_38 : decode cX7_board 38 = .ok (.iconst (-1), 1) := by decide +kernel
theorem dX7_board_39 : decode cX7_board 39 = .ok (.goto 14, 3) := by decide +kernel
theorem dX7_board_42 : decode cX7_board 42 = .ok (.iload_n 2, 1) := by decide +kernel
theorem dX7_board_43 : decode cX7_board 43 = .ok (.bipush 62, 2) := by decide +kernel
theorem dX7_board_45 : decode cX7_board 45 = .ok (.if_icmp .ne 7, 3) := by decide +kernel
theorem dX7_board_48 : decode cX7_board 48 = .ok (.iconst 1, 1) := by decide +kernel
theorem dX7_board_49 : decode cX7_board 49 = .ok (.goto 4, 3) := by decide +kernel
theorem dX7_board_52 : decode cX7_board 52 = .ok (.iconst 0, 1) := by decide +kernel
theorem dX7_board_53 : decode cX7_board 53 = .ok (.invokevirtual 53, 3) := by decide +kernel
theorem dX7_board_56 : decode cX7_board 56 = .ok (.aload_n 0, 1) := by decide +kernel
theorem dX7_board_57 : decode cX7_board 57 = .ok (.iload_n 1, 1) := by decide +kernel
theorem dX7_board_58 : decode cX7_board 58 = .ok (.iconst 1, 1) := by decide +kernel
theorem dX7_board_59 : decode cX7_board 59 = .ok (.iload_n 2, 1) := by decide +kernel
theorem dX7_board_60 : decode cX7_board 60 = .ok (.bipush 46, 2) := by decide +kernel
theorem dX7_board_62 : decode cX7_board 62 = .ok (.if_icmp .ne 7, 3) := by decide +kernel
theorem dX7_board_65 : decode cX7_board 65 = .ok (.iconst 1, 1) := by decide +kernel
theorem dX7_board_66 : decode cX7_board 66 = .ok (.goto 4, 3) := by decide +kernel
theorem dX7_board_69 : decode cX7_board 69 = .ok (.iconst 0, 1) := by decide +kernel
theorem dX7_board_70 : decode cX7_board 70 = .ok (.invokevirtual 53, 3) := by decide +kernel
theorem dX7_board_73 : decode cX7_board 73 = .ok (.aload_n 0, 1) := by decide +kernel
theorem dX7_board_74 : decode cX7_board 74 = .ok (.iload_n 1, 1) := by decide +kernel
theorem dX7_board_75 : decode cX7_board 75 = .ok (.iconst 2, 1) := by decide +kernel
theorem dX7_board_76 : decode cX7_board 76 = .ok (.iload_n 2, 1) := by decide +kernel
theorem dX7_board_77 : decode cX7_board 77 = .ok (.bipush 111, 2) := by decide +kernel
theorem dX7_board_79 : decode cX7_board 79 = .ok (.if_icmp .ne 7, 3) := by decide +kernel
theorem dX7_board_82 : decode cX7_board 82 = .ok (.iconst 1, 1) := by decide +kernel
theorem dX7_board_83 : decode cX7_board 83 = .ok (.goto 4, 3) := by decide +kernel
theorem dX7_board_86 : decode cX7_board 86 = .ok (.iconst 0, 1) := by decide +kernel
theorem dX7_board_87 : decode cX7_board 87 = .ok (.invokevirtual 53, 3) := by decide +kernel
theorem dX7_board_90 : decode cX7_board 90 = .ok (.aload_n 0, 1) := by decide +kernel
theorem dX7_board_91 : decode cX7_board 91 = .ok (.iload_n 1, 1) := by decide +kernel
theorem dX7_board_92 : decode cX7_board 92 = .ok (.iconst 3, 1) := by decide +kernel
theorem dX7_board_93 : decode cX7_board 93 = .ok (.iconst 0, 1) := by decide +kernel
theorem dX7_board_94 : decode cX7_board 94 = .ok (.invokevirtual 53, 3) := by decide +kernel
theorem dX7_board_97 : decode cX7_board 97 = .ok (.iinc 1 1, 3) := by decide +kernel
theorem dX7_board_100 : decode cX7_board 100 = .ok (.goto (-84), 3) := by decide +kernel
theorem dX7_board_103 : decode cX7_board 103 = .ok (.aload_n 0, 1) := by decide +kernel
theorem dX7_board_104 : decode cX7_board 104 = .ok (.iconst 0, 1) := by decide +kernel
theorem dX7_board_105 : decode cX7_board 105 = .ok (.putfield 108, 3) := by decide +kernel
theorem dX7_board_108 : decode cX7_board 108 = .ok (.bipush 35, 2) := by decide +kernel
theorem dX7_board_110 : decode cX7_board 110 = .ok (.aload_n 0, 1) := by decide +kernel
theorem dX7_board_111 : decode cX7_board 111 = .ok (.invokevirtual 98, 3) := by decide +kernel
theorem dX7_board_114 : decode cX7_board 114 = .ok (.isub, 1) := by decide +kernel
theorem dX7_board_115 : decode cX7_board 115 = .ok (.ireturn, 1) := by decide +kernel
set_option maxRecDepth 20000 in
theorem ggX7_shots_X7_areShots : GoodIn wsX7_shots wsX7_areShots := goodIn_r _ [12, 2, 13, 4, 14, 15, 16, 11, 17, 6, 5, 18, 19, 20, 21, 22, 23, 24, 25, 26, 27, 28, 29, 30, 31, 32, 90, 91, 92, 93, 94, 95, 96, 97, 98, 99, 100, 101, 102, 103, 104, 105, 106] (by decide +kernel) (by decide +kernel)
set_option maxRecDepth 20000 in
theorem gX7_shots_X7_areShots : GoodIn wsX7_shots (wsV RX7 141 RX7 yX7_areShots wsX7_areShots) := goodIn_app (goodIn_of _ (by decide +kernel)) ggX7_shots_X7_areShots
set_option maxRecDepth 20000 in
theorem ggX7_shots_X7_records : GoodIn wsX7_shots wsX7_records := goodIn_r _ [36, 37, 38, 1, 39, 40, 11, 41, 90, 91, 92, 93, 94, 95, 96, 97, 98, 99, 100, 101, 102, 103, 104, 105, 106] (by decide +kernel) (by decide +kernel)
set_option maxRecDepth 20000 in
theorem gX7_shots_X7_records : GoodIn wsX7_shots (wsV RX7 89 RX7 yX7_records wsX7_records) := goodIn_app (goodIn_of _ (by decide +kernel)) ggX7_shots_X7_records
set_option maxRecDepth 20000 in
theorem ggX7_shots_X7_takesShot : GoodIn wsX7_shots wsX7_takesShot := goodIn_r _ [17, 6, 5, 2, 13, 18, 19, 20, 11, 21, 4, 22, 23, 24, 25, 26, 27, 28, 29, 30, 31, 32, 90, 91, 92, 93, 94, 95, 96, 97, 98, 99, 100, 101, 102, 103, 104, 105, 106] (by decide +kernel) (by decide +kernel)
set_option maxRecDepth 20000 in
theorem gX7_shots_X7_takesShot : GoodIn wsX7_shots (wsV RX7 134 RX7 yX7_takesShot wsX7_takesShot) := goodIn_app (goodIn_of _ (by decide +kernel)) ggX7_shots_X7_takesShot
set_option maxRecDepth 20000 in
theorem ggX7_shots_X7_goEmpty : GoodIn wsX7_shots wsX7_goEmpty := goodIn_r _ [45, 1, 46, 47, 48, 11, 49, 50, 51, 52, 53, 90, 91, 92, 93, 94, 95, 96, 97, 98, 99, 100, 101, 102, 103, 104, 105, 106] (by decide +kernel) (by decide +kernel)
set_option maxRecDepth 20000 in
theorem gX7_shots_X7_goEmpty : GoodIn wsX7_shots (wsV RX7 105 RX7 yX7_goEmpty wsX7_goEmpty) := goodIn_app (goodIn_of _ (by decide +kernel)) ggX7_shots_X7_goEmpty
set_option maxRecDepth 20000 in
theorem ggX7_shots_X7_goShoot : GoodIn wsX7_shots wsX7_goShoot := goodIn_r _ [57, 1, 58, 59, 60, 61, 11, 62, 63, 64, 65, 66, 67, 68, 69, 70, 71, 72, 73, 74, 75, 76, 77, 78, 79, 80, 81, 82, 26, 27, 28, 83, 84, 85, 50, 51, 52, 53, 86, 87, 88, 89, 46, 47, 48, 49, 90, 91, 92, 93, 94, 95, 96, 97, 98, 99, 100, 101, 102, 103, 104, 105, 106] (by decide +kernel) (by decide +kernel)
set_option maxRecDepth 20000 in
theorem gX7_shots_X7_goShoot : GoodIn wsX7_shots (wsV RX7 92 RX7 yX7_goShoot wsX7_goShoot) := goodIn_app (goodIn_of _ (by decide +kernel)) ggX7_shots_X7_goShoot
theorem dX7_shots_0 : decode cX7_shots 0 = .ok (.aload_n 0, 1) := by decide +kernel
theorem dX7_shots_1 : decode cX7_shots 1 = .ok (.invokevirtual 141, 3) := by decide +kernel
theorem dX7_shots_4 : decode cX7_shots 4 = .ok (.ifCond .ne 6, 3) := by decide +kernel
theorem dX7_shots_7 : decode cX7_shots 7 = .ok (.bipush (-2), 2) := by decide +kernel
theorem dX7_shots_9 : decode cX7_shots 9 = .ok (.ireturn, 1) := by decide +kernel
theorem dX7_shots_10 : decode cX7_shots 10 = .ok (.aload_n 0, 1) := by decide +kernel
theorem dX7_shots_11 : decode cX7_shots 11 = .ok (.invokevirtual 89, 3) := by decide +kernel
theorem dX7_shots_14 : decode cX7_shots 14 = .ok (.aload_n 0, 1) := by decide +kernel
theorem dX7_shots_15 : decode cX7_shots 15 = .ok (.getfield 7, 3) := by decide +kernel
theorem dX7_shots_18 : decode cX7_shots 18 = .ok (.iconst 0, 1) := by decide +kernel
theorem dX7_shots_19 : decode cX7_shots 19 = .ok (.iaload, 1) := by decide +kernel
theorem dX7_shots_20 : decode cX7_shots 20 = .ok (.istore_n 1, 1) := by decide +kernel
theorem dX7_shots_21 : decode cX7_shots 21 = .ok (.iconst 0, 1) := by decide +kernel
theorem dX7_shots_22 : decode cX7_shots 22 = .ok (.istore_n 2, 1) := by decide +kernel
theorem dX7_shots_23 : decode cX7_shots 23 = .ok (.aload_n 0, 1) := by decide +kernel
theorem dX7_shots_24 : decode cX7_shots 24 = .ok (.iconst 0, 1) := by decide +kernel
theorem dX7_shots_25 : decode cX7_shots 25 = .ok (.putfield 111, 3) := by decide +kernel
theorem dX7_shots_28 : decode cX7_shots 28 = .ok (.aload_n 0, 1) := by decide +kernel
theorem dX7_shots_29 : decode cX7_shots 29 = .ok (.iconst 0, 1) := by decide +kernel
theorem dX7_shots_30 : decode cX7_shots 30 = .ok (.putfield 144, 3) := by decide +kernel
theorem dX7_shots_33 : decode cX7_shots 33 = .ok (.aload_n 0, 1) := by decide +kernel
theorem dX7_shots_34 : decode cX7_shots 34 = .ok (.getfield 144, 3) := by decide +kernel
theorem dX7_shots_37 : decode cX7_shots 37 = .ok (.ifCond .ne 104, 3) := by decide +kernel
theorem dX7_shots_40 : decode cX7_shots 40 = .ok (.aload_n 0, 1) := by decide +kernel
theorem dX7_shots_41 : decode cX7_shots 41 = .ok (.getfield 111, 3) := by decide +kernel
theorem dX7_shots_44 : decode cX7_shots 44 = .ok (.aload_n 0, 1) := by decide +kernel
theorem dX7_shots_45 : decode cX7_shots 45 = .ok (.getfield 108, 3) := by decide +kernel
theorem dX7_shots_48 : decode cX7_shots 48 = .ok (.if_icmp .ge 93, 3) := by decide +kernel
theorem dX7_shots_51 : decode cX7_shots 51 = .ok (.aload_n 0, 1) := by decide +kernel
theorem dX7_shots_52 : decode cX7_shots 52 = .ok (.getfield 111, 3) := by decide +kernel
theorem dX7_shots_55 : decode cX7_shots 55 = .ok (.istore_n 3, 1) := by decide +kernel
theorem dX7_shots_56 : decode cX7_shots 56 = .ok (.aload_n 0, 1) := by decide +kernel
theorem dX7_shots_57 : decode cX7_shots 57 = .ok (.invokevirtual 134, 3) := by decide +kernel
theorem dX7_shots_60 : decode cX7_shots 60 = .ok (.aload_n 0, 1) := by decide +kernel
theorem dX7_shots_61 : decode cX7_shots 61 = .ok (.dup, 1) := by decide +kernel
theorem dX7_shots_62 : decode cX7_shots 62 = .ok (.getfield 111, 3) := by decide +kernel
theorem dX7_shots_65 : decode cX7_shots 65 = .ok (.iconst 1, 1) := by decide +kernel
theorem dX7_shots_66 : decode cX7_shots 66 = .ok (.iadd, 1) := by decide +kernel
theorem dX7_shots_67 : decode cX7_shots 67 = .ok (.putfield 111, 3) := by decide +kernel
theorem dX7_shots_70 : decode cX7_shots 70 = .ok (.aload_n 0, 1) := by decide +kernel
theorem dX7_shots_71 : decode cX7_shots 71 = .ok (.getfield 127, 3) := by decide +kernel
theorem dX7_shots_74 : decode cX7_shots 74 = .ok (.ifCond .ge 13, 3) := by decide +kernel
theorem dX7_shots_77 : decode cX7_shots 77 = .ok (.bipush 10, 2) := by decide +kernel
theorem dX7_shots_79 : decode cX7_shots 79 = .ok (.aload_n 0, 1) := by decide +kernel
theorem dX7_shots_80 : decode cX7_shots 80 = .ok (.invokevirtual 105, 3) := by decide +kernel
theorem dX7_shots_83 : decode cX7_shots 83 = .ok (.iadd, 1) := by decide +kernel
theorem dX7_shots_84 : decode cX7_shots 84 = .ok (.goto 15, 3) := by decide +kernel
theorem dX7_shots_87 : decode cX7_shots 87 = .ok (.aload_n 0, 1) := by decide +kernel
theorem dX7_shots_88 : decode cX7_shots 88 = .ok (.aload_n 0, 1) := by decide +kernel
theorem dX7_shots_89 : decode cX7_shots 89 = .ok (.getfield 127, 3) := by decide +kernel
theorem dX7_shots_92 : decode cX7_shots 92 = .ok (.aload_n 0, 1) := by decide +kernel
theorem dX7_shots_93 : decode cX7_shots 93 = .ok (.getfield 124, 3) := by decide +kernel
theorem dX7_shots_96 : decode cX7_shots 96 = .ok (.invokevirtual 92, 3) := by decide +kernel
theorem dX7_shots_99 : decode cX7_shots 99 = .ok (.istore 4, 2) := by decide +kernel
theorem dX7_shots_101 : decode cX7_shots 101 = .ok (.iload 4, 2) := by decide +kernel
theorem dX7_shots_103 : decode cX7_shots 103 = .ok (.bipush 10, 2) := by decide +kernel
theorem dX7_shots_105 : decode cX7_shots 105 = .ok (.if_icmp .ge 30, 3) := by decide +kernel
theorem dX7_shots_108 : decode cX7_shots 108 = .ok (.aload_n 0, 1) := by decide +kernel
theorem dX7_shots_109 : decode cX7_shots 109 = .ok (.iconst 1, 1) := by decide +kernel
theorem dX7_shots_110 : decode cX7_shots 110 = .ok (.putfield 144, 3) := by decide +kernel
theorem dX7_shots_113 : decode cX7_shots 113 = .ok (.aload_n 0, 1) := by decide +kernel
theorem dX7_shots_114 : decode cX7_shots 114 = .ok (.getfield 25, 3) := by decide +kernel
theorem dX7_shots_117 : decode cX7_shots 117 = .ok (.iconst 0, 1) := by decide +kernel
theorem dX7_shots_118 : decode cX7_shots 118 = .ok (.iload 4, 2) := by decide +kernel
theorem dX7_shots_120 : decode cX7_shots 120 = .ok (.iastore, 1) := by decide +kernel
theorem dX7_shots_121 : decode cX7_shots 121 = .ok (.aload_n 0, 1) := by decide +kernel
theorem dX7_shots_122 : decode cX7_shots 122 = .ok (.getfield 25, 3) := by decide +kernel
theorem dX7_shots_125 : decode cX7_shots 125 = .ok (.iconst 1, 1) := by decide +kernel
theorem dX7_shots_126 : decode cX7_shots 126 = .ok (.iload_n 2, 1) := by decide +kernel
theorem dX7_shots_127 : decode cX7_shots 127 = .ok (.iastore, 1) := by decide +kernel
theorem dX7_shots_128 : decode cX7_shots 128 = .ok (.aload_n 0, 1) := by decide +kernel
theorem dX7_shots_129 : decode cX7_shots 129 = .ok (.getfield 25, 3) := by decide +kernel
theorem dX7_shots_132 : decode cX7_shots 132 = .ok (.iconst 2, 1) := by decide +kernel
theorem dX7_shots_133 : decode cX7_shots 133 = .ok (.iload_n 3, 1) := by decide +kernel
theorem dX7_shots_134 : decode cX7_shots 134 = .ok (.iastore, 1) := by decide +kernel
theorem dX7_shots_135 : decode cX7_shots 135 = .ok (.iinc 2 1, 3) := by decide +kernel
theorem dX7_shots_138 : decode cX7_shots 138 = .ok (.goto (-105), 3) := by decide +kernel
theorem dX7_shots_141 : decode cX7_shots 141 = .ok (.aload_n 0, 1) := by decide +kernel
theorem dX7_shots_142 : decode cX7_shots 142 = .ok (.iconst 0, 1) := by decide +kernel
theorem dX7_shots_143 : decode cX7_shots 143 = .ok (.putfield 108, 3) := by decide +kernel
theorem dX7_shots_146 : decode cX7_shots 146 = .ok (.aload_n 0, 1) := by decide +kernel
theorem dX7_shots_147 : decode cX7_shots 147 = .ok (.getfield 7, 3) := by decide +kernel
theorem dX7_shots_150 : decode cX7_shots 150 = .ok (.iconst 0, 1) := by decide +kernel
theorem dX7_shots_151 : decode cX7_shots 151 = .ok (.iaload, 1) := by decide +kernel
theorem dX7_shots_152 : decode cX7_shots 152 = .ok (.iload_n 1, 1) := by decide +kernel
theorem dX7_shots_153 : decode cX7_shots 153 = .ok (.isub, 1) := by decide +kernel
theorem dX7_shots_154 : decode cX7_shots 154 = .ok (.ireturn, 1) := by decide +kernel
set_option maxRecDepth 20000 in
theorem ggX7_why_X7_in : GoodIn wsX7_why wsX7_in := goodIn_r _ [6] (by decide +kernel) (by decide +kernel)
set_option maxRecDepth 20000 in
theorem gX7_why_X7_in : GoodIn wsX7_why (va_wsS RX7 42 yX7_in wsX7_in) := goodIn_app (goodIn_of _ (by decide +kernel)) ggX7_why_X7_in
theorem dX7_why_0 : decode cX7_why 0 = .ok (.iload_n 1, 1) := by decide +kernel
theorem dX7_why_1 : decode cX7_why 1 = .ok (.iconst 0, 1) := by decide +kernel
theorem dX7_why_2 : decode cX7_why 2 = .ok (.iconst 2, 1) := by decide +kernel
theorem dX7_why_3 : decode cX7_why 3 = .ok (.invokestatic 42, 3) := by decide +kernel
theorem dX7_why_6 : decode cX7_why 6 = .ok (.ifCond .ne 5, 3) := by decide +kernel
theorem dX7_why_9 : decode cX7_why 9 = .ok (.iconst (-1), 1) := by decide +kernel
theorem dX7_why_10 : decode cX7_why 10 = .ok (.ireturn, 1) := by decide +kernel
theorem dX7_why_11 : decode cX7_why 11 = .ok (.aload_n 0, 1) := by decide +kernel
theorem dX7_why_12 : decode cX7_why 12 = .ok (.getfield 144, 3) := by decide +kernel
theorem dX7_why_15 : decode cX7_why 15 = .ok (.ifCond .eq 12, 3) := by decide +kernel
theorem dX7_why_18 : decode cX7_why 18 = .ok (.aload_n 0, 1) := by decide +kernel
theorem dX7_why_19 : decode cX7_why 19 = .ok (.getfield 25, 3) := by decide +kernel
theorem dX7_why_22 : decode cX7_why 22 = .ok (.iload_n 1, 1) := by decide +kernel
theorem dX7_why_23 : decode cX7_why 23 = .ok (.iaload, 1) := by decide +kernel
theorem dX7_why_24 : decode cX7_why 24 = .ok (.goto 5, 3) := by decide +kernel
theorem dX7_why_27 : decode cX7_why 27 = .ok (.bipush (-4), 2) := by decide +kernel
theorem dX7_why_29 : decode cX7_why 29 = .ok (.ireturn, 1) := by decide +kernel
set_option maxRecDepth 20000 in
theorem ggX7_sign_X7_isPin : GoodIn wsX7_sign wsX7_isPin := goodIn_r _ [4, 5, 6, 3, 7] (by decide +kernel) (by decide +kernel)
set_option maxRecDepth 20000 in
theorem gX7_sign_X7_isPin : GoodIn wsX7_sign (va_wsS RX7 95 yX7_isPin wsX7_isPin) := goodIn_app (goodIn_of _ (by decide +kernel)) ggX7_sign_X7_isPin
set_option maxRecDepth 20000 in
theorem ggX7_sign_X7_of : GoodIn wsX7_sign wsX7_of := goodIn_r _ [11, 12, 13, 14, 15, 16, 17, 18, 19, 20, 21, 22, 23, 24, 25, 26, 27, 28, 29] (by decide +kernel) (by decide +kernel)
set_option maxRecDepth 20000 in
theorem gX7_sign_X7_of : GoodIn wsX7_sign (wsV RX7 50 RX7 yX7_of wsX7_of) := goodIn_app (goodIn_of _ (by decide +kernel)) ggX7_sign_X7_of
theorem dX7_sign_0 : decode cX7_sign 0 = .ok (.iload_n 1, 1) := by decide +kernel
theorem dX7_sign_1 : decode cX7_sign 1 = .ok (.invokestatic 95, 3) := by decide +kernel
theorem dX7_sign_4 : decode cX7_sign 4 = .ok (.ifCond .ne 5, 3) := by decide +kernel
theorem dX7_sign_7 : decode cX7_sign 7 = .ok (.iconst (-1), 1) := by decide +kernel
theorem dX7_sign_8 : decode cX7_sign 8 = .ok (.ireturn, 1) := by decide +kernel
theorem dX7_sign_9 : decode cX7_sign 9 = .ok (.aload_n 0, 1) := by decide +kernel
theorem dX7_sign_10 : decode cX7_sign 10 = .ok (.iload_n 1, 1) := by decide +kernel
theorem dX7_sign_11 : decode cX7_sign 11 = .ok (.iconst 0, 1) := by decide +kernel
theorem dX7_sign_12 : decode cX7_sign 12 = .ok (.invokevirtual 50, 3) := by decide +kernel
theorem dX7_sign_15 : decode cX7_sign 15 = .ok (.istore_n 2, 1) := by decide +kernel
theorem dX7_sign_16 : decode cX7_sign 16 = .ok (.aload_n 0, 1) := by decide +kernel
theorem dX7_sign_17 : decode cX7_sign 17 = .ok (.iload_n 1, 1) := by decide +kernel
theorem dX7_sign_18 : decode cX7_sign 18 = .ok (.iconst 1, 1) := by decide +kernel
theorem dX7_sign_19 : decode cX7_sign 19 = .ok (.invokevirtual 50, 3) := by decide +kernel
theorem dX7_sign_22 : decode cX7_sign 22 = .ok (.iconst 1, 1) := by decide +kernel
theorem dX7_sign_23 : decode cX7_sign 23 = .ok (.if_icmp .ne 8, 3) := by decide +kernel
theorem dX7_sign_26 : decode cX7_sign 26 = .ok (.bipush 46, 2) := by decide +kernel
theorem dX7_sign_28 : decode cX7_sign 28 = .ok (.goto 38, 3) := by decide +kernel
theorem dX7_sign_31 : decode cX7_sign 31 = .ok (.aload_n 0, 1) := by decide +kernel
theorem dX7_sign_32 : decode cX7_sign 32 = .ok (.iload_n 1, 1) := by decide +kernel
theorem dX7_sign_33 : decode cX7_sign 33 = .ok (.iconst 2, 1) := by decide +kernel
theorem dX7_sign_34 : decode cX7_sign 34 = .ok (.invokevirtual 50, 3) := by decide +kernel
theorem dX7_sign_37 : decode cX7_sign 37 = .ok (.iconst 1, 1) := by decide +kernel
theorem dX7_sign_38 : decode cX7_sign 38 = .ok (.if_icmp .ne 8, 3) := by decide +kernel
theorem dX7_sign_41 : decode cX7_sign 41 = .ok (.bipush 111, 2) := by decide +kernel
theorem dX7_sign_43 : decode cX7_sign 43 = .ok (.goto 23, 3) := by decide +kernel
theorem dX7_sign_46 : decode cX7_sign 46 = .ok (.iload_n 2, 1) := by decide +kernel
theorem dX7_sign_47 : decode cX7_sign 47 = .ok (.ifCond .ge 8, 3) := by decide +kernel
theorem dX7_sign_50 : decode cX7_sign 50 = .ok (.bipush 60, 2) := by decide +kernel
theorem dX7_sign_52 : decode cX7_sign 52 = .ok (.goto 14, 3) := by decide +kernel
theorem dX7_sign_55 : decode cX7_sign 55 = .ok (.iload_n 2, 1) := by decide +kernel
theorem dX7_sign_56 : decode cX7_sign 56 = .ok (.ifCond .le 8, 3) := by decide +kernel
theorem dX7_sign_59 : decode cX7_sign 59 = .ok (.bipush 62, 2) := by decide +kernel
theorem dX7_sign_61 : decode cX7_sign 61 = .ok (.goto 5, 3) := by decide +kernel
theorem dX7_sign_64 : decode cX7_sign 64 = .ok (.bipush 124, 2) := by decide +kernel
theorem dX7_sign_66 : decode cX7_sign 66 = .ok (.ireturn, 1) := by decide +kernel
set_option maxRecDepth 20000 in
theorem ggX7_nextOf_X7_of : GoodIn wsX7_nextOf wsX7_of := goodIn_r _ [5, 6, 17, 18, 19, 20, 21, 22, 23, 24, 25, 26, 27, 28, 29, 30, 31, 32, 33] (by decide +kernel) (by decide +kernel)
set_option maxRecDepth 20000 in
theorem gX7_nextOf_X7_of : GoodIn wsX7_nextOf (wsV RX7 50 RX7 yX7_of wsX7_of) := goodIn_app (goodIn_of _ (by decide +kernel)) ggX7_nextOf_X7_of
set_option maxRecDepth 20000 in
theorem ggX7_nextOf_X7_sends : GoodIn wsX7_nextOf wsX7_sends := goodIn_r _ [10, 6, 1, 2, 3, 4, 5, 17, 18, 19, 20, 21, 22, 23, 24, 25, 26, 27, 28, 29, 30, 31, 32, 33] (by decide +kernel) (by decide +kernel)
set_option maxRecDepth 20000 in
theorem gX7_nextOf_X7_sends : GoodIn wsX7_nextOf (wsV RX7 60 RX7 yX7_sends wsX7_sends) := goodIn_app (goodIn_of _ (by decide +kernel)) ggX7_nextOf_X7_sends
set_option maxRecDepth 20000 in
theorem ggX7_nextOf_X7_moved : GoodIn wsX7_nextOf wsX7_moved := goodIn_r _ [13, 14, 15, 4, 16] (by decide +kernel) (by decide +kernel)
set_option maxRecDepth 20000 in
theorem gX7_nextOf_X7_moved : GoodIn wsX7_nextOf (va_wsS RX7 68 yX7_moved wsX7_moved) := goodIn_app (goodIn_of _ (by decide +kernel)) ggX7_nextOf_X7_moved
theorem dX7_nextOf_0 : decode cX7_nextOf 0 = .ok (.aload_n 0, 1) := by decide +kernel
theorem dX7_nextOf_1 : decode cX7_nextOf 1 = .ok (.iload_n 1, 1) := by decide +kernel
theorem dX7_nextOf_2 : decode cX7_nextOf 2 = .ok (.iconst 1, 1) := by decide +kernel
theorem dX7_nextOf_3 : decode cX7_nextOf 3 = .ok (.invokevirtual 50, 3) := by decide +kernel
theorem dX7_nextOf_6 : decode cX7_nextOf 6 = .ok (.iconst 1, 1) := by decide +kernel
theorem dX7_nextOf_7 : decode cX7_nextOf 7 = .ok (.if_icmp .ne 7, 3) := by decide +kernel
theorem dX7_nextOf_10 : decode cX7_nextOf 10 = .ok (.iconst 1, 1) := by decide +kernel
theorem dX7_nextOf_11 : decode cX7_nextOf 11 = .ok (.iload_n 2, 1) := by decide +kernel
theorem dX7_nextOf_12 : decode cX7_nextOf 12 = .ok (.ishl, 1) := by decide +kernel
theorem dX7_nextOf_13 : decode cX7_nextOf 13 = .ok (.ireturn, 1) := by decide +kernel
theorem dX7_nextOf_14 : decode cX7_nextOf 14 = .ok (.aload_n 0, 1) := by decide +kernel
theorem dX7_nextOf_15 : decode cX7_nextOf 15 = .ok (.iload_n 1, 1) := by decide +kernel
theorem dX7_nextOf_16 : decode cX7_nextOf 16 = .ok (.invokevirtual 60, 3) := by decide +kernel
theorem dX7_nextOf_19 : decode cX7_nextOf 19 = .ok (.istore_n 3, 1) := by decide +kernel
theorem dX7_nextOf_20 : decode cX7_nextOf 20 = .ok (.iload_n 3, 1) := by decide +kernel
theorem dX7_nextOf_21 : decode cX7_nextOf 21 = .ok (.ifCond .ne 21, 3) := by decide +kernel
theorem dX7_nextOf_24 : decode cX7_nextOf 24 = .ok (.iconst 1, 1) := by decide +kernel
theorem dX7_nextOf_25 : decode cX7_nextOf 25 = .ok (.iload_n 2, 1) := by decide +kernel
theorem dX7_nextOf_26 : decode cX7_nextOf 26 = .ok (.iconst (-1), 1) := by decide +kernel
theorem dX7_nextOf_27 : decode cX7_nextOf 27 = .ok (.invokestatic 68, 3) := by decide +kernel
theorem dX7_nextOf_30 : decode cX7_nextOf 30 = .ok (.ishl, 1) := by decide +kernel
theorem dX7_nextOf_31 : decode cX7_nextOf 31 = .ok (.iconst 1, 1) := by decide +kernel
theorem dX7_nextOf_32 : decode cX7_nextOf 32 = .ok (.iload_n 2, 1) := by decide +kernel
theorem dX7_nextOf_33 : decode cX7_nextOf 33 = .ok (.iconst 1, 1) := by decide +kernel
theorem dX7_nextOf_34 : decode cX7_nextOf 34 = .ok (.invokestatic 68, 3) := by decide +kernel
theorem dX7_nextOf_37 : decode cX7_nextOf 37 = .ok (.ishl, 1) := by decide +kernel
theorem dX7_nextOf_38 : decode cX7_nextOf 38 = .ok (.ior, 1) := by decide +kernel
theorem dX7_nextOf_39 : decode cX7_nextOf 39 = .ok (.goto 10, 3) := by decide +kernel
theorem dX7_nextOf_42 : decode cX7_nextOf 42 = .ok (.iconst 1, 1) := by decide +kernel
theorem dX7_nextOf_43 : decode cX7_nextOf 43 = .ok (.iload_n 2, 1) := by decide +kernel
theorem dX7_nextOf_44 : decode cX7_nextOf 44 = .ok (.iload_n 3, 1) := by decide +kernel
theorem dX7_nextOf_45 : decode cX7_nextOf 45 = .ok (.invokestatic 68, 3) := by decide +kernel
theorem dX7_nextOf_48 : decode cX7_nextOf 48 = .ok (.ishl, 1) := by decide +kernel
theorem dX7_nextOf_49 : decode cX7_nextOf 49 = .ok (.ireturn, 1) := by decide +kernel
set_option maxRecDepth 20000 in
theorem ggX7_comesTo_X7_nextOf : GoodIn wsX7_comesTo wsX7_nextOf := goodIn_r _ [5, 6, 7, 8, 4, 9, 10, 11, 12, 13, 14, 15, 16, 17, 18, 19, 20, 21, 22, 23, 24, 25, 26, 27, 28, 29, 30, 31, 32, 33, 34, 35, 36, 37] (by decide +kernel) (by decide +kernel)
set_option maxRecDepth 20000 in
theorem gX7_comesTo_X7_nextOf : GoodIn wsX7_comesTo (wsV RX7 147 RX7 yX7_nextOf wsX7_nextOf) := goodIn_app (goodIn_of _ (by decide +kernel)) ggX7_comesTo_X7_nextOf
theorem dX7_comesTo_0 : decode cX7_comesTo 0 = .ok (.iload_n 1, 1) := by decide +kernel
theorem dX7_comesTo_1 : decode cX7_comesTo 1 = .ok (.istore_n 3, 1) := by decide +kernel
theorem dX7_comesTo_2 : decode cX7_comesTo 2 = .ok (.iconst 0, 1) := by decide +kernel
theorem dX7_comesTo_3 : decode cX7_comesTo 3 = .ok (.istore 4, 2) := by decide +kernel
theorem dX7_comesTo_5 : decode cX7_comesTo 5 = .ok (.iload 4, 2) := by decide +kernel
theorem dX7_comesTo_7 : decode cX7_comesTo 7 = .ok (.iload_n 2, 1) := by decide +kernel
theorem dX7_comesTo_8 : decode cX7_comesTo 8 = .ok (.if_icmp .ge 64, 3) := by decide +kernel
theorem dX7_comesTo_11 : decode cX7_comesTo 11 = .ok (.iconst 0, 1) := by decide +kernel
theorem dX7_comesTo_12 : decode cX7_comesTo 12 = .ok (.istore 5, 2) := by decide +kernel
theorem dX7_comesTo_14 : decode cX7_comesTo 14 = .ok (.iconst 0, 1) := by decide +kernel
theorem dX7_comesTo_15 : decode cX7_comesTo 15 = .ok (.istore 6, 2) := by decide +kernel
theorem dX7_comesTo_17 : decode cX7_comesTo 17 = .ok (.iload 6, 2) := by decide +kernel
theorem dX7_comesTo_19 : decode cX7_comesTo 19 = .ok (.bipush 7, 2) := by decide +kernel
theorem dX7_comesTo_21 : decode cX7_comesTo 21 = .ok (.if_icmp .ge 42, 3) := by decide +kernel
theorem dX7_comesTo_24 : decode cX7_comesTo 24 = .ok (.iload 5, 2) := by decide +kernel
theorem dX7_comesTo_26 : decode cX7_comesTo 26 = .ok (.iload_n 3, 1) := by decide +kernel
theorem dX7_comesTo_27 : decode cX7_comesTo 27 = .ok (.iload 6, 2) := by decide +kernel
theorem dX7_comesTo_29 : decode cX7_comesTo 29 = .ok (.ishr, 1) := by decide +kernel
theorem dX7_comesTo_30 : decode cX7_comesTo 30 = .ok (.iconst 1, 1) := by decide +kernel
theorem dX7_comesTo_31 : decode cX7_comesTo 31 = .ok (.iand, 1) := by decide +kernel
theorem dX7_comesTo_32 : decode cX7_comesTo 32 = .ok (.iconst 1, 1) := by decide +kernel
theorem dX7_comesTo_33 : decode cX7_comesTo 33 = .ok (.if_icmp .ne 20, 3) := by decide +kernel
theorem dX7_comesTo_36 : decode cX7_comesTo 36 = .ok (.aload_n 0, 1) := by decide +kernel
theorem dX7_comesTo_37 : decode cX7_comesTo 37 = .ok (.bipush 7, 2) := by decide +kernel
theorem dX7_comesTo_39 : decode cX7_comesTo 39 = .ok (.iload 4, 2) := by decide +kernel
theorem dX7_comesTo_41 : decode cX7_comesTo 41 = .ok (.imul, 1) := by decide +kernel
theorem dX7_comesTo_42 : decode cX7_comesTo 42 = .ok (.iload 6, 2) := by decide +kernel
theorem dX7_comesTo_44 : decode cX7_comesTo 44 = .ok (.iadd, 1) := by decide +kernel
theorem dX7_comesTo_45 : decode cX7_comesTo 45 = .ok (.iload 6, 2) := by decide +kernel
theorem dX7_comesTo_47 : decode cX7_comesTo 47 = .ok (.invokevirtual 147, 3) := by decide +kernel
theorem dX7_comesTo_50 : decode cX7_comesTo 50 = .ok (.goto 4, 3) := by decide +kernel
theorem dX7_comesTo_53 : decode cX7_comesTo 53 = .ok (.iconst 0, 1) := by decide +kernel
theorem dX7_comesTo_54 : decode cX7_comesTo 54 = .ok (.ior, 1) := by decide +kernel
theorem dX7_comesTo_55 : decode cX7_comesTo 55 = .ok (.istore 5, 2) := by decide +kernel
theorem dX7_comesTo_57 : decode cX7_comesTo 57 = .ok (.iinc 6 1, 3) := by decide +kernel
theorem dX7_comesTo_60 : decode cX7_comesTo 60 = .ok (.goto (-43), 3) := by decide +kernel
theorem dX7_comesTo_63 : decode cX7_comesTo 63 = .ok (.iload 5, 2) := by decide +kernel
theorem dX7_comesTo_65 : decode cX7_comesTo 65 = .ok (.istore_n 3, 1) := by decide +kernel
theorem dX7_comesTo_66 : decode cX7_comesTo 66 = .ok (.iinc 4 1, 3) := by decide +kernel
theorem dX7_comesTo_69 : decode cX7_comesTo 69 = .ok (.goto (-64), 3) := by decide +kernel
theorem dX7_comesTo_72 : decode cX7_comesTo 72 = .ok (.iload_n 3, 1) := by decide +kernel
theorem dX7_comesTo_73 : decode cX7_comesTo 73 = .ok (.ireturn, 1) := by decide +kernel
set_option maxRecDepth 20000 in
theorem ggX7_reached_X7_comesTo : GoodIn wsX7_reached wsX7_comesTo := goodIn_r _ [5, 6, 7, 8, 4, 9, 10, 11, 12, 13, 14, 15, 16, 17, 18, 19, 20, 21, 22, 23, 24, 25, 26, 27, 28, 29, 30, 31, 32, 33, 34, 35, 36, 37, 38, 39, 40, 41] (by decide +kernel) (by decide +kernel)
set_option maxRecDepth 20000 in
theorem gX7_reached_X7_comesTo : GoodIn wsX7_reached (wsV RX7 150 RX7 yX7_comesTo wsX7_comesTo) := goodIn_app (goodIn_of _ (by decide +kernel)) ggX7_reached_X7_comesTo
theorem dX7_reached_0 : decode cX7_reached 0 = .ok (.aload_n 0, 1) := by decide +kernel
theorem dX7_reached_1 : decode cX7_reached 1 = .ok (.bipush 127, 2) := by decide +kernel
theorem dX7_reached_3 : decode cX7_reached 3 = .ok (.iconst 5, 1) := by decide +kernel
theorem dX7_reached_4 : decode cX7_reached 4 = .ok (.invokevirtual 150, 3) := by decide +kernel
theorem dX7_reached_7 : decode cX7_reached 7 = .ok (.ireturn, 1) := by decide +kernel
set_option maxRecDepth 20000 in
theorem ggX7_pin_X7_isPin : GoodIn wsX7_pin wsX7_isPin := goodIn_r _ [4, 5, 6, 3, 7] (by decide +kernel) (by decide +kernel)
set_option maxRecDepth 20000 in
theorem gX7_pin_X7_isPin : GoodIn wsX7_pin (va_wsS RX7 95 yX7_isPin wsX7_isPin) := goodIn_app (goodIn_of _ (by decide +kernel)) ggX7_pin_X7_isPin
set_option maxRecDepth 20000 in
theorem ggX7_pin_X7_in : GoodIn wsX7_pin wsX7_in := goodIn_r _ [7] (by decide +kernel) (by decide +kernel)
set_option maxRecDepth 20000 in
theorem gX7_pin_X7_in : GoodIn wsX7_pin (va_wsS RX7 42 yX7_in wsX7_in) := goodIn_app (goodIn_of _ (by decide +kernel)) ggX7_pin_X7_in
set_option maxRecDepth 20000 in
theorem ggX7_pin_X7_of : GoodIn wsX7_pin wsX7_of := goodIn_r _ [11, 12, 28, 29, 30, 31, 32, 33, 34, 35, 36, 37, 38, 39, 40, 41, 42, 43, 44] (by decide +kernel) (by decide +kernel)
set_option maxRecDepth 20000 in
theorem gX7_pin_X7_of : GoodIn wsX7_pin (wsV RX7 50 RX7 yX7_of wsX7_of) := goodIn_app (goodIn_of _ (by decide +kernel)) ggX7_pin_X7_of
set_option maxRecDepth 20000 in
theorem ggX7_pin_X7_comesTo : GoodIn wsX7_pin wsX7_comesTo := goodIn_r _ [16, 17, 18, 19, 3, 20, 8, 9, 10, 11, 12, 21, 22, 23, 24, 25, 26, 27, 5, 6, 7, 28, 29, 30, 31, 32, 33, 34, 35, 36, 37, 38, 39, 40, 41, 42, 43, 44] (by decide +kernel) (by decide +kernel)
set_option maxRecDepth 20000 in
theorem gX7_pin_X7_comesTo : GoodIn wsX7_pin (wsV RX7 150 RX7 yX7_comesTo wsX7_comesTo) := goodIn_app (goodIn_of _ (by decide +kernel)) ggX7_pin_X7_comesTo
theorem dX7_pin_0 : decode cX7_pin 0 = .ok (.iload_n 1, 1) := by decide +kernel
theorem dX7_pin_1 : decode cX7_pin 1 = .ok (.invokestatic 95, 3) := by decide +kernel
theorem dX7_pin_4 : decode cX7_pin 4 = .ok (.ifCond .eq 12, 3) := by decide +kernel
theorem dX7_pin_7 : decode cX7_pin 7 = .ok (.iload_n 2, 1) := by decide +kernel
theorem dX7_pin_8 : decode cX7_pin 8 = .ok (.iconst 0, 1) := by decide +kernel
theorem dX7_pin_9 : decode cX7_pin 9 = .ok (.iconst 4, 1) := by decide +kernel
theorem dX7_pin_10 : decode cX7_pin 10 = .ok (.invokestatic 42, 3) := by decide +kernel
theorem dX7_pin_13 : decode cX7_pin 13 = .ok (.ifCond .ne 5, 3) := by decide +kernel
theorem dX7_pin_16 : decode cX7_pin 16 = .ok (.iconst (-1), 1) := by decide +kernel
theorem dX7_pin_17 : decode cX7_pin 17 = .ok (.ireturn, 1) := by decide +kernel
theorem dX7_pin_18 : decode cX7_pin 18 = .ok (.aload_n 0, 1) := by decide +kernel
theorem dX7_pin_19 : decode cX7_pin 19 = .ok (.iload_n 1, 1) := by decide +kernel
theorem dX7_pin_20 : decode cX7_pin 20 = .ok (.iconst 1, 1) := by decide +kernel
theorem dX7_pin_21 : decode cX7_pin 21 = .ok (.invokevirtual 50, 3) := by decide +kernel
theorem dX7_pin_24 : decode cX7_pin 24 = .ok (.iconst 1, 1) := by decide +kernel
theorem dX7_pin_25 : decode cX7_pin 25 = .ok (.if_icmp .ne 7, 3) := by decide +kernel
theorem dX7_pin_28 : decode cX7_pin 28 = .ok (.iconst 1, 1) := by decide +kernel
theorem dX7_pin_29 : decode cX7_pin 29 = .ok (.goto 4, 3) := by decide +kernel
theorem dX7_pin_32 : decode cX7_pin 32 = .ok (.iconst 0, 1) := by decide +kernel
theorem dX7_pin_33 : decode cX7_pin 33 = .ok (.istore_n 3, 1) := by decide +kernel
theorem dX7_pin_34 : decode cX7_pin 34 = .ok (.iload_n 2, 1) := by decide +kernel
theorem dX7_pin_35 : decode cX7_pin 35 = .ok (.tableswitch 77 0 3 #[29, 47, 54, 70], 29) := by decide +kernel
theorem dX7_pin_64 : decode cX7_pin 64 = .ok (.iload_n 3, 1) := by decide +kernel
theorem dX7_pin_65 : decode cX7_pin 65 = .ok (.ifCond .eq 8, 3) := by decide +kernel
theorem dX7_pin_68 : decode cX7_pin 68 = .ok (.bipush (-4), 2) := by decide +kernel
theorem dX7_pin_70 : decode cX7_pin 70 = .ok (.goto 11, 3) := by decide +kernel
theorem dX7_pin_73 : decode cX7_pin 73 = .ok (.aload_n 0, 1) := by decide +kernel
theorem dX7_pin_74 : decode cX7_pin 74 = .ok (.iload_n 1, 1) := by decide +kernel
theorem dX7_pin_75 : decode cX7_pin 75 = .ok (.iconst 0, 1) := by decide +kernel
theorem dX7_pin_76 : decode cX7_pin 76 = .ok (.invokevirtual 50, 3) := by decide +kernel
theorem dX7_pin_79 : decode cX7_pin 79 = .ok (.iconst 3, 1) := by decide +kernel
theorem dX7_pin_80 : decode cX7_pin 80 = .ok (.iadd, 1) := by decide +kernel
theorem dX7_pin_81 : decode cX7_pin 81 = .ok (.ireturn, 1) := by decide +kernel
theorem dX7_pin_82 : decode cX7_pin 82 = .ok (.aload_n 0, 1) := by decide +kernel
theorem dX7_pin_83 : decode cX7_pin 83 = .ok (.iload_n 1, 1) := by decide +kernel
theorem dX7_pin_84 : decode cX7_pin 84 = .ok (.iconst 2, 1) := by decide +kernel
theorem dX7_pin_85 : decode cX7_pin 85 = .ok (.invokevirtual 50, 3) := by decide +kernel
theorem dX7_pin_88 : decode cX7_pin 88 = .ok (.ireturn, 1) := by decide +kernel
theorem dX7_pin_89 : decode cX7_pin 89 = .ok (.iload_n 3, 1) := by decide +kernel
theorem dX7_pin_90 : decode cX7_pin 90 = .ok (.ifCond .eq 8, 3) := by decide +kernel
theorem dX7_pin_93 : decode cX7_pin 93 = .ok (.bipush (-4), 2) := by decide +kernel
theorem dX7_pin_95 : decode cX7_pin 95 = .ok (.goto 9, 3) := by decide +kernel
theorem dX7_pin_98 : decode cX7_pin 98 = .ok (.aload_n 0, 1) := by decide +kernel
theorem dX7_pin_99 : decode cX7_pin 99 = .ok (.iload_n 1, 1) := by decide +kernel
theorem dX7_pin_100 : decode cX7_pin 100 = .ok (.iconst 3, 1) := by decide +kernel
theorem dX7_pin_101 : decode cX7_pin 101 = .ok (.invokevirtual 50, 3) := by decide +kernel
theorem dX7_pin_104 : decode cX7_pin 104 = .ok (.ireturn, 1) := by decide +kernel
theorem dX7_pin_105 : decode cX7_pin 105 = .ok (.aload_n 0, 1) := by decide +kernel
theorem dX7_pin_106 : decode cX7_pin 106 = .ok (.iload_n 1, 1) := by decide +kernel
theorem dX7_pin_107 : decode cX7_pin 107 = .ok (.iconst 4, 1) := by decide +kernel
theorem dX7_pin_108 : decode cX7_pin 108 = .ok (.invokevirtual 50, 3) := by decide +kernel
theorem dX7_pin_111 : decode cX7_pin 111 = .ok (.ireturn, 1) := by decide +kernel
theorem dX7_pin_112 : decode cX7_pin 112 = .ok (.aload_n 0, 1) := by decide +kernel
theorem dX7_pin_113 : decode cX7_pin 113 = .ok (.bipush 127, 2) := by decide +kernel
theorem dX7_pin_115 : decode cX7_pin 115 = .ok (.iload_n 1, 1) := by decide +kernel
theorem dX7_pin_116 : decode cX7_pin 116 = .ok (.bipush 7, 2) := by decide +kernel
theorem dX7_pin_118 : decode cX7_pin 118 = .ok (.idiv, 1) := by decide +kernel
theorem dX7_pin_119 : decode cX7_pin 119 = .ok (.invokevirtual 150, 3) := by decide +kernel
theorem dX7_pin_122 : decode cX7_pin 122 = .ok (.iload_n 1, 1) := by decide +kernel
theorem dX7_pin_123 : decode cX7_pin 123 = .ok (.bipush 7, 2) := by decide +kernel
theorem dX7_pin_125 : decode cX7_pin 125 = .ok (.irem, 1) := by decide +kernel
theorem dX7_pin_126 : decode cX7_pin 126 = .ok (.ishr, 1) := by decide +kernel
theorem dX7_pin_127 : decode cX7_pin 127 = .ok (.iconst 1, 1) := by decide +kernel
theorem dX7_pin_128 : decode cX7_pin 128 = .ok (.iand, 1) := by decide +kernel
theorem dX7_pin_129 : decode cX7_pin 129 = .ok (.ireturn, 1) := by decide +kernel
set_option maxRecDepth 20000 in
theorem ggX7_startsOf_X7_comesTo : GoodIn wsX7_startsOf wsX7_comesTo := goodIn_r _ [5, 6, 7, 8, 4, 9, 10, 11, 12, 13, 14, 15, 16, 17, 18, 19, 20, 21, 22, 23, 24, 25, 26, 27, 28, 29, 30, 31, 32, 33, 34, 35, 36, 37, 38, 39, 40, 41] (by decide +kernel) (by decide +kernel)
set_option maxRecDepth 20000 in
theorem gX7_startsOf_X7_comesTo : GoodIn wsX7_startsOf (wsV RX7 150 RX7 yX7_comesTo wsX7_comesTo) := goodIn_app (goodIn_of _ (by decide +kernel)) ggX7_startsOf_X7_comesTo
theorem dX7_startsOf_0 : decode cX7_startsOf 0 = .ok (.iconst 0, 1) := by decide +kernel
theorem dX7_startsOf_1 : decode cX7_startsOf 1 = .ok (.istore_n 2, 1) := by decide +kernel
theorem dX7_startsOf_2 : decode cX7_startsOf 2 = .ok (.iconst 0, 1) := by decide +kernel
theorem dX7_startsOf_3 : decode cX7_startsOf 3 = .ok (.istore_n 3, 1) := by decide +kernel
theorem dX7_startsOf_4 : decode cX7_startsOf 4 = .ok (.iload_n 3, 1) := by decide +kernel
theorem dX7_startsOf_5 : decode cX7_startsOf 5 = .ok (.bipush 7, 2) := by decide +kernel
theorem dX7_startsOf_7 : decode cX7_startsOf 7 = .ok (.if_icmp .ge 24, 3) := by decide +kernel
theorem dX7_startsOf_10 : decode cX7_startsOf 10 = .ok (.iload_n 2, 1) := by decide +kernel
theorem dX7_startsOf_11 : decode cX7_startsOf 11 = .ok (.aload_n 0, 1) := by decide +kernel
theorem dX7_startsOf_12 : decode cX7_startsOf 12 = .ok (.iconst 1, 1) := by decide +kernel
theorem dX7_startsOf_13 : decode cX7_startsOf 13 = .ok (.iload_n 3, 1) := by decide +kernel
theorem dX7_startsOf_14 : decode cX7_startsOf 14 = .ok (.ishl, 1) := by decide +kernel
theorem dX7_startsOf_15 : decode cX7_startsOf 15 = .ok (.iconst 5, 1) := by decide +kernel
theorem dX7_startsOf_16 : decode cX7_startsOf 16 = .ok (.invokevirtual 150, 3) := by decide +kernel
theorem dX7_startsOf_19 : decode cX7_startsOf 19 = .ok (.iload_n 1, 1) := by decide +kernel
theorem dX7_startsOf_20 : decode cX7_startsOf 20 = .ok (.ishr, 1) := by decide +kernel
theorem dX7_startsOf_21 : decode cX7_startsOf 21 = .ok (.iconst 1, 1) := by decide +kernel
theorem dX7_startsOf_22 : decode cX7_startsOf 22 = .ok (.iand, 1) := by decide +kernel
theorem dX7_startsOf_23 : decode cX7_startsOf 23 = .ok (.iadd, 1) := by decide +kernel
theorem dX7_startsOf_24 : decode cX7_startsOf 24 = .ok (.istore_n 2, 1) := by decide +kernel
theorem dX7_startsOf_25 : decode cX7_startsOf 25 = .ok (.iinc 3 1, 3) := by decide +kernel
theorem dX7_startsOf_28 : decode cX7_startsOf 28 = .ok (.goto (-24), 3) := by decide +kernel
theorem dX7_startsOf_31 : decode cX7_startsOf 31 = .ok (.iload_n 2, 1) := by decide +kernel
theorem dX7_startsOf_32 : decode cX7_startsOf 32 = .ok (.ireturn, 1) := by decide +kernel
set_option maxRecDepth 20000 in
theorem ggX7_pocket_X7_isPlace : GoodIn wsX7_pocket wsX7_isPlace := goodIn_r _ [4, 5, 6, 3, 7] (by decide +kernel) (by decide +kernel)
set_option maxRecDepth 20000 in
theorem gX7_pocket_X7_isPlace : GoodIn wsX7_pocket (va_wsS RX7 86 yX7_isPlace wsX7_isPlace) := goodIn_app (goodIn_of _ (by decide +kernel)) ggX7_pocket_X7_isPlace
set_option maxRecDepth 20000 in
theorem ggX7_pocket_X7_in : GoodIn wsX7_pocket wsX7_in := goodIn_r _ [7] (by decide +kernel) (by decide +kernel)
set_option maxRecDepth 20000 in
theorem gX7_pocket_X7_in : GoodIn wsX7_pocket (va_wsS RX7 42 yX7_in wsX7_in) := goodIn_app (goodIn_of _ (by decide +kernel)) ggX7_pocket_X7_in
set_option maxRecDepth 20000 in
theorem ggX7_pocket_X7_inPocket : GoodIn wsX7_pocket wsX7_inPocket := goodIn_r _ [11, 12, 40, 41, 42, 43, 44, 45, 46, 47, 48, 49, 50, 51, 52, 53, 54, 55, 56] (by decide +kernel) (by decide +kernel)
set_option maxRecDepth 20000 in
theorem gX7_pocket_X7_inPocket : GoodIn wsX7_pocket (wsV RX7 46 RX7 yX7_inPocket wsX7_inPocket) := goodIn_app (goodIn_of _ (by decide +kernel)) ggX7_pocket_X7_inPocket
set_option maxRecDepth 20000 in
theorem ggX7_pocket_X7_isFull : GoodIn wsX7_pocket wsX7_isFull := goodIn_r _ [16, 12, 8, 9, 10, 3, 11, 40, 41, 42, 43, 44, 45, 46, 47, 48, 49, 50, 51, 52, 53, 54, 55, 56] (by decide +kernel) (by decide +kernel)
set_option maxRecDepth 20000 in
theorem gX7_pocket_X7_isFull : GoodIn wsX7_pocket (wsV RX7 82 RX7 yX7_isFull wsX7_isFull) := goodIn_app (goodIn_of _ (by decide +kernel)) ggX7_pocket_X7_isFull
set_option maxRecDepth 20000 in
theorem ggX7_pocket_X7_startsOf : GoodIn wsX7_pocket wsX7_startsOf := goodIn_r _ [20, 21, 22, 23, 3, 24, 25, 26, 27, 28, 29, 30, 31, 32, 12, 33, 34, 35, 36, 37, 38, 39, 5, 6, 7, 40, 41, 42, 43, 44, 45, 46, 47, 48, 49, 50, 51, 52, 53, 54, 55, 56] (by decide +kernel) (by decide +kernel)
set_option maxRecDepth 20000 in
theorem gX7_pocket_X7_startsOf : GoodIn wsX7_pocket (wsV RX7 153 RX7 yX7_startsOf wsX7_startsOf) := goodIn_app (goodIn_of _ (by decide +kernel)) ggX7_pocket_X7_startsOf
theorem dX7_pocket_0 : decode cX7_pocket 0 = .ok (.iload_n 1, 1) := by decide +kernel
theorem dX7_pocket_1 : decode cX7_pocket 1 = .ok (.invokestatic 86, 3) := by decide +kernel
theorem dX7_pocket_4 : decode cX7_pocket 4 = .ok (.ifCond .eq 12, 3) := by decide +kernel
theorem dX7_pocket_7 : decode cX7_pocket 7 = .ok (.iload_n 2, 1) := by decide +kernel
theorem dX7_pocket_8 : decode cX7_pocket 8 = .ok (.iconst 0, 1) := by decide +kernel
theorem dX7_pocket_9 : decode cX7_pocket 9 = .ok (.iconst 4, 1) := by decide +kernel
theorem dX7_pocket_10 : decode cX7_pocket 10 = .ok (.invokestatic 42, 3) := by decide +kernel
theorem dX7_pocket_13 : decode cX7_pocket 13 = .ok (.ifCond .ne 5, 3) := by decide +kernel
theorem dX7_pocket_16 : decode cX7_pocket 16 = .ok (.iconst (-1), 1) := by decide +kernel
theorem dX7_pocket_17 : decode cX7_pocket 17 = .ok (.ireturn, 1) := by decide +kernel
theorem dX7_pocket_18 : decode cX7_pocket 18 = .ok (.iload_n 2, 1) := by decide +kernel
theorem dX7_pocket_19 : decode cX7_pocket 19 = .ok (.tableswitch 57 0 3 #[29, 29, 36, 50], 29) := by decide +kernel
theorem dX7_pocket_48 : decode cX7_pocket 48 = .ok (.aload_n 0, 1) := by decide +kernel
theorem dX7_pocket_49 : decode cX7_pocket 49 = .ok (.iload_n 1, 1) := by decide +kernel
theorem dX7_pocket_50 : decode cX7_pocket 50 = .ok (.iload_n 2, 1) := by decide +kernel
theorem dX7_pocket_51 : decode cX7_pocket 51 = .ok (.invokevirtual 46, 3) := by decide +kernel
theorem dX7_pocket_54 : decode cX7_pocket 54 = .ok (.ireturn, 1) := by decide +kernel
theorem dX7_pocket_55 : decode cX7_pocket 55 = .ok (.aload_n 0, 1) := by decide +kernel
theorem dX7_pocket_56 : decode cX7_pocket 56 = .ok (.iload_n 1, 1) := by decide +kernel
theorem dX7_pocket_57 : decode cX7_pocket 57 = .ok (.invokevirtual 82, 3) := by decide +kernel
theorem dX7_pocket_60 : decode cX7_pocket 60 = .ok (.ifCond .eq 7, 3) := by decide +kernel
theorem dX7_pocket_63 : decode cX7_pocket 63 = .ok (.iconst 1, 1) := by decide +kernel
theorem dX7_pocket_64 : decode cX7_pocket 64 = .ok (.goto 4, 3) := by decide +kernel
theorem dX7_pocket_67 : decode cX7_pocket 67 = .ok (.iconst 0, 1) := by decide +kernel
theorem dX7_pocket_68 : decode cX7_pocket 68 = .ok (.ireturn, 1) := by decide +kernel
theorem dX7_pocket_69 : decode cX7_pocket 69 = .ok (.aload_n 0, 1) := by decide +kernel
theorem dX7_pocket_70 : decode cX7_pocket 70 = .ok (.iload_n 1, 1) := by decide +kernel
theorem dX7_pocket_71 : decode cX7_pocket 71 = .ok (.iconst 2, 1) := by decide +kernel
theorem dX7_pocket_72 : decode cX7_pocket 72 = .ok (.invokevirtual 46, 3) := by decide +kernel
theorem dX7_pocket_75 : decode cX7_pocket 75 = .ok (.ireturn, 1) := by decide +kernel
theorem dX7_pocket_76 : decode cX7_pocket 76 = .ok (.aload_n 0, 1) := by decide +kernel
theorem dX7_pocket_77 : decode cX7_pocket 77 = .ok (.iload_n 1, 1) := by decide +kernel
theorem dX7_pocket_78 : decode cX7_pocket 78 = .ok (.invokevirtual 153, 3) := by decide +kernel
theorem dX7_pocket_81 : decode cX7_pocket 81 = .ok (.ireturn, 1) := by decide +kernel
set_option maxRecDepth 20000 in
theorem ggX7_reach_X7_in : GoodIn wsX7_reach wsX7_in := goodIn_r _ [4] (by decide +kernel) (by decide +kernel)
set_option maxRecDepth 20000 in
theorem gX7_reach_X7_in : GoodIn wsX7_reach (va_wsS RX7 42 yX7_in wsX7_in) := goodIn_app (goodIn_of _ (by decide +kernel)) ggX7_reach_X7_in
set_option maxRecDepth 20000 in
theorem ggX7_reach_X7_reached : GoodIn wsX7_reach wsX7_reached := goodIn_r _ [8, 9, 10, 11, 3, 12, 13, 14, 15, 16, 17, 18, 19, 20, 21, 22, 23, 24, 25, 26, 27, 28, 1, 2, 4, 29, 30, 31, 32, 33, 34, 35, 36, 37, 38, 39, 40, 41, 42, 43, 44, 45] (by decide +kernel) (by decide +kernel)
set_option maxRecDepth 20000 in
theorem gX7_reach_X7_reached : GoodIn wsX7_reach (wsV RX7 156 RX7 yX7_reached wsX7_reached) := goodIn_app (goodIn_of _ (by decide +kernel)) ggX7_reach_X7_reached
theorem dX7_reach_0 : decode cX7_reach 0 = .ok (.iload_n 1, 1) := by decide +kernel
theorem dX7_reach_1 : decode cX7_reach 1 = .ok (.iconst 0, 1) := by decide +kernel
theorem dX7_reach_2 : decode cX7_reach 2 = .ok (.iconst 1, 1) := by decide +kernel
theorem dX7_reach_3 : decode cX7_reach 3 = .ok (.invokestatic 42, 3) := by decide +kernel
theorem dX7_reach_6 : decode cX7_reach 6 = .ok (.ifCond .eq 10, 3) := by decide +kernel
theorem dX7_reach_9 : decode cX7_reach 9 = .ok (.aload_n 0, 1) := by decide +kernel
theorem dX7_reach_10 : decode cX7_reach 10 = .ok (.invokevirtual 156, 3) := by decide +kernel
theorem dX7_reach_13 : decode cX7_reach 13 = .ok (.goto 4, 3) := by decide +kernel
theorem dX7_reach_16 : decode cX7_reach 16 = .ok (.iconst (-1), 1) := by decide +kernel
theorem dX7_reach_17 : decode cX7_reach 17 = .ok (.ireturn, 1) := by decide +kernel
set_option maxRecDepth 20000 in
theorem ggX7_spreads_X7_of : GoodIn wsX7_spreads wsX7_of := goodIn_r _ [7, 8, 19, 20, 21, 22, 23, 24, 25, 26, 27, 28, 29, 30, 31, 32, 33, 34, 35] (by decide +kernel) (by decide +kernel)
set_option maxRecDepth 20000 in
theorem gX7_spreads_X7_of : GoodIn wsX7_spreads (wsV RX7 50 RX7 yX7_of wsX7_of) := goodIn_app (goodIn_of _ (by decide +kernel)) ggX7_spreads_X7_of
set_option maxRecDepth 20000 in
theorem ggX7_spreads_X7_sends : GoodIn wsX7_spreads wsX7_sends := goodIn_r _ [12, 8, 3, 4, 5, 6, 7, 19, 20, 21, 22, 23, 24, 25, 26, 27, 28, 29, 30, 31, 32, 33, 34, 35] (by decide +kernel) (by decide +kernel)
set_option maxRecDepth 20000 in
theorem gX7_spreads_X7_sends : GoodIn wsX7_spreads (wsV RX7 60 RX7 yX7_sends wsX7_sends) := goodIn_app (goodIn_of _ (by decide +kernel)) ggX7_spreads_X7_sends
set_option maxRecDepth 20000 in
theorem ggX7_spreads_X7_moved : GoodIn wsX7_spreads wsX7_moved := goodIn_r _ [15, 16, 17, 6, 18] (by decide +kernel) (by decide +kernel)
set_option maxRecDepth 20000 in
theorem gX7_spreads_X7_moved : GoodIn wsX7_spreads (va_wsS RX7 68 yX7_moved wsX7_moved) := goodIn_app (goodIn_of _ (by decide +kernel)) ggX7_spreads_X7_moved
theorem dX7_spreads_0 : decode cX7_spreads 0 = .ok (.iconst 0, 1) := by decide +kernel
theorem dX7_spreads_1 : decode cX7_spreads 1 = .ok (.istore_n 2, 1) := by decide +kernel
theorem dX7_spreads_2 : decode cX7_spreads 2 = .ok (.iload_n 2, 1) := by decide +kernel
theorem dX7_spreads_3 : decode cX7_spreads 3 = .ok (.bipush 7, 2) := by decide +kernel
theorem dX7_spreads_5 : decode cX7_spreads 5 = .ok (.if_icmp .ge 16, 3) := by decide +kernel
theorem dX7_spreads_8 : decode cX7_spreads 8 = .ok (.aload_n 0, 1) := by decide +kernel
theorem dX7_spreads_9 : decode cX7_spreads 9 = .ok (.getfield 31, 3) := by decide +kernel
theorem dX7_spreads_12 : decode cX7_spreads 12 = .ok (.iload_n 2, 1) := by decide +kernel
theorem dX7_spreads_13 : decode cX7_spreads 13 = .ok (.iconst 0, 1) := by decide +kernel
theorem dX7_spreads_14 : decode cX7_spreads 14 = .ok (.iastore, 1) := by decide +kernel
theorem dX7_spreads_15 : decode cX7_spreads 15 = .ok (.iinc 2 1, 3) := by decide +kernel
theorem dX7_spreads_18 : decode cX7_spreads 18 = .ok (.goto (-16), 3) := by decide +kernel
theorem dX7_spreads_21 : decode cX7_spreads 21 = .ok (.iconst 0, 1) := by decide +kernel
theorem dX7_spreads_22 : decode cX7_spreads 22 = .ok (.istore_n 2, 1) := by decide +kernel
theorem dX7_spreads_23 : decode cX7_spreads 23 = .ok (.iload_n 2, 1) := by decide +kernel
theorem dX7_spreads_24 : decode cX7_spreads 24 = .ok (.bipush 7, 2) := by decide +kernel
theorem dX7_spreads_26 : decode cX7_spreads 26 = .ok (.if_icmp .ge 119, 3) := by decide +kernel
theorem dX7_spreads_29 : decode cX7_spreads 29 = .ok (.bipush 7, 2) := by decide +kernel
theorem dX7_spreads_31 : decode cX7_spreads 31 = .ok (.iload_n 1, 1) := by decide +kernel
theorem dX7_spreads_32 : decode cX7_spreads 32 = .ok (.imul, 1) := by decide +kernel
theorem dX7_spreads_33 : decode cX7_spreads 33 = .ok (.iload_n 2, 1) := by decide +kernel
theorem dX7_spreads_34 : decode cX7_spreads 34 = .ok (.iadd, 1) := by decide +kernel
theorem dX7_spreads_35 : decode cX7_spreads 35 = .ok (.istore_n 3, 1) := by decide +kernel
theorem dX7_spreads_36 : decode cX7_spreads 36 = .ok (.aload_n 0, 1) := by decide +kernel
theorem dX7_spreads_37 : decode cX7_spreads 37 = .ok (.iload_n 3, 1) := by decide +kernel
theorem dX7_spreads_38 : decode cX7_spreads 38 = .ok (.iconst 1, 1) := by decide +kernel
theorem dX7_spreads_39 : decode cX7_spreads 39 = .ok (.invokevirtual 50, 3) := by decide +kernel
theorem dX7_spreads_42 : decode cX7_spreads 42 = .ok (.iconst 1, 1) := by decide +kernel
theorem dX7_spreads_43 : decode cX7_spreads 43 = .ok (.if_icmp .ne 7, 3) := by decide +kernel
theorem dX7_spreads_46 : decode cX7_spreads 46 = .ok (.iconst 0, 1) := by decide +kernel
theorem dX7_spreads_47 : decode cX7_spreads 47 = .ok (.goto 8, 3) := by decide +kernel
theorem dX7_spreads_50 : decode cX7_spreads 50 = .ok (.aload_n 0, 1) := by decide +kernel
theorem dX7_spreads_51 : decode cX7_spreads 51 = .ok (.iload_n 3, 1) := by decide +kernel
theorem dX7_spreads_52 : decode cX7_spreads 52 = .ok (.invokevirtual 60, 3) := by decide +kernel
theorem dX7_spreads_55 : decode cX7_spreads 55 = .ok (.istore 4, 2) := by decide +kernel
theorem dX7_spreads_57 : decode cX7_spreads 57 = .ok (.aload_n 0, 1) := by decide +kernel
theorem dX7_spreads_58 : decode cX7_spreads 58 = .ok (.iload_n 3, 1) := by decide +kernel
theorem dX7_spreads_59 : decode cX7_spreads 59 = .ok (.iconst 1, 1) := by decide +kernel
theorem dX7_spreads_60 : decode cX7_spreads 60 = .ok (.invokevirtual 50, 3) := by decide +kernel
theorem dX7_spreads_63 : decode cX7_spreads 63 = .ok (.ifCond .ne 12, 3) := by decide +kernel
theorem dX7_spreads_66 : decode cX7_spreads 66 = .ok (.iload 4, 2) := by decide +kernel
theorem dX7_spreads_68 : decode cX7_spreads 68 = .ok (.ifCond .ne 7, 3) := by decide +kernel
theorem dX7_spreads_71 : decode cX7_spreads 71 = .ok (.iconst 1, 1) := by decide +kernel
theorem dX7_spreads_72 : decode cX7_spreads 72 = .ok (.goto 4, 3) := by decide +kernel
theorem dX7_spreads_75 : decode cX7_spreads 75 = .ok (.iconst 0, 1) := by decide +kernel
theorem dX7_spreads_76 : decode cX7_spreads 76 = .ok (.istore 5, 2) := by decide +kernel
theorem dX7_spreads_78 : decode cX7_spreads 78 = .ok (.aload_n 0, 1) := by decide +kernel
theorem dX7_spreads_79 : decode cX7_spreads 79 = .ok (.getfield 31, 3) := by decide +kernel
theorem dX7_spreads_82 : decode cX7_spreads 82 = .ok (.iload 5, 2) := by decide +kernel
theorem dX7_spreads_84 : decode cX7_spreads 84 = .ok (.ifCond .eq 11, 3) := by decide +kernel
theorem dX7_spreads_87 : decode cX7_spreads 87 = .ok (.iload_n 2, 1) := by decide +kernel
theorem dX7_spreads_88 : decode cX7_spreads 88 = .ok (.iconst (-1), 1) := by decide +kernel
theorem dX7_spreads_89 : decode cX7_spreads 89 = .ok (.invokestatic 68, 3) := by decide +kernel
theorem dX7_spreads_92 : decode cX7_spreads 92 = .ok (.goto 9, 3) := by decide +kernel
theorem dX7_spreads_95 : decode cX7_spreads 95 = .ok (.iload_n 2, 1) := by decide +kernel
theorem dX7_spreads_96 : decode cX7_spreads 96 = .ok (.iload 4, 2) := by decide +kernel
theorem dX7_spreads_98 : decode cX7_spreads 98 = .ok (.invokestatic 68, 3) := by decide +kernel
theorem dX7_spreads_101 : decode cX7_spreads 101 = .ok (.dup2, 1) := by decide +kernel
theorem dX7_spreads_102 : decode cX7_spreads 102 = .ok (.iaload, 1) := by decide +kernel
theorem dX7_spreads_103 : decode cX7_spreads 103 = .ok (.aload_n 0, 1) := by decide +kernel
theorem dX7_spreads_104 : decode cX7_spreads 104 = .ok (.getfield 28, 3) := by decide +kernel
theorem dX7_spreads_107 : decode cX7_spreads 107 = .ok (.iload_n 2, 1) := by decide +kernel
theorem dX7_spreads_108 : decode cX7_spreads 108 = .ok (.iaload, 1) := by decide +kernel
theorem dX7_spreads_109 : decode cX7_spreads 109 = .ok (.iadd, 1) := by decide +kernel
theorem dX7_spreads_110 : decode cX7_spreads 110 = .ok (.iastore, 1) := by decide +kernel
theorem dX7_spreads_111 : decode cX7_spreads 111 = .ok (.aload_n 0, 1) := by decide +kernel
theorem dX7_spreads_112 : decode cX7_spreads 112 = .ok (.getfield 31, 3) := by decide +kernel
theorem dX7_spreads_115 : decode cX7_spreads 115 = .ok (.iload_n 2, 1) := by decide +kernel
theorem dX7_spreads_116 : decode cX7_spreads 116 = .ok (.iconst 1, 1) := by decide +kernel
theorem dX7_spreads_117 : decode cX7_spreads 117 = .ok (.invokestatic 68, 3) := by decide +kernel
theorem dX7_spreads_120 : decode cX7_spreads 120 = .ok (.dup2, 1) := by decide +kernel
theorem dX7_spreads_121 : decode cX7_spreads 121 = .ok (.iaload, 1) := by decide +kernel
theorem dX7_spreads_122 : decode cX7_spreads 122 = .ok (.iload 5, 2) := by decide +kernel
theorem dX7_spreads_124 : decode cX7_spreads 124 = .ok (.ifCond .eq 12, 3) := by decide +kernel
theorem dX7_spreads_127 : decode cX7_spreads 127 = .ok (.aload_n 0, 1) := by decide +kernel
theorem dX7_spreads_128 : decode cX7_spreads 128 = .ok (.getfield 28, 3) := by decide +kernel
theorem dX7_spreads_131 : decode cX7_spreads 131 = .ok (.iload_n 2, 1) := by decide +kernel
theorem dX7_spreads_132 : decode cX7_spreads 132 = .ok (.iaload, 1) := by decide +kernel
theorem dX7_spreads_133 : decode cX7_spreads 133 = .ok (.goto 4, 3) := by decide +kernel
theorem dX7_spreads_136 : decode cX7_spreads 136 = .ok (.iconst 0, 1) := by decide +kernel
theorem dX7_spreads_137 : decode cX7_spreads 137 = .ok (.iadd, 1) := by decide +kernel
theorem dX7_spreads_138 : decode cX7_spreads 138 = .ok (.iastore, 1) := by decide +kernel
theorem dX7_spreads_139 : decode cX7_spreads 139 = .ok (.iinc 2 1, 3) := by decide +kernel
theorem dX7_spreads_142 : decode cX7_spreads 142 = .ok (.goto (-119), 3) := by decide +kernel
theorem dX7_spreads_145 : decode cX7_spreads 145 = .ok (.iconst 0, 1) := by decide +kernel
theorem dX7_spreads_146 : decode cX7_spreads 146 = .ok (.istore_n 2, 1) := by decide +kernel
theorem dX7_spreads_147 : decode cX7_spreads 147 = .ok (.iload_n 2, 1) := by decide +kernel
theorem dX7_spreads_148 : decode cX7_spreads 148 = .ok (.bipush 7, 2) := by decide +kernel
theorem dX7_spreads_150 : decode cX7_spreads 150 = .ok (.if_icmp .ge 21, 3) := by decide +kernel
theorem dX7_spreads_153 : decode cX7_spreads 153 = .ok (.aload_n 0, 1) := by decide +kernel
theorem dX7_spreads_154 : decode cX7_spreads 154 = .ok (.getfield 28, 3) := by decide +kernel
theorem dX7_spreads_157 : decode cX7_spreads 157 = .ok (.iload_n 2, 1) := by decide +kernel
theorem dX7_spreads_158 : decode cX7_spreads 158 = .ok (.aload_n 0, 1) := by decide +kernel
theorem dX7_spreads_159 : decode cX7_spreads 159 = .ok (.getfield 31, 3) := by decide +kernel
theorem dX7_spreads_162 : decode cX7_spreads 162 = .ok (.iload_n 2, 1) := by decide +kernel
theorem dX7_spreads_163 : decode cX7_spreads 163 = .ok (.iaload, 1) := by decide +kernel
theorem dX7_spreads_164 : decode cX7_spreads 164 = .ok (.iastore, 1) := by decide +kernel
theorem dX7_spreads_165 : decode cX7_spreads 165 = .ok (.iinc 2 1, 3) := by decide +kernel
theorem dX7_spreads_168 : decode cX7_spreads 168 = .ok (.goto (-21), 3) := by decide +kernel
theorem dX7_spreads_171 : decode cX7_spreads 171 = .ok (.return_, 1) := by decide +kernel
set_option maxRecDepth 20000 in
theorem ggX7_waysTo_X7_spreads : GoodIn wsX7_waysTo wsX7_spreads := goodIn_r _ [6, 7, 1, 8, 9, 10, 5, 11, 12, 13, 14, 15, 16, 17, 18, 19, 20, 21, 22, 23, 24, 25, 26, 27, 28, 29, 30, 31, 32, 33, 34, 35, 36, 37, 38, 39] (by decide +kernel) (by decide +kernel)
set_option maxRecDepth 20000 in
theorem gX7_waysTo_X7_spreads : GoodIn wsX7_waysTo (wsV RX7 159 RX7 yX7_spreads wsX7_spreads) := goodIn_app (goodIn_of _ (by decide +kernel)) ggX7_waysTo_X7_spreads
theorem dX7_waysTo_0 : decode cX7_waysTo 0 = .ok (.iconst 0, 1) := by decide +kernel
theorem dX7_waysTo_1 : decode cX7_waysTo 1 = .ok (.istore_n 2, 1) := by decide +kernel
theorem dX7_waysTo_2 : decode cX7_waysTo 2 = .ok (.iload_n 2, 1) := by decide +kernel
theorem dX7_waysTo_3 : decode cX7_waysTo 3 = .ok (.bipush 7, 2) := by decide +kernel
theorem dX7_waysTo_5 : decode cX7_waysTo 5 = .ok (.if_icmp .ge 16, 3) := by decide +kernel
theorem dX7_waysTo_8 : decode cX7_waysTo 8 = .ok (.aload_n 0, 1) := by decide +kernel
theorem dX7_waysTo_9 : decode cX7_waysTo 9 = .ok (.getfield 28, 3) := by decide +kernel
theorem dX7_waysTo_12 : decode cX7_waysTo 12 = .ok (.iload_n 2, 1) := by decide +kernel
theorem dX7_waysTo_13 : decode cX7_waysTo 13 = .ok (.iconst 1, 1) := by decide +kernel
theorem dX7_waysTo_14 : decode cX7_waysTo 14 = .ok (.iastore, 1) := by decide +kernel
theorem dX7_waysTo_15 : decode cX7_waysTo 15 = .ok (.iinc 2 1, 3) := by decide +kernel
theorem dX7_waysTo_18 : decode cX7_waysTo 18 = .ok (.goto (-16), 3) := by decide +kernel
theorem dX7_waysTo_21 : decode cX7_waysTo 21 = .ok (.iconst 0, 1) := by decide +kernel
theorem dX7_waysTo_22 : decode cX7_waysTo 22 = .ok (.istore_n 2, 1) := by decide +kernel
theorem dX7_waysTo_23 : decode cX7_waysTo 23 = .ok (.iload_n 2, 1) := by decide +kernel
theorem dX7_waysTo_24 : decode cX7_waysTo 24 = .ok (.iconst 5, 1) := by decide +kernel
theorem dX7_waysTo_25 : decode cX7_waysTo 25 = .ok (.if_icmp .ge 14, 3) := by decide +kernel
theorem dX7_waysTo_28 : decode cX7_waysTo 28 = .ok (.aload_n 0, 1) := by decide +kernel
theorem dX7_waysTo_29 : decode cX7_waysTo 29 = .ok (.iload_n 2, 1) := by decide +kernel
theorem dX7_waysTo_30 : decode cX7_waysTo 30 = .ok (.invokevirtual 159, 3) := by decide +kernel
theorem dX7_waysTo_33 : decode cX7_waysTo 33 = .ok (.iinc 2 1, 3) := by decide +kernel
theorem dX7_waysTo_36 : decode cX7_waysTo 36 = .ok (.goto (-13), 3) := by decide +kernel
theorem dX7_waysTo_39 : decode cX7_waysTo 39 = .ok (.aload_n 0, 1) := by decide +kernel
theorem dX7_waysTo_40 : decode cX7_waysTo 40 = .ok (.getfield 28, 3) := by decide +kernel
theorem dX7_waysTo_43 : decode cX7_waysTo 43 = .ok (.iload_n 1, 1) := by decide +kernel
theorem dX7_waysTo_44 : decode cX7_waysTo 44 = .ok (.iaload, 1) := by decide +kernel
theorem dX7_waysTo_45 : decode cX7_waysTo 45 = .ok (.ireturn, 1) := by decide +kernel
set_option maxRecDepth 20000 in
theorem ggX7_ways_X7_isPlace : GoodIn wsX7_ways wsX7_isPlace := goodIn_r _ [4, 5, 6, 3, 7] (by decide +kernel) (by decide +kernel)
set_option maxRecDepth 20000 in
theorem gX7_ways_X7_isPlace : GoodIn wsX7_ways (va_wsS RX7 86 yX7_isPlace wsX7_isPlace) := goodIn_app (goodIn_of _ (by decide +kernel)) ggX7_ways_X7_isPlace
set_option maxRecDepth 20000 in
theorem ggX7_ways_X7_in : GoodIn wsX7_ways wsX7_in := goodIn_r _ [7] (by decide +kernel) (by decide +kernel)
set_option maxRecDepth 20000 in
theorem gX7_ways_X7_in : GoodIn wsX7_ways (va_wsS RX7 42 yX7_in wsX7_in) := goodIn_app (goodIn_of _ (by decide +kernel)) ggX7_ways_X7_in
set_option maxRecDepth 20000 in
theorem ggX7_ways_X7_waysTo : GoodIn wsX7_ways wsX7_waysTo := goodIn_r _ [11, 12, 13, 14, 15, 3, 16, 17, 18, 19, 20, 21, 22, 23, 24, 25, 26, 27, 28, 29, 5, 6, 7, 30, 31, 32, 33, 34, 35, 36, 37, 38, 39, 40, 41, 42, 43, 44, 45, 46] (by decide +kernel) (by decide +kernel)
set_option maxRecDepth 20000 in
theorem gX7_ways_X7_waysTo : GoodIn wsX7_ways (wsV RX7 163 RX7 yX7_waysTo wsX7_waysTo) := goodIn_app (goodIn_of _ (by decide +kernel)) ggX7_ways_X7_waysTo
theorem dX7_ways_0 : decode cX7_ways 0 = .ok (.iload_n 1, 1) := by decide +kernel
theorem dX7_ways_1 : decode cX7_ways 1 = .ok (.invokestatic 86, 3) := by decide +kernel
theorem dX7_ways_4 : decode cX7_ways 4 = .ok (.ifCond .eq 20, 3) := by decide +kernel
theorem dX7_ways_7 : decode cX7_ways 7 = .ok (.iload_n 2, 1) := by decide +kernel
theorem dX7_ways_8 : decode cX7_ways 8 = .ok (.iconst 0, 1) := by decide +kernel
theorem dX7_ways_9 : decode cX7_ways 9 = .ok (.iconst 1, 1) := by decide +kernel
theorem dX7_ways_10 : decode cX7_ways 10 = .ok (.invokestatic 42, 3) := by decide +kernel
theorem dX7_ways_13 : decode cX7_ways 13 = .ok (.ifCond .eq 11, 3) := by decide +kernel
theorem dX7_ways_16 : decode cX7_ways 16 = .ok (.aload_n 0, 1) := by decide +kernel
theorem dX7_ways_17 : decode cX7_ways 17 = .ok (.iload_n 1, 1) := by decide +kernel
theorem dX7_ways_18 : decode cX7_ways 18 = .ok (.invokevirtual 163, 3) := by decide +kernel
theorem dX7_ways_21 : decode cX7_ways 21 = .ok (.goto 4, 3) := by decide +kernel
theorem dX7_ways_24 : decode cX7_ways 24 = .ok (.iconst (-1), 1) := by decide +kernel
theorem dX7_ways_25 : decode cX7_ways 25 = .ok (.ireturn, 1) := by decide +kernel
set_option maxRecDepth 20000 in
theorem ggX7_straightOnes_X7_of : GoodIn wsX7_straightOnes wsX7_of := goodIn_r _ [5, 6, 7, 8, 9, 10, 11, 12, 13, 14, 15, 16, 17, 18, 19, 20, 21, 22, 23] (by decide +kernel) (by decide +kernel)
set_option maxRecDepth 20000 in
theorem gX7_straightOnes_X7_of : GoodIn wsX7_straightOnes (wsV RX7 50 RX7 yX7_of wsX7_of) := goodIn_app (goodIn_of _ (by decide +kernel)) ggX7_straightOnes_X7_of
theorem dX7_straightOnes_0 : decode cX7_straightOnes 0 = .ok (.iconst 0, 1) := by decide +kernel
theorem dX7_straightOnes_1 : decode cX7_straightOnes 1 = .ok (.istore_n 1, 1) := by decide +kernel
theorem dX7_straightOnes_2 : decode cX7_straightOnes 2 = .ok (.iconst 0, 1) := by decide +kernel
theorem dX7_straightOnes_3 : decode cX7_straightOnes 3 = .ok (.istore_n 2, 1) := by decide +kernel
theorem dX7_straightOnes_4 : decode cX7_straightOnes 4 = .ok (.iload_n 2, 1) := by decide +kernel
theorem dX7_straightOnes_5 : decode cX7_straightOnes 5 = .ok (.bipush 35, 2) := by decide +kernel
theorem dX7_straightOnes_7 : decode cX7_straightOnes 7 = .ok (.if_icmp .ge 35, 3) := by decide +kernel
theorem dX7_straightOnes_10 : decode cX7_straightOnes 10 = .ok (.iload_n 1, 1) := by decide +kernel
theorem dX7_straightOnes_11 : decode cX7_straightOnes 11 = .ok (.aload_n 0, 1) := by decide +kernel
theorem dX7_straightOnes_12 : decode cX7_straightOnes 12 = .ok (.iload_n 2, 1) := by decide +kernel
theorem dX7_straightOnes_13 : decode cX7_straightOnes 13 = .ok (.iconst 1, 1) := by decide +kernel
theorem dX7_straightOnes_14 : decode cX7_straightOnes 14 = .ok (.invokevirtual 50, 3) := by decide +kernel
theorem dX7_straightOnes_17 : decode cX7_straightOnes 17 = .ok (.ifCond .ne 16, 3) := by decide +kernel
theorem dX7_straightOnes_20 : decode cX7_straightOnes 20 = .ok (.aload_n 0, 1) := by decide +kernel
theorem dX7_straightOnes_21 : decode cX7_straightOnes 21 = .ok (.iload_n 2, 1) := by decide +kernel
theorem dX7_straightOnes_22 : decode cX7_straightOnes 22 = .ok (.iconst 0, 1) := by decide +kernel
theorem dX7_straightOnes_23 : decode cX7_straightOnes 23 = .ok (.invokevirtual 50, 3) := by decide +kernel
theorem dX7_straightOnes_26 : decode cX7_straightOnes 26 = .ok (.ifCond .ne 7, 3) := by decide +kernel
theorem dX7_straightOnes_29 : decode cX7_straightOnes 29 = .ok (.iconst 1, 1) := by decide +kernel
theorem dX7_straightOnes_30 : decode cX7_straightOnes 30 = .ok (.goto 4, 3) := by decide +kernel
theorem dX7_straightOnes_33 : decode cX7_straightOnes 33 = .ok (.iconst 0, 1) := by decide +kernel
theorem dX7_straightOnes_34 : decode cX7_straightOnes 34 = .ok (.iadd, 1) := by decide +kernel
theorem dX7_straightOnes_35 : decode cX7_straightOnes 35 = .ok (.istore_n 1, 1) := by decide +kernel
theorem dX7_straightOnes_36 : decode cX7_straightOnes 36 = .ok (.iinc 2 1, 3) := by decide +kernel
theorem dX7_straightOnes_39 : decode cX7_straightOnes 39 = .ok (.goto (-35), 3) := by decide +kernel
theorem dX7_straightOnes_42 : decode cX7_straightOnes 42 = .ok (.iload_n 1, 1) := by decide +kernel
theorem dX7_straightOnes_43 : decode cX7_straightOnes 43 = .ok (.ireturn, 1) := by decide +kernel
set_option maxRecDepth 20000 in
theorem ggX7_allBends_X7_of : GoodIn wsX7_allBends wsX7_of := goodIn_r _ [5, 6, 7, 8, 9, 10, 11, 12, 13, 14, 15, 16, 17, 18, 19, 20, 21, 22, 23] (by decide +kernel) (by decide +kernel)
set_option maxRecDepth 20000 in
theorem gX7_allBends_X7_of : GoodIn wsX7_allBends (wsV RX7 50 RX7 yX7_of wsX7_of) := goodIn_app (goodIn_of _ (by decide +kernel)) ggX7_allBends_X7_of
theorem dX7_allBends_0 : decode cX7_allBends 0 = .ok (.iconst 0, 1) := by decide +kernel
theorem dX7_allBends_1 : decode cX7_allBends 1 = .ok (.istore_n 1, 1) := by decide +kernel
theorem dX7_allBends_2 : decode cX7_allBends 2 = .ok (.iconst 0, 1) := by decide +kernel
theorem dX7_allBends_3 : decode cX7_allBends 3 = .ok (.istore_n 2, 1) := by decide +kernel
theorem dX7_allBends_4 : decode cX7_allBends 4 = .ok (.iload_n 2, 1) := by decide +kernel
theorem dX7_allBends_5 : decode cX7_allBends 5 = .ok (.bipush 35, 2) := by decide +kernel
theorem dX7_allBends_7 : decode cX7_allBends 7 = .ok (.if_icmp .ge 43, 3) := by decide +kernel
theorem dX7_allBends_10 : decode cX7_allBends 10 = .ok (.aload_n 0, 1) := by decide +kernel
theorem dX7_allBends_11 : decode cX7_allBends 11 = .ok (.iload_n 2, 1) := by decide +kernel
theorem dX7_allBends_12 : decode cX7_allBends 12 = .ok (.iconst 1, 1) := by decide +kernel
theorem dX7_allBends_13 : decode cX7_allBends 13 = .ok (.invokevirtual 50, 3) := by decide +kernel
theorem dX7_allBends_16 : decode cX7_allBends 16 = .ok (.iconst 1, 1) := by decide +kernel
theorem dX7_allBends_17 : decode cX7_allBends 17 = .ok (.if_icmp .ne 7, 3) := by decide +kernel
theorem dX7_allBends_20 : decode cX7_allBends 20 = .ok (.iconst 0, 1) := by decide +kernel
theorem dX7_allBends_21 : decode cX7_allBends 21 = .ok (.goto 9, 3) := by decide +kernel
theorem dX7_allBends_24 : decode cX7_allBends 24 = .ok (.aload_n 0, 1) := by decide +kernel
theorem dX7_allBends_25 : decode cX7_allBends 25 = .ok (.iload_n 2, 1) := by decide +kernel
theorem dX7_allBends_26 : decode cX7_allBends 26 = .ok (.iconst 0, 1) := by decide +kernel
theorem dX7_allBends_27 : decode cX7_allBends 27 = .ok (.invokevirtual 50, 3) := by decide +kernel
theorem dX7_allBends_30 : decode cX7_allBends 30 = .ok (.istore_n 3, 1) := by decide +kernel
theorem dX7_allBends_31 : decode cX7_allBends 31 = .ok (.iload_n 1, 1) := by decide +kernel
theorem dX7_allBends_32 : decode cX7_allBends 32 = .ok (.iload_n 3, 1) := by decide +kernel
theorem dX7_allBends_33 : decode cX7_allBends 33 = .ok (.ifCond .ge 8, 3) := by decide +kernel
theorem dX7_allBends_36 : decode cX7_allBends 36 = .ok (.iload_n 3, 1) := by decide +kernel
theorem dX7_allBends_37 : decode cX7_allBends 37 = .ok (.ineg, 1) := by decide +kernel
theorem dX7_allBends_38 : decode cX7_allBends 38 = .ok (.goto 4, 3) := by decide +kernel
theorem dX7_allBends_41 : decode cX7_allBends 41 = .ok (.iload_n 3, 1) := by decide +kernel
theorem dX7_allBends_42 : decode cX7_allBends 42 = .ok (.iadd, 1) := by decide +kernel
theorem dX7_allBends_43 : decode cX7_allBends 43 = .ok (.istore_n 1, 1) := by decide +kernel
theorem dX7_allBends_44 : decode cX7_allBends 44 = .ok (.iinc 2 1, 3) := by decide +kernel
theorem dX7_allBends_47 : decode cX7_allBends 47 = .ok (.goto (-43), 3) := by decide +kernel
theorem dX7_allBends_50 : decode cX7_allBends 50 = .ok (.iload_n 1, 1) := by decide +kernel
theorem dX7_allBends_51 : decode cX7_allBends 51 = .ok (.ireturn, 1) := by decide +kernel
set_option maxRecDepth 20000 in
theorem ggX7_inPockets_X7_inPocket : GoodIn wsX7_inPockets wsX7_inPocket := goodIn_r _ [5, 6, 7, 8, 9, 10, 11, 12, 13, 14, 15, 16, 17, 18, 19, 20, 21, 22, 23] (by decide +kernel) (by decide +kernel)
set_option maxRecDepth 20000 in
theorem gX7_inPockets_X7_inPocket : GoodIn wsX7_inPockets (wsV RX7 46 RX7 yX7_inPocket wsX7_inPocket) := goodIn_app (goodIn_of _ (by decide +kernel)) ggX7_inPockets_X7_inPocket
theorem dX7_inPockets_0 : decode cX7_inPockets 0 = .ok (.iconst 0, 1) := by decide +kernel
theorem dX7_inPockets_1 : decode cX7_inPockets 1 = .ok (.istore_n 1, 1) := by decide +kernel
theorem dX7_inPockets_2 : decode cX7_inPockets 2 = .ok (.iconst 0, 1) := by decide +kernel
theorem dX7_inPockets_3 : decode cX7_inPockets 3 = .ok (.istore_n 2, 1) := by decide +kernel
theorem dX7_inPockets_4 : decode cX7_inPockets 4 = .ok (.iload_n 2, 1) := by decide +kernel
theorem dX7_inPockets_5 : decode cX7_inPockets 5 = .ok (.bipush 7, 2) := by decide +kernel
theorem dX7_inPockets_7 : decode cX7_inPockets 7 = .ok (.if_icmp .ge 18, 3) := by decide +kernel
theorem dX7_inPockets_10 : decode cX7_inPockets 10 = .ok (.iload_n 1, 1) := by decide +kernel
theorem dX7_inPockets_11 : decode cX7_inPockets 11 = .ok (.aload_n 0, 1) := by decide +kernel
theorem dX7_inPockets_12 : decode cX7_inPockets 12 = .ok (.iload_n 2, 1) := by decide +kernel
theorem dX7_inPockets_13 : decode cX7_inPockets 13 = .ok (.iconst 1, 1) := by decide +kernel
theorem dX7_inPockets_14 : decode cX7_inPockets 14 = .ok (.invokevirtual 46, 3) := by decide +kernel
theorem dX7_inPockets_17 : decode cX7_inPockets 17 = .ok (.iadd, 1) := by decide +kernel
theorem dX7_inPockets_18 : decode cX7_inPockets 18 = .ok (.istore_n 1, 1) := by decide +kernel
theorem dX7_inPockets_19 : decode cX7_inPockets 19 = .ok (.iinc 2 1, 3) := by decide +kernel
theorem dX7_inPockets_22 : decode cX7_inPockets 22 = .ok (.goto (-18), 3) := by decide +kernel
theorem dX7_inPockets_25 : decode cX7_inPockets 25 = .ok (.iload_n 1, 1) := by decide +kernel
theorem dX7_inPockets_26 : decode cX7_inPockets 26 = .ok (.ireturn, 1) := by decide +kernel
set_option maxRecDepth 20000 in
theorem ggX7_fullOnes_X7_isFull : GoodIn wsX7_fullOnes wsX7_isFull := goodIn_r _ [5, 6, 7, 8, 9, 4, 10, 11, 12, 13, 14, 15, 16, 17, 18, 19, 20, 21, 22, 23, 24, 25, 26, 27] (by decide +kernel) (by decide +kernel)
set_option maxRecDepth 20000 in
theorem gX7_fullOnes_X7_isFull : GoodIn wsX7_fullOnes (wsV RX7 82 RX7 yX7_isFull wsX7_isFull) := goodIn_app (goodIn_of _ (by decide +kernel)) ggX7_fullOnes_X7_isFull
theorem dX7_fullOnes_0 : decode cX7_fullOnes 0 = .ok (.iconst 0, 1) := by decide +kernel
theorem dX7_fullOnes_1 : decode cX7_fullOnes 1 = .ok (.istore_n 1, 1) := by decide +kernel
theorem dX7_fullOnes_2 : decode cX7_fullOnes 2 = .ok (.iconst 0, 1) := by decide +kernel
theorem dX7_fullOnes_3 : decode cX7_fullOnes 3 = .ok (.istore_n 2, 1) := by decide +kernel
theorem dX7_fullOnes_4 : decode cX7_fullOnes 4 = .ok (.iload_n 2, 1) := by decide +kernel
theorem dX7_fullOnes_5 : decode cX7_fullOnes 5 = .ok (.bipush 7, 2) := by decide +kernel
theorem dX7_fullOnes_7 : decode cX7_fullOnes 7 = .ok (.if_icmp .ge 25, 3) := by decide +kernel
theorem dX7_fullOnes_10 : decode cX7_fullOnes 10 = .ok (.iload_n 1, 1) := by decide +kernel
theorem dX7_fullOnes_11 : decode cX7_fullOnes 11 = .ok (.aload_n 0, 1) := by decide +kernel
theorem dX7_fullOnes_12 : decode cX7_fullOnes 12 = .ok (.iload_n 2, 1) := by decide +kernel
theorem dX7_fullOnes_13 : decode cX7_fullOnes 13 = .ok (.invokevirtual 82, 3) := by decide +kernel
theorem dX7_fullOnes_16 : decode cX7_fullOnes 16 = .ok (.ifCond .eq 7, 3) := by decide +kernel
theorem dX7_fullOnes_19 : decode cX7_fullOnes 19 = .ok (.iconst 1, 1) := by decide +kernel
theorem dX7_fullOnes_20 : decode cX7_fullOnes 20 = .ok (.goto 4, 3) := by decide +kernel
theorem dX7_fullOnes_23 : decode cX7_fullOnes 23 = .ok (.iconst 0, 1) := by decide +kernel
theorem dX7_fullOnes_24 : decode cX7_fullOnes 24 = .ok (.iadd, 1) := by decide +kernel
theorem dX7_fullOnes_25 : decode cX7_fullOnes 25 = .ok (.istore_n 1, 1) := by decide +kernel
theorem dX7_fullOnes_26 : decode cX7_fullOnes 26 = .ok (.iinc 2 1, 3) := by decide +kernel
theorem dX7_fullOnes_29 : decode cX7_fullOnes 29 = .ok (.goto (-25), 3) := by decide +kernel
theorem dX7_fullOnes_32 : decode cX7_fullOnes 32 = .ok (.iload_n 1, 1) := by decide +kernel
theorem dX7_fullOnes_33 : decode cX7_fullOnes 33 = .ok (.ireturn, 1) := by decide +kernel
set_option maxRecDepth 20000 in
theorem ggX7_count_X7_inPockets : GoodIn wsX7_count wsX7_inPockets := goodIn_r _ [8, 9, 10, 11, 7, 12, 1, 66, 67, 68, 69, 70, 71, 72, 73, 74, 75, 76, 77, 78, 79, 80, 81, 82] (by decide +kernel) (by decide +kernel)
set_option maxRecDepth 20000 in
theorem gX7_count_X7_inPockets : GoodIn wsX7_count (wsV RX7 166 RX7 yX7_inPockets wsX7_inPockets) := goodIn_app (goodIn_of _ (by decide +kernel)) ggX7_count_X7_inPockets
set_option maxRecDepth 20000 in
theorem ggX7_count_X7_outOnes : GoodIn wsX7_count wsX7_outOnes := goodIn_r _ [16, 17, 18, 19, 7, 20, 1, 66, 67, 68, 69, 70, 71, 72, 73, 74, 75, 76, 77, 78, 79, 80, 81, 82] (by decide +kernel) (by decide +kernel)
set_option maxRecDepth 20000 in
theorem gX7_count_X7_outOnes : GoodIn wsX7_count (wsV RX7 98 RX7 yX7_outOnes wsX7_outOnes) := goodIn_app (goodIn_of _ (by decide +kernel)) ggX7_count_X7_outOnes
set_option maxRecDepth 20000 in
theorem ggX7_count_X7_straightOnes : GoodIn wsX7_count wsX7_straightOnes := goodIn_r _ [24, 17, 18, 19, 7, 20, 1, 66, 67, 68, 69, 70, 71, 72, 73, 74, 75, 76, 77, 78, 79, 80, 81, 82] (by decide +kernel) (by decide +kernel)
set_option maxRecDepth 20000 in
theorem gX7_count_X7_straightOnes : GoodIn wsX7_count (wsV RX7 169 RX7 yX7_straightOnes wsX7_straightOnes) := goodIn_app (goodIn_of _ (by decide +kernel)) ggX7_count_X7_straightOnes
set_option maxRecDepth 20000 in
theorem ggX7_count_X7_allBends : GoodIn wsX7_count wsX7_allBends := goodIn_r _ [28, 17, 18, 19, 7, 20, 1, 66, 67, 68, 69, 70, 71, 72, 73, 74, 75, 76, 77, 78, 79, 80, 81, 82] (by decide +kernel) (by decide +kernel)
set_option maxRecDepth 20000 in
theorem gX7_count_X7_allBends : GoodIn wsX7_count (wsV RX7 172 RX7 yX7_allBends wsX7_allBends) := goodIn_app (goodIn_of _ (by decide +kernel)) ggX7_count_X7_allBends
set_option maxRecDepth 20000 in
theorem ggX7_count_X7_allBells : GoodIn wsX7_count wsX7_allBells := goodIn_r _ [32, 17, 18, 19, 7, 20, 1, 66, 67, 68, 69, 70, 71, 72, 73, 74, 75, 76, 77, 78, 79, 80, 81, 82] (by decide +kernel) (by decide +kernel)
set_option maxRecDepth 20000 in
theorem gX7_count_X7_allBells : GoodIn wsX7_count (wsV RX7 102 RX7 yX7_allBells wsX7_allBells) := goodIn_app (goodIn_of _ (by decide +kernel)) ggX7_count_X7_allBells
set_option maxRecDepth 20000 in
theorem ggX7_count_X7_fullOnes : GoodIn wsX7_count wsX7_fullOnes := goodIn_r _ [36, 37, 38, 39, 7, 40, 1, 9, 10, 11, 12, 66, 67, 68, 69, 70, 71, 72, 73, 74, 75, 76, 77, 78, 79, 80, 81, 82] (by decide +kernel) (by decide +kernel)
set_option maxRecDepth 20000 in
theorem gX7_count_X7_fullOnes : GoodIn wsX7_count (wsV RX7 175 RX7 yX7_fullOnes wsX7_fullOnes) := goodIn_app (goodIn_of _ (by decide +kernel)) ggX7_count_X7_fullOnes
set_option maxRecDepth 20000 in
theorem ggX7_count_X7_reached : GoodIn wsX7_count wsX7_reached := goodIn_r _ [44, 45, 46, 47, 7, 48, 49, 50, 51, 52, 17, 18, 19, 20, 1, 53, 54, 55, 56, 57, 58, 59, 60, 61, 62, 66, 67, 68, 69, 70, 71, 72, 73, 74, 75, 76, 77, 78, 79, 80, 81, 82] (by decide +kernel) (by decide +kernel)
set_option maxRecDepth 20000 in
theorem gX7_count_X7_reached : GoodIn wsX7_count (wsV RX7 156 RX7 yX7_reached wsX7_reached) := goodIn_app (goodIn_of _ (by decide +kernel)) ggX7_count_X7_reached
set_option maxRecDepth 20000 in
theorem ggX7_count_X7_ones : GoodIn wsX7_count wsX7_ones := goodIn_r _ [65] (by decide +kernel) (by decide +kernel)
set_option maxRecDepth 20000 in
theorem gX7_count_X7_ones : GoodIn wsX7_count (va_wsS RX7 178 yX7_ones wsX7_ones) := goodIn_app (goodIn_of _ (by decide +kernel)) ggX7_count_X7_ones
theorem dX7_count_0 : decode cX7_count 0 = .ok (.iload_n 1, 1) := by decide +kernel
theorem dX7_count_1 : decode cX7_count 1 = .ok (.tableswitch 188 0 18 #[91, 98, 105, 110, 117, 125, 130, 135, 140, 145, 153, 153, 153, 153, 153, 165, 165, 178, 183], 91) := by decide +kernel
theorem dX7_count_92 : decode cX7_count 92 = .ok (.aload_n 0, 1) := by decide +kernel
theorem dX7_count_93 : decode cX7_count 93 = .ok (.getfield 7, 3) := by decide +kernel
theorem dX7_count_96 : decode cX7_count 96 = .ok (.iconst 0, 1) := by decide +kernel
theorem dX7_count_97 : decode cX7_count 97 = .ok (.iaload, 1) := by decide +kernel
theorem dX7_count_98 : decode cX7_count 98 = .ok (.ireturn, 1) := by decide +kernel
theorem dX7_count_99 : decode cX7_count 99 = .ok (.aload_n 0, 1) := by decide +kernel
theorem dX7_count_100 : decode cX7_count 100 = .ok (.getfield 7, 3) := by decide +kernel
theorem dX7_count_103 : decode cX7_count 103 = .ok (.iconst 1, 1) := by decide +kernel
theorem dX7_count_104 : decode cX7_count 104 = .ok (.iaload, 1) := by decide +kernel
theorem dX7_count_105 : decode cX7_count 105 = .ok (.ireturn, 1) := by decide +kernel
theorem dX7_count_106 : decode cX7_count 106 = .ok (.aload_n 0, 1) := by decide +kernel
theorem dX7_count_107 : decode cX7_count 107 = .ok (.invokevirtual 166, 3) := by decide +kernel
theorem dX7_count_110 : decode cX7_count 110 = .ok (.ireturn, 1) := by decide +kernel
theorem dX7_count_111 : decode cX7_count 111 = .ok (.aload_n 0, 1) := by decide +kernel
theorem dX7_count_112 : decode cX7_count 112 = .ok (.getfield 7, 3) := by decide +kernel
theorem dX7_count_115 : decode cX7_count 115 = .ok (.iconst 2, 1) := by decide +kernel
theorem dX7_count_116 : decode cX7_count 116 = .ok (.iaload, 1) := by decide +kernel
theorem dX7_count_117 : decode cX7_count 117 = .ok (.ireturn, 1) := by decide +kernel
theorem dX7_count_118 : decode cX7_count 118 = .ok (.bipush 35, 2) := by decide +kernel
theorem dX7_count_120 : decode cX7_count 120 = .ok (.aload_n 0, 1) := by decide +kernel
theorem dX7_count_121 : decode cX7_count 121 = .ok (.invokevirtual 98, 3) := by decide +kernel
theorem dX7_count_124 : decode cX7_count 124 = .ok (.isub, 1) := by decide +kernel
theorem dX7_count_125 : decode cX7_count 125 = .ok (.ireturn, 1) := by decide +kernel
theorem dX7_count_126 : decode cX7_count 126 = .ok (.aload_n 0, 1) := by decide +kernel
theorem dX7_count_127 : decode cX7_count 127 = .ok (.invokevirtual 169, 3) := by decide +kernel
theorem dX7_count_130 : decode cX7_count 130 = .ok (.ireturn, 1) := by decide +kernel
theorem dX7_count_131 : decode cX7_count 131 = .ok (.aload_n 0, 1) := by decide +kernel
theorem dX7_count_132 : decode cX7_count 132 = .ok (.invokevirtual 172, 3) := by decide +kernel
theorem dX7_count_135 : decode cX7_count 135 = .ok (.ireturn, 1) := by decide +kernel
theorem dX7_count_136 : decode cX7_count 136 = .ok (.aload_n 0, 1) := by decide +kernel
theorem dX7_count_137 : decode cX7_count 137 = .ok (.invokevirtual 102, 3) := by decide +kernel
theorem dX7_count_140 : decode cX7_count 140 = .ok (.ireturn, 1) := by decide +kernel
theorem dX7_count_141 : decode cX7_count 141 = .ok (.aload_n 0, 1) := by decide +kernel
theorem dX7_count_142 : decode cX7_count 142 = .ok (.invokevirtual 175, 3) := by decide +kernel
theorem dX7_count_145 : decode cX7_count 145 = .ok (.ireturn, 1) := by decide +kernel
theorem dX7_count_146 : decode cX7_count 146 = .ok (.aload_n 0, 1) := by decide +kernel
theorem dX7_count_147 : decode cX7_count 147 = .ok (.invokevirtual 156, 3) := by decide +kernel
theorem dX7_count_150 : decode cX7_count 150 = .ok (.invokestatic 178, 3) := by decide +kernel
theorem dX7_count_153 : decode cX7_count 153 = .ok (.ireturn, 1) := by decide +kernel
theorem dX7_count_154 : decode cX7_count 154 = .ok (.aload_n 0, 1) := by decide +kernel
theorem dX7_count_155 : decode cX7_count 155 = .ok (.getfield 7, 3) := by decide +kernel
theorem dX7_count_158 : decode cX7_count 158 = .ok (.iconst 3, 1) := by decide +kernel
theorem dX7_count_159 : decode cX7_count 159 = .ok (.iload_n 1, 1) := by decide +kernel
theorem dX7_count_160 : decode cX7_count 160 = .ok (.iadd, 1) := by decide +kernel
theorem dX7_count_161 : decode cX7_count 161 = .ok (.bipush 10, 2) := by decide +kernel
theorem dX7_count_163 : decode cX7_count 163 = .ok (.isub, 1) := by decide +kernel
theorem dX7_count_164 : decode cX7_count 164 = .ok (.iaload, 1) := by decide +kernel
theorem dX7_count_165 : decode cX7_count 165 = .ok (.ireturn, 1) := by decide +kernel
theorem dX7_count_166 : decode cX7_count 166 = .ok (.aload_n 0, 1) := by decide +kernel
theorem dX7_count_167 : decode cX7_count 167 = .ok (.getfield 7, 3) := by decide +kernel
theorem dX7_count_170 : decode cX7_count 170 = .ok (.bipush 8, 2) := by decide +kernel
theorem dX7_count_172 : decode cX7_count 172 = .ok (.iload_n 1, 1) := by decide +kernel
theorem dX7_count_173 : decode cX7_count 173 = .ok (.iadd, 1) := by decide +kernel
theorem dX7_count_174 : decode cX7_count 174 = .ok (.bipush 15, 2) := by decide +kernel
theorem dX7_count_176 : decode cX7_count 176 = .ok (.isub, 1) := by decide +kernel
theorem dX7_count_177 : decode cX7_count 177 = .ok (.iaload, 1) := by decide +kernel
theorem dX7_count_178 : decode cX7_count 178 = .ok (.ireturn, 1) := by decide +kernel
theorem dX7_count_179 : decode cX7_count 179 = .ok (.aload_n 0, 1) := by decide +kernel
theorem dX7_count_180 : decode cX7_count 180 = .ok (.getfield 108, 3) := by decide +kernel
theorem dX7_count_183 : decode cX7_count 183 = .ok (.ireturn, 1) := by decide +kernel
theorem dX7_count_184 : decode cX7_count 184 = .ok (.aload_n 0, 1) := by decide +kernel
theorem dX7_count_185 : decode cX7_count 185 = .ok (.getfield 34, 3) := by decide +kernel
theorem dX7_count_188 : decode cX7_count 188 = .ok (.ireturn, 1) := by decide +kernel
theorem dX7_count_189 : decode cX7_count 189 = .ok (.iconst (-1), 1) := by decide +kernel
theorem dX7_count_190 : decode cX7_count 190 = .ok (.ireturn, 1) := by decide +kernel
theorem dX7_mean_0 : decode cX7_mean 0 = .ok (.aload_n 0, 1) := by decide +kernel
theorem dX7_mean_1 : decode cX7_mean 1 = .ok (.getfield 7, 3) := by decide +kernel
theorem dX7_mean_4 : decode cX7_mean 4 = .ok (.iconst 3, 1) := by decide +kernel
theorem dX7_mean_5 : decode cX7_mean 5 = .ok (.iaload, 1) := by decide +kernel
theorem dX7_mean_6 : decode cX7_mean 6 = .ok (.ifCond .ne 7, 3) := by decide +kernel
theorem dX7_mean_9 : decode cX7_mean 9 = .ok (.dconst 0, 1) := by decide +kernel
theorem dX7_mean_10 : decode cX7_mean 10 = .ok (.goto 18, 3) := by decide +kernel
theorem dX7_mean_13 : decode cX7_mean 13 = .ok (.aload_n 0, 1) := by decide +kernel
theorem dX7_mean_14 : decode cX7_mean 14 = .ok (.getfield 7, 3) := by decide +kernel
theorem dX7_mean_17 : decode cX7_mean 17 = .ok (.iconst 0, 1) := by decide +kernel
theorem dX7_mean_18 : decode cX7_mean 18 = .ok (.iaload, 1) := by decide +kernel
theorem dX7_mean_19 : decode cX7_mean 19 = .ok (.i2d, 1) := by decide +kernel
theorem dX7_mean_20 : decode cX7_mean 20 = .ok (.aload_n 0, 1) := by decide +kernel
theorem dX7_mean_21 : decode cX7_mean 21 = .ok (.getfield 7, 3) := by decide +kernel
theorem dX7_mean_24 : decode cX7_mean 24 = .ok (.iconst 3, 1) := by decide +kernel
theorem dX7_mean_25 : decode cX7_mean 25 = .ok (.iaload, 1) := by decide +kernel
theorem dX7_mean_26 : decode cX7_mean 26 = .ok (.i2d, 1) := by decide +kernel
theorem dX7_mean_27 : decode cX7_mean 27 = .ok (.ddiv, 1) := by decide +kernel
theorem dX7_mean_28 : decode cX7_mean 28 = .ok (.dreturn, 1) := by decide +kernel
set_option maxRecDepth 20000 in
theorem ggX7_ends_X7_isPlace : GoodIn wsX7_ends wsX7_isPlace := goodIn_r _ [6, 7, 8, 5, 9] (by decide +kernel) (by decide +kernel)
set_option maxRecDepth 20000 in
theorem gX7_ends_X7_isPlace : GoodIn wsX7_ends (va_wsS RX7 86 yX7_isPlace wsX7_isPlace) := goodIn_app (goodIn_of _ (by decide +kernel)) ggX7_ends_X7_isPlace
set_option maxRecDepth 20000 in
theorem ggX7_ends_X7_copies : GoodIn wsX7_ends wsX7_copies := goodIn_r _ [12] (by decide +kernel) (by decide +kernel)
set_option maxRecDepth 20000 in
theorem gX7_ends_X7_copies : GoodIn wsX7_ends (va_wsS RX7 38 yX7_copies wsX7_copies) := goodIn_app (goodIn_of _ (by decide +kernel)) ggX7_ends_X7_copies
set_option maxRecDepth 20000 in
theorem ggX7_ends_X7_fallsAll : GoodIn wsX7_ends wsX7_fallsAll := goodIn_r _ [16, 17, 18, 19, 20, 5, 21, 22, 23, 24, 25, 1, 26, 27, 28, 29, 30, 31, 32, 33, 34, 35, 36, 37, 7, 8, 9, 38, 39, 40, 41, 42, 43, 44, 45, 46, 47, 48, 49, 50, 51, 52, 53, 54, 55, 56, 57] (by decide +kernel) (by decide +kernel)
set_option maxRecDepth 20000 in
theorem gX7_ends_X7_fallsAll : GoodIn wsX7_ends (wsV RX7 75 RX7 yX7_fallsAll wsX7_fallsAll) := goodIn_app (goodIn_of _ (by decide +kernel)) ggX7_ends_X7_fallsAll
theorem dX7_ends_0 : decode cX7_ends 0 = .ok (.iload_n 1, 1) := by decide +kernel
theorem dX7_ends_1 : decode cX7_ends 1 = .ok (.invokestatic 86, 3) := by decide +kernel
theorem dX7_ends_4 : decode cX7_ends 4 = .ok (.ifCond .ne 5, 3) := by decide +kernel
theorem dX7_ends_7 : decode cX7_ends 7 = .ok (.iconst (-1), 1) := by decide +kernel
theorem dX7_ends_8 : decode cX7_ends 8 = .ok (.ireturn, 1) := by decide +kernel
theorem dX7_ends_9 : decode cX7_ends 9 = .ok (.aload_n 0, 1) := by decide +kernel
theorem dX7_ends_10 : decode cX7_ends 10 = .ok (.getfield 7, 3) := by decide +kernel
theorem dX7_ends_13 : decode cX7_ends 13 = .ok (.iconst 0, 1) := by decide +kernel
theorem dX7_ends_14 : decode cX7_ends 14 = .ok (.aload_n 0, 1) := by decide +kernel
theorem dX7_ends_15 : decode cX7_ends 15 = .ok (.getfield 13, 3) := by decide +kernel
theorem dX7_ends_18 : decode cX7_ends 18 = .ok (.iconst 0, 1) := by decide +kernel
theorem dX7_ends_19 : decode cX7_ends 19 = .ok (.invokestatic 38, 3) := by decide +kernel
theorem dX7_ends_22 : decode cX7_ends 22 = .ok (.aload_n 0, 1) := by decide +kernel
theorem dX7_ends_23 : decode cX7_ends 23 = .ok (.iload_n 1, 1) := by decide +kernel
theorem dX7_ends_24 : decode cX7_ends 24 = .ok (.iconst 0, 1) := by decide +kernel
theorem dX7_ends_25 : decode cX7_ends 25 = .ok (.invokevirtual 75, 3) := by decide +kernel
theorem dX7_ends_28 : decode cX7_ends 28 = .ok (.istore_n 2, 1) := by decide +kernel
theorem dX7_ends_29 : decode cX7_ends 29 = .ok (.aload_n 0, 1) := by decide +kernel
theorem dX7_ends_30 : decode cX7_ends 30 = .ok (.getfield 13, 3) := by decide +kernel
theorem dX7_ends_33 : decode cX7_ends 33 = .ok (.iconst 0, 1) := by decide +kernel
theorem dX7_ends_34 : decode cX7_ends 34 = .ok (.aload_n 0, 1) := by decide +kernel
theorem dX7_ends_35 : decode cX7_ends 35 = .ok (.getfield 7, 3) := by decide +kernel
theorem dX7_ends_38 : decode cX7_ends 38 = .ok (.iconst 0, 1) := by decide +kernel
theorem dX7_ends_39 : decode cX7_ends 39 = .ok (.invokestatic 38, 3) := by decide +kernel
theorem dX7_ends_42 : decode cX7_ends 42 = .ok (.iload_n 2, 1) := by decide +kernel
theorem dX7_ends_43 : decode cX7_ends 43 = .ok (.ireturn, 1) := by decide +kernel
set_option maxRecDepth 20000 in
theorem ggX7_tries_X7_copies : GoodIn wsX7_tries wsX7_copies := goodIn_r _ [6] (by decide +kernel) (by decide +kernel)
set_option maxRecDepth 20000 in
theorem gX7_tries_X7_copies : GoodIn wsX7_tries (va_wsS RX7 38 yX7_copies wsX7_copies) := goodIn_app (goodIn_of _ (by decide +kernel)) ggX7_tries_X7_copies
set_option maxRecDepth 20000 in
theorem ggX7_tries_X7_goShoot : GoodIn wsX7_tries wsX7_goShoot := goodIn_r _ [10, 1, 11, 12, 13, 14, 5, 15, 16, 17, 18, 19, 20, 21, 22, 23, 24, 25, 26, 27, 28, 29, 30, 31, 32, 33, 34, 35, 36, 37, 38, 39, 40, 41, 42, 43, 44, 45, 46, 47, 48, 49, 50, 51, 52, 53, 66, 67, 68, 69, 70, 71, 72, 73, 74, 75, 76, 77, 78, 79, 80, 81, 82] (by decide +kernel) (by decide +kernel)
set_option maxRecDepth 20000 in
theorem gX7_tries_X7_goShoot : GoodIn wsX7_tries (wsV RX7 92 RX7 yX7_goShoot wsX7_goShoot) := goodIn_app (goodIn_of _ (by decide +kernel)) ggX7_tries_X7_goShoot
set_option maxRecDepth 20000 in
theorem ggX7_tries_X7_reached : GoodIn wsX7_tries wsX7_reached := goodIn_r _ [57, 58, 59, 60, 5, 61, 62, 63, 64, 65, 20, 21, 22, 23, 1, 28, 29, 30, 31, 39, 40, 41, 36, 37, 38, 66, 67, 68, 69, 70, 71, 72, 73, 74, 75, 76, 77, 78, 79, 80, 81, 82] (by decide +kernel) (by decide +kernel)
set_option maxRecDepth 20000 in
theorem gX7_tries_X7_reached : GoodIn wsX7_tries (wsV RX7 156 RX7 yX7_reached wsX7_reached) := goodIn_app (goodIn_of _ (by decide +kernel)) ggX7_tries_X7_reached
theorem dX7_tries_0 : decode cX7_tries 0 = .ok (.aload_n 0, 1) := by decide +kernel
theorem dX7_tries_1 : decode cX7_tries 1 = .ok (.getfield 7, 3) := by decide +kernel
theorem dX7_tries_4 : decode cX7_tries 4 = .ok (.iconst 0, 1) := by decide +kernel
theorem dX7_tries_5 : decode cX7_tries 5 = .ok (.aload_n 0, 1) := by decide +kernel
theorem dX7_tries_6 : decode cX7_tries 6 = .ok (.getfield 13, 3) := by decide +kernel
theorem dX7_tries_9 : decode cX7_tries 9 = .ok (.iconst 0, 1) := by decide +kernel
theorem dX7_tries_10 : decode cX7_tries 10 = .ok (.invokestatic 38, 3) := by decide +kernel
theorem dX7_tries_13 : decode cX7_tries 13 = .ok (.iconst 0, 1) := by decide +kernel
theorem dX7_tries_14 : decode cX7_tries 14 = .ok (.istore 5, 2) := by decide +kernel
theorem dX7_tries_16 : decode cX7_tries 16 = .ok (.iload 5, 2) := by decide +kernel
theorem dX7_tries_18 : decode cX7_tries 18 = .ok (.iload_n 3, 1) := by decide +kernel
theorem dX7_tries_19 : decode cX7_tries 19 = .ok (.if_icmp .ge 26, 3) := by decide +kernel
theorem dX7_tries_22 : decode cX7_tries 22 = .ok (.aload_n 0, 1) := by decide +kernel
theorem dX7_tries_23 : decode cX7_tries 23 = .ok (.getfield 7, 3) := by decide +kernel
theorem dX7_tries_26 : decode cX7_tries 26 = .ok (.iconst 1, 1) := by decide +kernel
theorem dX7_tries_27 : decode cX7_tries 27 = .ok (.iaload, 1) := by decide +kernel
theorem dX7_tries_28 : decode cX7_tries 28 = .ok (.ifCond .le 17, 3) := by decide +kernel
theorem dX7_tries_31 : decode cX7_tries 31 = .ok (.aload_n 0, 1) := by decide +kernel
theorem dX7_tries_32 : decode cX7_tries 32 = .ok (.iload_n 1, 1) := by decide +kernel
theorem dX7_tries_33 : decode cX7_tries 33 = .ok (.iload_n 2, 1) := by decide +kernel
theorem dX7_tries_34 : decode cX7_tries 34 = .ok (.invokevirtual 92, 3) := by decide +kernel
theorem dX7_tries_37 : decode cX7_tries 37 = .ok (.istore 6, 2) := by decide +kernel
theorem dX7_tries_39 : decode cX7_tries 39 = .ok (.iinc 5 1, 3) := by decide +kernel
theorem dX7_tries_42 : decode cX7_tries 42 = .ok (.goto (-26), 3) := by decide +kernel
theorem dX7_tries_45 : decode cX7_tries 45 = .ok (.iload 4, 2) := by decide +kernel
theorem dX7_tries_47 : decode cX7_tries 47 = .ok (.ifCond .ne 19, 3) := by decide +kernel
theorem dX7_tries_50 : decode cX7_tries 50 = .ok (.aload_n 0, 1) := by decide +kernel
theorem dX7_tries_51 : decode cX7_tries 51 = .ok (.getfield 7, 3) := by decide +kernel
theorem dX7_tries_54 : decode cX7_tries 54 = .ok (.iconst 0, 1) := by decide +kernel
theorem dX7_tries_55 : decode cX7_tries 55 = .ok (.iaload, 1) := by decide +kernel
theorem dX7_tries_56 : decode cX7_tries 56 = .ok (.aload_n 0, 1) := by decide +kernel
theorem dX7_tries_57 : decode cX7_tries 57 = .ok (.getfield 13, 3) := by decide +kernel
theorem dX7_tries_60 : decode cX7_tries 60 = .ok (.iconst 0, 1) := by decide +kernel
theorem dX7_tries_61 : decode cX7_tries 61 = .ok (.iaload, 1) := by decide +kernel
theorem dX7_tries_62 : decode cX7_tries 62 = .ok (.isub, 1) := by decide +kernel
theorem dX7_tries_63 : decode cX7_tries 63 = .ok (.goto 29, 3) := by decide +kernel
theorem dX7_tries_66 : decode cX7_tries 66 = .ok (.iload 4, 2) := by decide +kernel
theorem dX7_tries_68 : decode cX7_tries 68 = .ok (.iconst 1, 1) := by decide +kernel
theorem dX7_tries_69 : decode cX7_tries 69 = .ok (.if_icmp .ne 19, 3) := by decide +kernel
theorem dX7_tries_72 : decode cX7_tries 72 = .ok (.aload_n 0, 1) := by decide +kernel
theorem dX7_tries_73 : decode cX7_tries 73 = .ok (.getfield 7, 3) := by decide +kernel
theorem dX7_tries_76 : decode cX7_tries 76 = .ok (.iconst 2, 1) := by decide +kernel
theorem dX7_tries_77 : decode cX7_tries 77 = .ok (.iaload, 1) := by decide +kernel
theorem dX7_tries_78 : decode cX7_tries 78 = .ok (.aload_n 0, 1) := by decide +kernel
theorem dX7_tries_79 : decode cX7_tries 79 = .ok (.getfield 13, 3) := by decide +kernel
theorem dX7_tries_82 : decode cX7_tries 82 = .ok (.iconst 2, 1) := by decide +kernel
theorem dX7_tries_83 : decode cX7_tries 83 = .ok (.iaload, 1) := by decide +kernel
theorem dX7_tries_84 : decode cX7_tries 84 = .ok (.isub, 1) := by decide +kernel
theorem dX7_tries_85 : decode cX7_tries 85 = .ok (.goto 7, 3) := by decide +kernel
theorem dX7_tries_88 : decode cX7_tries 88 = .ok (.aload_n 0, 1) := by decide +kernel
theorem dX7_tries_89 : decode cX7_tries 89 = .ok (.invokevirtual 156, 3) := by decide +kernel
theorem dX7_tries_92 : decode cX7_tries 92 = .ok (.istore 5, 2) := by decide +kernel
theorem dX7_tries_94 : decode cX7_tries 94 = .ok (.aload_n 0, 1) := by decide +kernel
theorem dX7_tries_95 : decode cX7_tries 95 = .ok (.getfield 13, 3) := by decide +kernel
theorem dX7_tries_98 : decode cX7_tries 98 = .ok (.iconst 0, 1) := by decide +kernel
theorem dX7_tries_99 : decode cX7_tries 99 = .ok (.aload_n 0, 1) := by decide +kernel
theorem dX7_tries_100 : decode cX7_tries 100 = .ok (.getfield 7, 3) := by decide +kernel
theorem dX7_tries_103 : decode cX7_tries 103 = .ok (.iconst 0, 1) := by decide +kernel
theorem dX7_tries_104 : decode cX7_tries 104 = .ok (.invokestatic 38, 3) := by decide +kernel
theorem dX7_tries_107 : decode cX7_tries 107 = .ok (.iload 5, 2) := by decide +kernel
theorem dX7_tries_109 : decode cX7_tries 109 = .ok (.ireturn, 1) := by decide +kernel
set_option maxRecDepth 20000 in
theorem ggX7_ifShot_X7_isPlace : GoodIn wsX7_ifShot wsX7_isPlace := goodIn_r _ [4, 5, 6, 3, 7] (by decide +kernel) (by decide +kernel)
set_option maxRecDepth 20000 in
theorem gX7_ifShot_X7_isPlace : GoodIn wsX7_ifShot (va_wsS RX7 86 yX7_isPlace wsX7_isPlace) := goodIn_app (goodIn_of _ (by decide +kernel)) ggX7_ifShot_X7_isPlace
set_option maxRecDepth 20000 in
theorem ggX7_ifShot_X7_in : GoodIn wsX7_ifShot wsX7_in := goodIn_r _ [7] (by decide +kernel) (by decide +kernel)
set_option maxRecDepth 20000 in
theorem gX7_ifShot_X7_in : GoodIn wsX7_ifShot (va_wsS RX7 42 yX7_in wsX7_in) := goodIn_app (goodIn_of _ (by decide +kernel)) ggX7_ifShot_X7_in
set_option maxRecDepth 20000 in
theorem ggX7_ifShot_X7_tries : GoodIn wsX7_ifShot wsX7_tries := goodIn_r _ [11, 12, 13, 14, 15, 3, 16, 17, 18, 19, 20, 21, 22, 23, 24, 25, 26, 27, 28, 29, 30, 31, 32, 33, 34, 35, 36, 37, 38, 39, 40, 41, 42, 43, 44, 45, 5, 6, 7, 46, 47, 48, 49, 50, 51, 52, 53, 54, 55, 56, 57, 58, 59, 60, 61, 62, 63, 64, 65, 66, 67, 68, 69, 70, 71, 72, 73, 74, 75, 76, 77, 78, 79, 80, 81, 82, 83, 84, 85, 86, 87, 88, 89] (by decide +kernel) (by decide +kernel)
set_option maxRecDepth 20000 in
theorem gX7_ifShot_X7_tries : GoodIn wsX7_ifShot (wsV RX7 181 RX7 yX7_tries wsX7_tries) := goodIn_app (goodIn_of _ (by decide +kernel)) ggX7_ifShot_X7_tries
theorem dX7_ifShot_0 : decode cX7_ifShot 0 = .ok (.iload_n 1, 1) := by decide +kernel
theorem dX7_ifShot_1 : decode cX7_ifShot 1 = .ok (.invokestatic 86, 3) := by decide +kernel
theorem dX7_ifShot_4 : decode cX7_ifShot 4 = .ok (.ifCond .eq 35, 3) := by decide +kernel
theorem dX7_ifShot_7 : decode cX7_ifShot 7 = .ok (.iload_n 3, 1) := by decide +kernel
theorem dX7_ifShot_8 : decode cX7_ifShot 8 = .ok (.iconst 1, 1) := by decide +kernel
theorem dX7_ifShot_9 : decode cX7_ifShot 9 = .ok (.bipush 20, 2) := by decide +kernel
theorem dX7_ifShot_11 : decode cX7_ifShot 11 = .ok (.invokestatic 42, 3) := by decide +kernel
theorem dX7_ifShot_14 : decode cX7_ifShot 14 = .ok (.ifCond .eq 25, 3) := by decide +kernel
theorem dX7_ifShot_17 : decode cX7_ifShot 17 = .ok (.iload 4, 2) := by decide +kernel
theorem dX7_ifShot_19 : decode cX7_ifShot 19 = .ok (.iconst 0, 1) := by decide +kernel
theorem dX7_ifShot_20 : decode cX7_ifShot 20 = .ok (.iconst 2, 1) := by decide +kernel
theorem dX7_ifShot_21 : decode cX7_ifShot 21 = .ok (.invokestatic 42, 3) := by decide +kernel
theorem dX7_ifShot_24 : decode cX7_ifShot 24 = .ok (.ifCond .eq 15, 3) := by decide +kernel
theorem dX7_ifShot_27 : decode cX7_ifShot 27 = .ok (.aload_n 0, 1) := by decide +kernel
theorem dX7_ifShot_28 : decode cX7_ifShot 28 = .ok (.iload_n 1, 1) := by decide +kernel
theorem dX7_ifShot_29 : decode cX7_ifShot 29 = .ok (.iload_n 2, 1) := by decide +kernel
theorem dX7_ifShot_30 : decode cX7_ifShot 30 = .ok (.iload_n 3, 1) := by decide +kernel
theorem dX7_ifShot_31 : decode cX7_ifShot 31 = .ok (.iload 4, 2) := by decide +kernel
theorem dX7_ifShot_33 : decode cX7_ifShot 33 = .ok (.invokevirtual 181, 3) := by decide +kernel
theorem dX7_ifShot_36 : decode cX7_ifShot 36 = .ok (.goto 4, 3) := by decide +kernel
theorem dX7_ifShot_39 : decode cX7_ifShot 39 = .ok (.iconst (-1), 1) := by decide +kernel
theorem dX7_ifShot_40 : decode cX7_ifShot 40 = .ok (.ireturn, 1) := by decide +kernel
set_option maxRecDepth 20000 in
theorem ggX7_best_X7_tries : GoodIn wsX7_best wsX7_tries := goodIn_r _ [6, 1, 7, 8, 9, 5, 10, 11, 12, 13, 14, 15, 16, 17, 18, 19, 20, 21, 22, 23, 24, 25, 26, 27, 28, 29, 30, 31, 32, 33, 34, 35, 36, 37, 38, 39, 40, 41, 42, 43, 44, 45, 46, 47, 48, 49, 50, 51, 52, 53, 54, 55, 56, 57, 58, 59, 60, 61, 62, 63, 64, 65, 66, 67, 68, 69, 73, 74, 75, 76, 77, 78, 79, 80, 81, 82, 83, 84, 85, 86, 87, 88, 89] (by decide +kernel) (by decide +kernel)
set_option maxRecDepth 20000 in
theorem gX7_best_X7_tries : GoodIn wsX7_best (wsV RX7 181 RX7 yX7_tries wsX7_tries) := goodIn_app (goodIn_of _ (by decide +kernel)) ggX7_best_X7_tries
set_option maxRecDepth 20000 in
theorem ggX7_best_X7_ones : GoodIn wsX7_best wsX7_ones := goodIn_r _ [72] (by decide +kernel) (by decide +kernel)
set_option maxRecDepth 20000 in
theorem gX7_best_X7_ones : GoodIn wsX7_best (va_wsS RX7 178 yX7_ones wsX7_ones) := goodIn_app (goodIn_of _ (by decide +kernel)) ggX7_best_X7_ones
theorem dX7_best_0 : decode cX7_best 0 = .ok (.aload_n 0, 1) := by decide +kernel
theorem dX7_best_1 : decode cX7_best 1 = .ok (.getfield 7, 3) := by decide +kernel
theorem dX7_best_4 : decode cX7_best 4 = .ok (.iconst 1, 1) := by decide +kernel
theorem dX7_best_5 : decode cX7_best 5 = .ok (.iaload, 1) := by decide +kernel
theorem dX7_best_6 : decode cX7_best 6 = .ok (.ifCond .ne 6, 3) := by decide +kernel
theorem dX7_best_9 : decode cX7_best 9 = .ok (.bipush (-2), 2) := by decide +kernel
theorem dX7_best_11 : decode cX7_best 11 = .ok (.ireturn, 1) := by decide +kernel
theorem dX7_best_12 : decode cX7_best 12 = .ok (.iconst 0, 1) := by decide +kernel
theorem dX7_best_13 : decode cX7_best 13 = .ok (.istore_n 2, 1) := by decide +kernel
theorem dX7_best_14 : decode cX7_best 14 = .ok (.iconst (-1), 1) := by decide +kernel
theorem dX7_best_15 : decode cX7_best 15 = .ok (.istore_n 3, 1) := by decide +kernel
theorem dX7_best_16 : decode cX7_best 16 = .ok (.iconst 0, 1) := by decide +kernel
theorem dX7_best_17 : decode cX7_best 17 = .ok (.istore 4, 2) := by decide +kernel
theorem dX7_best_19 : decode cX7_best 19 = .ok (.iload 4, 2) := by decide +kernel
theorem dX7_best_21 : decode cX7_best 21 = .ok (.bipush 7, 2) := by decide +kernel
theorem dX7_best_23 : decode cX7_best 23 = .ok (.if_icmp .ge 62, 3) := by decide +kernel
theorem dX7_best_26 : decode cX7_best 26 = .ok (.bipush 10, 2) := by decide +kernel
theorem dX7_best_28 : decode cX7_best 28 = .ok (.aload_n 0, 1) := by decide +kernel
theorem dX7_best_29 : decode cX7_best 29 = .ok (.iload 4, 2) := by decide +kernel
theorem dX7_best_31 : decode cX7_best 31 = .ok (.iload_n 1, 1) := by decide +kernel
theorem dX7_best_32 : decode cX7_best 32 = .ok (.iconst 1, 1) := by decide +kernel
theorem dX7_best_33 : decode cX7_best 33 = .ok (.iconst 0, 1) := by decide +kernel
theorem dX7_best_34 : decode cX7_best 34 = .ok (.invokevirtual 181, 3) := by decide +kernel
theorem dX7_best_37 : decode cX7_best 37 = .ok (.imul, 1) := by decide +kernel
theorem dX7_best_38 : decode cX7_best 38 = .ok (.aload_n 0, 1) := by decide +kernel
theorem dX7_best_39 : decode cX7_best 39 = .ok (.iload 4, 2) := by decide +kernel
theorem dX7_best_41 : decode cX7_best 41 = .ok (.iload_n 1, 1) := by decide +kernel
theorem dX7_best_42 : decode cX7_best 42 = .ok (.iconst 1, 1) := by decide +kernel
theorem dX7_best_43 : decode cX7_best 43 = .ok (.iconst 2, 1) := by decide +kernel
theorem dX7_best_44 : decode cX7_best 44 = .ok (.invokevirtual 181, 3) := by decide +kernel
theorem dX7_best_47 : decode cX7_best 47 = .ok (.invokestatic 178, 3) := by decide +kernel
theorem dX7_best_50 : decode cX7_best 50 = .ok (.iadd, 1) := by decide +kernel
theorem dX7_best_51 : decode cX7_best 51 = .ok (.istore 5, 2) := by decide +kernel
theorem dX7_best_53 : decode cX7_best 53 = .ok (.iload 5, 2) := by decide +kernel
theorem dX7_best_55 : decode cX7_best 55 = .ok (.iload_n 3, 1) := by decide +kernel
theorem dX7_best_56 : decode cX7_best 56 = .ok (.if_icmp .le 8, 3) := by decide +kernel
theorem dX7_best_59 : decode cX7_best 59 = .ok (.iload 4, 2) := by decide +kernel
theorem dX7_best_61 : decode cX7_best 61 = .ok (.goto 4, 3) := by decide +kernel
theorem dX7_best_64 : decode cX7_best 64 = .ok (.iload_n 2, 1) := by decide +kernel
theorem dX7_best_65 : decode cX7_best 65 = .ok (.istore_n 2, 1) := by decide +kernel
theorem dX7_best_66 : decode cX7_best 66 = .ok (.iload 5, 2) := by decide +kernel
theorem dX7_best_68 : decode cX7_best 68 = .ok (.iload_n 3, 1) := by decide +kernel
theorem dX7_best_69 : decode cX7_best 69 = .ok (.if_icmp .le 8, 3) := by decide +kernel
theorem dX7_best_72 : decode cX7_best 72 = .ok (.iload 5, 2) := by decide +kernel
theorem dX7_best_74 : decode cX7_best 74 = .ok (.goto 4, 3) := by decide +kernel
theorem dX7_best_77 : decode cX7_best 77 = .ok (.iload_n 3, 1) := by decide +kernel
theorem dX7_best_78 : decode cX7_best 78 = .ok (.istore_n 3, 1) := by decide +kernel
theorem dX7_best_79 : decode cX7_best 79 = .ok (.iinc 4 1, 3) := by decide +kernel
theorem dX7_best_82 : decode cX7_best 82 = .ok (.goto (-63), 3) := by decide +kernel
theorem dX7_best_85 : decode cX7_best 85 = .ok (.iload_n 2, 1) := by decide +kernel
theorem dX7_best_86 : decode cX7_best 86 = .ok (.ireturn, 1) := by decide +kernel
set_option maxRecDepth 20000 in
theorem ggX7_undo_X7_copies : GoodIn wsX7_undo wsX7_copies := goodIn_r _ [7] (by decide +kernel) (by decide +kernel)
set_option maxRecDepth 20000 in
theorem gX7_undo_X7_copies : GoodIn wsX7_undo (va_wsS RX7 38 yX7_copies wsX7_copies) := goodIn_app (goodIn_of _ (by decide +kernel)) ggX7_undo_X7_copies
theorem dX7_undo_0 : decode cX7_undo 0 = .ok (.aload_n 0, 1) := by decide +kernel
theorem dX7_undo_1 : decode cX7_undo 1 = .ok (.getfield 34, 3) := by decide +kernel
theorem dX7_undo_4 : decode cX7_undo 4 = .ok (.ifCond .ne 6, 3) := by decide +kernel
theorem dX7_undo_7 : decode cX7_undo 7 = .ok (.bipush (-2), 2) := by decide +kernel
theorem dX7_undo_9 : decode cX7_undo 9 = .ok (.ireturn, 1) := by decide +kernel
theorem dX7_undo_10 : decode cX7_undo 10 = .ok (.aload_n 0, 1) := by decide +kernel
theorem dX7_undo_11 : decode cX7_undo 11 = .ok (.dup, 1) := by decide +kernel
theorem dX7_undo_12 : decode cX7_undo 12 = .ok (.getfield 34, 3) := by decide +kernel
theorem dX7_undo_15 : decode cX7_undo 15 = .ok (.iconst 1, 1) := by decide +kernel
theorem dX7_undo_16 : decode cX7_undo 16 = .ok (.isub, 1) := by decide +kernel
theorem dX7_undo_17 : decode cX7_undo 17 = .ok (.putfield 34, 3) := by decide +kernel
theorem dX7_undo_20 : decode cX7_undo 20 = .ok (.aload_n 0, 1) := by decide +kernel
theorem dX7_undo_21 : decode cX7_undo 21 = .ok (.getfield 16, 3) := by decide +kernel
theorem dX7_undo_24 : decode cX7_undo 24 = .ok (.sipush 206, 3) := by decide +kernel
theorem dX7_undo_27 : decode cX7_undo 27 = .ok (.aload_n 0, 1) := by decide +kernel
theorem dX7_undo_28 : decode cX7_undo 28 = .ok (.getfield 34, 3) := by decide +kernel
theorem dX7_undo_31 : decode cX7_undo 31 = .ok (.imul, 1) := by decide +kernel
theorem dX7_undo_32 : decode cX7_undo 32 = .ok (.aload_n 0, 1) := by decide +kernel
theorem dX7_undo_33 : decode cX7_undo 33 = .ok (.getfield 7, 3) := by decide +kernel
theorem dX7_undo_36 : decode cX7_undo 36 = .ok (.iconst 0, 1) := by decide +kernel
theorem dX7_undo_37 : decode cX7_undo 37 = .ok (.invokestatic 38, 3) := by decide +kernel
theorem dX7_undo_40 : decode cX7_undo 40 = .ok (.aload_n 0, 1) := by decide +kernel
theorem dX7_undo_41 : decode cX7_undo 41 = .ok (.getfield 34, 3) := by decide +kernel
theorem dX7_undo_44 : decode cX7_undo 44 = .ok (.ireturn, 1) := by decide +kernel
set_option maxRecDepth 20000 in
theorem ggX7_save_X7_copies : GoodIn wsX7_save wsX7_copies := goodIn_r _ [7] (by decide +kernel) (by decide +kernel)
set_option maxRecDepth 20000 in
theorem gX7_save_X7_copies : GoodIn wsX7_save (va_wsS RX7 38 yX7_copies wsX7_copies) := goodIn_app (goodIn_of _ (by decide +kernel)) ggX7_save_X7_copies
theorem dX7_save_0 : decode cX7_save 0 = .ok (.aload_n 0, 1) := by decide +kernel
theorem dX7_save_1 : decode cX7_save 1 = .ok (.getfield 7, 3) := by decide +kernel
theorem dX7_save_4 : decode cX7_save 4 = .ok (.iconst 0, 1) := by decide +kernel
theorem dX7_save_5 : decode cX7_save 5 = .ok (.aload_n 0, 1) := by decide +kernel
theorem dX7_save_6 : decode cX7_save 6 = .ok (.getfield 19, 3) := by decide +kernel
theorem dX7_save_9 : decode cX7_save 9 = .ok (.iconst 0, 1) := by decide +kernel
theorem dX7_save_10 : decode cX7_save 10 = .ok (.invokestatic 38, 3) := by decide +kernel
theorem dX7_save_13 : decode cX7_save 13 = .ok (.aload_n 0, 1) := by decide +kernel
theorem dX7_save_14 : decode cX7_save 14 = .ok (.iconst 1, 1) := by decide +kernel
theorem dX7_save_15 : decode cX7_save 15 = .ok (.putfield 185, 3) := by decide +kernel
theorem dX7_save_18 : decode cX7_save 18 = .ok (.aload_n 0, 1) := by decide +kernel
theorem dX7_save_19 : decode cX7_save 19 = .ok (.getfield 7, 3) := by decide +kernel
theorem dX7_save_22 : decode cX7_save 22 = .ok (.iconst 0, 1) := by decide +kernel
theorem dX7_save_23 : decode cX7_save 23 = .ok (.iaload, 1) := by decide +kernel
theorem dX7_save_24 : decode cX7_save 24 = .ok (.ireturn, 1) := by decide +kernel
set_option maxRecDepth 20000 in
theorem ggX7_restore_X7_records : GoodIn wsX7_restore wsX7_records := goodIn_r _ [8, 9, 10, 3, 11, 12, 7, 13, 14, 15, 16, 17, 18, 19, 20, 21, 22, 23, 24, 25, 26, 27, 28, 29, 30] (by decide +kernel) (by decide +kernel)
set_option maxRecDepth 20000 in
theorem gX7_restore_X7_records : GoodIn wsX7_restore (wsV RX7 89 RX7 yX7_records wsX7_records) := goodIn_app (goodIn_of _ (by decide +kernel)) ggX7_restore_X7_records
set_option maxRecDepth 20000 in
theorem ggX7_restore_X7_copies : GoodIn wsX7_restore wsX7_copies := goodIn_r _ [13] (by decide +kernel) (by decide +kernel)
set_option maxRecDepth 20000 in
theorem gX7_restore_X7_copies : GoodIn wsX7_restore (va_wsS RX7 38 yX7_copies wsX7_copies) := goodIn_app (goodIn_of _ (by decide +kernel)) ggX7_restore_X7_copies
theorem dX7_restore_0 : decode cX7_restore 0 = .ok (.aload_n 0, 1) := by decide +kernel
theorem dX7_restore_1 : decode cX7_restore 1 = .ok (.getfield 185, 3) := by decide +kernel
theorem dX7_restore_4 : decode cX7_restore 4 = .ok (.ifCond .ne 6, 3) := by decide +kernel
theorem dX7_restore_7 : decode cX7_restore 7 = .ok (.bipush (-2), 2) := by decide +kernel
theorem dX7_restore_9 : decode cX7_restore 9 = .ok (.ireturn, 1) := by decide +kernel
theorem dX7_restore_10 : decode cX7_restore 10 = .ok (.aload_n 0, 1) := by decide +kernel
theorem dX7_restore_11 : decode cX7_restore 11 = .ok (.invokevirtual 89, 3) := by decide +kernel
theorem dX7_restore_14 : decode cX7_restore 14 = .ok (.aload_n 0, 1) := by decide +kernel
theorem dX7_restore_15 : decode cX7_restore 15 = .ok (.getfield 19, 3) := by decide +kernel
theorem dX7_restore_18 : decode cX7_restore 18 = .ok (.iconst 0, 1) := by decide +kernel
theorem dX7_restore_19 : decode cX7_restore 19 = .ok (.aload_n 0, 1) := by decide +kernel
theorem dX7_restore_20 : decode cX7_restore 20 = .ok (.getfield 7, 3) := by decide +kernel
theorem dX7_restore_23 : decode cX7_restore 23 = .ok (.iconst 0, 1) := by decide +kernel
theorem dX7_restore_24 : decode cX7_restore 24 = .ok (.invokestatic 38, 3) := by decide +kernel
theorem dX7_restore_27 : decode cX7_restore 27 = .ok (.aload_n 0, 1) := by decide +kernel
theorem dX7_restore_28 : decode cX7_restore 28 = .ok (.getfield 7, 3) := by decide +kernel
theorem dX7_restore_31 : decode cX7_restore 31 = .ok (.iconst 0, 1) := by decide +kernel
theorem dX7_restore_32 : decode cX7_restore 32 = .ok (.iaload, 1) := by decide +kernel
theorem dX7_restore_33 : decode cX7_restore 33 = .ok (.ireturn, 1) := by decide +kernel
theorem dJ6_bitCount_0f7a4_0 : decode cJ6_bitCount_0f7a4 0 = .ok (.iload_n 0, 1) := by decide +kernel
theorem dJ6_bitCount_0f7a4_1 : decode cJ6_bitCount_0f7a4 1 = .ok (.iload_n 0, 1) := by decide +kernel
theorem dJ6_bitCount_0f7a4_2 : decode cJ6_bitCount_0f7a4 2 = .ok (.iconst 1, 1) := by decide +kernel
theorem dJ6_bitCount_0f7a4_3 : decode cJ6_bitCount_0f7a4 3 = .ok (.iushr, 1) := by decide +kernel
theorem dJ6_bitCount_0f7a4_4 : decode cJ6_bitCount_0f7a4 4 = .ok (.ldc_w 265, 3) := by decide +kernel
theorem dJ6_bitCount_0f7a4_7 : decode cJ6_bitCount_0f7a4 7 = .ok (.iand, 1) := by decide +kernel
theorem dJ6_bitCount_0f7a4_8 : decode cJ6_bitCount_0f7a4 8 = .ok (.isub, 1) := by decide +kernel
theorem dJ6_bitCount_0f7a4_9 : decode cJ6_bitCount_0f7a4 9 = .ok (.istore_n 0, 1) := by decide +kernel
theorem dJ6_bitCount_0f7a4_10 : decode cJ6_bitCount_0f7a4 10 = .ok (.iload_n 0, 1) := by decide +kernel
theorem dJ6_bitCount_0f7a4_11 : decode cJ6_bitCount_0f7a4 11 = .ok (.ldc_w 266, 3) := by decide +kernel
theorem dJ6_bitCount_0f7a4_14 : decode cJ6_bitCount_0f7a4 14 = .ok (.iand, 1) := by decide +kernel
theorem dJ6_bitCount_0f7a4_15 : decode cJ6_bitCount_0f7a4 15 = .ok (.iload_n 0, 1) := by decide +kernel
theorem dJ6_bitCount_0f7a4_16 : decode cJ6_bitCount_0f7a4 16 = .ok (.iconst 2, 1) := by decide +kernel
theorem dJ6_bitCount_0f7a4_17 : decode cJ6_bitCount_0f7a4 17 = .ok (.iushr, 1) := by decide +kernel
theorem dJ6_bitCount_0f7a4_18 : decode cJ6_bitCount_0f7a4 18 = .ok (.ldc_w 266, 3) := by decide +kernel
theorem dJ6_bitCount_0f7a4_21 : decode cJ6_bitCount_0f7a4 21 = .ok (.iand, 1) := by decide +kernel
theorem dJ6_bitCount_0f7a4_22 : decode cJ6_bitCount_0f7a4 22 = .ok (.iadd, 1) := by decide +kernel
theorem dJ6_bitCount_0f7a4_23 : decode cJ6_bitCount_0f7a4 23 = .ok (.istore_n 0, 1) := by decide +kernel
theorem dJ6_bitCount_0f7a4_24 : decode cJ6_bitCount_0f7a4 24 = .ok (.iload_n 0, 1) := by decide +kernel
theorem dJ6_bitCount_0f7a4_25 : decode cJ6_bitCount_0f7a4 25 = .ok (.iload_n 0, 1) := by decide +kernel
theorem dJ6_bitCount_0f7a4_26 : decode cJ6_bitCount_0f7a4 26 = .ok (.iconst 4, 1) := by decide +kernel
theorem dJ6_bitCount_0f7a4_27 : decode cJ6_bitCount_0f7a4 27 = .ok (.iushr, 1) := by decide +kernel
theorem dJ6_bitCount_0f7a4_28 : decode cJ6_bitCount_0f7a4 28 = .ok (.iadd, 1) := by decide +kernel
theorem dJ6_bitCount_0f7a4_29 : decode cJ6_bitCount_0f7a4 29 = .ok (.ldc_w 267, 3) := by decide +kernel
theorem dJ6_bitCount_0f7a4_32 : decode cJ6_bitCount_0f7a4 32 = .ok (.iand, 1) := by decide +kernel
theorem dJ6_bitCount_0f7a4_33 : decode cJ6_bitCount_0f7a4 33 = .ok (.istore_n 0, 1) := by decide +kernel
theorem dJ6_bitCount_0f7a4_34 : decode cJ6_bitCount_0f7a4 34 = .ok (.iload_n 0, 1) := by decide +kernel
theorem dJ6_bitCount_0f7a4_35 : decode cJ6_bitCount_0f7a4 35 = .ok (.iload_n 0, 1) := by decide +kernel
theorem dJ6_bitCount_0f7a4_36 : decode cJ6_bitCount_0f7a4 36 = .ok (.bipush 8, 2) := by decide +kernel
theorem dJ6_bitCount_0f7a4_38 : decode cJ6_bitCount_0f7a4 38 = .ok (.iushr, 1) := by decide +kernel
theorem dJ6_bitCount_0f7a4_39 : decode cJ6_bitCount_0f7a4 39 = .ok (.iadd, 1) := by decide +kernel
theorem dJ6_bitCount_0f7a4_40 : decode cJ6_bitCount_0f7a4 40 = .ok (.istore_n 0, 1) := by decide +kernel
theorem dJ6_bitCount_0f7a4_41 : decode cJ6_bitCount_0f7a4 41 = .ok (.iload_n 0, 1) := by decide +kernel
theorem dJ6_bitCount_0f7a4_42 : decode cJ6_bitCount_0f7a4 42 = .ok (.iload_n 0, 1) := by decide +kernel
theorem dJ6_bitCount_0f7a4_43 : decode cJ6_bitCount_0f7a4 43 = .ok (.bipush 16, 2) := by decide +kernel
theorem dJ6_bitCount_0f7a4_45 : decode cJ6_bitCount_0f7a4 45 = .ok (.iushr, 1) := by decide +kernel
theorem dJ6_bitCount_0f7a4_46 : decode cJ6_bitCount_0f7a4 46 = .ok (.iadd, 1) := by decide +kernel
theorem dJ6_bitCount_0f7a4_47 : decode cJ6_bitCount_0f7a4 47 = .ok (.istore_n 0, 1) := by decide +kernel
theorem dJ6_bitCount_0f7a4_48 : decode cJ6_bitCount_0f7a4 48 = .ok (.iload_n 0, 1) := by decide +kernel
theorem dJ6_bitCount_0f7a4_49 : decode cJ6_bitCount_0f7a4 49 = .ok (.bipush 63, 2) := by decide +kernel
theorem dJ6_bitCount_0f7a4_51 : decode cJ6_bitCount_0f7a4 51 = .ok (.iand, 1) := by decide +kernel
theorem dJ6_bitCount_0f7a4_52 : decode cJ6_bitCount_0f7a4 52 = .ok (.ireturn, 1) := by decide +kernel
theorem dJ9_abs_0f7a4_0 : decode cJ9_abs_0f7a4 0 = .ok (.iload_n 0, 1) := by decide +kernel
theorem dJ9_abs_0f7a4_1 : decode cJ9_abs_0f7a4 1 = .ok (.ifCond .ge 8, 3) := by decide +kernel
theorem dJ9_abs_0f7a4_4 : decode cJ9_abs_0f7a4 4 = .ok (.iload_n 0, 1) := by decide +kernel
theorem dJ9_abs_0f7a4_5 : decode cJ9_abs_0f7a4 5 = .ok (.ineg, 1) := by decide +kernel
theorem dJ9_abs_0f7a4_6 : decode cJ9_abs_0f7a4 6 = .ok (.goto 4, 3) := by decide +kernel
theorem dJ9_abs_0f7a4_9 : decode cJ9_abs_0f7a4 9 = .ok (.iload_n 0, 1) := by decide +kernel
theorem dJ9_abs_0f7a4_10 : decode cJ9_abs_0f7a4 10 = .ok (.ireturn, 1) := by decide +kernel
theorem dJ9_max_7cf53_0 : decode cJ9_max_7cf53 0 = .ok (.iload_n 0, 1) := by decide +kernel
theorem dJ9_max_7cf53_1 : decode cJ9_max_7cf53 1 = .ok (.iload_n 1, 1) := by decide +kernel
theorem dJ9_max_7cf53_2 : decode cJ9_max_7cf53 2 = .ok (.if_icmp .lt 7, 3) := by decide +kernel
theorem dJ9_max_7cf53_5 : decode cJ9_max_7cf53 5 = .ok (.iload_n 0, 1) := by decide +kernel
theorem dJ9_max_7cf53_6 : decode cJ9_max_7cf53 6 = .ok (.goto 4, 3) := by decide +kernel
theorem dJ9_max_7cf53_9 : decode cJ9_max_7cf53 9 = .ok (.iload_n 1, 1) := by decide +kernel
theorem dJ9_max_7cf53_10 : decode cJ9_max_7cf53 10 = .ok (.ireturn, 1) := by decide +kernel
theorem dJ9_min_7cf53_0 : decode cJ9_min_7cf53 0 = .ok (.iload_n 0, 1) := by decide +kernel
theorem dJ9_min_7cf53_1 : decode cJ9_min_7cf53 1 = .ok (.iload_n 1, 1) := by decide +kernel
theorem dJ9_min_7cf53_2 : decode cJ9_min_7cf53 2 = .ok (.if_icmp .gt 7, 3) := by decide +kernel
theorem dJ9_min_7cf53_5 : decode cJ9_min_7cf53 5 = .ok (.iload_n 0, 1) := by decide +kernel
theorem dJ9_min_7cf53_6 : decode cJ9_min_7cf53 6 = .ok (.goto 4, 3) := by decide +kernel
theorem dJ9_min_7cf53_9 : decode cJ9_min_7cf53 9 = .ok (.iload_n 1, 1) := by decide +kernel
theorem dJ9_min_7cf53_10 : decode cJ9_min_7cf53 10 = .ok (.ireturn, 1) := by decide +kernel
theorem dJ7_fill_53178_0 : decode cJ7_fill_53178 0 = .ok (.iconst 0, 1) := by decide +kernel
theorem dJ7_fill_53178_1 : decode cJ7_fill_53178 1 = .ok (.istore_n 2, 1) := by decide +kernel
theorem dJ7_fill_53178_2 : decode cJ7_fill_53178 2 = .ok (.aload_n 0, 1) := by decide +kernel
theorem dJ7_fill_53178_3 : decode cJ7_fill_53178 3 = .ok (.arraylength, 1) := by decide +kernel
theorem dJ7_fill_53178_4 : decode cJ7_fill_53178 4 = .ok (.istore_n 3, 1) := by decide +kernel
theorem dJ7_fill_53178_5 : decode cJ7_fill_53178 5 = .ok (.iload_n 2, 1) := by decide +kernel
theorem dJ7_fill_53178_6 : decode cJ7_fill_53178 6 = .ok (.iload_n 3, 1) := by decide +kernel
theorem dJ7_fill_53178_7 : decode cJ7_fill_53178 7 = .ok (.if_icmp .ge 13, 3) := by decide +kernel
theorem dJ7_fill_53178_10 : decode cJ7_fill_53178 10 = .ok (.aload_n 0, 1) := by decide +kernel
theorem dJ7_fill_53178_11 : decode cJ7_fill_53178 11 = .ok (.iload_n 2, 1) := by decide +kernel
theorem dJ7_fill_53178_12 : decode cJ7_fill_53178 12 = .ok (.iload_n 1, 1) := by decide +kernel
theorem dJ7_fill_53178_13 : decode cJ7_fill_53178 13 = .ok (.iastore, 1) := by decide +kernel
theorem dJ7_fill_53178_14 : decode cJ7_fill_53178 14 = .ok (.iinc 2 1, 3) := by decide +kernel
theorem dJ7_fill_53178_17 : decode cJ7_fill_53178 17 = .ok (.goto (-12), 3) := by decide +kernel
theorem dJ7_fill_53178_20 : decode cJ7_fill_53178 20 = .ok (.return_, 1) := by decide +kernel
set_option maxRecDepth 20000 in
theorem ggL_law_X6_init : GoodIn wsL_law wsX6_init := goodIn_r _ [8, 9, 10, 11, 12, 13, 14, 15, 16, 17, 18, 19, 20, 21, 22, 23, 24, 25, 26, 27, 28, 29, 30, 31, 32, 33, 34, 35, 36, 37, 38, 39, 40, 41, 42, 43, 44, 45, 46, 47, 48, 49, 50, 51, 52, 53, 54, 55, 56, 57, 58, 59, 60, 61, 62, 63, 64, 65, 66, 67, 68, 69, 70, 71, 72, 73, 74, 75, 76, 77, 78, 79, 80, 81, 82, 83, 84, 85, 86, 87, 88, 89, 90, 91, 92, 93, 94, 95, 96, 97, 98, 99, 100, 101, 102, 103, 104, 809, 810, 811, 812, 813, 814, 815, 816, 817, 818, 819, 782, 783, 784, 785, 786, 787, 788, 789, 790, 791, 820, 821, 822, 823, 824, 825, 826, 827, 828, 829, 830, 831, 832, 833, 834] (by decide +kernel) (by decide +kernel)
set_option maxRecDepth 20000 in
theorem gL_law_X6_init : GoodIn wsL_law (wsX6_init) := ggL_law_X6_init
set_option maxRecDepth 20000 in
theorem ggL_law_X7_init : GoodIn wsL_law wsX7_init := goodIn_r _ [107, 108, 10, 11, 76, 109, 110, 111, 112, 113, 114, 115, 116, 792, 793, 794, 795, 796, 797, 798, 799, 800, 801, 802, 803, 804, 805, 806, 807, 808] (by decide +kernel) (by decide +kernel)
set_option maxRecDepth 20000 in
theorem gL_law_X7_init : GoodIn wsL_law (wsX7_init) := ggL_law_X7_init
set_option maxRecDepth 20000 in
theorem ggL_law_X6_shoot : GoodIn wsL_law wsX6_shoot := goodIn_r _ [120, 22, 15, 121, 122, 2, 123, 124, 125, 126, 21, 127, 89, 88, 128, 129, 130, 131, 132, 133, 134, 135, 136, 137, 138, 14, 139, 41, 45, 46, 47, 48, 49, 50, 51, 52, 53, 54, 140, 141, 142, 40, 143, 63, 64, 65, 66, 67, 68, 69, 70, 144, 145, 146, 44, 147, 77, 148, 149, 57, 150, 151, 152, 153, 154, 155, 156, 157, 158, 159, 160, 161, 162, 163, 164, 165, 166, 167, 168, 169, 170, 171, 172, 173, 174, 175, 176, 177, 178, 179, 180, 181, 182, 183, 184, 185, 186, 187, 188, 189, 190, 191, 80, 81, 82, 192, 193, 194, 195, 196, 197, 198, 199, 200, 201, 202, 203, 56, 58, 204, 205, 206, 207, 208, 209, 210, 211, 212, 213, 782, 783, 784, 785, 786, 787, 788, 789, 790, 791, 820, 821, 809, 810, 811, 812, 813, 814, 815, 816, 817, 818, 819, 826, 827, 828, 829, 830, 831, 832, 833, 834] (by decide +kernel) (by decide +kernel)
set_option maxRecDepth 20000 in
theorem gL_law_X6_shoot : GoodIn wsL_law (wsV RL 13 RX6 yX6_shoot wsX6_shoot) := goodIn_app (goodIn_of _ (by decide +kernel)) ggL_law_X6_shoot
set_option maxRecDepth 20000 in
theorem ggL_law_X7_shoot : GoodIn wsL_law wsX7_shoot := goodIn_r _ [217, 218, 219, 5, 220, 221, 222, 223, 224, 225, 226, 227, 228, 111, 109, 229, 230, 231, 232, 233, 234, 235, 236, 237, 238, 239, 240, 241, 242, 243, 244, 245, 246, 247, 248, 249, 250, 251, 252, 253, 254, 255, 256, 257, 258, 259, 260, 261, 262, 263, 264, 265, 266, 267, 268, 269, 270, 271, 272, 273, 274, 275, 792, 793, 794, 795, 796, 797, 798, 799, 800, 801, 802, 803, 804, 805, 806, 807, 808] (by decide +kernel) (by decide +kernel)
set_option maxRecDepth 20000 in
theorem gL_law_X7_shoot : GoodIn wsL_law (wsV RL 17 RX7 yX7_shoot wsX7_shoot) := goodIn_app (goodIn_of _ (by decide +kernel)) ggL_law_X7_shoot
set_option maxRecDepth 20000 in
theorem ggL_law_X6_bend : GoodIn wsL_law wsX6_bend := goodIn_r _ [279, 22, 15, 121, 122, 2, 123, 124, 125, 126, 21, 127, 89, 88, 128, 129, 130, 131, 132, 133, 134, 135, 136, 137, 138, 14, 139, 41, 45, 46, 47, 48, 49, 50, 51, 52, 53, 54, 140, 141, 142, 40, 143, 63, 64, 65, 66, 67, 68, 69, 70, 144, 145, 146, 44, 147, 77, 148, 149, 57, 150, 151, 152, 153, 154, 155, 280, 281, 282, 283, 284, 285, 172, 173, 174, 175, 176, 177, 178, 286, 193, 194, 195, 287, 197, 198, 199, 187, 188, 189, 190, 213, 782, 783, 784, 785, 786, 787, 788, 789, 790, 791, 820, 821, 809, 810, 811, 812, 813, 814, 815, 816, 817, 818, 819, 826, 827, 828, 829, 830, 831, 832, 833, 834] (by decide +kernel) (by decide +kernel)
set_option maxRecDepth 20000 in
theorem gL_law_X6_bend : GoodIn wsL_law (wsV RL 18 RX6 yX6_bend wsX6_bend) := goodIn_app (goodIn_of _ (by decide +kernel)) ggL_law_X6_bend
set_option maxRecDepth 20000 in
theorem ggL_law_X7_bend : GoodIn wsL_law wsX7_bend := goodIn_r _ [291, 109, 292, 293, 5, 294, 221, 222, 223, 224, 225, 226, 227, 228, 111, 229, 230, 231, 245, 246, 247, 248, 249, 250, 251, 252, 792, 793, 794, 795, 796, 797, 798, 799, 800, 801, 802, 803, 804, 805, 806, 807, 808] (by decide +kernel) (by decide +kernel)
set_option maxRecDepth 20000 in
theorem gL_law_X7_bend : GoodIn wsL_law (wsV RL 21 RX7 yX7_bend wsX7_bend) := goodIn_app (goodIn_of _ (by decide +kernel)) ggL_law_X7_bend
set_option maxRecDepth 20000 in
theorem ggL_law_X6_pull : GoodIn wsL_law wsX6_pull := goodIn_r _ [298, 22, 15, 299, 121, 122, 2, 123, 124, 125, 126, 21, 127, 89, 88, 128, 129, 130, 131, 132, 133, 134, 135, 136, 137, 138, 14, 139, 41, 45, 46, 47, 48, 49, 50, 51, 52, 53, 54, 140, 141, 142, 40, 143, 63, 64, 65, 66, 67, 68, 69, 70, 144, 145, 146, 44, 147, 77, 148, 149, 57, 150, 151, 152, 153, 154, 155, 300, 301, 302, 303, 175, 176, 177, 178, 191, 80, 81, 82, 304, 305, 306, 307, 308, 309, 310, 311, 782, 783, 784, 785, 786, 787, 788, 789, 790, 791, 809, 810, 811, 812, 813, 814, 815, 816, 817, 818, 819, 820, 821, 826, 827, 828, 829, 830, 831, 832, 833, 834] (by decide +kernel) (by decide +kernel)
set_option maxRecDepth 20000 in
theorem gL_law_X6_pull : GoodIn wsL_law (wsV RL 22 RX6 yX6_pull wsX6_pull) := goodIn_app (goodIn_of _ (by decide +kernel)) ggL_law_X6_pull
set_option maxRecDepth 20000 in
theorem ggL_law_X7_pull : GoodIn wsL_law wsX7_pull := goodIn_r _ [315, 292, 293, 5, 294, 221, 222, 223, 224, 225, 226, 227, 228, 111, 109, 229, 230, 231, 245, 246, 247, 248, 249, 250, 251, 252, 316, 317, 318, 319, 792, 793, 794, 795, 796, 797, 798, 799, 800, 801, 802, 803, 804, 805, 806, 807, 808] (by decide +kernel) (by decide +kernel)
set_option maxRecDepth 20000 in
theorem gL_law_X7_pull : GoodIn wsL_law (wsV RL 26 RX7 yX7_pull wsX7_pull) := goodIn_app (goodIn_of _ (by decide +kernel)) ggL_law_X7_pull
set_option maxRecDepth 20000 in
theorem ggL_law_X6_bell : GoodIn wsL_law wsX6_bell := goodIn_r _ [323, 22, 15, 299, 121, 122, 2, 123, 124, 125, 126, 21, 127, 89, 88, 128, 129, 130, 131, 132, 133, 134, 135, 136, 137, 138, 14, 139, 41, 45, 46, 47, 48, 49, 50, 51, 52, 53, 54, 140, 141, 142, 40, 143, 63, 64, 65, 66, 67, 68, 69, 70, 144, 145, 146, 44, 147, 77, 148, 149, 57, 150, 151, 152, 153, 154, 155, 324, 325, 326, 327, 175, 176, 177, 178, 191, 80, 81, 82, 328, 329, 330, 331, 308, 309, 310, 311, 782, 783, 784, 785, 786, 787, 788, 789, 790, 791, 809, 810, 811, 812, 813, 814, 815, 816, 817, 818, 819, 820, 821, 826, 827, 828, 829, 830, 831, 832, 833, 834] (by decide +kernel) (by decide +kernel)
set_option maxRecDepth 20000 in
theorem gL_law_X6_bell : GoodIn wsL_law (wsV RL 27 RX6 yX6_bell wsX6_bell) := goodIn_app (goodIn_of _ (by decide +kernel)) ggL_law_X6_bell
set_option maxRecDepth 20000 in
theorem ggL_law_X7_bell : GoodIn wsL_law wsX7_bell := goodIn_r _ [335, 292, 293, 5, 294, 221, 222, 223, 224, 225, 226, 227, 228, 111, 109, 229, 230, 231, 245, 246, 247, 248, 249, 250, 251, 252, 336, 337, 338, 339, 792, 793, 794, 795, 796, 797, 798, 799, 800, 801, 802, 803, 804, 805, 806, 807, 808] (by decide +kernel) (by decide +kernel)
set_option maxRecDepth 20000 in
theorem gL_law_X7_bell : GoodIn wsL_law (wsV RL 30 RX7 yX7_bell wsX7_bell) := goodIn_app (goodIn_of _ (by decide +kernel)) ggL_law_X7_bell
set_option maxRecDepth 20000 in
theorem ggL_law_X6_worth : GoodIn wsL_law wsX6_worth := goodIn_r _ [343, 22, 15, 344, 121, 122, 2, 123, 124, 125, 126, 21, 127, 89, 88, 128, 129, 130, 131, 132, 133, 134, 135, 136, 137, 138, 14, 139, 41, 45, 46, 47, 48, 49, 50, 51, 52, 53, 54, 140, 141, 142, 40, 143, 63, 64, 65, 66, 67, 68, 69, 70, 144, 145, 146, 44, 147, 77, 148, 149, 57, 150, 151, 152, 153, 154, 155, 345, 176, 177, 178, 346, 80, 81, 82, 782, 783, 784, 785, 786, 787, 788, 789, 790, 791, 809, 810, 811, 812, 813, 814, 815, 816, 817, 818, 819, 820, 821, 826, 827, 828, 829, 830, 831, 832, 833, 834] (by decide +kernel) (by decide +kernel)
set_option maxRecDepth 20000 in
theorem gL_law_X6_worth : GoodIn wsL_law (wsV RL 31 RX6 yX6_worth wsX6_worth) := goodIn_app (goodIn_of _ (by decide +kernel)) ggL_law_X6_worth
set_option maxRecDepth 20000 in
theorem ggL_law_X7_worth : GoodIn wsL_law wsX7_worth := goodIn_r _ [350, 218, 219, 5, 220, 221, 222, 223, 224, 225, 226, 227, 228, 111, 109, 229, 230, 231, 272, 273, 274, 275, 264, 265, 266, 267, 792, 793, 794, 795, 796, 797, 798, 799, 800, 801, 802, 803, 804, 805, 806, 807, 808] (by decide +kernel) (by decide +kernel)
set_option maxRecDepth 20000 in
theorem gL_law_X7_worth : GoodIn wsL_law (wsV RL 35 RX7 yX7_worth wsX7_worth) := goodIn_app (goodIn_of _ (by decide +kernel)) ggL_law_X7_worth
set_option maxRecDepth 20000 in
theorem ggL_law_X6_set : GoodIn wsL_law wsX6_set := goodIn_r _ [354, 22, 15, 299, 355, 356, 121, 122, 2, 123, 124, 125, 126, 21, 127, 89, 88, 128, 129, 130, 131, 132, 133, 134, 135, 136, 137, 138, 14, 139, 41, 45, 46, 47, 48, 49, 50, 51, 52, 53, 54, 140, 141, 142, 40, 143, 63, 64, 65, 66, 67, 68, 69, 70, 144, 145, 146, 44, 147, 77, 148, 149, 57, 150, 151, 152, 153, 154, 155, 782, 783, 784, 785, 786, 787, 788, 789, 790, 791, 809, 810, 811, 812, 813, 814, 815, 816, 817, 818, 819, 826, 827, 828, 829, 830, 831, 832, 833, 820, 821, 834] (by decide +kernel) (by decide +kernel)
set_option maxRecDepth 20000 in
theorem gL_law_X6_set : GoodIn wsL_law (wsV RL 36 RX6 yX6_set wsX6_set) := goodIn_app (goodIn_of _ (by decide +kernel)) ggL_law_X6_set
set_option maxRecDepth 20000 in
theorem ggL_law_X7_set : GoodIn wsL_law wsX7_set := goodIn_r _ [360, 109, 221, 222, 5, 223, 224, 225, 226, 227, 228, 111, 229, 230, 231, 792, 793, 794, 795, 796, 797, 798, 799, 800, 801, 802, 803, 804, 805, 806, 807, 808] (by decide +kernel) (by decide +kernel)
set_option maxRecDepth 20000 in
theorem gL_law_X7_set : GoodIn wsL_law (wsV RL 39 RX7 yX7_set wsX7_set) := goodIn_app (goodIn_of _ (by decide +kernel)) ggL_law_X7_set
set_option maxRecDepth 20000 in
theorem ggL_law_X6_empty : GoodIn wsL_law wsX6_empty := goodIn_r _ [364, 22, 15, 365, 124, 125, 126, 21, 127, 89, 88, 128, 129, 130, 131, 132, 133, 134, 135, 136, 137, 138, 14, 139, 41, 45, 46, 47, 48, 49, 50, 51, 52, 53, 54, 140, 141, 142, 40, 143, 63, 64, 65, 66, 67, 68, 69, 70, 144, 145, 146, 44, 147, 77, 148, 149, 57, 150, 151, 152, 153, 154, 155, 366, 367, 368, 369, 370, 309, 310, 311, 371, 372, 373, 374, 375, 376, 377, 378, 782, 783, 784, 785, 786, 787, 788, 789, 790, 791, 809, 810, 811, 812, 813, 814, 815, 816, 817, 818, 819, 820, 821, 826, 827, 828, 829, 830, 831, 832, 833, 834] (by decide +kernel) (by decide +kernel)
set_option maxRecDepth 20000 in
theorem gL_law_X6_empty : GoodIn wsL_law (wsV RL 40 RX6 yX6_empty wsX6_empty) := goodIn_app (goodIn_of _ (by decide +kernel)) ggL_law_X6_empty
set_option maxRecDepth 20000 in
theorem ggL_law_X7_empty : GoodIn wsL_law wsX7_empty := goodIn_r _ [382, 224, 225, 226, 5, 227, 228, 111, 109, 229, 230, 231, 383, 384, 385, 386, 272, 273, 274, 275, 264, 265, 266, 267, 792, 793, 794, 795, 796, 797, 798, 799, 800, 801, 802, 803, 804, 805, 806, 807, 808] (by decide +kernel) (by decide +kernel)
set_option maxRecDepth 20000 in
theorem gL_law_X7_empty : GoodIn wsL_law (wsV RL 44 RX7 yX7_empty wsX7_empty) := goodIn_app (goodIn_of _ (by decide +kernel)) ggL_law_X7_empty
set_option maxRecDepth 20000 in
theorem ggL_law_X6_append : GoodIn wsL_law wsX6_append := goodIn_r _ [390, 30, 391, 121, 122, 2, 123, 392, 393, 394, 29, 395, 102, 103, 396, 80, 81, 44, 82, 77, 782, 783, 784, 785, 786, 787, 788, 789, 790, 791, 824, 825, 834] (by decide +kernel) (by decide +kernel)
set_option maxRecDepth 20000 in
theorem gL_law_X6_append : GoodIn wsL_law (wsV RL 45 RX6 yX6_append wsX6_append) := goodIn_app (goodIn_of _ (by decide +kernel)) ggL_law_X6_append
set_option maxRecDepth 20000 in
theorem ggL_law_X7_append : GoodIn wsL_law wsX7_append := goodIn_r _ [400, 401, 113, 221, 222, 5, 223, 792, 793, 794, 795, 796, 797, 798, 799, 800, 801, 802, 803, 804, 805, 806, 807, 808] (by decide +kernel) (by decide +kernel)
set_option maxRecDepth 20000 in
theorem gL_law_X7_append : GoodIn wsL_law (wsV RL 48 RX7 yX7_append wsX7_append) := goodIn_app (goodIn_of _ (by decide +kernel)) ggL_law_X7_append
set_option maxRecDepth 20000 in
theorem ggL_law_X6_clear : GoodIn wsL_law wsX6_clear := goodIn_r _ [405, 30, 391, 406, 407, 408, 29, 409, 103, 782, 783, 784, 785, 786, 787, 788, 789, 790, 791, 824, 825] (by decide +kernel) (by decide +kernel)
set_option maxRecDepth 20000 in
theorem gL_law_X6_clear : GoodIn wsL_law (wsV RL 49 RX6 yX6_clear wsX6_clear) := goodIn_app (goodIn_of _ (by decide +kernel)) ggL_law_X6_clear
set_option maxRecDepth 20000 in
theorem ggL_law_X7_clear : GoodIn wsL_law wsX7_clear := goodIn_r _ [413, 401, 792, 793, 794, 795, 796, 797, 798, 799, 800, 801, 802, 803, 804, 805, 806, 807, 808] (by decide +kernel) (by decide +kernel)
set_option maxRecDepth 20000 in
theorem gL_law_X7_clear : GoodIn wsL_law (wsV RL 52 RX7 yX7_clear wsX7_clear) := goodIn_app (goodIn_of _ (by decide +kernel)) ggL_law_X7_clear
set_option maxRecDepth 20000 in
theorem ggL_law_X6_fault : GoodIn wsL_law wsX6_fault := goodIn_r _ [417, 30, 418, 419, 420, 29, 421, 103, 422, 423, 424, 425, 102, 426, 176, 177, 44, 178, 77, 427, 428, 429, 430, 431, 432, 433, 434, 435, 436, 437, 438, 439, 122, 2, 123, 782, 783, 784, 785, 786, 787, 788, 789, 790, 791, 824, 825, 834] (by decide +kernel) (by decide +kernel)
set_option maxRecDepth 20000 in
theorem gL_law_X6_fault : GoodIn wsL_law (wsV RL 53 RX6 yX6_fault wsX6_fault) := goodIn_app (goodIn_of _ (by decide +kernel)) ggL_law_X6_fault
set_option maxRecDepth 20000 in
theorem ggL_law_X7_fault : GoodIn wsL_law wsX7_fault := goodIn_r _ [443, 444, 221, 222, 5, 223, 445, 446, 447, 448, 401, 449, 450, 451, 452, 113, 453, 454, 455, 456, 457, 458, 459, 460, 461, 462, 463, 464, 465, 466, 218, 219, 220, 467, 468, 469, 470, 792, 793, 794, 795, 796, 797, 798, 799, 800, 801, 802, 803, 804, 805, 806, 807, 808] (by decide +kernel) (by decide +kernel)
set_option maxRecDepth 20000 in
theorem gL_law_X7_fault : GoodIn wsL_law (wsV RL 56 RX7 yX7_fault wsX7_fault) := goodIn_app (goodIn_of _ (by decide +kernel)) ggL_law_X7_fault
set_option maxRecDepth 20000 in
theorem ggL_law_X6_board : GoodIn wsL_law wsX6_board := goodIn_r _ [474, 30, 22, 15, 299, 418, 419, 420, 29, 421, 103, 422, 423, 424, 425, 102, 426, 176, 177, 44, 178, 77, 427, 428, 429, 124, 125, 126, 21, 127, 89, 88, 128, 129, 130, 131, 132, 133, 134, 135, 136, 137, 138, 14, 139, 41, 45, 46, 47, 48, 49, 50, 51, 52, 53, 54, 140, 141, 142, 40, 143, 63, 64, 65, 66, 67, 68, 69, 70, 144, 145, 146, 147, 148, 149, 57, 150, 151, 152, 153, 154, 155, 475, 476, 477, 478, 479, 191, 80, 81, 82, 406, 407, 408, 409, 480, 481, 482, 483, 484, 305, 306, 307, 308, 309, 310, 311, 782, 783, 784, 785, 786, 787, 788, 789, 790, 791, 809, 810, 811, 812, 813, 814, 815, 816, 817, 818, 819, 824, 825, 834, 820, 821, 826, 827, 828, 829, 830, 831, 832, 833] (by decide +kernel) (by decide +kernel)
set_option maxRecDepth 20000 in
theorem gL_law_X6_board : GoodIn wsL_law (wsV RL 57 RX6 yX6_board wsX6_board) := goodIn_app (goodIn_of _ (by decide +kernel)) ggL_law_X6_board
set_option maxRecDepth 20000 in
theorem ggL_law_X7_board : GoodIn wsL_law wsX7_board := goodIn_r _ [488, 113, 401, 445, 446, 447, 5, 448, 444, 449, 450, 451, 452, 453, 454, 455, 224, 225, 226, 227, 228, 111, 109, 229, 230, 231, 249, 250, 251, 252, 316, 317, 318, 319, 245, 246, 247, 248, 792, 793, 794, 795, 796, 797, 798, 799, 800, 801, 802, 803, 804, 805, 806, 807, 808] (by decide +kernel) (by decide +kernel)
set_option maxRecDepth 20000 in
theorem gL_law_X7_board : GoodIn wsL_law (wsV RL 60 RX7 yX7_board wsX7_board) := goodIn_app (goodIn_of _ (by decide +kernel)) ggL_law_X7_board
set_option maxRecDepth 20000 in
theorem ggL_law_X6_shots : GoodIn wsL_law wsX6_shots := goodIn_r _ [492, 30, 22, 15, 493, 430, 431, 432, 29, 433, 103, 422, 423, 424, 425, 102, 426, 176, 177, 44, 178, 77, 434, 435, 436, 437, 438, 439, 122, 2, 123, 124, 125, 126, 21, 127, 89, 88, 128, 129, 130, 131, 132, 133, 134, 135, 136, 137, 138, 14, 139, 41, 45, 46, 47, 48, 49, 50, 51, 52, 53, 54, 140, 141, 142, 40, 143, 63, 64, 65, 66, 67, 68, 69, 70, 144, 145, 146, 147, 148, 149, 57, 150, 151, 152, 153, 154, 155, 494, 495, 496, 497, 31, 391, 475, 366, 367, 368, 369, 370, 309, 310, 311, 371, 372, 373, 374, 375, 376, 377, 378, 498, 156, 157, 158, 159, 160, 161, 162, 163, 164, 165, 166, 167, 168, 169, 170, 171, 172, 173, 174, 175, 179, 180, 181, 182, 183, 184, 185, 186, 187, 188, 189, 190, 191, 80, 81, 82, 192, 193, 194, 195, 196, 197, 198, 199, 200, 201, 202, 203, 56, 58, 204, 205, 206, 207, 208, 209, 210, 211, 212, 213, 499, 500, 501, 502, 32, 33, 406, 407, 408, 409, 782, 783, 784, 785, 786, 787, 788, 789, 790, 791, 809, 810, 811, 812, 813, 814, 815, 816, 817, 818, 819, 824, 825, 834, 820, 821, 826, 827, 828, 829, 830, 831, 832, 833] (by decide +kernel) (by decide +kernel)
set_option maxRecDepth 20000 in
theorem gL_law_X6_shots : GoodIn wsL_law (wsV RL 61 RX6 yX6_shots wsX6_shots) := goodIn_app (goodIn_of _ (by decide +kernel)) ggL_law_X6_shots
set_option maxRecDepth 20000 in
theorem ggL_law_X7_shots : GoodIn wsL_law wsX7_shots := goodIn_r _ [506, 109, 444, 507, 401, 466, 465, 114, 456, 457, 458, 5, 459, 460, 461, 462, 463, 464, 449, 450, 451, 452, 113, 218, 219, 220, 221, 222, 223, 467, 468, 469, 470, 224, 225, 226, 227, 228, 111, 229, 230, 231, 383, 384, 385, 386, 272, 273, 274, 275, 264, 265, 266, 267, 232, 233, 234, 235, 236, 237, 238, 239, 240, 241, 242, 243, 244, 245, 246, 247, 248, 249, 250, 251, 252, 253, 254, 255, 256, 257, 258, 259, 260, 261, 262, 263, 268, 269, 270, 271, 792, 793, 794, 795, 796, 797, 798, 799, 800, 801, 802, 803, 804, 805, 806, 807, 808] (by decide +kernel) (by decide +kernel)
set_option maxRecDepth 20000 in
theorem gL_law_X7_shots : GoodIn wsL_law (wsV RL 64 RX7 yX7_shots wsX7_shots) := goodIn_app (goodIn_of _ (by decide +kernel)) ggL_law_X7_shots
set_option maxRecDepth 20000 in
theorem ggL_law_X6_why : GoodIn wsL_law wsX6_why := goodIn_r _ [511, 31, 32, 33, 121, 122, 2, 123, 782, 783, 784, 785, 786, 787, 788, 789, 790, 791] (by decide +kernel) (by decide +kernel)
set_option maxRecDepth 20000 in
theorem gL_law_X6_why : GoodIn wsL_law (wsV RL 65 RX6 yX6_why wsX6_why) := goodIn_app (goodIn_of _ (by decide +kernel)) ggL_law_X6_why
set_option maxRecDepth 20000 in
theorem ggL_law_X7_why : GoodIn wsL_law wsX7_why := goodIn_r _ [515, 507, 114, 221, 222, 5, 223, 792, 793, 794, 795, 796, 797, 798, 799, 800, 801, 802, 803, 804, 805, 806, 807, 808] (by decide +kernel) (by decide +kernel)
set_option maxRecDepth 20000 in
theorem gL_law_X7_why : GoodIn wsL_law (wsV RL 68 RX7 yX7_why wsX7_why) := goodIn_app (goodIn_of _ (by decide +kernel)) ggL_law_X7_why
set_option maxRecDepth 20000 in
theorem ggL_law_X6_sign : GoodIn wsL_law wsX6_sign := goodIn_r _ [519, 15, 299, 121, 122, 2, 123, 520, 521, 522, 40, 523, 65, 63, 171, 172, 173, 174, 64, 175, 176, 177, 44, 178, 77, 782, 783, 784, 785, 786, 787, 788, 789, 790, 791, 809, 810, 811, 812, 813, 814, 815, 816, 817, 818, 819, 826, 827, 828, 829, 830, 831, 832, 833, 834] (by decide +kernel) (by decide +kernel)
set_option maxRecDepth 20000 in
theorem gL_law_X6_sign : GoodIn wsL_law (wsV RL 69 RX6 yX6_sign wsX6_sign) := goodIn_app (goodIn_of _ (by decide +kernel)) ggL_law_X6_sign
set_option maxRecDepth 20000 in
theorem ggL_law_X7_sign : GoodIn wsL_law wsX7_sign := goodIn_r _ [527, 292, 293, 5, 294, 221, 222, 223, 245, 246, 247, 248, 109, 792, 793, 794, 795, 796, 797, 798, 799, 800, 801, 802, 803, 804, 805, 806, 807, 808] (by decide +kernel) (by decide +kernel)
set_option maxRecDepth 20000 in
theorem gL_law_X7_sign : GoodIn wsL_law (wsV RL 72 RX7 yX7_sign wsX7_sign) := goodIn_app (goodIn_of _ (by decide +kernel)) ggL_law_X7_sign
set_option maxRecDepth 20000 in
theorem ggL_law_X6_pin : GoodIn wsL_law wsX6_pin := goodIn_r _ [531, 15, 299, 532, 533, 534, 535, 26, 121, 122, 2, 123, 536, 172, 173, 40, 174, 64, 175, 176, 177, 44, 178, 77, 345, 537, 538, 539, 25, 540, 541, 542, 543, 544, 545, 546, 547, 548, 549, 550, 551, 552, 553, 165, 166, 554, 555, 556, 557, 171, 179, 180, 181, 182, 63, 68, 200, 201, 202, 149, 57, 150, 203, 56, 58, 782, 783, 784, 785, 786, 787, 788, 789, 790, 791, 809, 810, 811, 812, 813, 814, 815, 816, 817, 818, 819, 826, 827, 828, 829, 830, 831, 832, 833, 834] (by decide +kernel) (by decide +kernel)
set_option maxRecDepth 20000 in
theorem gL_law_X6_pin : GoodIn wsL_law (wsV RL 73 RX6 yX6_pin wsX6_pin) := goodIn_app (goodIn_of _ (by decide +kernel)) ggL_law_X6_pin
set_option maxRecDepth 20000 in
theorem ggL_law_X7_pin : GoodIn wsL_law wsX7_pin := goodIn_r _ [561, 292, 293, 5, 294, 221, 222, 223, 245, 246, 247, 248, 109, 562, 563, 564, 565, 566, 567, 568, 569, 253, 254, 255, 256, 261, 262, 263, 792, 793, 794, 795, 796, 797, 798, 799, 800, 801, 802, 803, 804, 805, 806, 807, 808] (by decide +kernel) (by decide +kernel)
set_option maxRecDepth 20000 in
theorem gL_law_X7_pin : GoodIn wsL_law (wsV RL 76 RX7 yX7_pin wsX7_pin) := goodIn_app (goodIn_of _ (by decide +kernel)) ggL_law_X7_pin
set_option maxRecDepth 20000 in
theorem ggL_law_X6_pocket : GoodIn wsL_law wsX6_pocket := goodIn_r _ [573, 15, 344, 574, 575, 26, 299, 121, 122, 2, 123, 345, 176, 177, 44, 178, 77, 576, 210, 211, 14, 212, 46, 48, 213, 577, 578, 579, 25, 580, 552, 553, 581, 582, 583, 584, 165, 166, 554, 555, 556, 40, 557, 171, 172, 173, 174, 64, 175, 179, 180, 181, 182, 63, 68, 200, 201, 202, 149, 57, 150, 203, 56, 58, 585, 586, 587, 588, 589, 590, 591, 782, 783, 784, 785, 786, 787, 788, 789, 790, 791, 809, 810, 811, 812, 813, 814, 815, 816, 817, 818, 819, 834, 826, 827, 828, 829, 830, 831, 832, 833] (by decide +kernel) (by decide +kernel)
set_option maxRecDepth 20000 in
theorem gL_law_X6_pocket : GoodIn wsL_law (wsV RL 77 RX6 yX6_pocket wsX6_pocket) := goodIn_app (goodIn_of _ (by decide +kernel)) ggL_law_X6_pocket
set_option maxRecDepth 20000 in
theorem ggL_law_X7_pocket : GoodIn wsL_law wsX7_pocket := goodIn_r _ [595, 218, 219, 5, 220, 221, 222, 223, 272, 273, 274, 275, 109, 268, 269, 270, 271, 596, 597, 598, 599, 562, 563, 564, 565, 566, 567, 568, 569, 245, 246, 247, 248, 253, 254, 255, 256, 261, 262, 263, 792, 793, 794, 795, 796, 797, 798, 799, 800, 801, 802, 803, 804, 805, 806, 807, 808] (by decide +kernel) (by decide +kernel)
set_option maxRecDepth 20000 in
theorem gL_law_X7_pocket : GoodIn wsL_law (wsV RL 80 RX7 yX7_pocket wsX7_pocket) := goodIn_app (goodIn_of _ (by decide +kernel)) ggL_law_X7_pocket
set_option maxRecDepth 20000 in
theorem ggL_law_X6_reach : GoodIn wsL_law wsX6_reach := goodIn_r _ [603, 26, 15, 299, 604, 605, 606, 25, 607, 541, 542, 543, 544, 545, 546, 547, 548, 549, 2, 550, 551, 552, 553, 165, 166, 554, 555, 556, 40, 557, 171, 172, 173, 174, 64, 175, 176, 177, 44, 178, 77, 179, 180, 181, 182, 63, 68, 200, 201, 202, 149, 57, 150, 203, 56, 58, 608, 609, 610, 611, 612, 578, 579, 580, 581, 582, 583, 584, 782, 783, 784, 785, 786, 787, 788, 789, 790, 791, 809, 810, 811, 812, 813, 814, 815, 816, 817, 818, 819, 826, 827, 828, 829, 830, 831, 832, 833, 834] (by decide +kernel) (by decide +kernel)
set_option maxRecDepth 20000 in
theorem gL_law_X6_reach : GoodIn wsL_law (wsV RL 81 RX6 yX6_reach wsX6_reach) := goodIn_app (goodIn_of _ (by decide +kernel)) ggL_law_X6_reach
set_option maxRecDepth 20000 in
theorem ggL_law_X7_reach : GoodIn wsL_law wsX7_reach := goodIn_r _ [616, 221, 222, 5, 223, 617, 618, 619, 620, 562, 563, 564, 565, 566, 567, 568, 569, 245, 246, 247, 248, 109, 253, 254, 255, 256, 261, 262, 263, 792, 793, 794, 795, 796, 797, 798, 799, 800, 801, 802, 803, 804, 805, 806, 807, 808] (by decide +kernel) (by decide +kernel)
set_option maxRecDepth 20000 in
theorem gL_law_X7_reach : GoodIn wsL_law (wsV RL 84 RX7 yX7_reach wsX7_reach) := goodIn_app (goodIn_of _ (by decide +kernel)) ggL_law_X7_reach
set_option maxRecDepth 20000 in
theorem ggL_law_X6_ways : GoodIn wsL_law wsX6_ways := goodIn_r _ [624, 26, 15, 299, 121, 122, 2, 123, 625, 626, 627, 25, 628, 95, 96, 629, 372, 373, 44, 374, 77, 375, 376, 377, 378, 165, 166, 554, 555, 556, 40, 557, 171, 172, 173, 174, 64, 175, 176, 177, 178, 552, 553, 179, 180, 181, 182, 63, 68, 200, 201, 202, 149, 57, 150, 203, 56, 58, 630, 631, 632, 633, 634, 549, 550, 551, 635, 188, 189, 190, 636, 145, 146, 147, 148, 151, 152, 153, 154, 637, 638, 639, 640, 641, 642, 643, 644, 645, 782, 783, 784, 785, 786, 787, 788, 789, 790, 791, 809, 810, 811, 812, 813, 814, 815, 816, 817, 818, 819, 822, 823, 834, 826, 827, 828, 829, 830, 831, 832, 833] (by decide +kernel) (by decide +kernel)
set_option maxRecDepth 20000 in
theorem gL_law_X6_ways : GoodIn wsL_law (wsV RL 85 RX6 yX6_ways wsX6_ways) := goodIn_app (goodIn_of _ (by decide +kernel)) ggL_law_X6_ways
set_option maxRecDepth 20000 in
theorem ggL_law_X7_ways : GoodIn wsL_law wsX7_ways := goodIn_r _ [649, 218, 219, 5, 220, 221, 222, 223, 650, 651, 652, 653, 115, 654, 655, 656, 657, 116, 245, 246, 247, 248, 109, 253, 254, 255, 256, 261, 262, 263, 792, 793, 794, 795, 796, 797, 798, 799, 800, 801, 802, 803, 804, 805, 806, 807, 808] (by decide +kernel) (by decide +kernel)
set_option maxRecDepth 20000 in
theorem gL_law_X7_ways : GoodIn wsL_law (wsV RL 88 RX7 yX7_ways wsX7_ways) := goodIn_app (goodIn_of _ (by decide +kernel)) ggL_law_X7_ways
set_option maxRecDepth 20000 in
theorem ggL_law_X6_count : GoodIn wsL_law wsX6_count := goodIn_r _ [661, 15, 493, 365, 574, 662, 299, 26, 663, 309, 310, 44, 311, 77, 480, 481, 482, 40, 483, 484, 305, 306, 307, 64, 308, 664, 665, 666, 667, 63, 171, 172, 173, 174, 175, 176, 177, 178, 668, 669, 670, 671, 672, 673, 57, 674, 328, 329, 330, 331, 65, 675, 676, 677, 14, 678, 209, 210, 211, 212, 46, 48, 213, 604, 605, 606, 25, 607, 541, 542, 543, 544, 545, 546, 547, 548, 549, 2, 550, 551, 552, 553, 165, 166, 554, 555, 556, 557, 179, 180, 181, 182, 68, 200, 201, 202, 149, 150, 203, 56, 58, 585, 586, 587, 588, 589, 590, 591, 679, 680, 681, 682, 683, 684, 685, 686, 687, 355, 356, 30, 391, 22, 688, 782, 783, 784, 785, 786, 787, 788, 789, 790, 791, 809, 810, 811, 812, 813, 814, 815, 816, 817, 818, 819, 834, 826, 827, 828, 829, 830, 831, 832, 833, 824, 825, 820, 821] (by decide +kernel) (by decide +kernel)
set_option maxRecDepth 20000 in
theorem gL_law_X6_count : GoodIn wsL_law (wsV RL 89 RX6 yX6_count wsX6_count) := goodIn_app (goodIn_of _ (by decide +kernel)) ggL_law_X6_count
set_option maxRecDepth 20000 in
theorem ggL_law_X7_count : GoodIn wsL_law wsX7_count := goodIn_r _ [692, 109, 401, 228, 693, 694, 695, 5, 696, 272, 273, 274, 275, 316, 317, 318, 319, 245, 246, 247, 248, 697, 698, 699, 700, 701, 702, 703, 704, 336, 337, 338, 339, 705, 706, 707, 708, 268, 269, 270, 271, 617, 618, 619, 620, 562, 563, 564, 565, 566, 567, 568, 569, 253, 254, 255, 256, 261, 262, 263, 221, 222, 223, 709, 710, 711, 792, 793, 794, 795, 796, 797, 798, 799, 800, 801, 802, 803, 804, 805, 806, 807, 808] (by decide +kernel) (by decide +kernel)
set_option maxRecDepth 20000 in
theorem gL_law_X7_count : GoodIn wsL_law (wsV RL 92 RX7 yX7_count wsX7_count) := goodIn_app (goodIn_of _ (by decide +kernel)) ggL_law_X7_count
set_option maxRecDepth 20000 in
theorem ggL_law_X6_mean : GoodIn wsL_law wsX6_mean := goodIn_r _ [715, 15, 683, 493, 782, 783, 784, 785, 786, 787, 788, 789, 790, 791, 809, 810, 811, 812, 813, 814, 815, 816, 817, 818, 819] (by decide +kernel) (by decide +kernel)
set_option maxRecDepth 20000 in
theorem gL_law_X6_mean : GoodIn wsL_law (wsV RL 93 RX6 yX6_mean wsX6_mean) := goodIn_app (goodIn_of _ (by decide +kernel)) ggL_law_X6_mean
set_option maxRecDepth 20000 in
theorem ggL_law_X7_mean : GoodIn wsL_law wsX7_mean := goodIn_r _ [719, 109, 792, 793, 794, 795, 796, 797, 798, 799, 800, 801, 802, 803, 804, 805, 806, 807, 808] (by decide +kernel) (by decide +kernel)
set_option maxRecDepth 20000 in
theorem gL_law_X7_mean : GoodIn wsL_law (wsV RL 97 RX7 yX7_mean wsX7_mean) := goodIn_app (goodIn_of _ (by decide +kernel)) ggL_law_X7_mean
set_option maxRecDepth 20000 in
theorem ggL_law_X6_ends : GoodIn wsL_law wsX6_ends := goodIn_r _ [723, 15, 299, 121, 122, 2, 123, 724, 725, 726, 40, 727, 165, 166, 167, 168, 169, 170, 66, 171, 172, 173, 174, 64, 175, 176, 177, 44, 178, 77, 179, 180, 181, 182, 63, 68, 200, 201, 202, 149, 57, 150, 203, 56, 58, 782, 783, 784, 785, 786, 787, 788, 789, 790, 791, 809, 810, 811, 812, 813, 814, 815, 816, 817, 818, 819, 826, 827, 828, 829, 830, 831, 832, 833, 834] (by decide +kernel) (by decide +kernel)
set_option maxRecDepth 20000 in
theorem gL_law_X6_ends : GoodIn wsL_law (wsV RL 98 RX6 yX6_ends wsX6_ends) := goodIn_app (goodIn_of _ (by decide +kernel)) ggL_law_X6_ends
set_option maxRecDepth 20000 in
theorem ggL_law_X7_ends : GoodIn wsL_law wsX7_ends := goodIn_r _ [731, 109, 110, 218, 219, 5, 220, 221, 222, 223, 229, 230, 231, 237, 238, 239, 240, 236, 241, 242, 243, 244, 245, 246, 247, 248, 249, 250, 251, 252, 253, 254, 255, 256, 257, 258, 259, 260, 261, 262, 263, 792, 793, 794, 795, 796, 797, 798, 799, 800, 801, 802, 803, 804, 805, 806, 807, 808] (by decide +kernel) (by decide +kernel)
set_option maxRecDepth 20000 in
theorem gL_law_X7_ends : GoodIn wsL_law (wsV RL 101 RX7 yX7_ends wsX7_ends) := goodIn_app (goodIn_of _ (by decide +kernel)) ggL_law_X7_ends
set_option maxRecDepth 20000 in
theorem ggL_law_X6_ifShot : GoodIn wsL_law wsX6_ifShot := goodIn_r _ [735, 16, 15, 365, 493, 662, 26, 299, 121, 122, 2, 123, 736, 137, 138, 14, 139, 41, 45, 46, 47, 48, 49, 50, 51, 52, 53, 54, 140, 141, 142, 40, 143, 63, 64, 65, 66, 67, 68, 69, 70, 144, 145, 146, 44, 147, 77, 148, 149, 57, 150, 151, 152, 153, 154, 155, 156, 157, 158, 159, 160, 161, 162, 163, 164, 165, 166, 167, 168, 169, 170, 171, 172, 173, 174, 175, 176, 177, 178, 179, 180, 181, 182, 183, 184, 185, 186, 187, 188, 189, 190, 191, 80, 81, 82, 192, 193, 194, 195, 196, 197, 198, 199, 200, 201, 202, 203, 56, 58, 204, 205, 206, 207, 208, 209, 210, 211, 212, 213, 604, 605, 606, 25, 607, 541, 542, 543, 544, 545, 546, 547, 548, 549, 550, 551, 552, 553, 554, 555, 556, 557, 782, 783, 784, 785, 786, 787, 788, 789, 790, 791, 809, 810, 811, 812, 813, 814, 815, 816, 817, 818, 819, 826, 827, 828, 829, 830, 831, 832, 833, 834] (by decide +kernel) (by decide +kernel)
set_option maxRecDepth 20000 in
theorem gL_law_X6_ifShot : GoodIn wsL_law (wsV RL 102 RX6 yX6_ifShot wsX6_ifShot) := goodIn_app (goodIn_of _ (by decide +kernel)) ggL_law_X6_ifShot
set_option maxRecDepth 20000 in
theorem ggL_law_X7_ifShot : GoodIn wsL_law wsX7_ifShot := goodIn_r _ [740, 218, 219, 5, 220, 221, 222, 223, 741, 742, 743, 744, 109, 110, 229, 230, 231, 232, 233, 234, 235, 236, 237, 238, 239, 240, 241, 242, 243, 244, 245, 246, 247, 248, 249, 250, 251, 252, 253, 254, 255, 256, 257, 258, 259, 260, 261, 262, 263, 264, 265, 266, 267, 268, 269, 270, 271, 272, 273, 274, 275, 617, 618, 619, 620, 562, 563, 564, 565, 566, 567, 568, 569, 792, 793, 794, 795, 796, 797, 798, 799, 800, 801, 802, 803, 804, 805, 806, 807, 808] (by decide +kernel) (by decide +kernel)
set_option maxRecDepth 20000 in
theorem gL_law_X7_ifShot : GoodIn wsL_law (wsV RL 106 RX7 yX7_ifShot wsX7_ifShot) := goodIn_app (goodIn_of _ (by decide +kernel)) ggL_law_X7_ifShot
set_option maxRecDepth 20000 in
theorem ggL_law_X6_best : GoodIn wsL_law wsX6_best := goodIn_r _ [748, 15, 365, 16, 493, 26, 299, 736, 137, 138, 14, 139, 41, 45, 46, 47, 48, 49, 50, 51, 52, 53, 54, 140, 141, 142, 40, 143, 63, 64, 65, 66, 67, 68, 69, 70, 144, 145, 146, 44, 147, 77, 148, 149, 57, 150, 151, 152, 153, 154, 155, 156, 157, 158, 159, 160, 161, 162, 163, 164, 165, 2, 166, 167, 168, 169, 170, 171, 172, 173, 174, 175, 176, 177, 178, 179, 180, 181, 182, 183, 184, 185, 186, 187, 188, 189, 190, 191, 80, 81, 82, 192, 193, 194, 195, 122, 123, 196, 197, 198, 199, 200, 201, 202, 203, 56, 58, 204, 205, 206, 207, 208, 209, 210, 211, 212, 213, 604, 605, 606, 25, 607, 541, 542, 543, 544, 545, 546, 547, 548, 549, 550, 551, 552, 553, 554, 555, 556, 557, 585, 586, 587, 588, 589, 590, 591, 782, 783, 784, 785, 786, 787, 788, 789, 790, 791, 809, 810, 811, 812, 813, 814, 815, 816, 817, 818, 819, 826, 827, 828, 829, 830, 831, 832, 833, 834] (by decide +kernel) (by decide +kernel)
set_option maxRecDepth 20000 in
theorem gL_law_X6_best : GoodIn wsL_law (wsV RL 107 RX6 yX6_best wsX6_best) := goodIn_app (goodIn_of _ (by decide +kernel)) ggL_law_X6_best
set_option maxRecDepth 20000 in
theorem ggL_law_X7_best : GoodIn wsL_law wsX7_best := goodIn_r _ [752, 109, 741, 742, 743, 5, 744, 110, 229, 230, 231, 232, 233, 234, 235, 236, 237, 238, 239, 240, 241, 242, 243, 244, 245, 246, 247, 248, 249, 250, 251, 252, 253, 254, 255, 256, 257, 258, 259, 260, 221, 222, 223, 261, 262, 263, 264, 265, 266, 267, 268, 269, 270, 271, 272, 273, 274, 275, 617, 618, 619, 620, 562, 563, 564, 565, 566, 567, 568, 569, 709, 710, 711, 792, 793, 794, 795, 796, 797, 798, 799, 800, 801, 802, 803, 804, 805, 806, 807, 808] (by decide +kernel) (by decide +kernel)
set_option maxRecDepth 20000 in
theorem gL_law_X7_best : GoodIn wsL_law (wsV RL 111 RX7 yX7_best wsX7_best) := goodIn_app (goodIn_of _ (by decide +kernel)) ggL_law_X7_best
set_option maxRecDepth 20000 in
theorem ggL_law_X6_undo : GoodIn wsL_law wsX6_undo := goodIn_r _ [756, 22, 688, 15, 757, 758, 759, 21, 760, 89, 132, 133, 134, 135, 88, 136, 137, 138, 14, 139, 41, 45, 46, 47, 48, 49, 50, 51, 52, 53, 54, 140, 141, 142, 40, 143, 63, 64, 65, 66, 67, 68, 69, 70, 144, 145, 146, 44, 147, 77, 148, 149, 57, 150, 151, 152, 153, 154, 155, 782, 783, 784, 785, 786, 787, 788, 789, 790, 791, 820, 821, 809, 810, 811, 812, 813, 814, 815, 816, 817, 818, 819, 826, 827, 828, 829, 830, 831, 832, 833, 834] (by decide +kernel) (by decide +kernel)
set_option maxRecDepth 20000 in
theorem gL_law_X6_undo : GoodIn wsL_law (wsV RL 112 RX6 yX6_undo wsX6_undo) := goodIn_app (goodIn_of _ (by decide +kernel)) ggL_law_X6_undo
set_option maxRecDepth 20000 in
theorem ggL_law_X7_undo : GoodIn wsL_law wsX7_undo := goodIn_r _ [764, 228, 111, 109, 229, 230, 5, 231, 792, 793, 794, 795, 796, 797, 798, 799, 800, 801, 802, 803, 804, 805, 806, 807, 808] (by decide +kernel) (by decide +kernel)
set_option maxRecDepth 20000 in
theorem gL_law_X7_undo : GoodIn wsL_law (wsV RL 115 RX7 yX7_undo wsX7_undo) := goodIn_app (goodIn_of _ (by decide +kernel)) ggL_law_X7_undo
set_option maxRecDepth 20000 in
theorem ggL_law_X6_save : GoodIn wsL_law wsX6_save := goodIn_r _ [768, 17, 15, 18, 493, 736, 137, 138, 14, 139, 41, 45, 46, 47, 48, 49, 50, 51, 52, 53, 54, 140, 141, 142, 40, 143, 63, 64, 65, 66, 67, 68, 69, 70, 144, 145, 146, 44, 147, 77, 148, 149, 57, 150, 151, 152, 153, 154, 155, 782, 783, 784, 785, 786, 787, 788, 789, 790, 791, 809, 810, 811, 812, 813, 814, 815, 816, 817, 818, 819, 826, 827, 828, 829, 830, 831, 832, 833, 834] (by decide +kernel) (by decide +kernel)
set_option maxRecDepth 20000 in
theorem gL_law_X6_save : GoodIn wsL_law (wsV RL 116 RX6 yX6_save wsX6_save) := goodIn_app (goodIn_of _ (by decide +kernel)) ggL_law_X6_save
set_option maxRecDepth 20000 in
theorem ggL_law_X7_save : GoodIn wsL_law wsX7_save := goodIn_r _ [772, 109, 112, 773, 229, 230, 5, 231, 792, 793, 794, 795, 796, 797, 798, 799, 800, 801, 802, 803, 804, 805, 806, 807, 808] (by decide +kernel) (by decide +kernel)
set_option maxRecDepth 20000 in
theorem gL_law_X7_save : GoodIn wsL_law (wsV RL 119 RX7 yX7_save wsX7_save) := goodIn_app (goodIn_of _ (by decide +kernel)) ggL_law_X7_save
set_option maxRecDepth 20000 in
theorem ggL_law_X6_restore : GoodIn wsL_law wsX6_restore := goodIn_r _ [777, 18, 22, 15, 17, 493, 124, 125, 126, 21, 127, 89, 88, 128, 129, 130, 131, 132, 133, 134, 135, 136, 137, 138, 14, 139, 41, 45, 46, 47, 48, 49, 50, 51, 52, 53, 54, 140, 141, 142, 40, 143, 63, 64, 65, 66, 67, 68, 69, 70, 144, 145, 146, 44, 147, 77, 148, 149, 57, 150, 151, 152, 153, 154, 155, 736, 782, 783, 784, 785, 786, 787, 788, 789, 790, 791, 809, 810, 811, 812, 813, 814, 815, 816, 817, 818, 819, 820, 821, 826, 827, 828, 829, 830, 831, 832, 833, 834] (by decide +kernel) (by decide +kernel)
set_option maxRecDepth 20000 in
theorem gL_law_X6_restore : GoodIn wsL_law (wsV RL 120 RX6 yX6_restore wsX6_restore) := goodIn_app (goodIn_of _ (by decide +kernel)) ggL_law_X6_restore
set_option maxRecDepth 20000 in
theorem ggL_law_X7_restore : GoodIn wsL_law wsX7_restore := goodIn_r _ [781, 773, 112, 109, 224, 225, 226, 5, 227, 228, 111, 229, 230, 231, 792, 793, 794, 795, 796, 797, 798, 799, 800, 801, 802, 803, 804, 805, 806, 807, 808] (by decide +kernel) (by decide +kernel)
set_option maxRecDepth 20000 in
theorem gL_law_X7_restore : GoodIn wsL_law (wsV RL 123 RX7 yX7_restore wsX7_restore) := goodIn_app (goodIn_of _ (by decide +kernel)) ggL_law_X7_restore
theorem dL_law_0 : decode cL_law 0 = .ok (.new 7, 3) := by decide +kernel
theorem dL_law_3 : decode cL_law 3 = .ok (.dup, 1) := by decide +kernel
theorem dL_law_4 : decode cL_law 4 = .ok (.invokespecial 9, 3) := by decide +kernel
theorem dL_law_7 : decode cL_law 7 = .ok (.astore_n 1, 1) := by decide +kernel
theorem dL_law_8 : decode cL_law 8 = .ok (.new 10, 3) := by decide +kernel
theorem dL_law_11 : decode cL_law 11 = .ok (.dup, 1) := by decide +kernel
theorem dL_law_12 : decode cL_law 12 = .ok (.invokespecial 12, 3) := by decide +kernel
theorem dL_law_15 : decode cL_law 15 = .ok (.astore_n 2, 1) := by decide +kernel
theorem dL_law_16 : decode cL_law 16 = .ok (.iconst 0, 1) := by decide +kernel
theorem dL_law_17 : decode cL_law 17 = .ok (.istore_n 3, 1) := by decide +kernel
theorem dL_law_18 : decode cL_law 18 = .ok (.iload_n 3, 1) := by decide +kernel
theorem dL_law_19 : decode cL_law 19 = .ok (.aload_n 0, 1) := by decide +kernel
theorem dL_law_20 : decode cL_law 20 = .ok (.arraylength, 1) := by decide +kernel
theorem dL_law_21 : decode cL_law 21 = .ok (.iconst 5, 1) := by decide +kernel
theorem dL_law_22 : decode cL_law 22 = .ok (.isub, 1) := by decide +kernel
theorem dL_law_23 : decode cL_law 23 = .ok (.if_icmp .gt 845, 3) := by decide +kernel
theorem dL_law_26 : decode cL_law 26 = .ok (.aload_n 0, 1) := by decide +kernel
theorem dL_law_27 : decode cL_law 27 = .ok (.iload_n 3, 1) := by decide +kernel
theorem dL_law_28 : decode cL_law 28 = .ok (.iaload, 1) := by decide +kernel
theorem dL_law_29 : decode cL_law 29 = .ok (.bipush 31, 2) := by decide +kernel
theorem dL_law_31 : decode cL_law 31 = .ok (.iand, 1) := by decide +kernel
theorem dL_law_32 : decode cL_law 32 = .ok (.tableswitch 830 0 25 #[120, 169, 218, 241, 264, 297, 330, 343, 366, 379, 402, 415, 428, 451, 474, 507, 540, 563, 596, 619, 660, 683, 752, 791, 804, 817], 120) := by decide +kernel
theorem dL_law_152 : decode cL_law 152 = .ok (.aload_n 1, 1) := by decide +kernel
theorem dL_law_153 : decode cL_law 153 = .ok (.aload_n 0, 1) := by decide +kernel
theorem dL_law_154 : decode cL_law 154 = .ok (.iload_n 3, 1) := by decide +kernel
theorem dL_law_155 : decode cL_law 155 = .ok (.iconst 1, 1) := by decide +kernel
theorem dL_law_156 : decode cL_law 156 = .ok (.iadd, 1) := by decide +kernel
theorem dL_law_157 : decode cL_law 157 = .ok (.iaload, 1) := by decide +kernel
theorem dL_law_158 : decode cL_law 158 = .ok (.aload_n 0, 1) := by decide +kernel
theorem dL_law_159 : decode cL_law 159 = .ok (.iload_n 3, 1) := by decide +kernel
theorem dL_law_160 : decode cL_law 160 = .ok (.iconst 2, 1) := by decide +kernel
theorem dL_law_161 : decode cL_law 161 = .ok (.iadd, 1) := by decide +kernel
theorem dL_law_162 : decode cL_law 162 = .ok (.iaload, 1) := by decide +kernel
theorem dL_law_163 : decode cL_law 163 = .ok (.ifCond .eq 7, 3) := by decide +kernel
theorem dL_law_166 : decode cL_law 166 = .ok (.iconst 1, 1) := by decide +kernel
theorem dL_law_167 : decode cL_law 167 = .ok (.goto 4, 3) := by decide +kernel
theorem dL_law_170 : decode cL_law 170 = .ok (.iconst 0, 1) := by decide +kernel
theorem dL_law_171 : decode cL_law 171 = .ok (.invokevirtual 13, 3) := by decide +kernel
theorem dL_law_174 : decode cL_law 174 = .ok (.aload_n 2, 1) := by decide +kernel
theorem dL_law_175 : decode cL_law 175 = .ok (.aload_n 0, 1) := by decide +kernel
theorem dL_law_176 : decode cL_law 176 = .ok (.iload_n 3, 1) := by decide +kernel
theorem dL_law_177 : decode cL_law 177 = .ok (.iconst 1, 1) := by decide +kernel
theorem dL_law_178 : decode cL_law 178 = .ok (.iadd, 1) := by decide +kernel
theorem dL_law_179 : decode cL_law 179 = .ok (.iaload, 1) := by decide +kernel
theorem dL_law_180 : decode cL_law 180 = .ok (.aload_n 0, 1) := by decide +kernel
theorem dL_law_181 : decode cL_law 181 = .ok (.iload_n 3, 1) := by decide +kernel
theorem dL_law_182 : decode cL_law 182 = .ok (.iconst 2, 1) := by decide +kernel
theorem dL_law_183 : decode cL_law 183 = .ok (.iadd, 1) := by decide +kernel
theorem dL_law_184 : decode cL_law 184 = .ok (.iaload, 1) := by decide +kernel
theorem dL_law_185 : decode cL_law 185 = .ok (.ifCond .eq 7, 3) := by decide +kernel
theorem dL_law_188 : decode cL_law 188 = .ok (.iconst 1, 1) := by decide +kernel
theorem dL_law_189 : decode cL_law 189 = .ok (.goto 4, 3) := by decide +kernel
theorem dL_law_192 : decode cL_law 192 = .ok (.iconst 0, 1) := by decide +kernel
theorem dL_law_193 : decode cL_law 193 = .ok (.invokevirtual 17, 3) := by decide +kernel
theorem dL_law_196 : decode cL_law 196 = .ok (.if_icmp .eq 666, 3) := by decide +kernel
theorem dL_law_199 : decode cL_law 199 = .ok (.iconst 0, 1) := by decide +kernel
theorem dL_law_200 : decode cL_law 200 = .ok (.ireturn, 1) := by decide +kernel
theorem dL_law_201 : decode cL_law 201 = .ok (.aload_n 1, 1) := by decide +kernel
theorem dL_law_202 : decode cL_law 202 = .ok (.aload_n 0, 1) := by decide +kernel
theorem dL_law_203 : decode cL_law 203 = .ok (.iload_n 3, 1) := by decide +kernel
theorem dL_law_204 : decode cL_law 204 = .ok (.iconst 1, 1) := by decide +kernel
theorem dL_law_205 : decode cL_law 205 = .ok (.iadd, 1) := by decide +kernel
theorem dL_law_206 : decode cL_law 206 = .ok (.iaload, 1) := by decide +kernel
theorem dL_law_207 : decode cL_law 207 = .ok (.aload_n 0, 1) := by decide +kernel
theorem dL_law_208 : decode cL_law 208 = .ok (.iload_n 3, 1) := by decide +kernel
theorem dL_law_209 : decode cL_law 209 = .ok (.iconst 2, 1) := by decide +kernel
theorem dL_law_210 : decode cL_law 210 = .ok (.iadd, 1) := by decide +kernel
theorem dL_law_211 : decode cL_law 211 = .ok (.iaload, 1) := by decide +kernel
theorem dL_law_212 : decode cL_law 212 = .ok (.ifCond .eq 7, 3) := by decide +kernel
theorem dL_law_215 : decode cL_law 215 = .ok (.iconst 1, 1) := by decide +kernel
theorem dL_law_216 : decode cL_law 216 = .ok (.goto 4, 3) := by decide +kernel
theorem dL_law_219 : decode cL_law 219 = .ok (.iconst 0, 1) := by decide +kernel
theorem dL_law_220 : decode cL_law 220 = .ok (.invokevirtual 18, 3) := by decide +kernel
theorem dL_law_223 : decode cL_law 223 = .ok (.aload_n 2, 1) := by decide +kernel
theorem dL_law_224 : decode cL_law 224 = .ok (.aload_n 0, 1) := by decide +kernel
theorem dL_law_225 : decode cL_law 225 = .ok (.iload_n 3, 1) := by decide +kernel
theorem dL_law_226 : decode cL_law 226 = .ok (.iconst 1, 1) := by decide +kernel
theorem dL_law_227 : decode cL_law 227 = .ok (.iadd, 1) := by decide +kernel
theorem dL_law_228 : decode cL_law 228 = .ok (.iaload, 1) := by decide +kernel
theorem dL_law_229 : decode cL_law 229 = .ok (.aload_n 0, 1) := by decide +kernel
theorem dL_law_230 : decode cL_law 230 = .ok (.iload_n 3, 1) := by decide +kernel
theorem dL_law_231 : decode cL_law 231 = .ok (.iconst 2, 1) := by decide +kernel
theorem dL_law_232 : decode cL_law 232 = .ok (.iadd, 1) := by decide +kernel
theorem dL_law_233 : decode cL_law 233 = .ok (.iaload, 1) := by decide +kernel
theorem dL_law_234 : decode cL_law 234 = .ok (.ifCond .eq 7, 3) := by decide +kernel
theorem dL_law_237 : decode cL_law 237 = .ok (.iconst 1, 1) := by decide +kernel
theorem dL_law_238 : decode cL_law 238 = .ok (.goto 4, 3) := by decide +kernel
theorem dL_law_241 : decode cL_law 241 = .ok (.iconst 0, 1) := by decide +kernel
theorem dL_law_242 : decode cL_law 242 = .ok (.invokevirtual 21, 3) := by decide +kernel
theorem dL_law_245 : decode cL_law 245 = .ok (.if_icmp .eq 617, 3) := by decide +kernel
theorem dL_law_248 : decode cL_law 248 = .ok (.iconst 0, 1) := by decide +kernel
theorem dL_law_249 : decode cL_law 249 = .ok (.ireturn, 1) := by decide +kernel
theorem dL_law_250 : decode cL_law 250 = .ok (.aload_n 1, 1) := by decide +kernel
theorem dL_law_251 : decode cL_law 251 = .ok (.aload_n 0, 1) := by decide +kernel
theorem dL_law_252 : decode cL_law 252 = .ok (.iload_n 3, 1) := by decide +kernel
theorem dL_law_253 : decode cL_law 253 = .ok (.iconst 1, 1) := by decide +kernel
theorem dL_law_254 : decode cL_law 254 = .ok (.iadd, 1) := by decide +kernel
theorem dL_law_255 : decode cL_law 255 = .ok (.iaload, 1) := by decide +kernel
theorem dL_law_256 : decode cL_law 256 = .ok (.invokevirtual 22, 3) := by decide +kernel
theorem dL_law_259 : decode cL_law 259 = .ok (.aload_n 2, 1) := by decide +kernel
theorem dL_law_260 : decode cL_law 260 = .ok (.aload_n 0, 1) := by decide +kernel
theorem dL_law_261 : decode cL_law 261 = .ok (.iload_n 3, 1) := by decide +kernel
theorem dL_law_262 : decode cL_law 262 = .ok (.iconst 1, 1) := by decide +kernel
theorem dL_law_263 : decode cL_law 263 = .ok (.iadd, 1) := by decide +kernel
theorem dL_law_264 : decode cL_law 264 = .ok (.iaload, 1) := by decide +kernel
theorem dL_law_265 : decode cL_law 265 = .ok (.invokevirtual 26, 3) := by decide +kernel
theorem dL_law_268 : decode cL_law 268 = .ok (.if_icmp .eq 594, 3) := by decide +kernel
theorem dL_law_271 : decode cL_law 271 = .ok (.iconst 0, 1) := by decide +kernel
theorem dL_law_272 : decode cL_law 272 = .ok (.ireturn, 1) := by decide +kernel
theorem dL_law_273 : decode cL_law 273 = .ok (.aload_n 1, 1) := by decide +kernel
theorem dL_law_274 : decode cL_law 274 = .ok (.aload_n 0, 1) := by decide +kernel
theorem dL_law_275 : decode cL_law 275 = .ok (.iload_n 3, 1) := by decide +kernel
theorem dL_law_276 : decode cL_law 276 = .ok (.iconst 1, 1) := by decide +kernel
theorem dL_law_277 : decode cL_law 277 = .ok (.iadd, 1) := by decide +kernel
theorem dL_law_278 : decode cL_law 278 = .ok (.iaload, 1) := by decide +kernel
theorem dL_law_279 : decode cL_law 279 = .ok (.invokevirtual 27, 3) := by decide +kernel
theorem dL_law_282 : decode cL_law 282 = .ok (.aload_n 2, 1) := by decide +kernel
theorem dL_law_283 : decode cL_law 283 = .ok (.aload_n 0, 1) := by decide +kernel
theorem dL_law_284 : decode cL_law 284 = .ok (.iload_n 3, 1) := by decide +kernel
theorem dL_law_285 : decode cL_law 285 = .ok (.iconst 1, 1) := by decide +kernel
theorem dL_law_286 : decode cL_law 286 = .ok (.iadd, 1) := by decide +kernel
theorem dL_law_287 : decode cL_law 287 = .ok (.iaload, 1) := by decide +kernel
theorem dL_law_288 : decode cL_law 288 = .ok (.invokevirtual 30, 3) := by decide +kernel
theorem dL_law_291 : decode cL_law 291 = .ok (.if_icmp .eq 571, 3) := by decide +kernel
theorem dL_law_294 : decode cL_law 294 = .ok (.iconst 0, 1) := by decide +kernel
theorem dL_law_295 : decode cL_law 295 = .ok (.ireturn, 1) := by decide +kernel
theorem dL_law_296 : decode cL_law 296 = .ok (.aload_n 1, 1) := by decide +kernel
theorem dL_law_297 : decode cL_law 297 = .ok (.aload_n 0, 1) := by decide +kernel
theorem dL_law_298 : decode cL_law 298 = .ok (.iload_n 3, 1) := by decide +kernel
theorem dL_law_299 : decode cL_law 299 = .ok (.iconst 1, 1) := by decide +kernel
theorem dL_law_300 : decode cL_law 300 = .ok (.iadd, 1) := by decide +kernel
theorem dL_law_301 : decode cL_law 301 = .ok (.iaload, 1) := by decide +kernel
theorem dL_law_302 : decode cL_law 302 = .ok (.aload_n 0, 1) := by decide +kernel
theorem dL_law_303 : decode cL_law 303 = .ok (.iload_n 3, 1) := by decide +kernel
theorem dL_law_304 : decode cL_law 304 = .ok (.iconst 2, 1) := by decide +kernel
theorem dL_law_305 : decode cL_law 305 = .ok (.iadd, 1) := by decide +kernel
theorem dL_law_306 : decode cL_law 306 = .ok (.iaload, 1) := by decide +kernel
theorem dL_law_307 : decode cL_law 307 = .ok (.invokevirtual 31, 3) := by decide +kernel
theorem dL_law_310 : decode cL_law 310 = .ok (.aload_n 2, 1) := by decide +kernel
theorem dL_law_311 : decode cL_law 311 = .ok (.aload_n 0, 1) := by decide +kernel
theorem dL_law_312 : decode cL_law 312 = .ok (.iload_n 3, 1) := by decide +kernel
theorem dL_law_313 : decode cL_law 313 = .ok (.iconst 1, 1) := by decide +kernel
theorem dL_law_314 : decode cL_law 314 = .ok (.iadd, 1) := by decide +kernel
theorem dL_law_315 : decode cL_law 315 = .ok (.iaload, 1) := by decide +kernel
theorem dL_law_316 : decode cL_law 316 = .ok (.aload_n 0, 1) := by decide +kernel
theorem dL_law_317 : decode cL_law 317 = .ok (.iload_n 3, 1) := by decide +kernel
theorem dL_law_318 : decode cL_law 318 = .ok (.iconst 2, 1) := by decide +kernel
theorem dL_law_319 : decode cL_law 319 = .ok (.iadd, 1) := by decide +kernel
theorem dL_law_320 : decode cL_law 320 = .ok (.iaload, 1) := by decide +kernel
theorem dL_law_321 : decode cL_law 321 = .ok (.invokevirtual 35, 3) := by decide +kernel
theorem dL_law_324 : decode cL_law 324 = .ok (.if_icmp .eq 538, 3) := by decide +kernel
theorem dL_law_327 : decode cL_law 327 = .ok (.iconst 0, 1) := by decide +kernel
theorem dL_law_328 : decode cL_law 328 = .ok (.ireturn, 1) := by decide +kernel
theorem dL_law_329 : decode cL_law 329 = .ok (.aload_n 1, 1) := by decide +kernel
theorem dL_law_330 : decode cL_law 330 = .ok (.aload_n 0, 1) := by decide +kernel
theorem dL_law_331 : decode cL_law 331 = .ok (.iload_n 3, 1) := by decide +kernel
theorem dL_law_332 : decode cL_law 332 = .ok (.iconst 1, 1) := by decide +kernel
theorem dL_law_333 : decode cL_law 333 = .ok (.iadd, 1) := by decide +kernel
theorem dL_law_334 : decode cL_law 334 = .ok (.iaload, 1) := by decide +kernel
theorem dL_law_335 : decode cL_law 335 = .ok (.aload_n 0, 1) := by decide +kernel
theorem dL_law_336 : decode cL_law 336 = .ok (.iload_n 3, 1) := by decide +kernel
theorem dL_law_337 : decode cL_law 337 = .ok (.iconst 2, 1) := by decide +kernel
theorem dL_law_338 : decode cL_law 338 = .ok (.iadd, 1) := by decide +kernel
theorem dL_law_339 : decode cL_law 339 = .ok (.iaload, 1) := by decide +kernel
theorem dL_law_340 : decode cL_law 340 = .ok (.invokevirtual 36, 3) := by decide +kernel
theorem dL_law_343 : decode cL_law 343 = .ok (.aload_n 2, 1) := by decide +kernel
theorem dL_law_344 : decode cL_law 344 = .ok (.aload_n 0, 1) := by decide +kernel
theorem dL_law_345 : decode cL_law 345 = .ok (.iload_n 3, 1) := by decide +kernel
theorem dL_law_346 : decode cL_law 346 = .ok (.iconst 1, 1) := by decide +kernel
theorem dL_law_347 : decode cL_law 347 = .ok (.iadd, 1) := by decide +kernel
theorem dL_law_348 : decode cL_law 348 = .ok (.iaload, 1) := by decide +kernel
theorem dL_law_349 : decode cL_law 349 = .ok (.aload_n 0, 1) := by decide +kernel
theorem dL_law_350 : decode cL_law 350 = .ok (.iload_n 3, 1) := by decide +kernel
theorem dL_law_351 : decode cL_law 351 = .ok (.iconst 2, 1) := by decide +kernel
theorem dL_law_352 : decode cL_law 352 = .ok (.iadd, 1) := by decide +kernel
theorem dL_law_353 : decode cL_law 353 = .ok (.iaload, 1) := by decide +kernel
theorem dL_law_354 : decode cL_law 354 = .ok (.invokevirtual 39, 3) := by decide +kernel
theorem dL_law_357 : decode cL_law 357 = .ok (.if_icmp .eq 505, 3) := by decide +kernel
theorem dL_law_360 : decode cL_law 360 = .ok (.iconst 0, 1) := by decide +kernel
theorem dL_law_361 : decode cL_law 361 = .ok (.ireturn, 1) := by decide +kernel
theorem dL_law_362 : decode cL_law 362 = .ok (.aload_n 1, 1) := by decide +kernel
theorem dL_law_363 : decode cL_law 363 = .ok (.invokevirtual 40, 3) := by decide +kernel
theorem dL_law_366 : decode cL_law 366 = .ok (.aload_n 2, 1) := by decide +kernel
theorem dL_law_367 : decode cL_law 367 = .ok (.invokevirtual 44, 3) := by decide +kernel
theorem dL_law_370 : decode cL_law 370 = .ok (.if_icmp .eq 492, 3) := by decide +kernel
theorem dL_law_373 : decode cL_law 373 = .ok (.iconst 0, 1) := by decide +kernel
theorem dL_law_374 : decode cL_law 374 = .ok (.ireturn, 1) := by decide +kernel
theorem dL_law_375 : decode cL_law 375 = .ok (.aload_n 1, 1) := by decide +kernel
theorem dL_law_376 : decode cL_law 376 = .ok (.aload_n 0, 1) := by decide +kernel
theorem dL_law_377 : decode cL_law 377 = .ok (.iload_n 3, 1) := by decide +kernel
theorem dL_law_378 : decode cL_law 378 = .ok (.iconst 1, 1) := by decide +kernel
theorem dL_law_379 : decode cL_law 379 = .ok (.iadd, 1) := by decide +kernel
theorem dL_law_380 : decode cL_law 380 = .ok (.iaload, 1) := by decide +kernel
theorem dL_law_381 : decode cL_law 381 = .ok (.invokevirtual 45, 3) := by decide +kernel
theorem dL_law_384 : decode cL_law 384 = .ok (.aload_n 2, 1) := by decide +kernel
theorem dL_law_385 : decode cL_law 385 = .ok (.aload_n 0, 1) := by decide +kernel
theorem dL_law_386 : decode cL_law 386 = .ok (.iload_n 3, 1) := by decide +kernel
theorem dL_law_387 : decode cL_law 387 = .ok (.iconst 1, 1) := by decide +kernel
theorem dL_law_388 : decode cL_law 388 = .ok (.iadd, 1) := by decide +kernel
theorem dL_law_389 : decode cL_law 389 = .ok (.iaload, 1) := by decide +kernel
theorem dL_law_390 : decode cL_law 390 = .ok (.invokevirtual 48, 3) := by decide +kernel
theorem dL_law_393 : decode cL_law 393 = .ok (.if_icmp .eq 469, 3) := by decide +kernel
theorem dL_law_396 : decode cL_law 396 = .ok (.iconst 0, 1) := by decide +kernel
theorem dL_law_397 : decode cL_law 397 = .ok (.ireturn, 1) := by decide +kernel
theorem dL_law_398 : decode cL_law 398 = .ok (.aload_n 1, 1) := by decide +kernel
theorem dL_law_399 : decode cL_law 399 = .ok (.invokevirtual 49, 3) := by decide +kernel
theorem dL_law_402 : decode cL_law 402 = .ok (.aload_n 2, 1) := by decide +kernel
theorem dL_law_403 : decode cL_law 403 = .ok (.invokevirtual 52, 3) := by decide +kernel
theorem dL_law_406 : decode cL_law 406 = .ok (.if_icmp .eq 456, 3) := by decide +kernel
theorem dL_law_409 : decode cL_law 409 = .ok (.iconst 0, 1) := by decide +kernel
theorem dL_law_410 : decode cL_law 410 = .ok (.ireturn, 1) := by decide +kernel
theorem dL_law_411 : decode cL_law 411 = .ok (.aload_n 1, 1) := by decide +kernel
theorem dL_law_412 : decode cL_law 412 = .ok (.aload_n 0, 1) := by decide +kernel
theorem dL_law_413 : decode cL_law 413 = .ok (.iload_n 3, 1) := by decide +kernel
theorem dL_law_414 : decode cL_law 414 = .ok (.iconst 1, 1) := by decide +kernel
theorem dL_law_415 : decode cL_law 415 = .ok (.iadd, 1) := by decide +kernel
theorem dL_law_416 : decode cL_law 416 = .ok (.iaload, 1) := by decide +kernel
theorem dL_law_417 : decode cL_law 417 = .ok (.invokevirtual 53, 3) := by decide +kernel
theorem dL_law_420 : decode cL_law 420 = .ok (.aload_n 2, 1) := by decide +kernel
theorem dL_law_421 : decode cL_law 421 = .ok (.aload_n 0, 1) := by decide +kernel
theorem dL_law_422 : decode cL_law 422 = .ok (.iload_n 3, 1) := by decide +kernel
theorem dL_law_423 : decode cL_law 423 = .ok (.iconst 1, 1) := by decide +kernel
theorem dL_law_424 : decode cL_law 424 = .ok (.iadd, 1) := by decide +kernel
theorem dL_law_425 : decode cL_law 425 = .ok (.iaload, 1) := by decide +kernel
theorem dL_law_426 : decode cL_law 426 = .ok (.invokevirtual 56, 3) := by decide +kernel
theorem dL_law_429 : decode cL_law 429 = .ok (.if_icmp .eq 433, 3) := by decide +kernel
theorem dL_law_432 : decode cL_law 432 = .ok (.iconst 0, 1) := by decide +kernel
theorem dL_law_433 : decode cL_law 433 = .ok (.ireturn, 1) := by decide +kernel
theorem dL_law_434 : decode cL_law 434 = .ok (.aload_n 1, 1) := by decide +kernel
theorem dL_law_435 : decode cL_law 435 = .ok (.invokevirtual 57, 3) := by decide +kernel
theorem dL_law_438 : decode cL_law 438 = .ok (.aload_n 2, 1) := by decide +kernel
theorem dL_law_439 : decode cL_law 439 = .ok (.invokevirtual 60, 3) := by decide +kernel
theorem dL_law_442 : decode cL_law 442 = .ok (.if_icmp .eq 420, 3) := by decide +kernel
theorem dL_law_445 : decode cL_law 445 = .ok (.iconst 0, 1) := by decide +kernel
theorem dL_law_446 : decode cL_law 446 = .ok (.ireturn, 1) := by decide +kernel
theorem dL_law_447 : decode cL_law 447 = .ok (.aload_n 1, 1) := by decide +kernel
theorem dL_law_448 : decode cL_law 448 = .ok (.invokevirtual 61, 3) := by decide +kernel
theorem dL_law_451 : decode cL_law 451 = .ok (.aload_n 2, 1) := by decide +kernel
theorem dL_law_452 : decode cL_law 452 = .ok (.invokevirtual 64, 3) := by decide +kernel
theorem dL_law_455 : decode cL_law 455 = .ok (.if_icmp .eq 407, 3) := by decide +kernel
theorem dL_law_458 : decode cL_law 458 = .ok (.iconst 0, 1) := by decide +kernel
theorem dL_law_459 : decode cL_law 459 = .ok (.ireturn, 1) := by decide +kernel
theorem dL_law_460 : decode cL_law 460 = .ok (.aload_n 1, 1) := by decide +kernel
theorem dL_law_461 : decode cL_law 461 = .ok (.aload_n 0, 1) := by decide +kernel
theorem dL_law_462 : decode cL_law 462 = .ok (.iload_n 3, 1) := by decide +kernel
theorem dL_law_463 : decode cL_law 463 = .ok (.iconst 1, 1) := by decide +kernel
theorem dL_law_464 : decode cL_law 464 = .ok (.iadd, 1) := by decide +kernel
theorem dL_law_465 : decode cL_law 465 = .ok (.iaload, 1) := by decide +kernel
theorem dL_law_466 : decode cL_law 466 = .ok (.invokevirtual 65, 3) := by decide +kernel
theorem dL_law_469 : decode cL_law 469 = .ok (.aload_n 2, 1) := by decide +kernel
theorem dL_law_470 : decode cL_law 470 = .ok (.aload_n 0, 1) := by decide +kernel
theorem dL_law_471 : decode cL_law 471 = .ok (.iload_n 3, 1) := by decide +kernel
theorem dL_law_472 : decode cL_law 472 = .ok (.iconst 1, 1) := by decide +kernel
theorem dL_law_473 : decode cL_law 473 = .ok (.iadd, 1) := by decide +kernel
theorem dL_law_474 : decode cL_law 474 = .ok (.iaload, 1) := by decide +kernel
theorem dL_law_475 : decode cL_law 475 = .ok (.invokevirtual 68, 3) := by decide +kernel
theorem dL_law_478 : decode cL_law 478 = .ok (.if_icmp .eq 384, 3) := by decide +kernel
theorem dL_law_481 : decode cL_law 481 = .ok (.iconst 0, 1) := by decide +kernel
theorem dL_law_482 : decode cL_law 482 = .ok (.ireturn, 1) := by decide +kernel
theorem dL_law_483 : decode cL_law 483 = .ok (.aload_n 1, 1) := by decide +kernel
theorem dL_law_484 : decode cL_law 484 = .ok (.aload_n 0, 1) := by decide +kernel
theorem dL_law_485 : decode cL_law 485 = .ok (.iload_n 3, 1) := by decide +kernel
theorem dL_law_486 : decode cL_law 486 = .ok (.iconst 1, 1) := by decide +kernel
theorem dL_law_487 : decode cL_law 487 = .ok (.iadd, 1) := by decide +kernel
theorem dL_law_488 : decode cL_law 488 = .ok (.iaload, 1) := by decide +kernel
theorem dL_law_489 : decode cL_law 489 = .ok (.invokevirtual 69, 3) := by decide +kernel
theorem dL_law_492 : decode cL_law 492 = .ok (.aload_n 2, 1) := by decide +kernel
theorem dL_law_493 : decode cL_law 493 = .ok (.aload_n 0, 1) := by decide +kernel
theorem dL_law_494 : decode cL_law 494 = .ok (.iload_n 3, 1) := by decide +kernel
theorem dL_law_495 : decode cL_law 495 = .ok (.iconst 1, 1) := by decide +kernel
theorem dL_law_496 : decode cL_law 496 = .ok (.iadd, 1) := by decide +kernel
theorem dL_law_497 : decode cL_law 497 = .ok (.iaload, 1) := by decide +kernel
theorem dL_law_498 : decode cL_law 498 = .ok (.invokevirtual 72, 3) := by decide +kernel
theorem dL_law_501 : decode cL_law 501 = .ok (.if_icmp .eq 361, 3) := by decide +kernel
theorem dL_law_504 : decode cL_law 504 = .ok (.iconst 0, 1) := by decide +kernel
theorem dL_law_505 : decode cL_law 505 = .ok (.ireturn, 1) := by decide +kernel
theorem dL_law_506 : decode cL_law 506 = .ok (.aload_n 1, 1) := by decide +kernel
theorem dL_law_507 : decode cL_law 507 = .ok (.aload_n 0, 1) := by decide +kernel
theorem dL_law_508 : decode cL_law 508 = .ok (.iload_n 3, 1) := by decide +kernel
theorem dL_law_509 : decode cL_law 509 = .ok (.iconst 1, 1) := by decide +kernel
theorem dL_law_510 : decode cL_law 510 = .ok (.iadd, 1) := by decide +kernel
theorem dL_law_511 : decode cL_law 511 = .ok (.iaload, 1) := by decide +kernel
theorem dL_law_512 : decode cL_law 512 = .ok (.aload_n 0, 1) := by decide +kernel
theorem dL_law_513 : decode cL_law 513 = .ok (.iload_n 3, 1) := by decide +kernel
theorem dL_law_514 : decode cL_law 514 = .ok (.iconst 2, 1) := by decide +kernel
theorem dL_law_515 : decode cL_law 515 = .ok (.iadd, 1) := by decide +kernel
theorem dL_law_516 : decode cL_law 516 = .ok (.iaload, 1) := by decide +kernel
theorem dL_law_517 : decode cL_law 517 = .ok (.invokevirtual 73, 3) := by decide +kernel
theorem dL_law_520 : decode cL_law 520 = .ok (.aload_n 2, 1) := by decide +kernel
theorem dL_law_521 : decode cL_law 521 = .ok (.aload_n 0, 1) := by decide +kernel
theorem dL_law_522 : decode cL_law 522 = .ok (.iload_n 3, 1) := by decide +kernel
theorem dL_law_523 : decode cL_law 523 = .ok (.iconst 1, 1) := by decide +kernel
theorem dL_law_524 : decode cL_law 524 = .ok (.iadd, 1) := by decide +kernel
theorem dL_law_525 : decode cL_law 525 = .ok (.iaload, 1) := by decide +kernel
theorem dL_law_526 : decode cL_law 526 = .ok (.aload_n 0, 1) := by decide +kernel
theorem dL_law_527 : decode cL_law 527 = .ok (.iload_n 3, 1) := by decide +kernel
theorem dL_law_528 : decode cL_law 528 = .ok (.iconst 2, 1) := by decide +kernel
theorem dL_law_529 : decode cL_law 529 = .ok (.iadd, 1) := by decide +kernel
theorem dL_law_530 : decode cL_law 530 = .ok (.iaload, 1) := by decide +kernel
theorem dL_law_531 : decode cL_law 531 = .ok (.invokevirtual 76, 3) := by decide +kernel
theorem dL_law_534 : decode cL_law 534 = .ok (.if_icmp .eq 328, 3) := by decide +kernel
theorem dL_law_537 : decode cL_law 537 = .ok (.iconst 0, 1) := by decide +kernel
theorem dL_law_538 : decode cL_law 538 = .ok (.ireturn, 1) := by decide +kernel
theorem dL_law_539 : decode cL_law 539 = .ok (.aload_n 1, 1) := by decide +kernel
theorem dL_law_540 : decode cL_law 540 = .ok (.aload_n 0, 1) := by decide +kernel
theorem dL_law_541 : decode cL_law 541 = .ok (.iload_n 3, 1) := by decide +kernel
theorem dL_law_542 : decode cL_law 542 = .ok (.iconst 1, 1) := by decide +kernel
theorem dL_law_543 : decode cL_law 543 = .ok (.iadd, 1) := by decide +kernel
theorem dL_law_544 : decode cL_law 544 = .ok (.iaload, 1) := by decide +kernel
theorem dL_law_545 : decode cL_law 545 = .ok (.aload_n 0, 1) := by decide +kernel
theorem dL_law_546 : decode cL_law 546 = .ok (.iload_n 3, 1) := by decide +kernel
theorem dL_law_547 : decode cL_law 547 = .ok (.iconst 2, 1) := by decide +kernel
theorem dL_law_548 : decode cL_law 548 = .ok (.iadd, 1) := by decide +kernel
theorem dL_law_549 : decode cL_law 549 = .ok (.iaload, 1) := by decide +kernel
theorem dL_law_550 : decode cL_law 550 = .ok (.invokevirtual 77, 3) := by decide +kernel
theorem dL_law_553 : decode cL_law 553 = .ok (.aload_n 2, 1) := by decide +kernel
theorem dL_law_554 : decode cL_law 554 = .ok (.aload_n 0, 1) := by decide +kernel
theorem dL_law_555 : decode cL_law 555 = .ok (.iload_n 3, 1) := by decide +kernel
theorem dL_law_556 : decode cL_law 556 = .ok (.iconst 1, 1) := by decide +kernel
theorem dL_law_557 : decode cL_law 557 = .ok (.iadd, 1) := by decide +kernel
theorem dL_law_558 : decode cL_law 558 = .ok (.iaload, 1) := by decide +kernel
theorem dL_law_559 : decode cL_law 559 = .ok (.aload_n 0, 1) := by decide +kernel
theorem dL_law_560 : decode cL_law 560 = .ok (.iload_n 3, 1) := by decide +kernel
theorem dL_law_561 : decode cL_law 561 = .ok (.iconst 2, 1) := by decide +kernel
theorem dL_law_562 : decode cL_law 562 = .ok (.iadd, 1) := by decide +kernel
theorem dL_law_563 : decode cL_law 563 = .ok (.iaload, 1) := by decide +kernel
theorem dL_law_564 : decode cL_law 564 = .ok (.invokevirtual 80, 3) := by decide +kernel
theorem dL_law_567 : decode cL_law 567 = .ok (.if_icmp .eq 295, 3) := by decide +kernel
theorem dL_law_570 : decode cL_law 570 = .ok (.iconst 0, 1) := by decide +kernel
theorem dL_law_571 : decode cL_law 571 = .ok (.ireturn, 1) := by decide +kernel
theorem dL_law_572 : decode cL_law 572 = .ok (.aload_n 1, 1) := by decide +kernel
theorem dL_law_573 : decode cL_law 573 = .ok (.aload_n 0, 1) := by decide +kernel
theorem dL_law_574 : decode cL_law 574 = .ok (.iload_n 3, 1) := by decide +kernel
theorem dL_law_575 : decode cL_law 575 = .ok (.iconst 1, 1) := by decide +kernel
theorem dL_law_576 : decode cL_law 576 = .ok (.iadd, 1) := by decide +kernel
theorem dL_law_577 : decode cL_law 577 = .ok (.iaload, 1) := by decide +kernel
theorem dL_law_578 : decode cL_law 578 = .ok (.invokevirtual 81, 3) := by decide +kernel
theorem dL_law_581 : decode cL_law 581 = .ok (.aload_n 2, 1) := by decide +kernel
theorem dL_law_582 : decode cL_law 582 = .ok (.aload_n 0, 1) := by decide +kernel
theorem dL_law_583 : decode cL_law 583 = .ok (.iload_n 3, 1) := by decide +kernel
theorem dL_law_584 : decode cL_law 584 = .ok (.iconst 1, 1) := by decide +kernel
theorem dL_law_585 : decode cL_law 585 = .ok (.iadd, 1) := by decide +kernel
theorem dL_law_586 : decode cL_law 586 = .ok (.iaload, 1) := by decide +kernel
theorem dL_law_587 : decode cL_law 587 = .ok (.invokevirtual 84, 3) := by decide +kernel
theorem dL_law_590 : decode cL_law 590 = .ok (.if_icmp .eq 272, 3) := by decide +kernel
theorem dL_law_593 : decode cL_law 593 = .ok (.iconst 0, 1) := by decide +kernel
theorem dL_law_594 : decode cL_law 594 = .ok (.ireturn, 1) := by decide +kernel
theorem dL_law_595 : decode cL_law 595 = .ok (.aload_n 1, 1) := by decide +kernel
theorem dL_law_596 : decode cL_law 596 = .ok (.aload_n 0, 1) := by decide +kernel
theorem dL_law_597 : decode cL_law 597 = .ok (.iload_n 3, 1) := by decide +kernel
theorem dL_law_598 : decode cL_law 598 = .ok (.iconst 1, 1) := by decide +kernel
theorem dL_law_599 : decode cL_law 599 = .ok (.iadd, 1) := by decide +kernel
theorem dL_law_600 : decode cL_law 600 = .ok (.iaload, 1) := by decide +kernel
theorem dL_law_601 : decode cL_law 601 = .ok (.aload_n 0, 1) := by decide +kernel
theorem dL_law_602 : decode cL_law 602 = .ok (.iload_n 3, 1) := by decide +kernel
theorem dL_law_603 : decode cL_law 603 = .ok (.iconst 2, 1) := by decide +kernel
theorem dL_law_604 : decode cL_law 604 = .ok (.iadd, 1) := by decide +kernel
theorem dL_law_605 : decode cL_law 605 = .ok (.iaload, 1) := by decide +kernel
theorem dL_law_606 : decode cL_law 606 = .ok (.invokevirtual 85, 3) := by decide +kernel
theorem dL_law_609 : decode cL_law 609 = .ok (.aload_n 2, 1) := by decide +kernel
theorem dL_law_610 : decode cL_law 610 = .ok (.aload_n 0, 1) := by decide +kernel
theorem dL_law_611 : decode cL_law 611 = .ok (.iload_n 3, 1) := by decide +kernel
theorem dL_law_612 : decode cL_law 612 = .ok (.iconst 1, 1) := by decide +kernel
theorem dL_law_613 : decode cL_law 613 = .ok (.iadd, 1) := by decide +kernel
theorem dL_law_614 : decode cL_law 614 = .ok (.iaload, 1) := by decide +kernel
theorem dL_law_615 : decode cL_law 615 = .ok (.aload_n 0, 1) := by decide +kernel
theorem dL_law_616 : decode cL_law 616 = .ok (.iload_n 3, 1) := by decide +kernel
theorem dL_law_617 : decode cL_law 617 = .ok (.iconst 2, 1) := by decide +kernel
theorem dL_law_618 : decode cL_law 618 = .ok (.iadd, 1) := by decide +kernel
theorem dL_law_619 : decode cL_law 619 = .ok (.iaload, 1) := by decide +kernel
theorem dL_law_620 : decode cL_law 620 = .ok (.invokevirtual 88, 3) := by decide +kernel
theorem dL_law_623 : decode cL_law 623 = .ok (.if_icmp .eq 239, 3) := by decide +kernel
theorem dL_law_626 : decode cL_law 626 = .ok (.iconst 0, 1) := by decide +kernel
theorem dL_law_627 : decode cL_law 627 = .ok (.ireturn, 1) := by decide +kernel
theorem dL_law_628 : decode cL_law 628 = .ok (.aload_n 1, 1) := by decide +kernel
theorem dL_law_629 : decode cL_law 629 = .ok (.aload_n 0, 1) := by decide +kernel
theorem dL_law_630 : decode cL_law 630 = .ok (.iload_n 3, 1) := by decide +kernel
theorem dL_law_631 : decode cL_law 631 = .ok (.iconst 1, 1) := by decide +kernel
theorem dL_law_632 : decode cL_law 632 = .ok (.iadd, 1) := by decide +kernel
theorem dL_law_633 : decode cL_law 633 = .ok (.iaload, 1) := by decide +kernel
theorem dL_law_634 : decode cL_law 634 = .ok (.invokevirtual 89, 3) := by decide +kernel
theorem dL_law_637 : decode cL_law 637 = .ok (.aload_n 2, 1) := by decide +kernel
theorem dL_law_638 : decode cL_law 638 = .ok (.aload_n 0, 1) := by decide +kernel
theorem dL_law_639 : decode cL_law 639 = .ok (.iload_n 3, 1) := by decide +kernel
theorem dL_law_640 : decode cL_law 640 = .ok (.iconst 1, 1) := by decide +kernel
theorem dL_law_641 : decode cL_law 641 = .ok (.iadd, 1) := by decide +kernel
theorem dL_law_642 : decode cL_law 642 = .ok (.iaload, 1) := by decide +kernel
theorem dL_law_643 : decode cL_law 643 = .ok (.invokevirtual 92, 3) := by decide +kernel
theorem dL_law_646 : decode cL_law 646 = .ok (.if_icmp .eq 216, 3) := by decide +kernel
theorem dL_law_649 : decode cL_law 649 = .ok (.iconst 0, 1) := by decide +kernel
theorem dL_law_650 : decode cL_law 650 = .ok (.ireturn, 1) := by decide +kernel
theorem dL_law_651 : decode cL_law 651 = .ok (.aload_n 1, 1) := by decide +kernel
theorem dL_law_652 : decode cL_law 652 = .ok (.invokevirtual 93, 3) := by decide +kernel
theorem dL_law_655 : decode cL_law 655 = .ok (.dstore 4, 2) := by decide +kernel
theorem dL_law_657 : decode cL_law 657 = .ok (.aload_n 2, 1) := by decide +kernel
theorem dL_law_658 : decode cL_law 658 = .ok (.invokevirtual 97, 3) := by decide +kernel
theorem dL_law_661 : decode cL_law 661 = .ok (.dstore 6, 2) := by decide +kernel
theorem dL_law_663 : decode cL_law 663 = .ok (.dload 4, 2) := by decide +kernel
theorem dL_law_665 : decode cL_law 665 = .ok (.dload 6, 2) := by decide +kernel
theorem dL_law_667 : decode cL_law 667 = .ok (.dcmp .l, 1) := by decide +kernel
theorem dL_law_668 : decode cL_law 668 = .ok (.ifCond .eq 21, 3) := by decide +kernel
theorem dL_law_671 : decode cL_law 671 = .ok (.dload 4, 2) := by decide +kernel
theorem dL_law_673 : decode cL_law 673 = .ok (.dload 4, 2) := by decide +kernel
theorem dL_law_675 : decode cL_law 675 = .ok (.dcmp .l, 1) := by decide +kernel
theorem dL_law_676 : decode cL_law 676 = .ok (.ifCond .eq 11, 3) := by decide +kernel
theorem dL_law_679 : decode cL_law 679 = .ok (.dload 6, 2) := by decide +kernel
theorem dL_law_681 : decode cL_law 681 = .ok (.dload 6, 2) := by decide +kernel
theorem dL_law_683 : decode cL_law 683 = .ok (.dcmp .l, 1) := by decide +kernel
theorem dL_law_684 : decode cL_law 684 = .ok (.ifCond .ne 5, 3) := by decide +kernel
theorem dL_law_687 : decode cL_law 687 = .ok (.iconst 0, 1) := by decide +kernel
theorem dL_law_688 : decode cL_law 688 = .ok (.ireturn, 1) := by decide +kernel
theorem dL_law_689 : decode cL_law 689 = .ok (.goto 173, 3) := by decide +kernel
theorem dL_law_692 : decode cL_law 692 = .ok (.aload_n 1, 1) := by decide +kernel
theorem dL_law_693 : decode cL_law 693 = .ok (.aload_n 0, 1) := by decide +kernel
theorem dL_law_694 : decode cL_law 694 = .ok (.iload_n 3, 1) := by decide +kernel
theorem dL_law_695 : decode cL_law 695 = .ok (.iconst 1, 1) := by decide +kernel
theorem dL_law_696 : decode cL_law 696 = .ok (.iadd, 1) := by decide +kernel
theorem dL_law_697 : decode cL_law 697 = .ok (.iaload, 1) := by decide +kernel
theorem dL_law_698 : decode cL_law 698 = .ok (.invokevirtual 98, 3) := by decide +kernel
theorem dL_law_701 : decode cL_law 701 = .ok (.aload_n 2, 1) := by decide +kernel
theorem dL_law_702 : decode cL_law 702 = .ok (.aload_n 0, 1) := by decide +kernel
theorem dL_law_703 : decode cL_law 703 = .ok (.iload_n 3, 1) := by decide +kernel
theorem dL_law_704 : decode cL_law 704 = .ok (.iconst 1, 1) := by decide +kernel
theorem dL_law_705 : decode cL_law 705 = .ok (.iadd, 1) := by decide +kernel
theorem dL_law_706 : decode cL_law 706 = .ok (.iaload, 1) := by decide +kernel
theorem dL_law_707 : decode cL_law 707 = .ok (.invokevirtual 101, 3) := by decide +kernel
theorem dL_law_710 : decode cL_law 710 = .ok (.if_icmp .eq 152, 3) := by decide +kernel
theorem dL_law_713 : decode cL_law 713 = .ok (.iconst 0, 1) := by decide +kernel
theorem dL_law_714 : decode cL_law 714 = .ok (.ireturn, 1) := by decide +kernel
theorem dL_law_715 : decode cL_law 715 = .ok (.aload_n 1, 1) := by decide +kernel
theorem dL_law_716 : decode cL_law 716 = .ok (.aload_n 0, 1) := by decide +kernel
theorem dL_law_717 : decode cL_law 717 = .ok (.iload_n 3, 1) := by decide +kernel
theorem dL_law_718 : decode cL_law 718 = .ok (.iconst 1, 1) := by decide +kernel
theorem dL_law_719 : decode cL_law 719 = .ok (.iadd, 1) := by decide +kernel
theorem dL_law_720 : decode cL_law 720 = .ok (.iaload, 1) := by decide +kernel
theorem dL_law_721 : decode cL_law 721 = .ok (.aload_n 0, 1) := by decide +kernel
theorem dL_law_722 : decode cL_law 722 = .ok (.iload_n 3, 1) := by decide +kernel
theorem dL_law_723 : decode cL_law 723 = .ok (.iconst 2, 1) := by decide +kernel
theorem dL_law_724 : decode cL_law 724 = .ok (.iadd, 1) := by decide +kernel
theorem dL_law_725 : decode cL_law 725 = .ok (.iaload, 1) := by decide +kernel
theorem dL_law_726 : decode cL_law 726 = .ok (.ifCond .eq 7, 3) := by decide +kernel
theorem dL_law_729 : decode cL_law 729 = .ok (.iconst 1, 1) := by decide +kernel
theorem dL_law_730 : decode cL_law 730 = .ok (.goto 4, 3) := by decide +kernel
theorem dL_law_733 : decode cL_law 733 = .ok (.iconst 0, 1) := by decide +kernel
theorem dL_law_734 : decode cL_law 734 = .ok (.aload_n 0, 1) := by decide +kernel
theorem dL_law_735 : decode cL_law 735 = .ok (.iload_n 3, 1) := by decide +kernel
theorem dL_law_736 : decode cL_law 736 = .ok (.iconst 3, 1) := by decide +kernel
theorem dL_law_737 : decode cL_law 737 = .ok (.iadd, 1) := by decide +kernel
theorem dL_law_738 : decode cL_law 738 = .ok (.iaload, 1) := by decide +kernel
theorem dL_law_739 : decode cL_law 739 = .ok (.aload_n 0, 1) := by decide +kernel
theorem dL_law_740 : decode cL_law 740 = .ok (.iload_n 3, 1) := by decide +kernel
theorem dL_law_741 : decode cL_law 741 = .ok (.iconst 4, 1) := by decide +kernel
theorem dL_law_742 : decode cL_law 742 = .ok (.iadd, 1) := by decide +kernel
theorem dL_law_743 : decode cL_law 743 = .ok (.iaload, 1) := by decide +kernel
theorem dL_law_744 : decode cL_law 744 = .ok (.invokevirtual 102, 3) := by decide +kernel
theorem dL_law_747 : decode cL_law 747 = .ok (.aload_n 2, 1) := by decide +kernel
theorem dL_law_748 : decode cL_law 748 = .ok (.aload_n 0, 1) := by decide +kernel
theorem dL_law_749 : decode cL_law 749 = .ok (.iload_n 3, 1) := by decide +kernel
theorem dL_law_750 : decode cL_law 750 = .ok (.iconst 1, 1) := by decide +kernel
theorem dL_law_751 : decode cL_law 751 = .ok (.iadd, 1) := by decide +kernel
theorem dL_law_752 : decode cL_law 752 = .ok (.iaload, 1) := by decide +kernel
theorem dL_law_753 : decode cL_law 753 = .ok (.aload_n 0, 1) := by decide +kernel
theorem dL_law_754 : decode cL_law 754 = .ok (.iload_n 3, 1) := by decide +kernel
theorem dL_law_755 : decode cL_law 755 = .ok (.iconst 2, 1) := by decide +kernel
theorem dL_law_756 : decode cL_law 756 = .ok (.iadd, 1) := by decide +kernel
theorem dL_law_757 : decode cL_law 757 = .ok (.iaload, 1) := by decide +kernel
theorem dL_law_758 : decode cL_law 758 = .ok (.ifCond .eq 7, 3) := by decide +kernel
theorem dL_law_761 : decode cL_law 761 = .ok (.iconst 1, 1) := by decide +kernel
theorem dL_law_762 : decode cL_law 762 = .ok (.goto 4, 3) := by decide +kernel
theorem dL_law_765 : decode cL_law 765 = .ok (.iconst 0, 1) := by decide +kernel
theorem dL_law_766 : decode cL_law 766 = .ok (.aload_n 0, 1) := by decide +kernel
theorem dL_law_767 : decode cL_law 767 = .ok (.iload_n 3, 1) := by decide +kernel
theorem dL_law_768 : decode cL_law 768 = .ok (.iconst 3, 1) := by decide +kernel
theorem dL_law_769 : decode cL_law 769 = .ok (.iadd, 1) := by decide +kernel
theorem dL_law_770 : decode cL_law 770 = .ok (.iaload, 1) := by decide +kernel
theorem dL_law_771 : decode cL_law 771 = .ok (.aload_n 0, 1) := by decide +kernel
theorem dL_law_772 : decode cL_law 772 = .ok (.iload_n 3, 1) := by decide +kernel
theorem dL_law_773 : decode cL_law 773 = .ok (.iconst 4, 1) := by decide +kernel
theorem dL_law_774 : decode cL_law 774 = .ok (.iadd, 1) := by decide +kernel
theorem dL_law_775 : decode cL_law 775 = .ok (.iaload, 1) := by decide +kernel
theorem dL_law_776 : decode cL_law 776 = .ok (.invokevirtual 106, 3) := by decide +kernel
theorem dL_law_779 : decode cL_law 779 = .ok (.if_icmp .eq 83, 3) := by decide +kernel
theorem dL_law_782 : decode cL_law 782 = .ok (.iconst 0, 1) := by decide +kernel
theorem dL_law_783 : decode cL_law 783 = .ok (.ireturn, 1) := by decide +kernel
theorem dL_law_784 : decode cL_law 784 = .ok (.aload_n 1, 1) := by decide +kernel
theorem dL_law_785 : decode cL_law 785 = .ok (.aload_n 0, 1) := by decide +kernel
theorem dL_law_786 : decode cL_law 786 = .ok (.iload_n 3, 1) := by decide +kernel
theorem dL_law_787 : decode cL_law 787 = .ok (.iconst 1, 1) := by decide +kernel
theorem dL_law_788 : decode cL_law 788 = .ok (.iadd, 1) := by decide +kernel
theorem dL_law_789 : decode cL_law 789 = .ok (.iaload, 1) := by decide +kernel
theorem dL_law_790 : decode cL_law 790 = .ok (.ifCond .eq 7, 3) := by decide +kernel
theorem dL_law_793 : decode cL_law 793 = .ok (.iconst 1, 1) := by decide +kernel
theorem dL_law_794 : decode cL_law 794 = .ok (.goto 4, 3) := by decide +kernel
theorem dL_law_797 : decode cL_law 797 = .ok (.iconst 0, 1) := by decide +kernel
theorem dL_law_798 : decode cL_law 798 = .ok (.invokevirtual 107, 3) := by decide +kernel
theorem dL_law_801 : decode cL_law 801 = .ok (.aload_n 2, 1) := by decide +kernel
theorem dL_law_802 : decode cL_law 802 = .ok (.aload_n 0, 1) := by decide +kernel
theorem dL_law_803 : decode cL_law 803 = .ok (.iload_n 3, 1) := by decide +kernel
theorem dL_law_804 : decode cL_law 804 = .ok (.iconst 1, 1) := by decide +kernel
theorem dL_law_805 : decode cL_law 805 = .ok (.iadd, 1) := by decide +kernel
theorem dL_law_806 : decode cL_law 806 = .ok (.iaload, 1) := by decide +kernel
theorem dL_law_807 : decode cL_law 807 = .ok (.ifCond .eq 7, 3) := by decide +kernel
theorem dL_law_810 : decode cL_law 810 = .ok (.iconst 1, 1) := by decide +kernel
theorem dL_law_811 : decode cL_law 811 = .ok (.goto 4, 3) := by decide +kernel
theorem dL_law_814 : decode cL_law 814 = .ok (.iconst 0, 1) := by decide +kernel
theorem dL_law_815 : decode cL_law 815 = .ok (.invokevirtual 111, 3) := by decide +kernel
theorem dL_law_818 : decode cL_law 818 = .ok (.if_icmp .eq 44, 3) := by decide +kernel
theorem dL_law_821 : decode cL_law 821 = .ok (.iconst 0, 1) := by decide +kernel
theorem dL_law_822 : decode cL_law 822 = .ok (.ireturn, 1) := by decide +kernel
theorem dL_law_823 : decode cL_law 823 = .ok (.aload_n 1, 1) := by decide +kernel
theorem dL_law_824 : decode cL_law 824 = .ok (.invokevirtual 112, 3) := by decide +kernel
theorem dL_law_827 : decode cL_law 827 = .ok (.aload_n 2, 1) := by decide +kernel
theorem dL_law_828 : decode cL_law 828 = .ok (.invokevirtual 115, 3) := by decide +kernel
theorem dL_law_831 : decode cL_law 831 = .ok (.if_icmp .eq 31, 3) := by decide +kernel
theorem dL_law_834 : decode cL_law 834 = .ok (.iconst 0, 1) := by decide +kernel
theorem dL_law_835 : decode cL_law 835 = .ok (.ireturn, 1) := by decide +kernel
theorem dL_law_836 : decode cL_law 836 = .ok (.aload_n 1, 1) := by decide +kernel
theorem dL_law_837 : decode cL_law 837 = .ok (.invokevirtual 116, 3) := by decide +kernel
theorem dL_law_840 : decode cL_law 840 = .ok (.aload_n 2, 1) := by decide +kernel
theorem dL_law_841 : decode cL_law 841 = .ok (.invokevirtual 119, 3) := by decide +kernel
theorem dL_law_844 : decode cL_law 844 = .ok (.if_icmp .eq 18, 3) := by decide +kernel
theorem dL_law_847 : decode cL_law 847 = .ok (.iconst 0, 1) := by decide +kernel
theorem dL_law_848 : decode cL_law 848 = .ok (.ireturn, 1) := by decide +kernel
theorem dL_law_849 : decode cL_law 849 = .ok (.aload_n 1, 1) := by decide +kernel
theorem dL_law_850 : decode cL_law 850 = .ok (.invokevirtual 120, 3) := by decide +kernel
theorem dL_law_853 : decode cL_law 853 = .ok (.aload_n 2, 1) := by decide +kernel
theorem dL_law_854 : decode cL_law 854 = .ok (.invokevirtual 123, 3) := by decide +kernel
theorem dL_law_857 : decode cL_law 857 = .ok (.if_icmp .eq 5, 3) := by decide +kernel
theorem dL_law_860 : decode cL_law 860 = .ok (.iconst 0, 1) := by decide +kernel
theorem dL_law_861 : decode cL_law 861 = .ok (.ireturn, 1) := by decide +kernel
theorem dL_law_862 : decode cL_law 862 = .ok (.iinc 3 5, 3) := by decide +kernel
theorem dL_law_865 : decode cL_law 865 = .ok (.goto (-847), 3) := by decide +kernel
theorem dL_law_868 : decode cL_law 868 = .ok (.iconst 1, 1) := by decide +kernel
theorem dL_law_869 : decode cL_law 869 = .ok (.ireturn, 1) := by decide +kernel
abbrev vwCl : List vw_C := [(RX0, TX0, 2), (RX1, TX1, 2), (RX2, TX2, 8), (RX3, TX3, 2), (RX4, TX4, 1), (RX5, TX5, 11), (RX6, TX6, 10), (RX7, TX7, 17)]
