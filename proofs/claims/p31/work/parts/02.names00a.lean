/-! ===== BEGIN words of one list among another's, by their places ===== -/
theorem goodIn_r {big : List Cond} (ws : List Cond) (ps : List Nat) (hp : ws = ps.filterMap (fun i => big[i]?)) (h : ws.all goodWord = true) : GoodIn big ws := by
  intro w hw
  have h1 := List.all_eq_true.mp h w hw
  rw [hp] at hw
  obtain ⟨i, -, hi⟩ := List.mem_filterMap.mp hw
  have hm : w ∈ big := by first | exact List.mem_of_getElem? hi | exact List.getElem?_mem hi
  exact ⟨hm, good_of_word h1⟩
theorem goodIn_app {big a b : List Cond} (ha : GoodIn big a) (hb : GoodIn big b) : GoodIn big (a ++ b) := fun w h => (List.mem_append.mp h).elim (ha w) (hb w)
theorem goodIn_ca {big a b : List Cond} {c : Cond} (ha : GoodIn big (c :: a)) (hb : GoodIn big b) : GoodIn big (c :: (a ++ b)) := fun w h => (List.mem_cons.mp h).elim (fun e => ha w (List.mem_cons.mpr (Or.inl e))) (fun h => (List.mem_append.mp h).elim (fun h => ha w (List.mem_cons.mpr (Or.inr h))) (hb w))
theorem goodIn_sub {big ws : List Cond} (hm : ∀ w ∈ ws, w ∈ big) (h : ws.all goodWord = true) : GoodIn big ws := fun w hw => ⟨hm w hw, good_of_word (List.all_eq_true.mp h w hw)⟩
/-! ===== END ===== -/

/-! ===== BEGIN printed: names, fields, word lists, decode rows ===== -/
def RX0 : String := "PotteryNights$Calendar"
def TX0 : u_T := fun k => match k with
  | 0 => ("PotteryNights$Calendar", "bookers", "LPotteryNights$Row;", true)
  | 1 => ("PotteryNights$Calendar", "night", "I", false)
  | _ => ("PotteryNights$Calendar", "throwersTonight", "I", false)
def tyX0 : Nat → FieldType := fun k => match k with
  | 0 => .object "PotteryNights$Row"
  | 1 => .int
  | _ => .int
noncomputable abbrev wsX00 : List Cond := u_ws RX0 TX0 3
theorem nmX0 : ∀ a, a < 3 → ∀ b, b < 3 → a ≠ b → (TX0 a).2.1 ≠ (TX0 b).2.1 := by decide +kernel
theorem tyX0_ok : ∀ k, k < 3 → parseFieldDescriptor (TX0 k).2.2.1 = some (tyX0 k) := by decide +kernel
abbrev cX0_init : ByteArray := prog_2_method_1_code
def yX0_init : MethodName := ⟨RX0, "<init>", "()V"⟩
abbrev cX0_copyFrom : ByteArray := prog_2_method_2_code
def yX0_copyFrom : MethodName := ⟨RX0, "copyFrom", "(LPotteryNights$Calendar;)V"⟩
abbrev cX0_cellOf : ByteArray := prog_2_method_3_code
def yX0_cellOf : MethodName := ⟨RX0, "cellOf", "(II)I"⟩
abbrev cX0_bookerOf : ByteArray := prog_2_method_4_code
def yX0_bookerOf : MethodName := ⟨RX0, "bookerOf", "(II)I"⟩
abbrev cX0_enter : ByteArray := prog_2_method_5_code
def yX0_enter : MethodName := ⟨RX0, "enter", "(III)V"⟩
abbrev cX0_cross : ByteArray := prog_2_method_6_code
def yX0_cross : MethodName := ⟨RX0, "cross", "(II)V"⟩
abbrev cX0_wheelOf : ByteArray := prog_2_method_7_code
def yX0_wheelOf : MethodName := ⟨RX0, "wheelOf", "(II)I"⟩
abbrev cX0_lowestFreeWheel : ByteArray := prog_2_method_8_code
def yX0_lowestFreeWheel : MethodName := ⟨RX0, "lowestFreeWheel", "(I)I"⟩
abbrev cX0_bookingsOf : ByteArray := prog_2_method_9_code
def yX0_bookingsOf : MethodName := ⟨RX0, "bookingsOf", "(I)I"⟩
abbrev cX0_hasThrownTonight : ByteArray := prog_2_method_10_code
def yX0_hasThrownTonight : MethodName := ⟨RX0, "hasThrownTonight", "(I)Z"⟩
abbrev cX0_noteThrower : ByteArray := prog_2_method_11_code
def yX0_noteThrower : MethodName := ⟨RX0, "noteThrower", "(I)V"⟩
abbrev cX0_passOneNight : ByteArray := prog_2_method_12_code
def yX0_passOneNight : MethodName := ⟨RX0, "passOneNight", "()V"⟩
def RX1 : String := "PotteryNights$History"
def TX1 : u_T := fun k => match k with
  | 0 => ("PotteryNights$History", "states", "[LPotteryNights$Workshop;", true)
  | 1 => ("PotteryNights$History", "next", "I", false)
  | _ => ("PotteryNights$History", "kept", "I", false)
def tyX1 : Nat → FieldType := fun k => match k with
  | 0 => .array (.object "PotteryNights$Workshop")
  | 1 => .int
  | _ => .int
noncomputable abbrev wsX10 : List Cond := u_ws RX1 TX1 3
theorem nmX1 : ∀ a, a < 3 → ∀ b, b < 3 → a ≠ b → (TX1 a).2.1 ≠ (TX1 b).2.1 := by decide +kernel
theorem tyX1_ok : ∀ k, k < 3 → parseFieldDescriptor (TX1 k).2.2.1 = some (tyX1 k) := by decide +kernel
abbrev cX1_init : ByteArray := prog_3_method_1_code
def yX1_init : MethodName := ⟨RX1, "<init>", "()V"⟩
abbrev cX1_kept : ByteArray := prog_3_method_2_code
def yX1_kept : MethodName := ⟨RX1, "kept", "()I"⟩
abbrev cX1_stateAt : ByteArray := prog_3_method_3_code
def yX1_stateAt : MethodName := ⟨RX1, "stateAt", "(I)LPotteryNights$Workshop;"⟩
abbrev cX1_prepare : ByteArray := prog_3_method_4_code
def yX1_prepare : MethodName := ⟨RX1, "prepare", "(LPotteryNights$Workshop;)V"⟩
abbrev cX1_record : ByteArray := prog_3_method_5_code
def yX1_record : MethodName := ⟨RX1, "record", "(I)I"⟩
def RX2 : String := "PotteryNights$Pad"
def TX2 : u_T := fun k => match k with
  | 0 => ("PotteryNights$Pad", "codes", "[I", true)
  | 1 => ("PotteryNights$Pad", "length", "I", false)
  | 2 => ("PotteryNights$Pad", "place", "I", false)
  | 3 => ("PotteryNights$Pad", "kind", "I", false)
  | 4 => ("PotteryNights$Pad", "first", "I", false)
  | 5 => ("PotteryNights$Pad", "second", "I", false)
  | _ => ("PotteryNights$Pad", "third", "I", false)
def tyX2 : Nat → FieldType := fun k => match k with
  | 0 => .array .int
  | 1 => .int
  | 2 => .int
  | 3 => .int
  | 4 => .int
  | 5 => .int
  | _ => .int
noncomputable abbrev wsX20 : List Cond := u_ws RX2 TX2 7
theorem nmX2 : ∀ a, a < 7 → ∀ b, b < 7 → a ≠ b → (TX2 a).2.1 ≠ (TX2 b).2.1 := by decide +kernel
theorem tyX2_ok : ∀ k, k < 7 → parseFieldDescriptor (TX2 k).2.2.1 = some (tyX2 k) := by decide +kernel
abbrev cX2_init : ByteArray := prog_4_method_1_code
def yX2_init : MethodName := ⟨RX2, "<init>", "()V"⟩
abbrev cX2_length : ByteArray := prog_4_method_2_code
def yX2_length : MethodName := ⟨RX2, "length", "()I"⟩
def RX3 : String := "PotteryNights$Pots"
def TX3 : u_T := fun k => match k with
  | 0 => ("PotteryNights$Pots", "pupils", "LPotteryNights$Row;", true)
  | 1 => ("PotteryNights$Pots", "sizes", "LPotteryNights$Row;", true)
  | 2 => ("PotteryNights$Pots", "faults", "LPotteryNights$Row;", true)
  | 3 => ("PotteryNights$Pots", "kinds", "LPotteryNights$Row;", true)
  | 4 => ("PotteryNights$Pots", "spots", "LPotteryNights$Row;", true)
  | 5 => ("PotteryNights$Pots", "nightsDried", "LPotteryNights$Row;", true)
  | 6 => ("PotteryNights$Pots", "glazes", "LPotteryNights$Row;", true)
  | 7 => ("PotteryNights$Pots", "firings", "LPotteryNights$Row;", true)
  | _ => ("PotteryNights$Pots", "soFar", "I", false)
def tyX3 : Nat → FieldType := fun k => match k with
  | 0 => .object "PotteryNights$Row"
  | 1 => .object "PotteryNights$Row"
  | 2 => .object "PotteryNights$Row"
  | 3 => .object "PotteryNights$Row"
  | 4 => .object "PotteryNights$Row"
  | 5 => .object "PotteryNights$Row"
  | 6 => .object "PotteryNights$Row"
  | 7 => .object "PotteryNights$Row"
  | _ => .int
noncomputable abbrev wsX30 : List Cond := u_ws RX3 TX3 9
theorem nmX3 : ∀ a, a < 9 → ∀ b, b < 9 → a ≠ b → (TX3 a).2.1 ≠ (TX3 b).2.1 := by decide +kernel
theorem tyX3_ok : ∀ k, k < 9 → parseFieldDescriptor (TX3 k).2.2.1 = some (tyX3 k) := by decide +kernel
abbrev cX3_init : ByteArray := prog_5_method_1_code
def yX3_init : MethodName := ⟨RX3, "<init>", "()V"⟩
abbrev cX3_copyFrom : ByteArray := prog_5_method_2_code
def yX3_copyFrom : MethodName := ⟨RX3, "copyFrom", "(LPotteryNights$Pots;)V"⟩
abbrev cX3_has : ByteArray := prog_5_method_3_code
def yX3_has : MethodName := ⟨RX3, "has", "(I)Z"⟩
abbrev cX3_isKind : ByteArray := prog_5_method_4_code
def yX3_isKind : MethodName := ⟨RX3, "isKind", "(II)Z"⟩
abbrev cX3_isOnRack : ByteArray := prog_5_method_5_code
def yX3_isOnRack : MethodName := ⟨RX3, "isOnRack", "(I)Z"⟩
abbrev cX3_isBesideKiln : ByteArray := prog_5_method_6_code
def yX3_isBesideKiln : MethodName := ⟨RX3, "isBesideKiln", "(I)Z"⟩
abbrev cX3_isInKiln : ByteArray := prog_5_method_7_code
def yX3_isInKiln : MethodName := ⟨RX3, "isInKiln", "(I)Z"⟩
abbrev cX3_addClay : ByteArray := prog_5_method_8_code
def yX3_addClay : MethodName := ⟨RX3, "addClay", "(III)I"⟩
abbrev cX3_putOnRack : ByteArray := prog_5_method_9_code
def yX3_putOnRack : MethodName := ⟨RX3, "putOnRack", "(I)V"⟩
abbrev cX3_placesTaken : ByteArray := prog_5_method_10_code
def yX3_placesTaken : MethodName := ⟨RX3, "placesTaken", "()I"⟩
abbrev cX3_freePlaces : ByteArray := prog_5_method_11_code
def yX3_freePlaces : MethodName := ⟨RX3, "freePlaces", "()I"⟩
abbrev cX3_onRacks : ByteArray := prog_5_method_12_code
def yX3_onRacks : MethodName := ⟨RX3, "onRacks", "()I"⟩
abbrev cX3_inKiln : ByteArray := prog_5_method_13_code
def yX3_inKiln : MethodName := ⟨RX3, "inKiln", "()I"⟩
abbrev cX3_thrownBy : ByteArray := prog_5_method_14_code
def yX3_thrownBy : MethodName := ⟨RX3, "thrownBy", "(I)I"⟩
abbrev cX3_ofKind : ByteArray := prog_5_method_15_code
def yX3_ofKind : MethodName := ⟨RX3, "ofKind", "(I)I"⟩
abbrev cX3_sizesInKiln : ByteArray := prog_5_method_16_code
def yX3_sizesInKiln : MethodName := ⟨RX3, "sizesInKiln", "()I"⟩
abbrev cX3_isKilnForOtherThan : ByteArray := prog_5_method_17_code
def yX3_isKilnForOtherThan : MethodName := ⟨RX3, "isKilnForOtherThan", "(I)Z"⟩
abbrev cX3_dryOneNight : ByteArray := prog_5_method_18_code
def yX3_dryOneNight : MethodName := ⟨RX3, "dryOneNight", "()V"⟩
abbrev cX3_heatOfGlazeOn : ByteArray := prog_5_method_19_code
def yX3_heatOfGlazeOn : MethodName := ⟨RX3, "heatOfGlazeOn", "(I)I"⟩
abbrev cX3_kindFired : ByteArray := prog_5_method_20_code
def yX3_kindFired : MethodName := ⟨RX3, "kindFired", "(III)I"⟩
def RX4 : String := "PotteryNights$Row"
def TX4 : u_T := fun k => match k with
  | _ => ("PotteryNights$Row", "cells", "[I", true)
def tyX4 : Nat → FieldType := fun k => match k with
  | _ => .array .int
noncomputable abbrev wsX40 : List Cond := u_ws RX4 TX4 1
theorem nmX4 : ∀ a, a < 1 → ∀ b, b < 1 → a ≠ b → (TX4 a).2.1 ≠ (TX4 b).2.1 := by decide +kernel
theorem tyX4_ok : ∀ k, k < 1 → parseFieldDescriptor (TX4 k).2.2.1 = some (tyX4 k) := by decide +kernel
abbrev cX4_init : ByteArray := prog_6_method_1_code
def yX4_init : MethodName := ⟨RX4, "<init>", "(I)V"⟩
abbrev cX4_at : ByteArray := prog_6_method_2_code
def yX4_at : MethodName := ⟨RX4, "at", "(I)I"⟩
abbrev cX4_write : ByteArray := prog_6_method_3_code
def yX4_write : MethodName := ⟨RX4, "write", "(II)V"⟩
abbrev cX4_add : ByteArray := prog_6_method_4_code
def yX4_add : MethodName := ⟨RX4, "add", "(II)V"⟩
abbrev cX4_indexesOf : ByteArray := prog_6_method_5_code
def yX4_indexesOf : MethodName := ⟨RX4, "indexesOf", "(II)I"⟩
abbrev cX4_sum : ByteArray := prog_6_method_6_code
def yX4_sum : MethodName := ⟨RX4, "sum", "()I"⟩
abbrev cX4_copyFrom : ByteArray := prog_6_method_7_code
def yX4_copyFrom : MethodName := ⟨RX4, "copyFrom", "(LPotteryNights$Row;)V"⟩
def RX5 : String := "PotteryNights$Workshop"
def TX5 : u_T := fun k => match k with
  | 0 => ("PotteryNights$Workshop", "settings", "LPotteryNights$Row;", true)
  | 1 => ("PotteryNights$Workshop", "calendar", "LPotteryNights$Calendar;", true)
  | 2 => ("PotteryNights$Workshop", "pots", "LPotteryNights$Pots;", true)
  | 3 => ("PotteryNights$Workshop", "glazeParts", "LPotteryNights$Row;", true)
  | 4 => ("PotteryNights$Workshop", "feesPaid", "LPotteryNights$Row;", true)
  | 5 => ("PotteryNights$Workshop", "pupils", "I", false)
  | 6 => ("PotteryNights$Workshop", "faultDraw", "I", false)
  | _ => ("PotteryNights$Workshop", "firings", "I", false)
def tyX5 : Nat → FieldType := fun k => match k with
  | 0 => .object "PotteryNights$Row"
  | 1 => .object "PotteryNights$Calendar"
  | 2 => .object "PotteryNights$Pots"
  | 3 => .object "PotteryNights$Row"
  | 4 => .object "PotteryNights$Row"
  | 5 => .int
  | 6 => .int
  | _ => .int
noncomputable abbrev wsX50 : List Cond := u_ws RX5 TX5 8
theorem nmX5 : ∀ a, a < 8 → ∀ b, b < 8 → a ≠ b → (TX5 a).2.1 ≠ (TX5 b).2.1 := by decide +kernel
theorem tyX5_ok : ∀ k, k < 8 → parseFieldDescriptor (TX5 k).2.2.1 = some (tyX5 k) := by decide +kernel
abbrev cX5_init : ByteArray := prog_7_method_1_code
def yX5_init : MethodName := ⟨RX5, "<init>", "()V"⟩
abbrev cX5_copyFrom : ByteArray := prog_7_method_2_code
def yX5_copyFrom : MethodName := ⟨RX5, "copyFrom", "(LPotteryNights$Workshop;)V"⟩
abbrev cX5_hasPupil : ByteArray := prog_7_method_4_code
def yX5_hasPupil : MethodName := ⟨RX5, "hasPupil", "(I)Z"⟩
abbrev cX5_isInRange : ByteArray := prog_7_method_5_code
def yX5_isInRange : MethodName := ⟨RX5, "isInRange", "(II)Z"⟩
abbrev cX5_changeSetting : ByteArray := prog_7_method_6_code
def yX5_changeSetting : MethodName := ⟨RX5, "changeSetting", "(II)I"⟩
abbrev cX5_admitPupil : ByteArray := prog_7_method_7_code
def yX5_admitPupil : MethodName := ⟨RX5, "admitPupil", "()I"⟩
abbrev cX5_bookWheel : ByteArray := prog_7_method_8_code
def yX5_bookWheel : MethodName := ⟨RX5, "bookWheel", "(III)I"⟩
abbrev cX5_cancelBooking : ByteArray := prog_7_method_9_code
def yX5_cancelBooking : MethodName := ⟨RX5, "cancelBooking", "(II)I"⟩
abbrev cX5_bookerOf : ByteArray := prog_7_method_10_code
def yX5_bookerOf : MethodName := ⟨RX5, "bookerOf", "(II)I"⟩
abbrev cX5_firstFreeNight : ByteArray := prog_7_method_11_code
def yX5_firstFreeNight : MethodName := ⟨RX5, "firstFreeNight", "(II)I"⟩
abbrev cX5_passNights : ByteArray := prog_7_method_12_code
def yX5_passNights : MethodName := ⟨RX5, "passNights", "(I)I"⟩
abbrev cX5_throwClay : ByteArray := prog_7_method_13_code
def yX5_throwClay : MethodName := ⟨RX5, "throwClay", "(II)I"⟩
abbrev cX5_drawFault : ByteArray := prog_7_method_14_code
def yX5_drawFault : MethodName := ⟨RX5, "drawFault", "()I"⟩
abbrev cX5_glazePot : ByteArray := prog_7_method_15_code
def yX5_glazePot : MethodName := ⟨RX5, "glazePot", "(II)I"⟩
abbrev cX5_fillGlaze : ByteArray := prog_7_method_16_code
def yX5_fillGlaze : MethodName := ⟨RX5, "fillGlaze", "(II)I"⟩
abbrev cX5_handOver : ByteArray := prog_7_method_17_code
def yX5_handOver : MethodName := ⟨RX5, "handOver", "(I)I"⟩
abbrev cX5_nightsLacking : ByteArray := prog_7_method_18_code
def yX5_nightsLacking : MethodName := ⟨RX5, "nightsLacking", "(I)I"⟩
abbrev cX5_nightsUntilDry : ByteArray := prog_7_method_19_code
def yX5_nightsUntilDry : MethodName := ⟨RX5, "nightsUntilDry", "(I)I"⟩
abbrev cX5_reasonAgainstLoading : ByteArray := prog_7_method_20_code
def yX5_reasonAgainstLoading : MethodName := ⟨RX5, "reasonAgainstLoading", "(I)I"⟩
abbrev cX5_loadable : ByteArray := prog_7_method_21_code
def yX5_loadable : MethodName := ⟨RX5, "loadable", "()I"⟩
abbrev cX5_moveIntoKiln : ByteArray := prog_7_method_22_code
def yX5_moveIntoKiln : MethodName := ⟨RX5, "moveIntoKiln", "(I)I"⟩
abbrev cX5_moveOutOfKiln : ByteArray := prog_7_method_23_code
def yX5_moveOutOfKiln : MethodName := ⟨RX5, "moveOutOfKiln", "(I)I"⟩
abbrev cX5_firedTo : ByteArray := prog_7_method_24_code
def yX5_firedTo : MethodName := ⟨RX5, "firedTo", "(II)I"⟩
abbrev cX5_fireKiln : ByteArray := prog_7_method_25_code
def yX5_fireKiln : MethodName := ⟨RX5, "fireKiln", "(I)I"⟩
abbrev cX5_firePot : ByteArray := prog_7_method_26_code
def yX5_firePot : MethodName := ⟨RX5, "firePot", "(II)V"⟩
abbrev cX5_outcomeOfFiring : ByteArray := prog_7_method_27_code
def yX5_outcomeOfFiring : MethodName := ⟨RX5, "outcomeOfFiring", "(II)I"⟩
abbrev cX5_scoreOf : ByteArray := prog_7_method_28_code
def yX5_scoreOf : MethodName := ⟨RX5, "scoreOf", "(I)I"⟩
abbrev cX5_heatForMostPots : ByteArray := prog_7_method_29_code
def yX5_heatForMostPots : MethodName := ⟨RX5, "heatForMostPots", "()I"⟩
abbrev cX5_factOfPot : ByteArray := prog_7_method_30_code
def yX5_factOfPot : MethodName := ⟨RX5, "factOfPot", "(II)I"⟩
abbrev cX5_factOfPupil : ByteArray := prog_7_method_31_code
def yX5_factOfPupil : MethodName := ⟨RX5, "factOfPupil", "(II)I"⟩
abbrev cX5_figure : ByteArray := prog_7_method_32_code
def yX5_figure : MethodName := ⟨RX5, "figure", "(I)I"⟩
def RX6 : String := "PotteryNights"
def TX6 : u_T := fun k => match k with
  | 0 => ("PotteryNights", "now", "LPotteryNights$Workshop;", true)
  | 1 => ("PotteryNights", "history", "LPotteryNights$History;", true)
  | 2 => ("PotteryNights", "slots", "[LPotteryNights$Workshop;", true)
  | _ => ("PotteryNights", "pad", "LPotteryNights$Pad;", true)
def tyX6 : Nat → FieldType := fun k => match k with
  | 0 => .object "PotteryNights$Workshop"
  | 1 => .object "PotteryNights$History"
  | 2 => .array (.object "PotteryNights$Workshop")
  | _ => .object "PotteryNights$Pad"
noncomputable abbrev wsX60 : List Cond := u_ws RX6 TX6 4
theorem nmX6 : ∀ a, a < 4 → ∀ b, b < 4 → a ≠ b → (TX6 a).2.1 ≠ (TX6 b).2.1 := by decide +kernel
theorem tyX6_ok : ∀ k, k < 4 → parseFieldDescriptor (TX6 k).2.2.1 = some (tyX6 k) := by decide +kernel
abbrev cX6_init : ByteArray := prog_1_method_1_code
def yX6_init : MethodName := ⟨RX6, "<init>", "()V"⟩
abbrev cX6_set : ByteArray := prog_1_method_2_code
def yX6_set : MethodName := ⟨RX6, "set", "(II)I"⟩
abbrev cX6_pupil : ByteArray := prog_1_method_3_code
def yX6_pupil : MethodName := ⟨RX6, "pupil", "()I"⟩
abbrev cX6_book : ByteArray := prog_1_method_4_code
def yX6_book : MethodName := ⟨RX6, "book", "(III)I"⟩
abbrev cX6_giveBack : ByteArray := prog_1_method_5_code
def yX6_giveBack : MethodName := ⟨RX6, "giveBack", "(II)I"⟩
abbrev cX6_throwPot : ByteArray := prog_1_method_6_code
def yX6_throwPot : MethodName := ⟨RX6, "throwPot", "(II)I"⟩
abbrev cX6_load : ByteArray := prog_1_method_7_code
def yX6_load : MethodName := ⟨RX6, "load", "(I)I"⟩
abbrev cX6_unload : ByteArray := prog_1_method_8_code
def yX6_unload : MethodName := ⟨RX6, "unload", "(I)I"⟩
abbrev cX6_fire : ByteArray := prog_1_method_9_code
def yX6_fire : MethodName := ⟨RX6, "fire", "(I)I"⟩
abbrev cX6_glaze : ByteArray := prog_1_method_10_code
def yX6_glaze : MethodName := ⟨RX6, "glaze", "(II)I"⟩
abbrev cX6_fill : ByteArray := prog_1_method_11_code
def yX6_fill : MethodName := ⟨RX6, "fill", "(II)I"⟩
abbrev cX6_takeHome : ByteArray := prog_1_method_12_code
def yX6_takeHome : MethodName := ⟨RX6, "takeHome", "(I)I"⟩
abbrev cX6_pass : ByteArray := prog_1_method_13_code
def yX6_pass : MethodName := ⟨RX6, "pass", "(I)I"⟩
abbrev cX6_of : ByteArray := prog_1_method_14_code
def yX6_of : MethodName := ⟨RX6, "of", "(II)I"⟩
abbrev cX6_ofPupil : ByteArray := prog_1_method_15_code
def yX6_ofPupil : MethodName := ⟨RX6, "ofPupil", "(II)I"⟩
abbrev cX6_booked : ByteArray := prog_1_method_16_code
def yX6_booked : MethodName := ⟨RX6, "booked", "(II)I"⟩
abbrev cX6_count : ByteArray := prog_1_method_17_code
def yX6_count : MethodName := ⟨RX6, "count", "(I)I"⟩
abbrev cX6_why : ByteArray := prog_1_method_18_code
def yX6_why : MethodName := ⟨RX6, "why", "(I)I"⟩
abbrev cX6_dryIn : ByteArray := prog_1_method_19_code
def yX6_dryIn : MethodName := ⟨RX6, "dryIn", "(I)I"⟩
abbrev cX6_ifFired : ByteArray := prog_1_method_20_code
def yX6_ifFired : MethodName := ⟨RX6, "ifFired", "(II)I"⟩
abbrev cX6_bestHeat : ByteArray := prog_1_method_21_code
def yX6_bestHeat : MethodName := ⟨RX6, "bestHeat", "()I"⟩
abbrev cX6_firstFree : ByteArray := prog_1_method_22_code
def yX6_firstFree : MethodName := ⟨RX6, "firstFree", "(II)I"⟩
abbrev cX6_isWithin : ByteArray := prog_1_method_31_code
def yX6_isWithin : MethodName := ⟨RX6, "isWithin", "(III)Z"⟩
abbrev cX6_isAhead : ByteArray := prog_1_method_32_code
def yX6_isAhead : MethodName := ⟨RX6, "isAhead", "(I)Z"⟩
abbrev cX6_isHeat : ByteArray := prog_1_method_33_code
def yX6_isHeat : MethodName := ⟨RX6, "isHeat", "(I)Z"⟩
abbrev cX6_isWheel : ByteArray := prog_1_method_34_code
def yX6_isWheel : MethodName := ⟨RX6, "isWheel", "(I)Z"⟩
abbrev cX6_isGlaze : ByteArray := prog_1_method_35_code
def yX6_isGlaze : MethodName := ⟨RX6, "isGlaze", "(I)Z"⟩
def RX7 : String := "PotteryNightsModel"
def TX7 : u_T := fun k => match k with
  | _ => ("", "", "", false)
def tyX7 : Nat → FieldType := fun k => match k with
  | _ => .int
noncomputable abbrev wsX70 : List Cond := u_ws RX7 TX7 0
theorem nmX7 : ∀ a, a < 0 → ∀ b, b < 0 → a ≠ b → (TX7 a).2.1 ≠ (TX7 b).2.1 := by decide +kernel
theorem tyX7_ok : ∀ k, k < 0 → parseFieldDescriptor (TX7 k).2.2.1 = some (tyX7 k) := by decide +kernel
def RJ6 : String := "java/lang/Integer"
def TJ6 : u_T := fun k => match k with
  | _ => ("", "", "", false)
def tyJ6 : Nat → FieldType := fun k => match k with
  | _ => .int
noncomputable abbrev wsJ60 : List Cond := u_ws RJ6 TJ6 0
theorem nmJ6 : ∀ a, a < 0 → ∀ b, b < 0 → a ≠ b → (TJ6 a).2.1 ≠ (TJ6 b).2.1 := by decide +kernel
theorem tyJ6_ok : ∀ k, k < 0 → parseFieldDescriptor (TJ6 k).2.2.1 = some (tyJ6 k) := by decide +kernel
abbrev cJ6_bitCount_0f7a4 : ByteArray := prog_10_method_49_code
def yJ6_bitCount_0f7a4 : MethodName := ⟨RJ6, "bitCount", "(I)I"⟩
def RJ9 : String := "java/lang/Math"
def TJ9 : u_T := fun k => match k with
  | _ => ("", "", "", false)
def tyJ9 : Nat → FieldType := fun k => match k with
  | _ => .int
noncomputable abbrev wsJ90 : List Cond := u_ws RJ9 TJ9 0
theorem nmJ9 : ∀ a, a < 0 → ∀ b, b < 0 → a ≠ b → (TJ9 a).2.1 ≠ (TJ9 b).2.1 := by decide +kernel
theorem tyJ9_ok : ∀ k, k < 0 → parseFieldDescriptor (TJ9 k).2.2.1 = some (tyJ9 k) := by decide +kernel
abbrev cJ9_max_7cf53 : ByteArray := prog_11_method_65_code
def yJ9_max_7cf53 : MethodName := ⟨RJ9, "max", "(II)I"⟩
abbrev cJ9_min_7cf53 : ByteArray := prog_11_method_69_code
def yJ9_min_7cf53 : MethodName := ⟨RJ9, "min", "(II)I"⟩
def RJ10 : String := "java/lang/System"
def TJ10 : u_T := fun k => match k with
  | _ => ("", "", "", false)
def tyJ10 : Nat → FieldType := fun k => match k with
  | _ => .int
noncomputable abbrev wsJ100 : List Cond := u_ws RJ10 TJ10 0
theorem nmJ10 : ∀ a, a < 0 → ∀ b, b < 0 → a ≠ b → (TJ10 a).2.1 ≠ (TJ10 b).2.1 := by decide +kernel
theorem tyJ10_ok : ∀ k, k < 0 → parseFieldDescriptor (TJ10 k).2.2.1 = some (tyJ10 k) := by decide +kernel
def RL : String := "PotteryNightsLaw"
abbrev cL_cell : ByteArray := method_2_code
def yL_cell : MethodName := ⟨RL, "cell", "([II)I"⟩
abbrev cL_low : ByteArray := method_3_code
def yL_low : MethodName := ⟨RL, "low", "(II)I"⟩
abbrev cL_part : ByteArray := method_4_code
def yL_part : MethodName := ⟨RL, "part", "(JI)I"⟩
abbrev cL_with : ByteArray := method_5_code
def yL_with : MethodName := ⟨RL, "with", "(JII)J"⟩
abbrev cL_free : ByteArray := method_6_code
def yL_free : MethodName := ⟨RL, "free", "([I[J)I"⟩
abbrev cL_inKiln : ByteArray := method_7_code
def yL_inKiln : MethodName := ⟨RL, "inKiln", "([I[J)I"⟩
abbrev cL_why : ByteArray := method_8_code
def yL_why : MethodName := ⟨RL, "why", "(I[I[J)I"⟩
abbrev cL_then : ByteArray := method_9_code
def yL_then : MethodName := ⟨RL, "then", "(JI[I)I"⟩
abbrev cL_wheel : ByteArray := method_10_code
def yL_wheel : MethodName := ⟨RL, "wheel", "(II[I)I"⟩
abbrev cL_class1 : ByteArray := method_11_code
def yL_class1 : MethodName := ⟨RL, "class1", "(LPotteryNights;II[I[J[I[I)Z"⟩
abbrev cL_pots : ByteArray := method_12_code
def yL_pots : MethodName := ⟨RL, "pots", "(LPotteryNights;II[I[J[I)Z"⟩
abbrev cL_others : ByteArray := method_13_code
def yL_others : MethodName := ⟨RL, "others", "(LPotteryNights;II[I[J[I[I)Z"⟩
abbrev cL_isPot : ByteArray := method_14_code
def yL_isPot : MethodName := ⟨RL, "isPot", "(LPotteryNights;I[I[J)Z"⟩
abbrev cL_arePupils : ByteArray := method_15_code
def yL_arePupils : MethodName := ⟨RL, "arePupils", "(LPotteryNights;[I[J[I[I)Z"⟩
abbrev cL_isSo : ByteArray := method_16_code
def yL_isSo : MethodName := ⟨RL, "isSo", "(LPotteryNights;[I[J[I[I)Z"⟩
abbrev cL_areFirings : ByteArray := method_17_code
def yL_areFirings : MethodName := ⟨RL, "areFirings", "(LPotteryNights;[I[J)Z"⟩
abbrev cL_law : ByteArray := code
def yL_law : MethodName := ⟨RL, "law", "([I)Z"⟩
