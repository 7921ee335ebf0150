def RX0 : String := "TapCap$Cards"
def TX0 : u_T := fun k => match k with
  | 0 => ("TapCap$Cards", "purse", "LTapCap$Row;", true)
  | 1 => ("TapCap$Cards", "personOf", "LTapCap$Row;", true)
  | 2 => ("TapCap$Cards", "lost", "LTapCap$Row;", true)
  | 3 => ("TapCap$Cards", "charged", "LTapCap$Row;", true)
  | 4 => ("TapCap$Cards", "asked", "LTapCap$Row;", true)
  | _ => ("TapCap$Cards", "count", "I", false)
def tyX0 : Nat → FieldType := fun k => match k with
  | 0 => .object "TapCap$Row"
  | 1 => .object "TapCap$Row"
  | 2 => .object "TapCap$Row"
  | 3 => .object "TapCap$Row"
  | 4 => .object "TapCap$Row"
  | _ => .int
abbrev wsX00 : List Cond := u_ws RX0 TX0 6
theorem nmX0 : ∀ a, a < 6 → ∀ b, b < 6 → a ≠ b → (TX0 a).2.1 ≠ (TX0 b).2.1 := by decide +kernel
theorem tyX0_ok : ∀ k, k < 6 → parseFieldDescriptor (TX0 k).2.2.1 = some (tyX0 k) := by decide +kernel
abbrev cX0_init : ByteArray := prog_2_method_1_code
def yX0_init : MethodName := ⟨RX0, "<init>", "()V"⟩
abbrev cX0_give : ByteArray := prog_2_method_2_code
def yX0_give : MethodName := ⟨RX0, "give", "()I"⟩
abbrev cX0_isPerson : ByteArray := prog_2_method_3_code
def yX0_isPerson : MethodName := ⟨RX0, "isPerson", "(I)Z"⟩
abbrev cX0_isLost : ByteArray := prog_2_method_4_code
def yX0_isLost : MethodName := ⟨RX0, "isLost", "(I)Z"⟩
abbrev cX0_charge : ByteArray := prog_2_method_6_code
def yX0_charge : MethodName := ⟨RX0, "charge", "(III)V"⟩
def RX1 : String := "TapCap$Costs"
def TX1 : u_T := fun k => match k with
  | 0 => ("TapCap$Costs", "dayChoice", "LTapCap$Row;", true)
  | 1 => ("TapCap$Costs", "weekChoice", "LTapCap$Row;", true)
  | 2 => ("TapCap$Costs", "beside", "LTapCap$Row;", true)
  | _ => ("TapCap$Costs", "weekTickets", "LTapCap$Row;", true)
def tyX1 : Nat → FieldType := fun k => match k with
  | 0 => .object "TapCap$Row"
  | 1 => .object "TapCap$Row"
  | 2 => .object "TapCap$Row"
  | _ => .object "TapCap$Row"
abbrev wsX10 : List Cond := u_ws RX1 TX1 4
theorem nmX1 : ∀ a, a < 4 → ∀ b, b < 4 → a ≠ b → (TX1 a).2.1 ≠ (TX1 b).2.1 := by decide +kernel
theorem tyX1_ok : ∀ k, k < 4 → parseFieldDescriptor (TX1 k).2.2.1 = some (tyX1 k) := by decide +kernel
abbrev cX1_init : ByteArray := prog_3_method_1_code
def yX1_init : MethodName := ⟨RX1, "<init>", "()V"⟩
abbrev cX1_read : ByteArray := prog_3_method_2_code
def yX1_read : MethodName := ⟨RX1, "read", "(LTapCap$Journeys;LTapCap$Tariffs;)V"⟩
abbrev cX1_readDay : ByteArray := prog_3_method_3_code
def yX1_readDay : MethodName := ⟨RX1, "readDay", "(ILTapCap$Journeys;LTapCap$Tariffs;)V"⟩
abbrev cX1_byItself : ByteArray := prog_3_method_4_code
def yX1_byItself : MethodName := ⟨RX1, "byItself", "(I)I"⟩
abbrev cX1_withinWeek : ByteArray := prog_3_method_5_code
def yX1_withinWeek : MethodName := ⟨RX1, "withinWeek", "(I)I"⟩
abbrev cX1_ofWholeWeek : ByteArray := prog_3_method_6_code
def yX1_ofWholeWeek : MethodName := ⟨RX1, "ofWholeWeek", "(I)I"⟩
abbrev cX1_ofDaysByThemselves : ByteArray := prog_3_method_7_code
def yX1_ofDaysByThemselves : MethodName := ⟨RX1, "ofDaysByThemselves", "(I)I"⟩
abbrev cX1_leastUpTo : ByteArray := prog_3_method_8_code
def yX1_leastUpTo : MethodName := ⟨RX1, "leastUpTo", "(II)I"⟩
abbrev cX1_lastDayOf : ByteArray := prog_3_method_9_code
def yX1_lastDayOf : MethodName := ⟨RX1, "lastDayOf", "(I)I"⟩
abbrev cX1_choiceUpTo : ByteArray := prog_3_method_10_code
def yX1_choiceUpTo : MethodName := ⟨RX1, "choiceUpTo", "(II)I"⟩
abbrev cX1_upTo : ByteArray := prog_3_method_11_code
def yX1_upTo : MethodName := ⟨RX1, "upTo", "(III)I"⟩
def RX2 : String := "TapCap$Journeys"
def TX2 : u_T := fun k => match k with
  | 0 => ("TapCap$Journeys", "legCount", "LTapCap$Row;", true)
  | 1 => ("TapCap$Journeys", "top", "LTapCap$Row;", true)
  | 2 => ("TapCap$Journeys", "fare", "LTapCap$Row;", true)
  | 3 => ("TapCap$Journeys", "indexOfLeg", "LTapCap$Row;", true)
  | 4 => ("TapCap$Journeys", "firstOn", "LTapCap$Row;", true)
  | 5 => ("TapCap$Journeys", "countOn", "LTapCap$Row;", true)
  | 6 => ("TapCap$Journeys", "dayOf", "LTapCap$Row;", true)
  | 7 => ("TapCap$Journeys", "firstLeg", "LTapCap$Row;", true)
  | 8 => ("TapCap$Journeys", "bottom", "LTapCap$Row;", true)
  | _ => ("TapCap$Journeys", "count", "I", false)
def tyX2 : Nat → FieldType := fun k => match k with
  | 0 => .object "TapCap$Row"
  | 1 => .object "TapCap$Row"
  | 2 => .object "TapCap$Row"
  | 3 => .object "TapCap$Row"
  | 4 => .object "TapCap$Row"
  | 5 => .object "TapCap$Row"
  | 6 => .object "TapCap$Row"
  | 7 => .object "TapCap$Row"
  | 8 => .object "TapCap$Row"
  | _ => .int
abbrev wsX20 : List Cond := u_ws RX2 TX2 10
theorem nmX2 : ∀ a, a < 10 → ∀ b, b < 10 → a ≠ b → (TX2 a).2.1 ≠ (TX2 b).2.1 := by decide +kernel
theorem tyX2_ok : ∀ k, k < 10 → parseFieldDescriptor (TX2 k).2.2.1 = some (tyX2 k) := by decide +kernel
abbrev cX2_init : ByteArray := prog_4_method_1_code
def yX2_init : MethodName := ⟨RX2, "<init>", "()V"⟩
abbrev cX2_read : ByteArray := prog_4_method_2_code
def yX2_read : MethodName := ⟨RX2, "read", "(LTapCap$Legs;LTapCap$Region;LTapCap$Tariffs;)V"⟩
abbrev cX2_open : ByteArray := prog_4_method_3_code
def yX2_open : MethodName := ⟨RX2, "open", "(II)V"⟩
abbrev cX2_touch : ByteArray := prog_4_method_4_code
def yX2_touch : MethodName := ⟨RX2, "touch", "(I)V"⟩
abbrev cX2_zonesTouched : ByteArray := prog_4_method_5_code
def yX2_zonesTouched : MethodName := ⟨RX2, "zonesTouched", "(I)I"⟩
abbrev cX2_fares : ByteArray := prog_4_method_6_code
def yX2_fares : MethodName := ⟨RX2, "fares", "(II)I"⟩
abbrev cX2_legsOfCarrier : ByteArray := prog_4_method_8_code
def yX2_legsOfCarrier : MethodName := ⟨RX2, "legsOfCarrier", "(ILTapCap$Legs;LTapCap$Region;I)I"⟩
def RX3 : String := "TapCap$Legs"
def TX3 : u_T := fun k => match k with
  | 0 => ("TapCap$Legs", "dayOf", "LTapCap$Row;", true)
  | 1 => ("TapCap$Legs", "from", "LTapCap$Row;", true)
  | 2 => ("TapCap$Legs", "to", "LTapCap$Row;", true)
  | 3 => ("TapCap$Legs", "begin", "LTapCap$Row;", true)
  | 4 => ("TapCap$Legs", "end", "LTapCap$Row;", true)
  | 5 => ("TapCap$Legs", "lineOf", "LTapCap$Row;", true)
  | 6 => ("TapCap$Legs", "guessed", "LTapCap$Row;", true)
  | 7 => ("TapCap$Legs", "firstOn", "LTapCap$Row;", true)
  | 8 => ("TapCap$Legs", "countOn", "LTapCap$Row;", true)
  | 9 => ("TapCap$Legs", "tapsOn", "LTapCap$Row;", true)
  | 10 => ("TapCap$Legs", "count", "I", false)
  | 11 => ("TapCap$Legs", "order", "LTapCap$Row;", true)
  | 12 => ("TapCap$Legs", "moments", "LTapCap$Row;", true)
  | 13 => ("TapCap$Legs", "votes", "LTapCap$Row;", true)
  | _ => ("TapCap$Legs", "ordered", "I", false)
def tyX3 : Nat → FieldType := fun k => match k with
  | 0 => .object "TapCap$Row"
  | 1 => .object "TapCap$Row"
  | 2 => .object "TapCap$Row"
  | 3 => .object "TapCap$Row"
  | 4 => .object "TapCap$Row"
  | 5 => .object "TapCap$Row"
  | 6 => .object "TapCap$Row"
  | 7 => .object "TapCap$Row"
  | 8 => .object "TapCap$Row"
  | 9 => .object "TapCap$Row"
  | 10 => .int
  | 11 => .object "TapCap$Row"
  | 12 => .object "TapCap$Row"
  | 13 => .object "TapCap$Row"
  | _ => .int
abbrev wsX30 : List Cond := u_ws RX3 TX3 15
theorem nmX3 : ∀ a, a < 15 → ∀ b, b < 15 → a ≠ b → (TX3 a).2.1 ≠ (TX3 b).2.1 := by decide +kernel
theorem tyX3_ok : ∀ k, k < 15 → parseFieldDescriptor (TX3 k).2.2.1 = some (tyX3 k) := by decide +kernel
abbrev cX3_init : ByteArray := prog_5_method_1_code
def yX3_init : MethodName := ⟨RX3, "<init>", "()V"⟩
abbrev cX3_read : ByteArray := prog_5_method_2_code
def yX3_read : MethodName := ⟨RX3, "read", "(LTapCap$Taps;ILTapCap$Cards;II)V"⟩
abbrev cX3_insert : ByteArray := prog_5_method_3_code
def yX3_insert : MethodName := ⟨RX3, "insert", "(III)V"⟩
abbrev cX3_takeIn : ByteArray := prog_5_method_4_code
def yX3_takeIn : MethodName := ⟨RX3, "takeIn", "(LTapCap$Taps;I)V"⟩
abbrev cX3_takeOut : ByteArray := prog_5_method_5_code
def yX3_takeOut : MethodName := ⟨RX3, "takeOut", "(LTapCap$Taps;I)V"⟩
abbrev cX3_isOpenOn : ByteArray := prog_5_method_6_code
def yX3_isOpenOn : MethodName := ⟨RX3, "isOpenOn", "(I)Z"⟩
abbrev cX3_add : ByteArray := prog_5_method_7_code
def yX3_add : MethodName := ⟨RX3, "add", "(IIIII)V"⟩
abbrev cX3_fillGuesses : ByteArray := prog_5_method_8_code
def yX3_fillGuesses : MethodName := ⟨RX3, "fillGuesses", "()V"⟩
abbrev cX3_likeliest : ByteArray := prog_5_method_9_code
def yX3_likeliest : MethodName := ⟨RX3, "likeliest", "(IIZ)I"⟩
abbrev cX3_guessesOn : ByteArray := prog_5_method_10_code
def yX3_guessesOn : MethodName := ⟨RX3, "guessesOn", "(I)I"⟩
def RX4 : String := "TapCap$Region"
def TX4 : u_T := fun k => match k with
  | 0 => ("TapCap$Region", "zoneOf", "LTapCap$Row;", true)
  | 1 => ("TapCap$Region", "carrierOf", "LTapCap$Row;", true)
  | _ => ("TapCap$Region", "lateBy", "LTapCap$Row;", true)
def tyX4 : Nat → FieldType := fun k => match k with
  | 0 => .object "TapCap$Row"
  | 1 => .object "TapCap$Row"
  | _ => .object "TapCap$Row"
abbrev wsX40 : List Cond := u_ws RX4 TX4 3
theorem nmX4 : ∀ a, a < 3 → ∀ b, b < 3 → a ≠ b → (TX4 a).2.1 ≠ (TX4 b).2.1 := by decide +kernel
theorem tyX4_ok : ∀ k, k < 3 → parseFieldDescriptor (TX4 k).2.2.1 = some (tyX4 k) := by decide +kernel
abbrev cX4_init : ByteArray := prog_6_method_1_code
def yX4_init : MethodName := ⟨RX4, "<init>", "()V"⟩
def RX5 : String := "TapCap$Row"
def TX5 : u_T := fun k => match k with
  | _ => ("TapCap$Row", "cells", "[I", true)
def tyX5 : Nat → FieldType := fun k => match k with
  | _ => .array .int
abbrev wsX50 : List Cond := u_ws RX5 TX5 1
theorem nmX5 : ∀ a, a < 1 → ∀ b, b < 1 → a ≠ b → (TX5 a).2.1 ≠ (TX5 b).2.1 := by decide +kernel
theorem tyX5_ok : ∀ k, k < 1 → parseFieldDescriptor (TX5 k).2.2.1 = some (tyX5 k) := by decide +kernel
abbrev cX5_init : ByteArray := prog_7_method_1_code
def yX5_init : MethodName := ⟨RX5, "<init>", "(I)V"⟩
abbrev cX5_at : ByteArray := prog_7_method_2_code
def yX5_at : MethodName := ⟨RX5, "at", "(I)I"⟩
abbrev cX5_put : ByteArray := prog_7_method_3_code
def yX5_put : MethodName := ⟨RX5, "put", "(II)V"⟩
abbrev cX5_add : ByteArray := prog_7_method_4_code
def yX5_add : MethodName := ⟨RX5, "add", "(II)V"⟩
abbrev cX5_fill : ByteArray := prog_7_method_5_code
def yX5_fill : MethodName := ⟨RX5, "fill", "(I)V"⟩
abbrev cX5_sum : ByteArray := prog_7_method_6_code
def yX5_sum : MethodName := ⟨RX5, "sum", "()I"⟩
def RX6 : String := "TapCap$Taps"
def TX6 : u_T := fun k => match k with
  | 0 => ("TapCap$Taps", "card", "LTapCap$Row;", true)
  | 1 => ("TapCap$Taps", "stop", "LTapCap$Row;", true)
  | 2 => ("TapCap$Taps", "line", "LTapCap$Row;", true)
  | 3 => ("TapCap$Taps", "in", "LTapCap$Row;", true)
  | 4 => ("TapCap$Taps", "day", "LTapCap$Row;", true)
  | 5 => ("TapCap$Taps", "minute", "LTapCap$Row;", true)
  | 6 => ("TapCap$Taps", "count", "I", false)
  | 7 => ("TapCap$Taps", "denied", "I", false)
  | _ => ("TapCap$Taps", "doubled", "I", false)
def tyX6 : Nat → FieldType := fun k => match k with
  | 0 => .object "TapCap$Row"
  | 1 => .object "TapCap$Row"
  | 2 => .object "TapCap$Row"
  | 3 => .object "TapCap$Row"
  | 4 => .object "TapCap$Row"
  | 5 => .object "TapCap$Row"
  | 6 => .int
  | 7 => .int
  | _ => .int
abbrev wsX60 : List Cond := u_ws RX6 TX6 9
theorem nmX6 : ∀ a, a < 9 → ∀ b, b < 9 → a ≠ b → (TX6 a).2.1 ≠ (TX6 b).2.1 := by decide +kernel
theorem tyX6_ok : ∀ k, k < 9 → parseFieldDescriptor (TX6 k).2.2.1 = some (tyX6 k) := by decide +kernel
abbrev cX6_init : ByteArray := prog_8_method_1_code
def yX6_init : MethodName := ⟨RX6, "<init>", "()V"⟩
abbrev cX6_write : ByteArray := prog_8_method_2_code
def yX6_write : MethodName := ⟨RX6, "write", "(IIIIZII)V"⟩
abbrev cX6_isRepeated : ByteArray := prog_8_method_3_code
def yX6_isRepeated : MethodName := ⟨RX6, "isRepeated", "(I)Z"⟩
abbrev cX6_isSame : ByteArray := prog_8_method_4_code
def yX6_isSame : MethodName := ⟨RX6, "isSame", "(II)Z"⟩
abbrev cX6_countOf : ByteArray := prog_8_method_5_code
def yX6_countOf : MethodName := ⟨RX6, "countOf", "(I)I"⟩
def RX7 : String := "TapCap$Tariffs"
def TX7 : u_T := fun k => match k with
  | 0 => ("TapCap$Tariffs", "since", "LTapCap$Row;", true)
  | 1 => ("TapCap$Tariffs", "base", "LTapCap$Row;", true)
  | 2 => ("TapCap$Tariffs", "step", "LTapCap$Row;", true)
  | 3 => ("TapCap$Tariffs", "ticket", "LTapCap$Row;", true)
  | 4 => ("TapCap$Tariffs", "weekly", "LTapCap$Row;", true)
  | _ => ("TapCap$Tariffs", "count", "I", false)
def tyX7 : Nat → FieldType := fun k => match k with
  | 0 => .object "TapCap$Row"
  | 1 => .object "TapCap$Row"
  | 2 => .object "TapCap$Row"
  | 3 => .object "TapCap$Row"
  | 4 => .object "TapCap$Row"
  | _ => .int
abbrev wsX70 : List Cond := u_ws RX7 TX7 6
theorem nmX7 : ∀ a, a < 6 → ∀ b, b < 6 → a ≠ b → (TX7 a).2.1 ≠ (TX7 b).2.1 := by decide +kernel
theorem tyX7_ok : ∀ k, k < 6 → parseFieldDescriptor (TX7 k).2.2.1 = some (tyX7 k) := by decide +kernel
abbrev cX7_init : ByteArray := prog_9_method_1_code
def yX7_init : MethodName := ⟨RX7, "<init>", "()V"⟩
abbrev cX7_add : ByteArray := prog_9_method_2_code
def yX7_add : MethodName := ⟨RX7, "add", "(IIIII)V"⟩
abbrev cX7_indexFor : ByteArray := prog_9_method_3_code
def yX7_indexFor : MethodName := ⟨RX7, "indexFor", "(I)I"⟩
abbrev cX7_fare : ByteArray := prog_9_method_4_code
def yX7_fare : MethodName := ⟨RX7, "fare", "(II)I"⟩
abbrev cX7_dayTicket : ByteArray := prog_9_method_5_code
def yX7_dayTicket : MethodName := ⟨RX7, "dayTicket", "(II)I"⟩
abbrev cX7_weekTicket : ByteArray := prog_9_method_6_code
def yX7_weekTicket : MethodName := ⟨RX7, "weekTicket", "(II)I"⟩
def RX8 : String := "TapCap"
def TX8 : u_T := fun k => match k with
  | 0 => ("TapCap", "region", "LTapCap$Region;", true)
  | 1 => ("TapCap", "tariffs", "LTapCap$Tariffs;", true)
  | 2 => ("TapCap", "cards", "LTapCap$Cards;", true)
  | 3 => ("TapCap", "taps", "LTapCap$Taps;", true)
  | 4 => ("TapCap", "legs", "LTapCap$Legs;", true)
  | 5 => ("TapCap", "journeys", "LTapCap$Journeys;", true)
  | 6 => ("TapCap", "costs", "LTapCap$Costs;", true)
  | 7 => ("TapCap", "closedDays", "I", false)
  | _ => ("TapCap", "refunded", "I", false)
def tyX8 : Nat → FieldType := fun k => match k with
  | 0 => .object "TapCap$Region"
  | 1 => .object "TapCap$Tariffs"
  | 2 => .object "TapCap$Cards"
  | 3 => .object "TapCap$Taps"
  | 4 => .object "TapCap$Legs"
  | 5 => .object "TapCap$Journeys"
  | 6 => .object "TapCap$Costs"
  | 7 => .int
  | _ => .int
abbrev wsX80 : List Cond := u_ws RX8 TX8 9
theorem nmX8 : ∀ a, a < 9 → ∀ b, b < 9 → a ≠ b → (TX8 a).2.1 ≠ (TX8 b).2.1 := by decide +kernel
theorem tyX8_ok : ∀ k, k < 9 → parseFieldDescriptor (TX8 k).2.2.1 = some (tyX8 k) := by decide +kernel
abbrev cX8_init : ByteArray := prog_1_method_1_code
def yX8_init : MethodName := ⟨RX8, "<init>", "()V"⟩
abbrev cX8_zone : ByteArray := prog_1_method_2_code
def yX8_zone : MethodName := ⟨RX8, "zone", "(II)I"⟩
abbrev cX8_tariff : ByteArray := prog_1_method_4_code
def yX8_tariff : MethodName := ⟨RX8, "tariff", "(IIIII)I"⟩
abbrev cX8_card : ByteArray := prog_1_method_5_code
def yX8_card : MethodName := ⟨RX8, "card", "()I"⟩
abbrev cX8_tap : ByteArray := prog_1_method_10_code
def yX8_tap : MethodName := ⟨RX8, "tap", "(IIIZII)I"⟩
abbrev cX8_close : ByteArray := prog_1_method_11_code
def yX8_close : MethodName := ⟨RX8, "close", "()I"⟩
abbrev cX8_settle : ByteArray := prog_1_method_12_code
def yX8_settle : MethodName := ⟨RX8, "settle", "(II)I"⟩
abbrev cX8_ofCard : ByteArray := prog_1_method_14_code
def yX8_ofCard : MethodName := ⟨RX8, "ofCard", "(II)I"⟩
abbrev cX8_ofDay : ByteArray := prog_1_method_15_code
def yX8_ofDay : MethodName := ⟨RX8, "ofDay", "(III)I"⟩
abbrev cX8_ofLeg : ByteArray := prog_1_method_16_code
def yX8_ofLeg : MethodName := ⟨RX8, "ofLeg", "(IIII)I"⟩
abbrev cX8_ofWeek : ByteArray := prog_1_method_18_code
def yX8_ofWeek : MethodName := ⟨RX8, "ofWeek", "(III)I"⟩
abbrev cX8_many : ByteArray := prog_1_method_21_code
def yX8_many : MethodName := ⟨RX8, "many", "(I)I"⟩
abbrev cX8_wouldCost : ByteArray := prog_1_method_23_code
def yX8_wouldCost : MethodName := ⟨RX8, "wouldCost", "(IIIZII)I"⟩
abbrev cX8_guess : ByteArray := prog_1_method_24_code
def yX8_guess : MethodName := ⟨RX8, "guess", "(IIIZ)I"⟩
abbrev cX8_digest : ByteArray := prog_1_method_26_code
def yX8_digest : MethodName := ⟨RX8, "digest", "()J"⟩
abbrev cX8_needNumber : ByteArray := prog_1_method_27_code
def yX8_needNumber : MethodName := ⟨RX8, "needNumber", "(II)V"⟩
abbrev cX8_needRange : ByteArray := prog_1_method_28_code
def yX8_needRange : MethodName := ⟨RX8, "needRange", "(III)V"⟩
abbrev cX8_needCard : ByteArray := prog_1_method_29_code
def yX8_needCard : MethodName := ⟨RX8, "needCard", "(I)V"⟩
abbrev cX8_needPerson : ByteArray := prog_1_method_30_code
def yX8_needPerson : MethodName := ⟨RX8, "needPerson", "(I)V"⟩
abbrev cX8_needTap : ByteArray := prog_1_method_31_code
def yX8_needTap : MethodName := ⟨RX8, "needTap", "(IIIII)V"⟩
abbrev cX8_study : ByteArray := prog_1_method_32_code
def yX8_study : MethodName := ⟨RX8, "study", "(III)V"⟩
abbrev cX8_costOfWeek : ByteArray := prog_1_method_33_code
def yX8_costOfWeek : MethodName := ⟨RX8, "costOfWeek", "(IIII)I"⟩
abbrev cX8_dueUpTo : ByteArray := prog_1_method_34_code
def yX8_dueUpTo : MethodName := ⟨RX8, "dueUpTo", "(II)I"⟩
abbrev cX8_cardAnswer : ByteArray := prog_1_method_36_code
def yX8_cardAnswer : MethodName := ⟨RX8, "cardAnswer", "(II)I"⟩
abbrev cX8_dayAnswer : ByteArray := prog_1_method_37_code
def yX8_dayAnswer : MethodName := ⟨RX8, "dayAnswer", "(II)I"⟩
abbrev cX8_legAnswer : ByteArray := prog_1_method_38_code
def yX8_legAnswer : MethodName := ⟨RX8, "legAnswer", "(II)I"⟩
abbrev cX8_weekAnswer : ByteArray := prog_1_method_40_code
def yX8_weekAnswer : MethodName := ⟨RX8, "weekAnswer", "(II)I"⟩
abbrev cX8_manyAnswer : ByteArray := prog_1_method_41_code
def yX8_manyAnswer : MethodName := ⟨RX8, "manyAnswer", "(I)I"⟩
abbrev cX8_shareAnswer : ByteArray := prog_1_method_42_code
def yX8_shareAnswer : MethodName := ⟨RX8, "shareAnswer", "(II)I"⟩
abbrev cX8_partOf : ByteArray := prog_1_method_43_code
def yX8_partOf : MethodName := ⟨RX8, "partOf", "(III)I"⟩
abbrev cX8_weightOf : ByteArray := prog_1_method_44_code
def yX8_weightOf : MethodName := ⟨RX8, "weightOf", "(II)I"⟩
abbrev cX8_digestPerson : ByteArray := prog_1_method_45_code
def yX8_digestPerson : MethodName := ⟨RX8, "digestPerson", "(JI)J"⟩
abbrev cX8_digestDay : ByteArray := prog_1_method_46_code
def yX8_digestDay : MethodName := ⟨RX8, "digestDay", "(JI)J"⟩
def RX9 : String := "TapCapLaw$Told"
def TX9 : u_T := fun k => match k with
  | 0 => ("TapCapLaw$Told", "m", "LTapCap;", true)
  | 1 => ("TapCapLaw$Told", "s", "[I", true)
  | 2 => ("TapCapLaw$Told", "draws", "I", false)
  | 3 => ("TapCapLaw$Told", "zones", "[I", true)
  | 4 => ("TapCapLaw$Told", "carriers", "[I", true)
  | 5 => ("TapCapLaw$Told", "tariffs", "[[I", false)
  | 6 => ("TapCapLaw$Told", "person", "[I", true)
  | 7 => ("TapCapLaw$Told", "cards", "I", false)
  | _ => ("TapCapLaw$Told", "taps", "[[I", false)
def tyX9 : Nat → FieldType := fun k => match k with
  | 0 => .object "TapCap"
  | 1 => .array .int
  | 2 => .int
  | 3 => .array .int
  | 4 => .array .int
  | 5 => .array (.array .int)
  | 6 => .array .int
  | 7 => .int
  | _ => .array (.array .int)
abbrev wsX90 : List Cond := u_ws RX9 TX9 9
theorem nmX9 : ∀ a, a < 9 → ∀ b, b < 9 → a ≠ b → (TX9 a).2.1 ≠ (TX9 b).2.1 := by decide +kernel
theorem tyX9_ok : ∀ k, k < 9 → parseFieldDescriptor (TX9 k).2.2.1 = some (tyX9 k) := by decide +kernel
abbrev cX9_init : ByteArray := prog_11_method_1_code
def yX9_init : MethodName := ⟨RX9, "<init>", "([II)V"⟩
abbrev cX9_draw : ByteArray := prog_11_method_2_code
def yX9_draw : MethodName := ⟨RX9, "draw", "(I)I"⟩
abbrev cX9_plus : ByteArray := prog_11_method_3_code
def yX9_plus : MethodName := ⟨RX9, "plus", "([[I[I)[[I"⟩
abbrev cX9_zone : ByteArray := prog_11_method_4_code
def yX9_zone : MethodName := ⟨RX9, "zone", "(II)Z"⟩
abbrev cX9_tariff : ByteArray := prog_11_method_5_code
def yX9_tariff : MethodName := ⟨RX9, "tariff", "(IIIII)Z"⟩
abbrev cX9_has : ByteArray := prog_11_method_6_code
def yX9_has : MethodName := ⟨RX9, "has", "([I)I"⟩
abbrev cX9_tap : ByteArray := prog_11_method_7_code
def yX9_tap : MethodName := ⟨RX9, "tap", "(IIIIII)Z"⟩
abbrev cX9_trip : ByteArray := prog_11_method_8_code
def yX9_trip : MethodName := ⟨RX9, "trip", "(II)Z"⟩
abbrev cX9_found : ByteArray := prog_11_method_9_code
def yX9_found : MethodName := ⟨RX9, "found", "(I)Z"⟩
def RX10 : String := "TapCapModel"
def TX10 : u_T := fun k => match k with
  | _ => ("", "", "", false)
def tyX10 : Nat → FieldType := fun k => match k with
  | _ => .int
abbrev wsX100 : List Cond := u_ws RX10 TX10 0
theorem nmX10 : ∀ a, a < 0 → ∀ b, b < 0 → a ≠ b → (TX10 a).2.1 ≠ (TX10 b).2.1 := by decide +kernel
theorem tyX10_ok : ∀ k, k < 0 → parseFieldDescriptor (TX10 k).2.2.1 = some (tyX10 k) := by decide +kernel
def RJ9 : String := "java/lang/Math"
def TJ9 : u_T := fun k => match k with
  | _ => ("", "", "", false)
def tyJ9 : Nat → FieldType := fun k => match k with
  | _ => .int
abbrev wsJ90 : List Cond := u_ws RJ9 TJ9 0
theorem nmJ9 : ∀ a, a < 0 → ∀ b, b < 0 → a ≠ b → (TJ9 a).2.1 ≠ (TJ9 b).2.1 := by decide +kernel
theorem tyJ9_ok : ∀ k, k < 0 → parseFieldDescriptor (TJ9 k).2.2.1 = some (tyJ9 k) := by decide +kernel
abbrev cJ9_max_7cf53 : ByteArray := prog_17_method_65_code
def yJ9_max_7cf53 : MethodName := ⟨RJ9, "max", "(II)I"⟩
abbrev cJ9_min_7cf53 : ByteArray := prog_17_method_69_code
def yJ9_min_7cf53 : MethodName := ⟨RJ9, "min", "(II)I"⟩
def RJ0 : String := "java/lang/String"
def TJ0 : u_T := fun k => match k with
  | _ => ("", "", "", false)
def tyJ0 : Nat → FieldType := fun k => match k with
  | _ => .int
abbrev wsJ00 : List Cond := u_ws RJ0 TJ0 0
theorem nmJ0 : ∀ a, a < 0 → ∀ b, b < 0 → a ≠ b → (TJ0 a).2.1 ≠ (TJ0 b).2.1 := by decide +kernel
theorem tyJ0_ok : ∀ k, k < 0 → parseFieldDescriptor (TJ0 k).2.2.1 = some (tyJ0 k) := by decide +kernel
def RJ10 : String := "java/lang/System"
def TJ10 : u_T := fun k => match k with
  | _ => ("", "", "", false)
def tyJ10 : Nat → FieldType := fun k => match k with
  | _ => .int
abbrev wsJ100 : List Cond := u_ws RJ10 TJ10 0
theorem nmJ10 : ∀ a, a < 0 → ∀ b, b < 0 → a ≠ b → (TJ10 a).2.1 ≠ (TJ10 b).2.1 := by decide +kernel
theorem tyJ10_ok : ∀ k, k < 0 → parseFieldDescriptor (TJ10 k).2.2.1 = some (tyJ10 k) := by decide +kernel
def RL : String := "TapCapLaw"
abbrev cL_below : ByteArray := method_2_code
def yL_below : MethodName := ⟨RL, "below", "(II)I"⟩
abbrev cL_cell : ByteArray := method_3_code
def yL_cell : MethodName := ⟨RL, "cell", "([II)I"⟩
abbrev cL_law : ByteArray := code
def yL_law : MethodName := ⟨RL, "law", "([I)Z"⟩
abbrev cL_isTurned : ByteArray := method_5_code
def yL_isTurned : MethodName := ⟨RL, "isTurned", "(LTapCapLaw$Told;)Z"⟩
def wsX5_init : List Cond := .code yX5_init cX5_init 2 none :: ([.methodLink RX5 1 objectInit, .instanceMethod objectInit, .code objectInit ⟨#[0xb1]⟩ 1 none, .arrayClass .int, .fieldLink RX5 7 "TapCap$Row" "cells" "[I"] ++ wsX50)
def wsX0_init : List Cond := .code yX0_init cX0_init 1 none :: ([.methodLink RX0 3 objectInit, .instanceMethod objectInit, .code objectInit ⟨#[0xb1]⟩ 1 none, .classLink RX0 9 RX5, .instantiable RX5 1, .initialized RX5, .fieldLink RX0 14 "TapCap$Cards" "purse" "LTapCap$Row;", .fieldLink RX0 20 "TapCap$Cards" "personOf" "LTapCap$Row;", .fieldLink RX0 23 "TapCap$Cards" "lost" "LTapCap$Row;", .fieldLink RX0 26 "TapCap$Cards" "charged" "LTapCap$Row;", .fieldLink RX0 29 "TapCap$Cards" "asked" "LTapCap$Row;", .fieldLink RX0 32 "TapCap$Cards" "count" "I", .methodLink RX0 11 yX5_init, .instanceMethod yX5_init, .code yX5_init cX5_init 2 none, .methodLink RX5 1 objectInit, .arrayClass .int, .fieldLink RX5 7 "TapCap$Row" "cells" "[I"] ++ wsX50 ++ wsX00)
def wsX5_put : List Cond := .code yX5_put cX5_put 3 none :: ([.fieldLink RX5 7 "TapCap$Row" "cells" "[I"] ++ wsX50)
def wsX0_give : List Cond := .code yX0_give cX0_give 2 (some .int) :: ([.fieldLink RX0 32 "TapCap$Cards" "count" "I", .fieldLink RX0 20 "TapCap$Cards" "personOf" "LTapCap$Row;", .methodLink RX0 36 yX5_put, .instanceMethod yX5_put, .selects RX5 yX5_put yX5_put, .initialized RX5, .code yX5_put cX5_put 3 none, .fieldLink RX5 7 "TapCap$Row" "cells" "[I"] ++ wsX00 ++ wsX50)
def wsX5_at : List Cond := .code yX5_at cX5_at 2 (some .int) :: ([.fieldLink RX5 7 "TapCap$Row" "cells" "[I"] ++ wsX50)
def wsX0_isPerson : List Cond := .code yX0_isPerson cX0_isPerson 2 (some .boolean) :: ([.fieldLink RX0 32 "TapCap$Cards" "count" "I", .fieldLink RX0 20 "TapCap$Cards" "personOf" "LTapCap$Row;", .methodLink RX0 40 yX5_at, .instanceMethod yX5_at, .selects RX5 yX5_at yX5_at, .initialized RX5, .code yX5_at cX5_at 2 (some .int), .fieldLink RX5 7 "TapCap$Row" "cells" "[I"] ++ wsX00 ++ wsX50)
def wsX0_isLost : List Cond := .code yX0_isLost cX0_isLost 2 (some .boolean) :: ([.fieldLink RX0 23 "TapCap$Cards" "lost" "LTapCap$Row;", .methodLink RX0 40 yX5_at, .instanceMethod yX5_at, .selects RX5 yX5_at yX5_at, .initialized RX5, .code yX5_at cX5_at 2 (some .int), .fieldLink RX5 7 "TapCap$Row" "cells" "[I"] ++ wsX00 ++ wsX50)
def wsX5_add : List Cond := .code yX5_add cX5_add 3 none :: ([.fieldLink RX5 7 "TapCap$Row" "cells" "[I"] ++ wsX50)
def wsX0_charge : List Cond := .code yX0_charge cX0_charge 4 none :: ([.fieldLink RX0 14 "TapCap$Cards" "purse" "LTapCap$Row;", .fieldLink RX0 26 "TapCap$Cards" "charged" "LTapCap$Row;", .methodLink RX0 44 yX5_add, .instanceMethod yX5_add, .selects RX5 yX5_add yX5_add, .initialized RX5, .code yX5_add cX5_add 3 none, .fieldLink RX5 7 "TapCap$Row" "cells" "[I"] ++ wsX00 ++ wsX50)
def wsX1_init : List Cond := .code yX1_init cX1_init 1 none :: ([.methodLink RX1 3 objectInit, .instanceMethod objectInit, .code objectInit ⟨#[0xb1]⟩ 1 none, .classLink RX1 9 RX5, .instantiable RX5 1, .initialized RX5, .fieldLink RX1 14 "TapCap$Costs" "dayChoice" "LTapCap$Row;", .fieldLink RX1 20 "TapCap$Costs" "weekChoice" "LTapCap$Row;", .fieldLink RX1 23 "TapCap$Costs" "beside" "LTapCap$Row;", .fieldLink RX1 26 "TapCap$Costs" "weekTickets" "LTapCap$Row;", .methodLink RX1 11 yX5_init, .instanceMethod yX5_init, .code yX5_init cX5_init 2 none, .methodLink RX5 1 objectInit, .arrayClass .int, .fieldLink RX5 7 "TapCap$Row" "cells" "[I"] ++ wsX50 ++ wsX10)
def wsX5_fill : List Cond := .code yX5_fill cX5_fill 3 none :: ([.fieldLink RX5 7 "TapCap$Row" "cells" "[I"] ++ wsX50)
def wsX7_indexFor : List Cond := .code yX7_indexFor cX7_indexFor 3 (some .int) :: ([.fieldLink RX7 32 "TapCap$Tariffs" "count" "I", .fieldLink RX7 14 "TapCap$Tariffs" "since" "LTapCap$Row;", .methodLink RX7 44 yX5_at, .instanceMethod yX5_at, .selects RX5 yX5_at yX5_at, .initialized RX5, .code yX5_at cX5_at 2 (some .int), .fieldLink RX5 7 "TapCap$Row" "cells" "[I"] ++ wsX70 ++ wsX50)
def wsX2_fares : List Cond := .code yX2_fares cX2_fares 6 (some .int) :: ([.fieldLink RX2 29 "TapCap$Journeys" "firstOn" "LTapCap$Row;", .fieldLink RX2 32 "TapCap$Journeys" "countOn" "LTapCap$Row;", .fieldLink RX2 20 "TapCap$Journeys" "top" "LTapCap$Row;", .fieldLink RX2 23 "TapCap$Journeys" "fare" "LTapCap$Row;", .methodLink RX2 55 yX5_at, .instanceMethod yX5_at, .selects RX5 yX5_at yX5_at, .initialized RX5, .code yX5_at cX5_at 2 (some .int), .fieldLink RX5 7 "TapCap$Row" "cells" "[I"] ++ wsX20 ++ wsX50)
def wsX7_dayTicket : List Cond := .code yX7_dayTicket cX7_dayTicket 3 (some .int) :: ([.fieldLink RX7 26 "TapCap$Tariffs" "ticket" "LTapCap$Row;", .fieldLink RX7 23 "TapCap$Tariffs" "step" "LTapCap$Row;", .methodLink RX7 44 yX5_at, .instanceMethod yX5_at, .selects RX5 yX5_at yX5_at, .initialized RX5, .code yX5_at cX5_at 2 (some .int), .fieldLink RX5 7 "TapCap$Row" "cells" "[I"] ++ wsX70 ++ wsX50)
def wsX1_readDay : List Cond := .code yX1_readDay cX1_readDay 10 none :: ([.methodLink RX1 70 Lib.Math.max.name, .static Lib.Math.max.name, .initialized "java/lang/Math", .code Lib.Math.max.name Lib.Math.max.code 2 (some .int), .fieldLink RX1 23 "TapCap$Costs" "beside" "LTapCap$Row;", .fieldLink RX1 14 "TapCap$Costs" "dayChoice" "LTapCap$Row;"] ++ wsX10 ++ wsX50 ++ (wsV RX1 45 RX7 yX7_indexFor wsX7_indexFor) ++ (wsV RX1 64 RX2 yX2_fares wsX2_fares) ++ (wsV RX1 67 RX7 yX7_dayTicket wsX7_dayTicket) ++ (wsV RX1 54 RX5 yX5_put wsX5_put))
def wsX7_weekTicket : List Cond := .code yX7_weekTicket cX7_weekTicket 3 (some .int) :: ([.fieldLink RX7 29 "TapCap$Tariffs" "weekly" "LTapCap$Row;", .fieldLink RX7 23 "TapCap$Tariffs" "step" "LTapCap$Row;", .methodLink RX7 44 yX5_at, .instanceMethod yX5_at, .selects RX5 yX5_at yX5_at, .initialized RX5, .code yX5_at cX5_at 2 (some .int), .fieldLink RX5 7 "TapCap$Row" "cells" "[I"] ++ wsX70 ++ wsX50)
def wsX1_lastDayOf : List Cond := .code yX1_lastDayOf cX1_lastDayOf 1 (some .int) :: ([])
def wsX1_upTo : List Cond := .code yX1_upTo cX1_upTo 6 (some .int) :: ([.fieldLink RX1 26 "TapCap$Costs" "weekTickets" "LTapCap$Row;", .fieldLink RX1 23 "TapCap$Costs" "beside" "LTapCap$Row;", .methodLink RX1 37 yX5_at, .instanceMethod yX5_at, .selects RX5 yX5_at yX5_at, .initialized RX5, .code yX5_at cX5_at 2 (some .int), .fieldLink RX5 7 "TapCap$Row" "cells" "[I"] ++ wsX10 ++ wsX50)
def wsX1_choiceUpTo : List Cond := .code yX1_choiceUpTo cX1_choiceUpTo 7 (some .int) :: ([.methodLink RX1 75 yX1_upTo, .instanceMethod yX1_upTo, .selects RX1 yX1_upTo yX1_upTo, .initialized RX1, .code yX1_upTo cX1_upTo 6 (some .int), .fieldLink RX1 26 "TapCap$Costs" "weekTickets" "LTapCap$Row;", .fieldLink RX1 23 "TapCap$Costs" "beside" "LTapCap$Row;", .methodLink RX1 37 yX5_at, .instanceMethod yX5_at, .selects RX5 yX5_at yX5_at, .initialized RX5, .code yX5_at cX5_at 2 (some .int), .fieldLink RX5 7 "TapCap$Row" "cells" "[I"] ++ wsX10 ++ wsX50)
def wsX1_read : List Cond := .code yX1_read cX1_read 6 none :: ([.fieldLink RX1 14 "TapCap$Costs" "dayChoice" "LTapCap$Row;", .fieldLink RX1 23 "TapCap$Costs" "beside" "LTapCap$Row;", .fieldLink RX1 32 "TapCap$Journeys" "countOn" "LTapCap$Row;", .fieldLink RX1 26 "TapCap$Costs" "weekTickets" "LTapCap$Row;", .fieldLink RX1 20 "TapCap$Costs" "weekChoice" "LTapCap$Row;"] ++ wsX10 ++ wsX20 ++ wsX50 ++ (wsV RX1 29 RX5 yX5_fill wsX5_fill) ++ (wsV RX1 37 RX5 yX5_at wsX5_at) ++ (wsV RX1 41 RX1 yX1_readDay wsX1_readDay) ++ (wsV RX1 45 RX7 yX7_indexFor wsX7_indexFor) ++ (wsV RX1 50 RX7 yX7_weekTicket wsX7_weekTicket) ++ (wsV RX1 54 RX5 yX5_put wsX5_put) ++ (va_wsS RX1 58 yX1_lastDayOf wsX1_lastDayOf) ++ (wsV RX1 61 RX1 yX1_choiceUpTo wsX1_choiceUpTo))
def wsX1_byItself : List Cond := .code yX1_byItself cX1_byItself 2 (some .int) :: ([.fieldLink RX1 23 "TapCap$Costs" "beside" "LTapCap$Row;", .methodLink RX1 37 yX5_at, .instanceMethod yX5_at, .selects RX5 yX5_at yX5_at, .initialized RX5, .code yX5_at cX5_at 2 (some .int), .fieldLink RX5 7 "TapCap$Row" "cells" "[I"] ++ wsX10 ++ wsX50)
def wsX1_withinWeek : List Cond := .code yX1_withinWeek cX1_withinWeek 2 (some .int) :: ([.fieldLink RX1 23 "TapCap$Costs" "beside" "LTapCap$Row;", .fieldLink RX1 20 "TapCap$Costs" "weekChoice" "LTapCap$Row;", .methodLink RX1 37 yX5_at, .instanceMethod yX5_at, .selects RX5 yX5_at yX5_at, .initialized RX5, .code yX5_at cX5_at 2 (some .int), .fieldLink RX5 7 "TapCap$Row" "cells" "[I"] ++ wsX10 ++ wsX50)
def wsX1_ofWholeWeek : List Cond := .code yX1_ofWholeWeek cX1_ofWholeWeek 2 (some .int) :: ([.fieldLink RX1 20 "TapCap$Costs" "weekChoice" "LTapCap$Row;", .methodLink RX1 58 yX1_lastDayOf, .static yX1_lastDayOf, .initialized RX1, .code yX1_lastDayOf cX1_lastDayOf 1 (some .int), .methodLink RX1 37 yX5_at, .instanceMethod yX5_at, .selects RX5 yX5_at yX5_at, .initialized RX5, .code yX5_at cX5_at 2 (some .int), .fieldLink RX5 7 "TapCap$Row" "cells" "[I", .methodLink RX1 75 yX1_upTo, .instanceMethod yX1_upTo, .selects RX1 yX1_upTo yX1_upTo, .code yX1_upTo cX1_upTo 6 (some .int), .fieldLink RX1 26 "TapCap$Costs" "weekTickets" "LTapCap$Row;", .fieldLink RX1 23 "TapCap$Costs" "beside" "LTapCap$Row;"] ++ wsX10 ++ wsX50)
def wsX1_ofDaysByThemselves : List Cond := .code yX1_ofDaysByThemselves cX1_ofDaysByThemselves 2 (some .int) :: ([.methodLink RX1 58 yX1_lastDayOf, .static yX1_lastDayOf, .initialized RX1, .code yX1_lastDayOf cX1_lastDayOf 1 (some .int), .methodLink RX1 75 yX1_upTo, .instanceMethod yX1_upTo, .selects RX1 yX1_upTo yX1_upTo, .code yX1_upTo cX1_upTo 6 (some .int), .fieldLink RX1 26 "TapCap$Costs" "weekTickets" "LTapCap$Row;", .fieldLink RX1 23 "TapCap$Costs" "beside" "LTapCap$Row;", .methodLink RX1 37 yX5_at, .instanceMethod yX5_at, .selects RX5 yX5_at yX5_at, .initialized RX5, .code yX5_at cX5_at 2 (some .int), .fieldLink RX5 7 "TapCap$Row" "cells" "[I"] ++ wsX10 ++ wsX50)
def wsX1_leastUpTo : List Cond := .code yX1_leastUpTo cX1_leastUpTo 3 (some .int) :: ([.methodLink RX1 61 yX1_choiceUpTo, .instanceMethod yX1_choiceUpTo, .selects RX1 yX1_choiceUpTo yX1_choiceUpTo, .initialized RX1, .code yX1_choiceUpTo cX1_choiceUpTo 7 (some .int), .methodLink RX1 75 yX1_upTo, .instanceMethod yX1_upTo, .selects RX1 yX1_upTo yX1_upTo, .code yX1_upTo cX1_upTo 6 (some .int), .fieldLink RX1 26 "TapCap$Costs" "weekTickets" "LTapCap$Row;", .fieldLink RX1 23 "TapCap$Costs" "beside" "LTapCap$Row;", .methodLink RX1 37 yX5_at, .instanceMethod yX5_at, .selects RX5 yX5_at yX5_at, .initialized RX5, .code yX5_at cX5_at 2 (some .int), .fieldLink RX5 7 "TapCap$Row" "cells" "[I"] ++ wsX10 ++ wsX50)
def wsX2_init : List Cond := .code yX2_init cX2_init 1 none :: ([.methodLink RX2 3 objectInit, .instanceMethod objectInit, .code objectInit ⟨#[0xb1]⟩ 1 none, .classLink RX2 9 RX5, .instantiable RX5 1, .initialized RX5, .fieldLink RX2 14 "TapCap$Journeys" "legCount" "LTapCap$Row;", .fieldLink RX2 20 "TapCap$Journeys" "top" "LTapCap$Row;", .fieldLink RX2 23 "TapCap$Journeys" "fare" "LTapCap$Row;", .fieldLink RX2 26 "TapCap$Journeys" "indexOfLeg" "LTapCap$Row;", .fieldLink RX2 29 "TapCap$Journeys" "firstOn" "LTapCap$Row;", .fieldLink RX2 32 "TapCap$Journeys" "countOn" "LTapCap$Row;", .fieldLink RX2 35 "TapCap$Journeys" "dayOf" "LTapCap$Row;", .fieldLink RX2 38 "TapCap$Journeys" "firstLeg" "LTapCap$Row;", .fieldLink RX2 41 "TapCap$Journeys" "bottom" "LTapCap$Row;", .fieldLink RX2 44 "TapCap$Journeys" "count" "I", .methodLink RX2 11 yX5_init, .instanceMethod yX5_init, .code yX5_init cX5_init 2 none, .methodLink RX5 1 objectInit, .arrayClass .int, .fieldLink RX5 7 "TapCap$Row" "cells" "[I"] ++ wsX50 ++ wsX20)
def wsX2_open : List Cond := .code yX2_open cX2_open 3 none :: ([.fieldLink RX2 35 "TapCap$Journeys" "dayOf" "LTapCap$Row;", .fieldLink RX2 44 "TapCap$Journeys" "count" "I", .fieldLink RX2 38 "TapCap$Journeys" "firstLeg" "LTapCap$Row;", .fieldLink RX2 14 "TapCap$Journeys" "legCount" "LTapCap$Row;", .fieldLink RX2 20 "TapCap$Journeys" "top" "LTapCap$Row;", .fieldLink RX2 41 "TapCap$Journeys" "bottom" "LTapCap$Row;", .fieldLink RX2 32 "TapCap$Journeys" "countOn" "LTapCap$Row;", .fieldLink RX2 29 "TapCap$Journeys" "firstOn" "LTapCap$Row;", .methodLink RX2 69 yX5_put, .instanceMethod yX5_put, .selects RX5 yX5_put yX5_put, .initialized RX5, .code yX5_put cX5_put 3 none, .fieldLink RX5 7 "TapCap$Row" "cells" "[I", .methodLink RX2 55 yX5_at, .instanceMethod yX5_at, .selects RX5 yX5_at yX5_at, .code yX5_at cX5_at 2 (some .int), .methodLink RX2 72 yX5_add, .instanceMethod yX5_add, .selects RX5 yX5_add yX5_add, .code yX5_add cX5_add 3 none] ++ wsX20 ++ wsX50)
def wsX2_touch : List Cond := .code yX2_touch cX2_touch 3 none :: ([.fieldLink RX2 44 "TapCap$Journeys" "count" "I", .fieldLink RX2 20 "TapCap$Journeys" "top" "LTapCap$Row;", .methodLink RX2 100 Lib.Math.max.name, .static Lib.Math.max.name, .initialized "java/lang/Math", .code Lib.Math.max.name Lib.Math.max.code 2 (some .int), .fieldLink RX2 41 "TapCap$Journeys" "bottom" "LTapCap$Row;", .methodLink RX2 105 Lib.Math.min.name, .static Lib.Math.min.name, .code Lib.Math.min.name Lib.Math.min.code 2 (some .int), .methodLink RX2 55 yX5_at, .instanceMethod yX5_at, .selects RX5 yX5_at yX5_at, .initialized RX5, .code yX5_at cX5_at 2 (some .int), .fieldLink RX5 7 "TapCap$Row" "cells" "[I", .methodLink RX2 69 yX5_put, .instanceMethod yX5_put, .selects RX5 yX5_put yX5_put, .code yX5_put cX5_put 3 none] ++ wsX20 ++ wsX50)
def wsX2_zonesTouched : List Cond := .code yX2_zonesTouched cX2_zonesTouched 2 (some .int) :: ([.fieldLink RX2 20 "TapCap$Journeys" "top" "LTapCap$Row;", .fieldLink RX2 41 "TapCap$Journeys" "bottom" "LTapCap$Row;", .methodLink RX2 55 yX5_at, .instanceMethod yX5_at, .selects RX5 yX5_at yX5_at, .initialized RX5, .code yX5_at cX5_at 2 (some .int), .fieldLink RX5 7 "TapCap$Row" "cells" "[I"] ++ wsX20 ++ wsX50)
def wsX7_fare : List Cond := .code yX7_fare cX7_fare 3 (some .int) :: ([.fieldLink RX7 20 "TapCap$Tariffs" "base" "LTapCap$Row;", .fieldLink RX7 23 "TapCap$Tariffs" "step" "LTapCap$Row;", .methodLink RX7 44 yX5_at, .instanceMethod yX5_at, .selects RX5 yX5_at yX5_at, .initialized RX5, .code yX5_at cX5_at 2 (some .int), .fieldLink RX5 7 "TapCap$Row" "cells" "[I"] ++ wsX70 ++ wsX50)
def wsX2_read : List Cond := .code yX2_read cX2_read 7 none :: ([.fieldLink RX2 44 "TapCap$Journeys" "count" "I", .fieldLink RX2 29 "TapCap$Journeys" "firstOn" "LTapCap$Row;", .fieldLink RX2 32 "TapCap$Journeys" "countOn" "LTapCap$Row;", .fieldLink RX2 51 "TapCap$Legs" "count" "I", .fieldLink RX2 54 "TapCap$Legs" "dayOf" "LTapCap$Row;", .fieldLink RX2 26 "TapCap$Journeys" "indexOfLeg" "LTapCap$Row;", .fieldLink RX2 14 "TapCap$Journeys" "legCount" "LTapCap$Row;", .fieldLink RX2 75 "TapCap$Region" "zoneOf" "LTapCap$Row;", .fieldLink RX2 80 "TapCap$Legs" "from" "LTapCap$Row;", .fieldLink RX2 86 "TapCap$Legs" "to" "LTapCap$Row;", .fieldLink RX2 59 "TapCap$Legs" "begin" "LTapCap$Row;", .fieldLink RX2 62 "TapCap$Legs" "end" "LTapCap$Row;", .fieldLink RX2 35 "TapCap$Journeys" "dayOf" "LTapCap$Row;", .fieldLink RX2 23 "TapCap$Journeys" "fare" "LTapCap$Row;"] ++ wsX20 ++ wsX30 ++ wsX40 ++ wsX50 ++ (wsV RX2 48 RX5 yX5_fill wsX5_fill) ++ (wsV RX2 55 RX5 yX5_at wsX5_at) ++ (wsV RX2 65 RX2 yX2_open wsX2_open) ++ (wsV RX2 69 RX5 yX5_put wsX5_put) ++ (wsV RX2 72 RX5 yX5_add wsX5_add) ++ (wsV RX2 83 RX2 yX2_touch wsX2_touch) ++ (wsV RX2 89 RX7 yX7_indexFor wsX7_indexFor) ++ (wsV RX2 94 RX2 yX2_zonesTouched wsX2_zonesTouched) ++ (wsV RX2 97 RX7 yX7_fare wsX7_fare))
def wsX2_legsOfCarrier : List Cond := .code yX2_legsOfCarrier cX2_legsOfCarrier 8 (some .int) :: ([.fieldLink RX2 38 "TapCap$Journeys" "firstLeg" "LTapCap$Row;", .fieldLink RX2 14 "TapCap$Journeys" "legCount" "LTapCap$Row;", .fieldLink RX2 111 "TapCap$Region" "carrierOf" "LTapCap$Row;", .fieldLink RX2 108 "TapCap$Legs" "lineOf" "LTapCap$Row;", .methodLink RX2 55 yX5_at, .instanceMethod yX5_at, .selects RX5 yX5_at yX5_at, .initialized RX5, .code yX5_at cX5_at 2 (some .int), .fieldLink RX5 7 "TapCap$Row" "cells" "[I"] ++ wsX20 ++ wsX40 ++ wsX30 ++ wsX50)
def wsX3_init_r1 : List Cond := [Cond.methodLink RX3 3 objectInit, Cond.instanceMethod objectInit, Cond.code objectInit ⟨#[0xb1]⟩ 1 none, Cond.classLink RX3 9 RX5, Cond.instantiable RX5 1, Cond.initialized RX5, Cond.fieldLink RX3 14 "TapCap$Legs" "dayOf" "LTapCap$Row;", Cond.fieldLink RX3 20 "TapCap$Legs" "from" "LTapCap$Row;", Cond.fieldLink RX3 23 "TapCap$Legs" "to" "LTapCap$Row;", Cond.fieldLink RX3 26 "TapCap$Legs" "begin" "LTapCap$Row;", Cond.fieldLink RX3 29 "TapCap$Legs" "end" "LTapCap$Row;", Cond.fieldLink RX3 32 "TapCap$Legs" "lineOf" "LTapCap$Row;", Cond.fieldLink RX3 35 "TapCap$Legs" "guessed" "LTapCap$Row;", Cond.fieldLink RX3 38 "TapCap$Legs" "firstOn" "LTapCap$Row;", Cond.fieldLink RX3 41 "TapCap$Legs" "countOn" "LTapCap$Row;", Cond.fieldLink RX3 44 "TapCap$Legs" "tapsOn" "LTapCap$Row;", Cond.fieldLink RX3 47 "TapCap$Legs" "count" "I", Cond.fieldLink RX3 51 "TapCap$Legs" "order" "LTapCap$Row;", Cond.fieldLink RX3 54 "TapCap$Legs" "moments" "LTapCap$Row;", Cond.fieldLink RX3 57 "TapCap$Legs" "votes" "LTapCap$Row;", Cond.fieldLink RX3 60 "TapCap$Legs" "ordered" "I", Cond.methodLink RX3 11 yX5_init, Cond.instanceMethod yX5_init, Cond.code yX5_init cX5_init 2 none]
def wsX3_init_r2 : List Cond := [Cond.methodLink RX5 1 objectInit, Cond.arrayClass .int, Cond.fieldLink RX5 7 "TapCap$Row" "cells" "[I"]
def wsX3_init : List Cond := .code yX3_init cX3_init 1 none :: ((wsX3_init_r1 ++ wsX3_init_r2) ++ wsX50 ++ wsX30)
def wsX3_insert : List Cond := .code yX3_insert cX3_insert 6 none :: ([.fieldLink RX3 60 "TapCap$Legs" "ordered" "I", .fieldLink RX3 54 "TapCap$Legs" "moments" "LTapCap$Row;", .fieldLink RX3 51 "TapCap$Legs" "order" "LTapCap$Row;", .fieldLink RX3 44 "TapCap$Legs" "tapsOn" "LTapCap$Row;", .methodLink RX3 71 yX5_at, .instanceMethod yX5_at, .selects RX5 yX5_at yX5_at, .initialized RX5, .code yX5_at cX5_at 2 (some .int), .fieldLink RX5 7 "TapCap$Row" "cells" "[I", .methodLink RX3 103 yX5_put, .instanceMethod yX5_put, .selects RX5 yX5_put yX5_put, .code yX5_put cX5_put 3 none, .methodLink RX3 107 yX5_add, .instanceMethod yX5_add, .selects RX5 yX5_add yX5_add, .code yX5_add cX5_add 3 none] ++ wsX30 ++ wsX50)
def wsX3_isOpenOn : List Cond := .code yX3_isOpenOn cX3_isOpenOn 2 (some .boolean) :: ([.fieldLink RX3 41 "TapCap$Legs" "countOn" "LTapCap$Row;", .fieldLink RX3 35 "TapCap$Legs" "guessed" "LTapCap$Row;", .fieldLink RX3 47 "TapCap$Legs" "count" "I", .methodLink RX3 71 yX5_at, .instanceMethod yX5_at, .selects RX5 yX5_at yX5_at, .initialized RX5, .code yX5_at cX5_at 2 (some .int), .fieldLink RX5 7 "TapCap$Row" "cells" "[I"] ++ wsX30 ++ wsX50)
def wsX3_add : List Cond := .code yX3_add cX3_add 6 none :: ([.fieldLink RX3 14 "TapCap$Legs" "dayOf" "LTapCap$Row;", .fieldLink RX3 47 "TapCap$Legs" "count" "I", .fieldLink RX3 20 "TapCap$Legs" "from" "LTapCap$Row;", .fieldLink RX3 23 "TapCap$Legs" "to" "LTapCap$Row;", .fieldLink RX3 26 "TapCap$Legs" "begin" "LTapCap$Row;", .fieldLink RX3 29 "TapCap$Legs" "end" "LTapCap$Row;", .fieldLink RX3 32 "TapCap$Legs" "lineOf" "LTapCap$Row;", .fieldLink RX3 35 "TapCap$Legs" "guessed" "LTapCap$Row;", .fieldLink RX3 41 "TapCap$Legs" "countOn" "LTapCap$Row;", .fieldLink RX3 38 "TapCap$Legs" "firstOn" "LTapCap$Row;", .methodLink RX3 103 yX5_put, .instanceMethod yX5_put, .selects RX5 yX5_put yX5_put, .initialized RX5, .code yX5_put cX5_put 3 none, .fieldLink RX5 7 "TapCap$Row" "cells" "[I", .methodLink RX3 71 yX5_at, .instanceMethod yX5_at, .selects RX5 yX5_at yX5_at, .code yX5_at cX5_at 2 (some .int), .methodLink RX3 107 yX5_add, .instanceMethod yX5_add, .selects RX5 yX5_add yX5_add, .code yX5_add cX5_add 3 none] ++ wsX30 ++ wsX50)
def wsX3_takeIn : List Cond := .code yX3_takeIn cX3_takeIn 8 none :: ([.fieldLink RX3 66 "TapCap$Taps" "day" "LTapCap$Row;", .fieldLink RX3 110 "TapCap$Taps" "stop" "LTapCap$Row;", .fieldLink RX3 83 "TapCap$Taps" "minute" "LTapCap$Row;", .fieldLink RX3 47 "TapCap$Legs" "count" "I", .fieldLink RX3 117 "TapCap$Taps" "line" "LTapCap$Row;", .fieldLink RX3 20 "TapCap$Legs" "from" "LTapCap$Row;", .fieldLink RX3 26 "TapCap$Legs" "begin" "LTapCap$Row;"] ++ wsX30 ++ wsX50 ++ wsX60 ++ (wsV RX3 71 RX5 yX5_at wsX5_at) ++ (wsV RX3 113 RX3 yX3_isOpenOn wsX3_isOpenOn) ++ (wsV RX3 120 RX3 yX3_add wsX3_add))
def wsX3_takeOut : List Cond := .code yX3_takeOut cX3_takeOut 8 none :: ([.fieldLink RX3 66 "TapCap$Taps" "day" "LTapCap$Row;", .fieldLink RX3 110 "TapCap$Taps" "stop" "LTapCap$Row;", .fieldLink RX3 83 "TapCap$Taps" "minute" "LTapCap$Row;", .fieldLink RX3 47 "TapCap$Legs" "count" "I", .fieldLink RX3 41 "TapCap$Legs" "countOn" "LTapCap$Row;", .fieldLink RX3 117 "TapCap$Taps" "line" "LTapCap$Row;", .fieldLink RX3 23 "TapCap$Legs" "to" "LTapCap$Row;", .fieldLink RX3 29 "TapCap$Legs" "end" "LTapCap$Row;", .fieldLink RX3 35 "TapCap$Legs" "guessed" "LTapCap$Row;"] ++ wsX30 ++ wsX50 ++ wsX60 ++ (wsV RX3 71 RX5 yX5_at wsX5_at) ++ (wsV RX3 113 RX3 yX3_isOpenOn wsX3_isOpenOn) ++ (wsV RX3 120 RX3 yX3_add wsX3_add) ++ (wsV RX3 103 RX5 yX5_put wsX5_put))
def wsX3_likeliest : List Cond := .code yX3_likeliest cX3_likeliest 7 (some .int) :: ([.fieldLink RX3 57 "TapCap$Legs" "votes" "LTapCap$Row;", .fieldLink RX3 47 "TapCap$Legs" "count" "I", .fieldLink RX3 20 "TapCap$Legs" "from" "LTapCap$Row;", .fieldLink RX3 23 "TapCap$Legs" "to" "LTapCap$Row;", .fieldLink RX3 14 "TapCap$Legs" "dayOf" "LTapCap$Row;", .fieldLink RX3 35 "TapCap$Legs" "guessed" "LTapCap$Row;", .methodLink RX3 63 yX5_fill, .instanceMethod yX5_fill, .selects RX5 yX5_fill yX5_fill, .initialized RX5, .code yX5_fill cX5_fill 3 none, .fieldLink RX5 7 "TapCap$Row" "cells" "[I", .methodLink RX3 71 yX5_at, .instanceMethod yX5_at, .selects RX5 yX5_at yX5_at, .code yX5_at cX5_at 2 (some .int), .methodLink RX3 107 yX5_add, .instanceMethod yX5_add, .selects RX5 yX5_add yX5_add, .code yX5_add cX5_add 3 none] ++ wsX30 ++ wsX50)
def wsX3_fillGuesses : List Cond := .code yX3_fillGuesses cX3_fillGuesses 2 none :: ([.fieldLink RX3 47 "TapCap$Legs" "count" "I", .fieldLink RX3 35 "TapCap$Legs" "guessed" "LTapCap$Row;", .fieldLink RX3 20 "TapCap$Legs" "from" "LTapCap$Row;", .fieldLink RX3 14 "TapCap$Legs" "dayOf" "LTapCap$Row;", .fieldLink RX3 23 "TapCap$Legs" "to" "LTapCap$Row;"] ++ wsX30 ++ wsX50 ++ (wsV RX3 71 RX5 yX5_at wsX5_at) ++ (wsV RX3 123 RX3 yX3_likeliest wsX3_likeliest) ++ (wsV RX3 103 RX5 yX5_put wsX5_put))
def wsX3_read : List Cond := .code yX3_read cX3_read 8 none :: ([.fieldLink RX3 47 "TapCap$Legs" "count" "I", .fieldLink RX3 60 "TapCap$Legs" "ordered" "I", .fieldLink RX3 38 "TapCap$Legs" "firstOn" "LTapCap$Row;", .fieldLink RX3 41 "TapCap$Legs" "countOn" "LTapCap$Row;", .fieldLink RX3 44 "TapCap$Legs" "tapsOn" "LTapCap$Row;", .fieldLink RX3 66 "TapCap$Taps" "day" "LTapCap$Row;", .fieldLink RX3 75 "TapCap$Cards" "personOf" "LTapCap$Row;", .fieldLink RX3 80 "TapCap$Taps" "card" "LTapCap$Row;", .fieldLink RX3 83 "TapCap$Taps" "minute" "LTapCap$Row;", .fieldLink RX3 51 "TapCap$Legs" "order" "LTapCap$Row;", .fieldLink RX3 90 "TapCap$Taps" "in" "LTapCap$Row;"] ++ wsX00 ++ wsX30 ++ wsX50 ++ wsX60 ++ (wsV RX3 63 RX5 yX5_fill wsX5_fill) ++ (wsV RX3 71 RX5 yX5_at wsX5_at) ++ (wsV RX3 86 RX3 yX3_insert wsX3_insert) ++ (wsV RX3 97 RX3 yX3_takeOut wsX3_takeOut) ++ (wsV RX3 93 RX3 yX3_takeIn wsX3_takeIn) ++ (wsV RX3 100 RX3 yX3_fillGuesses wsX3_fillGuesses))
def wsX3_guessesOn : List Cond := .code yX3_guessesOn cX3_guessesOn 5 (some .int) :: ([.fieldLink RX3 38 "TapCap$Legs" "firstOn" "LTapCap$Row;", .fieldLink RX3 41 "TapCap$Legs" "countOn" "LTapCap$Row;", .fieldLink RX3 35 "TapCap$Legs" "guessed" "LTapCap$Row;", .methodLink RX3 71 yX5_at, .instanceMethod yX5_at, .selects RX5 yX5_at yX5_at, .initialized RX5, .code yX5_at cX5_at 2 (some .int), .fieldLink RX5 7 "TapCap$Row" "cells" "[I"] ++ wsX30 ++ wsX50)
def wsX4_init : List Cond := .code yX4_init cX4_init 1 none :: ([.methodLink RX4 3 objectInit, .instanceMethod objectInit, .code objectInit ⟨#[0xb1]⟩ 1 none, .classLink RX4 9 RX5, .instantiable RX5 1, .initialized RX5, .fieldLink RX4 14 "TapCap$Region" "zoneOf" "LTapCap$Row;", .fieldLink RX4 20 "TapCap$Region" "carrierOf" "LTapCap$Row;", .fieldLink RX4 23 "TapCap$Region" "lateBy" "LTapCap$Row;", .methodLink RX4 11 yX5_init, .instanceMethod yX5_init, .code yX5_init cX5_init 2 none, .methodLink RX5 1 objectInit, .arrayClass .int, .fieldLink RX5 7 "TapCap$Row" "cells" "[I", .methodLink RX4 26 yX5_fill, .instanceMethod yX5_fill, .selects RX5 yX5_fill yX5_fill, .code yX5_fill cX5_fill 3 none] ++ wsX50 ++ wsX40)
def wsX5_sum : List Cond := .code yX5_sum cX5_sum 3 (some .int) :: ([.fieldLink RX5 7 "TapCap$Row" "cells" "[I"] ++ wsX50)
def wsX6_init : List Cond := .code yX6_init cX6_init 1 none :: ([.methodLink RX6 3 objectInit, .instanceMethod objectInit, .code objectInit ⟨#[0xb1]⟩ 1 none, .classLink RX6 9 RX5, .instantiable RX5 1, .initialized RX5, .fieldLink RX6 14 "TapCap$Taps" "card" "LTapCap$Row;", .fieldLink RX6 20 "TapCap$Taps" "stop" "LTapCap$Row;", .fieldLink RX6 23 "TapCap$Taps" "line" "LTapCap$Row;", .fieldLink RX6 26 "TapCap$Taps" "in" "LTapCap$Row;", .fieldLink RX6 29 "TapCap$Taps" "day" "LTapCap$Row;", .fieldLink RX6 32 "TapCap$Taps" "minute" "LTapCap$Row;", .fieldLink RX6 35 "TapCap$Taps" "count" "I", .fieldLink RX6 39 "TapCap$Taps" "denied" "I", .fieldLink RX6 42 "TapCap$Taps" "doubled" "I", .methodLink RX6 11 yX5_init, .instanceMethod yX5_init, .code yX5_init cX5_init 2 none, .methodLink RX5 1 objectInit, .arrayClass .int, .fieldLink RX5 7 "TapCap$Row" "cells" "[I"] ++ wsX50 ++ wsX60)
def wsX6_write : List Cond := .code yX6_write cX6_write 8 none :: ([.fieldLink RX6 14 "TapCap$Taps" "card" "LTapCap$Row;", .fieldLink RX6 20 "TapCap$Taps" "stop" "LTapCap$Row;", .fieldLink RX6 23 "TapCap$Taps" "line" "LTapCap$Row;", .fieldLink RX6 26 "TapCap$Taps" "in" "LTapCap$Row;", .fieldLink RX6 29 "TapCap$Taps" "day" "LTapCap$Row;", .fieldLink RX6 32 "TapCap$Taps" "minute" "LTapCap$Row;", .methodLink RX6 45 yX5_put, .instanceMethod yX5_put, .selects RX5 yX5_put yX5_put, .initialized RX5, .code yX5_put cX5_put 3 none, .fieldLink RX5 7 "TapCap$Row" "cells" "[I"] ++ wsX60 ++ wsX50)
def wsX6_isSame : List Cond := .code yX6_isSame cX6_isSame 3 (some .boolean) :: ([.fieldLink RX6 14 "TapCap$Taps" "card" "LTapCap$Row;", .fieldLink RX6 20 "TapCap$Taps" "stop" "LTapCap$Row;", .fieldLink RX6 23 "TapCap$Taps" "line" "LTapCap$Row;", .fieldLink RX6 26 "TapCap$Taps" "in" "LTapCap$Row;", .fieldLink RX6 29 "TapCap$Taps" "day" "LTapCap$Row;", .fieldLink RX6 32 "TapCap$Taps" "minute" "LTapCap$Row;", .methodLink RX6 53 yX5_at, .instanceMethod yX5_at, .selects RX5 yX5_at yX5_at, .initialized RX5, .code yX5_at cX5_at 2 (some .int), .fieldLink RX5 7 "TapCap$Row" "cells" "[I"] ++ wsX60 ++ wsX50)
def wsX6_isRepeated : List Cond := .code yX6_isRepeated cX6_isRepeated 3 (some .boolean) :: ([.fieldLink RX6 35 "TapCap$Taps" "count" "I", .methodLink RX6 49 yX6_isSame, .instanceMethod yX6_isSame, .selects RX6 yX6_isSame yX6_isSame, .initialized RX6, .code yX6_isSame cX6_isSame 3 (some .boolean), .fieldLink RX6 14 "TapCap$Taps" "card" "LTapCap$Row;", .fieldLink RX6 20 "TapCap$Taps" "stop" "LTapCap$Row;", .fieldLink RX6 23 "TapCap$Taps" "line" "LTapCap$Row;", .fieldLink RX6 26 "TapCap$Taps" "in" "LTapCap$Row;", .fieldLink RX6 29 "TapCap$Taps" "day" "LTapCap$Row;", .fieldLink RX6 32 "TapCap$Taps" "minute" "LTapCap$Row;", .methodLink RX6 53 yX5_at, .instanceMethod yX5_at, .selects RX5 yX5_at yX5_at, .initialized RX5, .code yX5_at cX5_at 2 (some .int), .fieldLink RX5 7 "TapCap$Row" "cells" "[I"] ++ wsX60 ++ wsX50)
def wsX6_countOf : List Cond := .code yX6_countOf cX6_countOf 4 (some .int) :: ([.fieldLink RX6 35 "TapCap$Taps" "count" "I", .fieldLink RX6 14 "TapCap$Taps" "card" "LTapCap$Row;", .methodLink RX6 53 yX5_at, .instanceMethod yX5_at, .selects RX5 yX5_at yX5_at, .initialized RX5, .code yX5_at cX5_at 2 (some .int), .fieldLink RX5 7 "TapCap$Row" "cells" "[I"] ++ wsX60 ++ wsX50)
def wsX7_add : List Cond := .code yX7_add cX7_add 6 none :: ([.fieldLink RX7 14 "TapCap$Tariffs" "since" "LTapCap$Row;", .fieldLink RX7 32 "TapCap$Tariffs" "count" "I", .fieldLink RX7 20 "TapCap$Tariffs" "base" "LTapCap$Row;", .fieldLink RX7 23 "TapCap$Tariffs" "step" "LTapCap$Row;", .fieldLink RX7 26 "TapCap$Tariffs" "ticket" "LTapCap$Row;", .fieldLink RX7 29 "TapCap$Tariffs" "weekly" "LTapCap$Row;", .methodLink RX7 40 yX5_put, .instanceMethod yX5_put, .selects RX5 yX5_put yX5_put, .initialized RX5, .code yX5_put cX5_put 3 none, .fieldLink RX5 7 "TapCap$Row" "cells" "[I"] ++ wsX70 ++ wsX50)
def wsX7_init_r1 : List Cond := [Cond.methodLink RX7 3 objectInit, Cond.instanceMethod objectInit, Cond.code objectInit ⟨#[0xb1]⟩ 1 none, Cond.classLink RX7 9 RX5, Cond.instantiable RX5 1, Cond.initialized RX5, Cond.fieldLink RX7 14 "TapCap$Tariffs" "since" "LTapCap$Row;", Cond.fieldLink RX7 20 "TapCap$Tariffs" "base" "LTapCap$Row;", Cond.fieldLink RX7 23 "TapCap$Tariffs" "step" "LTapCap$Row;", Cond.fieldLink RX7 26 "TapCap$Tariffs" "ticket" "LTapCap$Row;", Cond.fieldLink RX7 29 "TapCap$Tariffs" "weekly" "LTapCap$Row;", Cond.fieldLink RX7 32 "TapCap$Tariffs" "count" "I", Cond.methodLink RX7 11 yX5_init, Cond.instanceMethod yX5_init, Cond.code yX5_init cX5_init 2 none, Cond.methodLink RX5 1 objectInit, Cond.arrayClass .int, Cond.fieldLink RX5 7 "TapCap$Row" "cells" "[I", Cond.methodLink RX7 36 yX7_add, Cond.instanceMethod yX7_add, Cond.selects RX7 yX7_add yX7_add, Cond.initialized RX7, Cond.code yX7_add cX7_add 6 none, Cond.methodLink RX7 40 yX5_put]
def wsX7_init_r2 : List Cond := [Cond.instanceMethod yX5_put, Cond.selects RX5 yX5_put yX5_put, Cond.code yX5_put cX5_put 3 none]
def wsX7_init : List Cond := .code yX7_init cX7_init 1 none :: ((wsX7_init_r1 ++ wsX7_init_r2) ++ wsX50 ++ wsX70)
def wsX8_init_r1 : List Cond := [Cond.methodLink RX8 3 objectInit, Cond.instanceMethod objectInit, Cond.code objectInit ⟨#[0xb1]⟩ 1 none, Cond.classLink RX8 9 RX4, Cond.instantiable RX4 3, Cond.initialized RX4, Cond.fieldLink RX8 12 "TapCap" "region" "LTapCap$Region;", Cond.classLink RX8 16 RX7, Cond.instantiable RX7 6, Cond.initialized RX7, Cond.fieldLink RX8 19 "TapCap" "tariffs" "LTapCap$Tariffs;", Cond.classLink RX8 23 RX0, Cond.instantiable RX0 6, Cond.initialized RX0, Cond.fieldLink RX8 26 "TapCap" "cards" "LTapCap$Cards;", Cond.classLink RX8 30 RX6, Cond.instantiable RX6 9, Cond.initialized RX6, Cond.fieldLink RX8 33 "TapCap" "taps" "LTapCap$Taps;", Cond.classLink RX8 37 RX3, Cond.instantiable RX3 15, Cond.initialized RX3, Cond.fieldLink RX8 40 "TapCap" "legs" "LTapCap$Legs;", Cond.classLink RX8 44 RX2]
def wsX8_init_r2 : List Cond := [Cond.instantiable RX2 10, Cond.initialized RX2, Cond.fieldLink RX8 47 "TapCap" "journeys" "LTapCap$Journeys;", Cond.classLink RX8 51 RX1, Cond.instantiable RX1 4, Cond.initialized RX1, Cond.fieldLink RX8 54 "TapCap" "costs" "LTapCap$Costs;", Cond.fieldLink RX8 58 "TapCap" "closedDays" "I", Cond.fieldLink RX8 62 "TapCap" "refunded" "I", Cond.methodLink RX8 11 yX4_init, Cond.instanceMethod yX4_init, Cond.code yX4_init cX4_init 1 none, Cond.methodLink RX4 3 objectInit, Cond.classLink RX4 9 RX5, Cond.instantiable RX5 1, Cond.initialized RX5, Cond.fieldLink RX4 14 "TapCap$Region" "zoneOf" "LTapCap$Row;", Cond.fieldLink RX4 20 "TapCap$Region" "carrierOf" "LTapCap$Row;", Cond.fieldLink RX4 23 "TapCap$Region" "lateBy" "LTapCap$Row;", Cond.methodLink RX4 11 yX5_init, Cond.instanceMethod yX5_init, Cond.code yX5_init cX5_init 2 none, Cond.methodLink RX5 1 objectInit, Cond.arrayClass .int]
def wsX8_init_r3 : List Cond := [Cond.fieldLink RX5 7 "TapCap$Row" "cells" "[I", Cond.methodLink RX4 26 yX5_fill, Cond.instanceMethod yX5_fill, Cond.selects RX5 yX5_fill yX5_fill, Cond.code yX5_fill cX5_fill 3 none, Cond.methodLink RX8 18 yX7_init, Cond.instanceMethod yX7_init, Cond.code yX7_init cX7_init 1 none, Cond.methodLink RX7 3 objectInit, Cond.classLink RX7 9 RX5, Cond.fieldLink RX7 14 "TapCap$Tariffs" "since" "LTapCap$Row;", Cond.fieldLink RX7 20 "TapCap$Tariffs" "base" "LTapCap$Row;", Cond.fieldLink RX7 23 "TapCap$Tariffs" "step" "LTapCap$Row;", Cond.fieldLink RX7 26 "TapCap$Tariffs" "ticket" "LTapCap$Row;", Cond.fieldLink RX7 29 "TapCap$Tariffs" "weekly" "LTapCap$Row;", Cond.fieldLink RX7 32 "TapCap$Tariffs" "count" "I", Cond.methodLink RX7 11 yX5_init, Cond.methodLink RX7 36 yX7_add, Cond.instanceMethod yX7_add, Cond.selects RX7 yX7_add yX7_add, Cond.code yX7_add cX7_add 6 none, Cond.methodLink RX7 40 yX5_put, Cond.instanceMethod yX5_put, Cond.selects RX5 yX5_put yX5_put]
def wsX8_init_r4 : List Cond := [Cond.code yX5_put cX5_put 3 none, Cond.instanceMethod yX0_init, Cond.code yX0_init cX0_init 1 none, Cond.methodLink RX0 3 objectInit, Cond.classLink RX0 9 RX5, Cond.fieldLink RX0 14 "TapCap$Cards" "purse" "LTapCap$Row;", Cond.fieldLink RX0 20 "TapCap$Cards" "personOf" "LTapCap$Row;", Cond.fieldLink RX0 23 "TapCap$Cards" "lost" "LTapCap$Row;", Cond.fieldLink RX0 26 "TapCap$Cards" "charged" "LTapCap$Row;", Cond.fieldLink RX0 29 "TapCap$Cards" "asked" "LTapCap$Row;", Cond.fieldLink RX0 32 "TapCap$Cards" "count" "I", Cond.methodLink RX0 11 yX5_init, Cond.instanceMethod yX6_init, Cond.code yX6_init cX6_init 1 none, Cond.methodLink RX6 3 objectInit, Cond.classLink RX6 9 RX5, Cond.fieldLink RX6 14 "TapCap$Taps" "card" "LTapCap$Row;", Cond.fieldLink RX6 20 "TapCap$Taps" "stop" "LTapCap$Row;", Cond.fieldLink RX6 23 "TapCap$Taps" "line" "LTapCap$Row;", Cond.fieldLink RX6 26 "TapCap$Taps" "in" "LTapCap$Row;", Cond.fieldLink RX6 29 "TapCap$Taps" "day" "LTapCap$Row;", Cond.fieldLink RX6 32 "TapCap$Taps" "minute" "LTapCap$Row;", Cond.fieldLink RX6 35 "TapCap$Taps" "count" "I", Cond.fieldLink RX6 39 "TapCap$Taps" "denied" "I"]
def wsX8_init_r5 : List Cond := [Cond.fieldLink RX6 42 "TapCap$Taps" "doubled" "I", Cond.methodLink RX6 11 yX5_init, Cond.instanceMethod yX3_init, Cond.code yX3_init cX3_init 1 none, Cond.methodLink RX3 3 objectInit, Cond.classLink RX3 9 RX5, Cond.fieldLink RX3 14 "TapCap$Legs" "dayOf" "LTapCap$Row;", Cond.fieldLink RX3 20 "TapCap$Legs" "from" "LTapCap$Row;", Cond.fieldLink RX3 23 "TapCap$Legs" "to" "LTapCap$Row;", Cond.fieldLink RX3 26 "TapCap$Legs" "begin" "LTapCap$Row;", Cond.fieldLink RX3 29 "TapCap$Legs" "end" "LTapCap$Row;", Cond.fieldLink RX3 32 "TapCap$Legs" "lineOf" "LTapCap$Row;", Cond.fieldLink RX3 35 "TapCap$Legs" "guessed" "LTapCap$Row;", Cond.fieldLink RX3 38 "TapCap$Legs" "firstOn" "LTapCap$Row;", Cond.fieldLink RX3 41 "TapCap$Legs" "countOn" "LTapCap$Row;", Cond.fieldLink RX3 44 "TapCap$Legs" "tapsOn" "LTapCap$Row;", Cond.fieldLink RX3 47 "TapCap$Legs" "count" "I", Cond.fieldLink RX3 51 "TapCap$Legs" "order" "LTapCap$Row;", Cond.fieldLink RX3 54 "TapCap$Legs" "moments" "LTapCap$Row;", Cond.fieldLink RX3 57 "TapCap$Legs" "votes" "LTapCap$Row;", Cond.fieldLink RX3 60 "TapCap$Legs" "ordered" "I", Cond.methodLink RX3 11 yX5_init, Cond.instanceMethod yX2_init, Cond.code yX2_init cX2_init 1 none]
def wsX8_init_r6 : List Cond := [Cond.methodLink RX2 3 objectInit, Cond.classLink RX2 9 RX5, Cond.fieldLink RX2 14 "TapCap$Journeys" "legCount" "LTapCap$Row;", Cond.fieldLink RX2 20 "TapCap$Journeys" "top" "LTapCap$Row;", Cond.fieldLink RX2 23 "TapCap$Journeys" "fare" "LTapCap$Row;", Cond.fieldLink RX2 26 "TapCap$Journeys" "indexOfLeg" "LTapCap$Row;", Cond.fieldLink RX2 29 "TapCap$Journeys" "firstOn" "LTapCap$Row;", Cond.fieldLink RX2 32 "TapCap$Journeys" "countOn" "LTapCap$Row;", Cond.fieldLink RX2 35 "TapCap$Journeys" "dayOf" "LTapCap$Row;", Cond.fieldLink RX2 38 "TapCap$Journeys" "firstLeg" "LTapCap$Row;", Cond.fieldLink RX2 41 "TapCap$Journeys" "bottom" "LTapCap$Row;", Cond.fieldLink RX2 44 "TapCap$Journeys" "count" "I", Cond.methodLink RX2 11 yX5_init, Cond.instanceMethod yX1_init, Cond.code yX1_init cX1_init 1 none, Cond.methodLink RX1 3 objectInit, Cond.classLink RX1 9 RX5, Cond.fieldLink RX1 14 "TapCap$Costs" "dayChoice" "LTapCap$Row;", Cond.fieldLink RX1 20 "TapCap$Costs" "weekChoice" "LTapCap$Row;", Cond.fieldLink RX1 23 "TapCap$Costs" "beside" "LTapCap$Row;", Cond.fieldLink RX1 26 "TapCap$Costs" "weekTickets" "LTapCap$Row;", Cond.methodLink RX1 11 yX5_init]
def wsX8_init : List Cond := .code yX8_init cX8_init 1 none :: ((wsX8_init_r1 ++ (wsX8_init_r2 ++ (wsX8_init_r3 ++ (wsX8_init_r4 ++ (wsX8_init_r5 ++ wsX8_init_r6))))) ++ wsX40 ++ wsX80 ++ wsX70 ++ wsX00 ++ wsX60 ++ wsX30 ++ wsX20 ++ wsX10 ++ wsX50)
def wsX8_needNumber : List Cond := .code yX8_needNumber cX8_needNumber 2 none :: ([])
def wsX8_needRange : List Cond := .code yX8_needRange cX8_needRange 3 none :: ([])
def wsX8_zone : List Cond := .code yX8_zone cX8_zone 4 (some .int) :: ([.fieldLink RX8 12 "TapCap" "region" "LTapCap$Region;", .fieldLink RX8 73 "TapCap$Region" "zoneOf" "LTapCap$Row;"] ++ wsX40 ++ wsX50 ++ wsX80 ++ (va_wsS RX8 65 yX8_needNumber wsX8_needNumber) ++ (va_wsS RX8 69 yX8_needRange wsX8_needRange) ++ (wsV RX8 77 RX5 yX5_at wsX5_at) ++ (wsV RX8 83 RX5 yX5_put wsX5_put))
def wsX8_tariff : List Cond := .code yX8_tariff cX8_tariff 6 (some .int) :: ([.fieldLink RX8 19 "TapCap" "tariffs" "LTapCap$Tariffs;", .fieldLink RX8 89 "TapCap$Tariffs" "count" "I", .fieldLink RX8 58 "TapCap" "closedDays" "I"] ++ wsX70 ++ wsX80 ++ (va_wsS RX8 69 yX8_needRange wsX8_needRange) ++ (wsV RX8 99 RX7 yX7_add wsX7_add))
def wsX8_card : List Cond := .code yX8_card cX8_card 1 (some .int) :: ([.fieldLink RX8 26 "TapCap" "cards" "LTapCap$Cards;", .fieldLink RX8 103 "TapCap$Cards" "count" "I"] ++ wsX00 ++ wsX80 ++ (wsV RX8 106 RX0 yX0_give wsX0_give))
def wsX8_needCard : List Cond := .code yX8_needCard cX8_needCard 2 none :: ([.fieldLink RX8 26 "TapCap" "cards" "LTapCap$Cards;", .fieldLink RX8 103 "TapCap$Cards" "count" "I"] ++ wsX00 ++ wsX80 ++ (va_wsS RX8 65 yX8_needNumber wsX8_needNumber))
def wsX8_needTap : List Cond := .code yX8_needTap cX8_needTap 6 none :: ([] ++ (wsV RX8 110 RX8 yX8_needCard wsX8_needCard) ++ (va_wsS RX8 65 yX8_needNumber wsX8_needNumber) ++ (va_wsS RX8 69 yX8_needRange wsX8_needRange))
def wsX8_tap : List Cond := .code yX8_tap cX8_tap 7 (some .int) :: ([.fieldLink RX8 26 "TapCap" "cards" "LTapCap$Cards;", .fieldLink RX8 33 "TapCap" "taps" "LTapCap$Taps;", .fieldLink RX8 151 "TapCap$Taps" "count" "I", .fieldLink RX8 159 "TapCap$Taps" "doubled" "I", .fieldLink RX8 148 "TapCap$Taps" "denied" "I"] ++ wsX60 ++ wsX80 ++ (wsV RX8 145 RX8 yX8_needTap wsX8_needTap) ++ (wsV RX8 131 RX0 yX0_isLost wsX0_isLost) ++ (wsV RX8 152 RX6 yX6_write wsX6_write) ++ (wsV RX8 156 RX6 yX6_isRepeated wsX6_isRepeated))
def wsX8_study : List Cond := .code yX8_study cX8_study 4 none :: ([.fieldLink RX8 40 "TapCap" "legs" "LTapCap$Legs;", .fieldLink RX8 33 "TapCap" "taps" "LTapCap$Taps;", .fieldLink RX8 26 "TapCap" "cards" "LTapCap$Cards;", .fieldLink RX8 47 "TapCap" "journeys" "LTapCap$Journeys;", .fieldLink RX8 12 "TapCap" "region" "LTapCap$Region;", .fieldLink RX8 19 "TapCap" "tariffs" "LTapCap$Tariffs;", .fieldLink RX8 54 "TapCap" "costs" "LTapCap$Costs;"] ++ wsX80 ++ (wsV RX8 255 RX3 yX3_read wsX3_read) ++ (wsV RX8 259 RX2 yX2_read wsX2_read) ++ (wsV RX8 262 RX1 yX1_read wsX1_read))
def wsX8_dueUpTo : List Cond := .code yX8_dueUpTo cX8_dueUpTo 4 (some .int) :: ([.fieldLink RX8 33 "TapCap" "taps" "LTapCap$Taps;", .fieldLink RX8 151 "TapCap$Taps" "count" "I", .fieldLink RX8 54 "TapCap" "costs" "LTapCap$Costs;", .fieldLink RX8 26 "TapCap" "cards" "LTapCap$Cards;", .fieldLink RX8 271 "TapCap$Cards" "charged" "LTapCap$Row;"] ++ wsX00 ++ wsX50 ++ wsX60 ++ wsX80 ++ (wsV RX8 188 RX8 yX8_study wsX8_study) ++ (wsV RX8 268 RX1 yX1_leastUpTo wsX1_leastUpTo) ++ (wsV RX8 77 RX5 yX5_at wsX5_at))
def wsX8_close : List Cond := .code yX8_close cX8_close 4 (some .int) :: ([.fieldLink RX8 58 "TapCap" "closedDays" "I", .fieldLink RX8 26 "TapCap" "cards" "LTapCap$Cards;", .fieldLink RX8 103 "TapCap$Cards" "count" "I"] ++ wsX00 ++ wsX80 ++ (wsV RX8 166 RX0 yX0_isPerson wsX0_isPerson) ++ (wsV RX8 169 RX8 yX8_dueUpTo wsX8_dueUpTo) ++ (wsV RX8 173 RX0 yX0_charge wsX0_charge))
def wsX8_needPerson : List Cond := .code yX8_needPerson cX8_needPerson 2 none :: ([.fieldLink RX8 26 "TapCap" "cards" "LTapCap$Cards;"] ++ wsX80 ++ (wsV RX8 166 RX0 yX0_isPerson wsX0_isPerson))
def wsX8_settle : List Cond := .code yX8_settle cX8_settle 5 (some .int) :: ([.fieldLink RX8 58 "TapCap" "closedDays" "I", .methodLink RX8 178 Lib.Math.min.name, .static Lib.Math.min.name, .initialized "java/lang/Math", .code Lib.Math.min.name Lib.Math.min.code 2 (some .int), .fieldLink RX8 26 "TapCap" "cards" "LTapCap$Cards;"] ++ wsX80 ++ (wsV RX8 114 RX8 yX8_needPerson wsX8_needPerson) ++ (va_wsS RX8 65 yX8_needNumber wsX8_needNumber) ++ (wsV RX8 169 RX8 yX8_dueUpTo wsX8_dueUpTo) ++ (wsV RX8 173 RX0 yX0_charge wsX0_charge))
def wsX8_cardAnswer : List Cond := .code yX8_cardAnswer cX8_cardAnswer 3 (some .int) :: ([.fieldLink RX8 26 "TapCap" "cards" "LTapCap$Cards;", .fieldLink RX8 137 "TapCap$Cards" "purse" "LTapCap$Row;", .fieldLink RX8 128 "TapCap$Cards" "personOf" "LTapCap$Row;", .fieldLink RX8 134 "TapCap$Cards" "lost" "LTapCap$Row;", .fieldLink RX8 33 "TapCap" "taps" "LTapCap$Taps;", .fieldLink RX8 271 "TapCap$Cards" "charged" "LTapCap$Row;"] ++ wsX00 ++ wsX50 ++ wsX80 ++ (wsV RX8 77 RX5 yX5_at wsX5_at) ++ (wsV RX8 281 RX6 yX6_countOf wsX6_countOf))
def wsX8_ofCard : List Cond := .code yX8_ofCard cX8_ofCard 3 (some .int) :: ([] ++ (wsV RX8 110 RX8 yX8_needCard wsX8_needCard) ++ (va_wsS RX8 69 yX8_needRange wsX8_needRange) ++ (wsV RX8 194 RX8 yX8_cardAnswer wsX8_cardAnswer))
def wsX8_dayAnswer : List Cond := .code yX8_dayAnswer cX8_dayAnswer 3 (some .int) :: ([.fieldLink RX8 40 "TapCap" "legs" "LTapCap$Legs;", .fieldLink RX8 284 "TapCap$Legs" "tapsOn" "LTapCap$Row;", .fieldLink RX8 200 "TapCap$Legs" "countOn" "LTapCap$Row;", .fieldLink RX8 47 "TapCap" "journeys" "LTapCap$Journeys;", .fieldLink RX8 209 "TapCap$Journeys" "countOn" "LTapCap$Row;", .fieldLink RX8 54 "TapCap" "costs" "LTapCap$Costs;", .fieldLink RX8 293 "TapCap$Costs" "dayChoice" "LTapCap$Row;"] ++ wsX10 ++ wsX20 ++ wsX30 ++ wsX50 ++ wsX80 ++ (wsV RX8 77 RX5 yX5_at wsX5_at) ++ (wsV RX8 287 RX3 yX3_guessesOn wsX3_guessesOn) ++ (wsV RX8 227 RX2 yX2_fares wsX2_fares) ++ (wsV RX8 290 RX1 yX1_byItself wsX1_byItself) ++ (wsV RX8 296 RX1 yX1_withinWeek wsX1_withinWeek))
def wsX8_ofDay : List Cond := .code yX8_ofDay cX8_ofDay 4 (some .int) :: ([.fieldLink RX8 33 "TapCap" "taps" "LTapCap$Taps;", .fieldLink RX8 151 "TapCap$Taps" "count" "I"] ++ wsX60 ++ wsX80 ++ (wsV RX8 114 RX8 yX8_needPerson wsX8_needPerson) ++ (va_wsS RX8 65 yX8_needNumber wsX8_needNumber) ++ (va_wsS RX8 69 yX8_needRange wsX8_needRange) ++ (wsV RX8 188 RX8 yX8_study wsX8_study) ++ (wsV RX8 197 RX8 yX8_dayAnswer wsX8_dayAnswer))
def wsX8_legAnswer : List Cond := .code yX8_legAnswer cX8_legAnswer 3 (some .int) :: ([.fieldLink RX8 40 "TapCap" "legs" "LTapCap$Legs;", .fieldLink RX8 299 "TapCap$Legs" "from" "LTapCap$Row;", .fieldLink RX8 302 "TapCap$Legs" "to" "LTapCap$Row;", .fieldLink RX8 305 "TapCap$Legs" "begin" "LTapCap$Row;", .fieldLink RX8 308 "TapCap$Legs" "end" "LTapCap$Row;", .fieldLink RX8 311 "TapCap$Legs" "lineOf" "LTapCap$Row;", .fieldLink RX8 314 "TapCap$Legs" "guessed" "LTapCap$Row;", .fieldLink RX8 47 "TapCap" "journeys" "LTapCap$Journeys;", .fieldLink RX8 317 "TapCap$Journeys" "indexOfLeg" "LTapCap$Row;"] ++ wsX20 ++ wsX30 ++ wsX50 ++ wsX80 ++ (wsV RX8 77 RX5 yX5_at wsX5_at))
def wsX8_ofLeg : List Cond := .code yX8_ofLeg cX8_ofLeg 5 (some .int) :: ([.fieldLink RX8 33 "TapCap" "taps" "LTapCap$Taps;", .fieldLink RX8 151 "TapCap$Taps" "count" "I", .fieldLink RX8 40 "TapCap" "legs" "LTapCap$Legs;", .fieldLink RX8 200 "TapCap$Legs" "countOn" "LTapCap$Row;", .fieldLink RX8 203 "TapCap$Legs" "firstOn" "LTapCap$Row;"] ++ wsX30 ++ wsX50 ++ wsX60 ++ wsX80 ++ (wsV RX8 114 RX8 yX8_needPerson wsX8_needPerson) ++ (va_wsS RX8 65 yX8_needNumber wsX8_needNumber) ++ (wsV RX8 188 RX8 yX8_study wsX8_study) ++ (wsV RX8 77 RX5 yX5_at wsX5_at) ++ (va_wsS RX8 69 yX8_needRange wsX8_needRange) ++ (wsV RX8 206 RX8 yX8_legAnswer wsX8_legAnswer))
def wsX8_weekAnswer_r1 : List Cond := [Cond.fieldLink RX8 54 "TapCap" "costs" "LTapCap$Costs;", Cond.fieldLink RX8 329 "TapCap$Costs" "weekChoice" "LTapCap$Row;", Cond.methodLink RX8 265 yX1_ofWholeWeek, Cond.instanceMethod yX1_ofWholeWeek, Cond.selects RX1 yX1_ofWholeWeek yX1_ofWholeWeek, Cond.initialized RX1, Cond.code yX1_ofWholeWeek cX1_ofWholeWeek 2 (some .int), Cond.fieldLink RX1 20 "TapCap$Costs" "weekChoice" "LTapCap$Row;", Cond.methodLink RX1 58 yX1_lastDayOf, Cond.static yX1_lastDayOf, Cond.code yX1_lastDayOf cX1_lastDayOf 1 (some .int), Cond.methodLink RX1 37 yX5_at, Cond.instanceMethod yX5_at, Cond.selects RX5 yX5_at yX5_at, Cond.initialized RX5, Cond.code yX5_at cX5_at 2 (some .int), Cond.fieldLink RX5 7 "TapCap$Row" "cells" "[I", Cond.methodLink RX1 75 yX1_upTo, Cond.instanceMethod yX1_upTo, Cond.selects RX1 yX1_upTo yX1_upTo, Cond.code yX1_upTo cX1_upTo 6 (some .int), Cond.fieldLink RX1 26 "TapCap$Costs" "weekTickets" "LTapCap$Row;", Cond.fieldLink RX1 23 "TapCap$Costs" "beside" "LTapCap$Row;", Cond.methodLink RX8 77 yX5_at]
def wsX8_weekAnswer_r2 : List Cond := [Cond.methodLink RX8 332 yX1_ofDaysByThemselves, Cond.instanceMethod yX1_ofDaysByThemselves, Cond.selects RX1 yX1_ofDaysByThemselves yX1_ofDaysByThemselves, Cond.code yX1_ofDaysByThemselves cX1_ofDaysByThemselves 2 (some .int)]
def wsX8_weekAnswer : List Cond := .code yX8_weekAnswer cX8_weekAnswer 3 (some .int) :: ((wsX8_weekAnswer_r1 ++ wsX8_weekAnswer_r2) ++ wsX80 ++ wsX10 ++ wsX50)
def wsX8_ofWeek : List Cond := .code yX8_ofWeek cX8_ofWeek 4 (some .int) :: ([.fieldLink RX8 33 "TapCap" "taps" "LTapCap$Taps;", .fieldLink RX8 151 "TapCap$Taps" "count" "I"] ++ wsX60 ++ wsX80 ++ (wsV RX8 114 RX8 yX8_needPerson wsX8_needPerson) ++ (va_wsS RX8 65 yX8_needNumber wsX8_needNumber) ++ (va_wsS RX8 69 yX8_needRange wsX8_needRange) ++ (wsV RX8 188 RX8 yX8_study wsX8_study) ++ (wsV RX8 214 RX8 yX8_weekAnswer wsX8_weekAnswer))
def wsX8_manyAnswer : List Cond := .code yX8_manyAnswer cX8_manyAnswer 2 (some .int) :: ([.fieldLink RX8 26 "TapCap" "cards" "LTapCap$Cards;", .fieldLink RX8 103 "TapCap$Cards" "count" "I", .fieldLink RX8 33 "TapCap" "taps" "LTapCap$Taps;", .fieldLink RX8 151 "TapCap$Taps" "count" "I", .fieldLink RX8 148 "TapCap$Taps" "denied" "I", .fieldLink RX8 159 "TapCap$Taps" "doubled" "I", .fieldLink RX8 58 "TapCap" "closedDays" "I", .fieldLink RX8 19 "TapCap" "tariffs" "LTapCap$Tariffs;", .fieldLink RX8 89 "TapCap$Tariffs" "count" "I", .fieldLink RX8 137 "TapCap$Cards" "purse" "LTapCap$Row;", .fieldLink RX8 271 "TapCap$Cards" "charged" "LTapCap$Row;", .fieldLink RX8 62 "TapCap" "refunded" "I"] ++ wsX00 ++ wsX50 ++ wsX60 ++ wsX70 ++ wsX80 ++ (wsV RX8 335 RX5 yX5_sum wsX5_sum))
def wsX8_many : List Cond := .code yX8_many cX8_many 2 (some .int) :: ([] ++ (va_wsS RX8 69 yX8_needRange wsX8_needRange) ++ (wsV RX8 224 RX8 yX8_manyAnswer wsX8_manyAnswer))
def wsX8_costOfWeek : List Cond := .code yX8_costOfWeek cX8_costOfWeek 5 (some .int) :: ([.fieldLink RX8 54 "TapCap" "costs" "LTapCap$Costs;"] ++ wsX80 ++ (wsV RX8 188 RX8 yX8_study wsX8_study) ++ (wsV RX8 265 RX1 yX1_ofWholeWeek wsX1_ofWholeWeek))
def wsX8_wouldCost : List Cond := .code yX8_wouldCost cX8_wouldCost 10 (some .int) :: ([.fieldLink RX8 26 "TapCap" "cards" "LTapCap$Cards;", .fieldLink RX8 128 "TapCap$Cards" "personOf" "LTapCap$Row;", .fieldLink RX8 33 "TapCap" "taps" "LTapCap$Taps;", .fieldLink RX8 151 "TapCap$Taps" "count" "I"] ++ wsX00 ++ wsX50 ++ wsX60 ++ wsX80 ++ (wsV RX8 145 RX8 yX8_needTap wsX8_needTap) ++ (wsV RX8 77 RX5 yX5_at wsX5_at) ++ (wsV RX8 230 RX8 yX8_costOfWeek wsX8_costOfWeek) ++ (wsV RX8 152 RX6 yX6_write wsX6_write))
def wsX8_guess : List Cond := .code yX8_guess cX8_guess 5 (some .int) :: ([.fieldLink RX8 33 "TapCap" "taps" "LTapCap$Taps;", .fieldLink RX8 151 "TapCap$Taps" "count" "I", .fieldLink RX8 40 "TapCap" "legs" "LTapCap$Legs;"] ++ wsX60 ++ wsX80 ++ (wsV RX8 114 RX8 yX8_needPerson wsX8_needPerson) ++ (va_wsS RX8 65 yX8_needNumber wsX8_needNumber) ++ (wsV RX8 188 RX8 yX8_study wsX8_study) ++ (wsV RX8 234 RX3 yX3_likeliest wsX3_likeliest))
def wsX8_partOf : List Cond := .code yX8_partOf cX8_partOf 3 (some .int) :: ([])
def wsX8_weightOf : List Cond := .code yX8_weightOf cX8_weightOf 8 (some .int) :: ([.fieldLink RX8 47 "TapCap" "journeys" "LTapCap$Journeys;", .fieldLink RX8 210 "TapCap$Journeys" "firstOn" "LTapCap$Row;", .fieldLink RX8 209 "TapCap$Journeys" "countOn" "LTapCap$Row;", .fieldLink RX8 40 "TapCap" "legs" "LTapCap$Legs;", .fieldLink RX8 12 "TapCap" "region" "LTapCap$Region;", .fieldLink RX8 278 "TapCap$Journeys" "fare" "LTapCap$Row;", .fieldLink RX8 320 "TapCap$Journeys" "legCount" "LTapCap$Row;"] ++ wsX20 ++ wsX50 ++ wsX80 ++ (wsV RX8 77 RX5 yX5_at wsX5_at) ++ (wsV RX8 345 RX2 yX2_legsOfCarrier wsX2_legsOfCarrier) ++ (va_wsS RX8 341 yX8_partOf wsX8_partOf))
def wsX8_shareAnswer : List Cond := .code yX8_shareAnswer cX8_shareAnswer 7 (some .int) :: ([.fieldLink RX8 40 "TapCap" "legs" "LTapCap$Legs;", .fieldLink RX8 200 "TapCap$Legs" "countOn" "LTapCap$Row;", .fieldLink RX8 54 "TapCap" "costs" "LTapCap$Costs;", .fieldLink RX8 12 "TapCap" "region" "LTapCap$Region;", .fieldLink RX8 86 "TapCap$Region" "carrierOf" "LTapCap$Row;", .fieldLink RX8 311 "TapCap$Legs" "lineOf" "LTapCap$Row;", .fieldLink RX8 203 "TapCap$Legs" "firstOn" "LTapCap$Row;"] ++ wsX30 ++ wsX40 ++ wsX50 ++ wsX80 ++ (wsV RX8 77 RX5 yX5_at wsX5_at) ++ (wsV RX8 290 RX1 yX1_byItself wsX1_byItself) ++ (wsV RX8 338 RX8 yX8_weightOf wsX8_weightOf) ++ (va_wsS RX8 341 yX8_partOf wsX8_partOf))
def wsX8_digestDay : List Cond := .code yX8_digestDay cX8_digestDay 9 (some .long) :: ([.constantLong RX8 240 (31), .fieldLink RX8 40 "TapCap" "legs" "LTapCap$Legs;", .fieldLink RX8 284 "TapCap$Legs" "tapsOn" "LTapCap$Row;", .fieldLink RX8 203 "TapCap$Legs" "firstOn" "LTapCap$Row;", .fieldLink RX8 200 "TapCap$Legs" "countOn" "LTapCap$Row;"] ++ wsX30 ++ wsX50 ++ wsX80 ++ (wsV RX8 197 RX8 yX8_dayAnswer wsX8_dayAnswer) ++ (wsV RX8 77 RX5 yX5_at wsX5_at) ++ (wsV RX8 217 RX8 yX8_shareAnswer wsX8_shareAnswer) ++ (wsV RX8 206 RX8 yX8_legAnswer wsX8_legAnswer))
def wsX8_digestPerson : List Cond := .code yX8_digestPerson cX8_digestPerson 8 (some .long) :: ([.fieldLink RX8 33 "TapCap" "taps" "LTapCap$Taps;", .fieldLink RX8 151 "TapCap$Taps" "count" "I", .constantLong RX8 240 (31), .fieldLink RX8 40 "TapCap" "legs" "LTapCap$Legs;"] ++ wsX60 ++ wsX80 ++ (wsV RX8 188 RX8 yX8_study wsX8_study) ++ (wsV RX8 349 RX8 yX8_digestDay wsX8_digestDay) ++ (wsV RX8 214 RX8 yX8_weekAnswer wsX8_weekAnswer) ++ (wsV RX8 234 RX3 yX3_likeliest wsX3_likeliest))
def wsX8_digest : List Cond := .code yX8_digest cX8_digest 5 (some .long) :: ([.constantLong RX8 238 (4806), .constantLong RX8 240 (31), .fieldLink RX8 26 "TapCap" "cards" "LTapCap$Cards;", .fieldLink RX8 103 "TapCap$Cards" "count" "I"] ++ wsX00 ++ wsX80 ++ (wsV RX8 224 RX8 yX8_manyAnswer wsX8_manyAnswer) ++ (wsV RX8 194 RX8 yX8_cardAnswer wsX8_cardAnswer) ++ (wsV RX8 166 RX0 yX0_isPerson wsX0_isPerson) ++ (wsV RX8 242 RX8 yX8_digestPerson wsX8_digestPerson))
def wsJ9_max_7cf53 : List Cond := .code yJ9_max_7cf53 cJ9_max_7cf53 2 (some .int) :: ([])
def wsJ9_min_7cf53 : List Cond := .code yJ9_min_7cf53 cJ9_min_7cf53 2 (some .int) :: ([])
theorem dJ9_max_7cf53_0 : decode cJ9_max_7cf53 0 = .ok (.iload_n 0, 1) := by decide +kernel
theorem dJ9_max_7cf53_1 : decode cJ9_max_7cf53 1 = .ok (.iload_n 1, 1) := by decide +kernel
theorem dJ9_max_7cf53_2 : decode cJ9_max_7cf53 2 = .ok (.if_icmp .lt 7, 3) := by decide +kernel
theorem dJ9_max_7cf53_5 : decode cJ9_max_7cf53 5 = .ok (.iload_n 0, 1) := by decide +kernel
theorem dJ9_max_7cf53_6 : decode cJ9_max_7cf53 6 = .ok (.goto 4, 3) := by decide +kernel
theorem dJ9_max_7cf53_9 : decode cJ9_max_7cf53 9 = .ok (.iload_n 1, 1) := by decide +kernel
theorem dJ9_max_7cf53_10 : decode cJ9_max_7cf53 10 = .ok (.ireturn, 1) := by decide +kernel
theorem dJ9_min_7cf53_0 : decode cJ9_min_7cf53 0 = .ok (.iload_n 0, 1) := by decide +kernel
theorem dJ9_min_7cf53_1 : decode cJ9_min_7cf53 1 = .ok (.iload_n 1, 1) := by decide +kernel
theorem dJ9_min_7cf53_2 : decode cJ9_min_7cf53 2 = .ok (.if_icmp .gt 7, 3) := by decide +kernel
theorem dJ9_min_7cf53_5 : decode cJ9_min_7cf53 5 = .ok (.iload_n 0, 1) := by decide +kernel
theorem dJ9_min_7cf53_6 : decode cJ9_min_7cf53 6 = .ok (.goto 4, 3) := by decide +kernel
theorem dJ9_min_7cf53_9 : decode cJ9_min_7cf53 9 = .ok (.iload_n 1, 1) := by decide +kernel
theorem dJ9_min_7cf53_10 : decode cJ9_min_7cf53 10 = .ok (.ireturn, 1) := by decide +kernel
abbrev vwCl : List vw_C := [(RX0, TX0, 6), (RX1, TX1, 4), (RX2, TX2, 10), (RX3, TX3, 15), (RX4, TX4, 3), (RX5, TX5, 1), (RX6, TX6, 9), (RX7, TX7, 6), (RX8, TX8, 9), (RX9, TX9, 9)]
