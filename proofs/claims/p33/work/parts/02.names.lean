def R_WM : String := "WaterMen"
def F_WM : u_T := fun k => match k with
  | 0 => ("WaterMen", "river", "LWaterMen$River;", true)
  | 1 => ("WaterMen", "men", "[LWaterMen$Man;", true)
  | 2 => ("WaterMen", "boats", "[LWaterMen$Boat;", true)
  | 3 => ("WaterMen", "orders", "[LWaterMen$Order;", true)
  | 4 => ("WaterMen", "trips", "[LWaterMen$Trip;", true)
  | 5 => ("WaterMen", "tape", "LWaterMen$Tape;", true)
  | 6 => ("WaterMen", "box", "LWaterMen$Box;", true)
  | 7 => ("WaterMen", "boatCount", "I", false)
  | 8 => ("WaterMen", "orderCount", "I", false)
  | 9 => ("WaterMen", "tripCount", "I", false)
  | 10 => ("WaterMen", "now", "I", false)
  | 11 => ("WaterMen", "joins", "I", false)
  | _ => ("WaterMen", "draft", "LWaterMen$Order;", false)
def t_WM : Nat → FieldType := fun k => match k with
  | 0 => .object "WaterMen$River"
  | 1 => .array (.object "WaterMen$Man")
  | 2 => .array (.object "WaterMen$Boat")
  | 3 => .array (.object "WaterMen$Order")
  | 4 => .array (.object "WaterMen$Trip")
  | 5 => .object "WaterMen$Tape"
  | 6 => .object "WaterMen$Box"
  | 7 => .int
  | 8 => .int
  | 9 => .int
  | 10 => .int
  | 11 => .int
  | _ => .object "WaterMen$Order"
abbrev b_WM_init : ByteArray := prog_1_method_1_code
def y_WM_init : MethodName := ⟨R_WM, "<init>", "()V"⟩
abbrev b_WM_stairs : ByteArray := prog_1_method_2_code
def y_WM_stairs : MethodName := ⟨R_WM, "stairs", "(I)I"⟩
abbrev b_WM_bridge : ByteArray := prog_1_method_3_code
def y_WM_bridge : MethodName := ⟨R_WM, "bridge", "(I)I"⟩
abbrev b_WM_level : ByteArray := prog_1_method_4_code
def y_WM_level : MethodName := ⟨R_WM, "level", "(III)I"⟩
abbrev b_WM_table : ByteArray := prog_1_method_5_code
def y_WM_table : MethodName := ⟨R_WM, "table", "(II)I"⟩
abbrev b_WM_flow : ByteArray := prog_1_method_6_code
def y_WM_flow : MethodName := ⟨R_WM, "flow", "(II)I"⟩
abbrev b_WM_frost : ByteArray := prog_1_method_7_code
def y_WM_frost : MethodName := ⟨R_WM, "frost", "(II)I"⟩
abbrev b_WM_free : ByteArray := prog_1_method_8_code
def y_WM_free : MethodName := ⟨R_WM, "free", "(I)I"⟩
abbrev b_WM_bind : ByteArray := prog_1_method_9_code
def y_WM_bind : MethodName := ⟨R_WM, "bind", "(II)I"⟩
abbrev b_WM_absent : ByteArray := prog_1_method_10_code
def y_WM_absent : MethodName := ⟨R_WM, "absent", "(III)I"⟩
abbrev b_WM_served : ByteArray := prog_1_method_11_code
def y_WM_served : MethodName := ⟨R_WM, "served", "(I)I"⟩
abbrev b_WM_pass : ByteArray := prog_1_method_12_code
def y_WM_pass : MethodName := ⟨R_WM, "pass", "(I)I"⟩
abbrev b_WM_man : ByteArray := prog_1_method_13_code
def y_WM_man : MethodName := ⟨R_WM, "man", "(II)I"⟩
abbrev b_WM_boat : ByteArray := prog_1_method_14_code
def y_WM_boat : MethodName := ⟨R_WM, "boat", "(II)I"⟩
abbrev b_WM_craft : ByteArray := prog_1_method_15_code
def y_WM_craft : MethodName := ⟨R_WM, "craft", "(II)I"⟩
abbrev b_WM_join : ByteArray := prog_1_method_16_code
def y_WM_join : MethodName := ⟨R_WM, "join", "(II)I"⟩
abbrev b_WM_leave : ByteArray := prog_1_method_17_code
def y_WM_leave : MethodName := ⟨R_WM, "leave", "(I)I"⟩
abbrev b_WM_feed : ByteArray := prog_1_method_18_code
def y_WM_feed : MethodName := ⟨R_WM, "feed", "(IIIII)I"⟩
abbrev b_WM_end : ByteArray := prog_1_method_19_code
def y_WM_end : MethodName := ⟨R_WM, "end", "(I)I"⟩
abbrev b_WM_order : ByteArray := prog_1_method_20_code
def y_WM_order : MethodName := ⟨R_WM, "order", "(I)I"⟩
abbrev b_WM_inForce : ByteArray := prog_1_method_21_code
def y_WM_inForce : MethodName := ⟨R_WM, "inForce", "(II)I"⟩
abbrev b_WM_fare : ByteArray := prog_1_method_22_code
def y_WM_fare : MethodName := ⟨R_WM, "fare", "(IIIII)I"⟩
abbrev b_WM_why : ByteArray := prog_1_method_23_code
def y_WM_why : MethodName := ⟨R_WM, "why", "(III)I"⟩
abbrev b_WM_row : ByteArray := prog_1_method_24_code
def y_WM_row : MethodName := ⟨R_WM, "row", "(IIII)I"⟩
abbrev b_WM_minutes : ByteArray := prog_1_method_25_code
def y_WM_minutes : MethodName := ⟨R_WM, "minutes", "(I)I"⟩
abbrev b_WM_sink : ByteArray := prog_1_method_26_code
def y_WM_sink : MethodName := ⟨R_WM, "sink", "(III)I"⟩
abbrev b_WM_trip : ByteArray := prog_1_method_27_code
def y_WM_trip : MethodName := ⟨R_WM, "trip", "(II)I"⟩
abbrev b_WM_due : ByteArray := prog_1_method_28_code
def y_WM_due : MethodName := ⟨R_WM, "due", "(II)I"⟩
abbrev b_WM_over : ByteArray := prog_1_method_29_code
def y_WM_over : MethodName := ⟨R_WM, "over", "(II)I"⟩
abbrev b_WM_pension : ByteArray := prog_1_method_30_code
def y_WM_pension : MethodName := ⟨R_WM, "pension", "(II)I"⟩
abbrev b_WM_foretold : ByteArray := prog_1_method_31_code
def y_WM_foretold : MethodName := ⟨R_WM, "foretold", "()I"⟩
abbrev b_WM_pensioner : ByteArray := prog_1_method_32_code
def y_WM_pensioner : MethodName := ⟨R_WM, "pensioner", "(II)I"⟩
abbrev b_WM_count : ByteArray := prog_1_method_33_code
def y_WM_count : MethodName := ⟨R_WM, "count", "(I)I"⟩
abbrev b_WM_coins : ByteArray := prog_1_method_34_code
def y_WM_coins : MethodName := ⟨R_WM, "coins", "(I)I"⟩
abbrev b_WM_today : ByteArray := prog_1_method_35_code
def y_WM_today : MethodName := ⟨R_WM, "today", "()I"⟩
abbrev b_WM_isDay : ByteArray := prog_1_method_36_code
def y_WM_isDay : MethodName := ⟨R_WM, "isDay", "(I)Z"⟩
abbrev b_WM_isHour : ByteArray := prog_1_method_37_code
def y_WM_isHour : MethodName := ⟨R_WM, "isHour", "(I)Z"⟩
abbrev b_WM_isLevel : ByteArray := prog_1_method_38_code
def y_WM_isLevel : MethodName := ⟨R_WM, "isLevel", "(I)Z"⟩
abbrev b_WM_isOars : ByteArray := prog_1_method_39_code
def y_WM_isOars : MethodName := ⟨R_WM, "isOars", "(I)Z"⟩
abbrev b_WM_isPension : ByteArray := prog_1_method_40_code
def y_WM_isPension : MethodName := ⟨R_WM, "isPension", "(II)Z"⟩
abbrev b_WM_isSunday : ByteArray := prog_1_method_41_code
def y_WM_isSunday : MethodName := ⟨R_WM, "isSunday", "(I)Z"⟩
abbrev b_WM_manAt : ByteArray := prog_1_method_42_code
def y_WM_manAt : MethodName := ⟨R_WM, "manAt", "(I)LWaterMen$Man;"⟩
abbrev b_WM_boatAt : ByteArray := prog_1_method_43_code
def y_WM_boatAt : MethodName := ⟨R_WM, "boatAt", "(I)LWaterMen$Boat;"⟩
abbrev b_WM_orderAt : ByteArray := prog_1_method_44_code
def y_WM_orderAt : MethodName := ⟨R_WM, "orderAt", "(I)LWaterMen$Order;"⟩
abbrev b_WM_tripAt : ByteArray := prog_1_method_45_code
def y_WM_tripAt : MethodName := ⟨R_WM, "tripAt", "(I)LWaterMen$Trip;"⟩
abbrev b_WM_placeInTurns : ByteArray := prog_1_method_46_code
def y_WM_placeInTurns : MethodName := ⟨R_WM, "placeInTurns", "(LWaterMen$Man;)I"⟩
abbrev b_WM_hasTurns : ByteArray := prog_1_method_47_code
def y_WM_hasTurns : MethodName := ⟨R_WM, "hasTurns", "(I)Z"⟩
abbrev b_WM_mustWait : ByteArray := prog_1_method_48_code
def y_WM_mustWait : MethodName := ⟨R_WM, "mustWait", "(LWaterMen$Man;I)Z"⟩
abbrev b_WM_menThatAre : ByteArray := prog_1_method_49_code
def y_WM_menThatAre : MethodName := ⟨R_WM, "menThatAre", "(I)I"⟩
abbrev b_WM_coinsOfMen : ByteArray := prog_1_method_50_code
def y_WM_coinsOfMen : MethodName := ⟨R_WM, "coinsOfMen", "()I"⟩
abbrev b_WM_numberInForce : ByteArray := prog_1_method_51_code
def y_WM_numberInForce : MethodName := ⟨R_WM, "numberInForce", "(II)I"⟩
abbrev b_WM_priceOf : ByteArray := prog_1_method_52_code
def y_WM_priceOf : MethodName := ⟨R_WM, "priceOf", "(LWaterMen$Order;IIII)I"⟩
abbrev b_WM_dueOf : ByteArray := prog_1_method_53_code
def y_WM_dueOf : MethodName := ⟨R_WM, "dueOf", "(LWaterMen$Trip;I)I"⟩
abbrev b_WM_overpaid : ByteArray := prog_1_method_54_code
def y_WM_overpaid : MethodName := ⟨R_WM, "overpaid", "(LWaterMen$Trip;I)I"⟩
abbrev b_WM_mayGoTo : ByteArray := prog_1_method_55_code
def y_WM_mayGoTo : MethodName := ⟨R_WM, "mayGoTo", "(LWaterMen$Boat;I)Z"⟩
abbrev b_WM_hindrance : ByteArray := prog_1_method_56_code
def y_WM_hindrance : MethodName := ⟨R_WM, "hindrance", "(LWaterMen$Boat;LWaterMen$Man;I)I"⟩
abbrev b_WM_hourNow : ByteArray := prog_1_method_57_code
def y_WM_hourNow : MethodName := ⟨R_WM, "hourNow", "()I"⟩
abbrev b_WM_minutesOfWay : ByteArray := prog_1_method_58_code
def y_WM_minutesOfWay : MethodName := ⟨R_WM, "minutesOfWay", "(LWaterMen$Boat;I)I"⟩
abbrev b_WM_takeMoney : ByteArray := prog_1_method_59_code
def y_WM_takeMoney : MethodName := ⟨R_WM, "takeMoney", "(LWaterMen$Man;I)V"⟩
abbrev b_WM_partPot : ByteArray := prog_1_method_60_code
def y_WM_partPot : MethodName := ⟨R_WM, "partPot", "(I)V"⟩
def R_Rv : String := "WaterMen$River"
def F_Rv : u_T := fun k => match k with
  | 0 => ("WaterMen$River", "milesUp", "[I", true)
  | 1 => ("WaterMen$River", "table", "[I", true)
  | 2 => ("WaterMen$River", "rows", "[[I", true)
  | 3 => ("WaterMen$River", "frozen", "[Z", true)
  | 4 => ("WaterMen$River", "stairCount", "I", false)
  | _ => ("WaterMen$River", "bridgeAbove", "I", false)
def t_Rv : Nat → FieldType := fun k => match k with
  | 0 => .array (.int)
  | 1 => .array (.int)
  | 2 => .array (.array (.int))
  | 3 => .array (.boolean)
  | 4 => .int
  | _ => .int
abbrev b_Rv_init : ByteArray := prog_8_method_1_code
def y_Rv_init : MethodName := ⟨R_Rv, "<init>", "()V"⟩
abbrev b_Rv_isFrozen : ByteArray := prog_8_method_2_code
def y_Rv_isFrozen : MethodName := ⟨R_Rv, "isFrozen", "(I)Z"⟩
abbrev b_Rv_hasStairs : ByteArray := prog_8_method_3_code
def y_Rv_hasStairs : MethodName := ⟨R_Rv, "hasStairs", "(I)Z"⟩
abbrev b_Rv_highest : ByteArray := prog_8_method_4_code
def y_Rv_highest : MethodName := ⟨R_Rv, "highest", "()I"⟩
abbrev b_Rv_addStairs : ByteArray := prog_8_method_5_code
def y_Rv_addStairs : MethodName := ⟨R_Rv, "addStairs", "(I)I"⟩
abbrev b_Rv_distance : ByteArray := prog_8_method_6_code
def y_Rv_distance : MethodName := ⟨R_Rv, "distance", "(II)I"⟩
abbrev b_Rv_passesBridge : ByteArray := prog_8_method_7_code
def y_Rv_passesBridge : MethodName := ⟨R_Rv, "passesBridge", "(II)Z"⟩
abbrev b_Rv_tell : ByteArray := prog_8_method_8_code
def y_Rv_tell : MethodName := ⟨R_Rv, "tell", "(III)V"⟩
abbrev b_Rv_height : ByteArray := prog_8_method_9_code
def y_Rv_height : MethodName := ⟨R_Rv, "height", "(II)I"⟩
abbrev b_Rv_flowIn : ByteArray := prog_8_method_10_code
def y_Rv_flowIn : MethodName := ⟨R_Rv, "flowIn", "(II)I"⟩
abbrev b_Rv_drift : ByteArray := prog_8_method_11_code
def y_Rv_drift : MethodName := ⟨R_Rv, "drift", "(IIII)I"⟩
def R_Mn : String := "WaterMen$Man"
def F_Mn : u_T := fun k => match k with
  | 0 => ("WaterMen$Man", "state", "I", false)
  | 1 => ("WaterMen$Man", "bond", "LWaterMen$Bond;", false)
  | 2 => ("WaterMen$Man", "turnStairs", "I", false)
  | 3 => ("WaterMen$Man", "turnTicket", "I", false)
  | 4 => ("WaterMen$Man", "coins", "I", false)
  | 5 => ("WaterMen$Man", "busyUntil", "I", false)
  | 6 => ("WaterMen$Man", "tripCount", "I", false)
  | _ => ("WaterMen$Man", "lastSunday", "I", false)
def t_Mn : Nat → FieldType := fun k => match k with
  | 0 => .int
  | 1 => .object "WaterMen$Bond"
  | 2 => .int
  | 3 => .int
  | 4 => .int
  | 5 => .int
  | 6 => .int
  | _ => .int
abbrev b_Mn_init : ByteArray := prog_5_method_1_code
def y_Mn_init : MethodName := ⟨R_Mn, "<init>", "()V"⟩
abbrev b_Mn_isOnWay : ByteArray := prog_5_method_2_code
def y_Mn_isOnWay : MethodName := ⟨R_Mn, "isOnWay", "(I)Z"⟩
abbrev b_Mn_setOut : ByteArray := prog_5_method_3_code
def y_Mn_setOut : MethodName := ⟨R_Mn, "setOut", "(I)V"⟩
def R_Or : String := "WaterMen$Order"
def F_Or : u_T := fun k => match k with
  | 0 => ("WaterMen$Order", "madeOn", "I", false)
  | 1 => ("WaterMen$Order", "inForceFrom", "I", false)
  | 2 => ("WaterMen$Order", "fares", "[I", true)
  | 3 => ("WaterMen$Order", "hours", "[I", true)
  | 4 => ("WaterMen$Order", "single", "[I", true)
  | 5 => ("WaterMen$Order", "fareCount", "I", false)
  | 6 => ("WaterMen$Order", "hourCount", "I", false)
  | 7 => ("WaterMen$Order", "bridgeOpens", "I", false)
  | _ => ("WaterMen$Order", "bridgeShuts", "I", false)
def t_Or : Nat → FieldType := fun k => match k with
  | 0 => .int
  | 1 => .int
  | 2 => .array (.int)
  | 3 => .array (.int)
  | 4 => .array (.int)
  | 5 => .int
  | 6 => .int
  | 7 => .int
  | _ => .int
abbrev b_Or_init : ByteArray := prog_6_method_1_code
def y_Or_init : MethodName := ⟨R_Or, "<init>", "()V"⟩
abbrev b_Or_clear : ByteArray := prog_6_method_2_code
def y_Or_clear : MethodName := ⟨R_Or, "clear", "()V"⟩
abbrev b_Or_takesLine : ByteArray := prog_6_method_3_code
def y_Or_takesLine : MethodName := ⟨R_Or, "takesLine", "(I)Z"⟩
abbrev b_Or_addLine : ByteArray := prog_6_method_4_code
def y_Or_addLine : MethodName := ⟨R_Or, "addLine", "(IIII)V"⟩
abbrev b_Or_setLine : ByteArray := prog_6_method_5_code
def y_Or_setLine : MethodName := ⟨R_Or, "setLine", "([IIIII)V"⟩
abbrev b_Or_lineHolds : ByteArray := prog_6_method_6_code
def y_Or_lineHolds : MethodName := ⟨R_Or, "lineHolds", "([III)Z"⟩
abbrev b_Or_price : ByteArray := prog_6_method_7_code
def y_Or_price : MethodName := ⟨R_Or, "price", "(IIIII)I"⟩
abbrev b_Or_basePrice : ByteArray := prog_6_method_8_code
def y_Or_basePrice : MethodName := ⟨R_Or, "basePrice", "(I)I"⟩
abbrev b_Or_scaled : ByteArray := prog_6_method_9_code
def y_Or_scaled : MethodName := ⟨R_Or, "scaled", "(II)I"⟩
abbrev b_Or_shutsBridge : ByteArray := prog_6_method_10_code
def y_Or_shutsBridge : MethodName := ⟨R_Or, "shutsBridge", "(II)Z"⟩
def R_Tp : String := "WaterMen$Tape"
def F_Tp : u_T := fun k => match k with
  | 0 => ("WaterMen$Tape", "bytes", "[B", true)
  | 1 => ("WaterMen$Tape", "length", "I", false)
  | 2 => ("WaterMen$Tape", "sort", "I", false)
  | 3 => ("WaterMen$Tape", "start", "I", false)
  | 4 => ("WaterMen$Tape", "behind", "I", false)
  | _ => ("WaterMen$Tape", "value", "I", false)
def t_Tp : Nat → FieldType := fun k => match k with
  | 0 => .array (.byte)
  | 1 => .int
  | 2 => .int
  | 3 => .int
  | 4 => .int
  | _ => .int
abbrev b_Tp_init : ByteArray := prog_9_method_1_code
def y_Tp_init : MethodName := ⟨R_Tp, "<init>", "()V"⟩
abbrev b_Tp_hasRoomForFive : ByteArray := prog_9_method_2_code
def y_Tp_hasRoomForFive : MethodName := ⟨R_Tp, "hasRoomForFive", "()Z"⟩
abbrev b_Tp_append : ByteArray := prog_9_method_3_code
def y_Tp_append : MethodName := ⟨R_Tp, "append", "(I)V"⟩
abbrev b_Tp_readInto : ByteArray := prog_9_method_4_code
def y_Tp_readInto : MethodName := ⟨R_Tp, "readInto", "(LWaterMen$Order;)I"⟩
abbrev b_Tp_readLine : ByteArray := prog_9_method_5_code
def y_Tp_readLine : MethodName := ⟨R_Tp, "readLine", "(LWaterMen$Order;)Z"⟩
abbrev b_Tp_stepOverNumber : ByteArray := prog_9_method_6_code
def y_Tp_stepOverNumber : MethodName := ⟨R_Tp, "stepOverNumber", "()Z"⟩
abbrev b_Tp_stepOverWord : ByteArray := prog_9_method_7_code
def y_Tp_stepOverWord : MethodName := ⟨R_Tp, "stepOverWord", "(Ljava/lang/String;)Z"⟩
abbrev b_Tp_kindOfLine : ByteArray := prog_9_method_8_code
def y_Tp_kindOfLine : MethodName := ⟨R_Tp, "kindOfLine", "()I"⟩
abbrev b_Tp_isWord : ByteArray := prog_9_method_9_code
def y_Tp_isWord : MethodName := ⟨R_Tp, "isWord", "(Ljava/lang/String;)Z"⟩
abbrev b_Tp_step : ByteArray := prog_9_method_10_code
def y_Tp_step : MethodName := ⟨R_Tp, "step", "()V"⟩
abbrev b_Tp_passLetters : ByteArray := prog_9_method_11_code
def y_Tp_passLetters : MethodName := ⟨R_Tp, "passLetters", "()V"⟩
abbrev b_Tp_passDigits : ByteArray := prog_9_method_12_code
def y_Tp_passDigits : MethodName := ⟨R_Tp, "passDigits", "()V"⟩
abbrev b_Tp_isLetter : ByteArray := prog_9_method_13_code
def y_Tp_isLetter : MethodName := ⟨R_Tp, "isLetter", "(B)Z"⟩
abbrev b_Tp_isDigit : ByteArray := prog_9_method_14_code
def y_Tp_isDigit : MethodName := ⟨R_Tp, "isDigit", "(B)Z"⟩
def R_Bx : String := "WaterMen$Box"
def F_Bx : u_T := fun k => match k with
  | 0 => ("WaterMen$Box", "coins", "I", false)
  | 1 => ("WaterMen$Box", "pot", "I", false)
  | 2 => ("WaterMen$Box", "allPaid", "I", false)
  | 3 => ("WaterMen$Box", "allPensions", "I", false)
  | 4 => ("WaterMen$Box", "income", "[I", true)
  | 5 => ("WaterMen$Box", "pensioners", "[LWaterMen$Pensioner;", true)
  | _ => ("WaterMen$Box", "pensionerCount", "I", false)
def t_Bx : Nat → FieldType := fun k => match k with
  | 0 => .int
  | 1 => .int
  | 2 => .int
  | 3 => .int
  | 4 => .array (.int)
  | 5 => .array (.object "WaterMen$Pensioner")
  | _ => .int
abbrev b_Bx_init : ByteArray := prog_4_method_1_code
def y_Bx_init : MethodName := ⟨R_Bx, "<init>", "()V"⟩
abbrev b_Bx_receive : ByteArray := prog_4_method_2_code
def y_Bx_receive : MethodName := ⟨R_Bx, "receive", "(II)V"⟩
abbrev b_Bx_pensionerAt : ByteArray := prog_4_method_3_code
def y_Bx_pensionerAt : MethodName := ⟨R_Bx, "pensionerAt", "(I)LWaterMen$Pensioner;"⟩
abbrev b_Bx_take : ByteArray := prog_4_method_4_code
/-- the method of this descriptor by its entry in the tables: its own name is a word that rows may not hold -/
def nm_Bx_take : String := match tables_1_4[34]? with
  | some (Jvm.Cond.instanceMethod y) => y.name
  | _ => ""
def y_Bx_take : MethodName := ⟨R_Bx, nm_Bx_take, "(II)I"⟩
abbrev b_Bx_payPensions : ByteArray := prog_4_method_5_code
def y_Bx_payPensions : MethodName := ⟨R_Bx, "payPensions", "(I)V"⟩
abbrev b_Bx_firstShortDay : ByteArray := prog_4_method_6_code
def y_Bx_firstShortDay : MethodName := ⟨R_Bx, "firstShortDay", "(I)I"⟩
abbrev b_Bx_owedOn : ByteArray := prog_4_method_7_code
def y_Bx_owedOn : MethodName := ⟨R_Bx, "owedOn", "(I)I"⟩
def R_Pn : String := "WaterMen$Pensioner"
def F_Pn : u_T := fun k => match k with
  | 0 => ("WaterMen$Pensioner", "pension", "I", true)
  | 1 => ("WaterMen$Pensioner", "end", "I", true)
  | _ => ("WaterMen$Pensioner", "got", "I", false)
def t_Pn : Nat → FieldType := fun k => match k with
  | 0 => .int
  | 1 => .int
  | _ => .int
abbrev b_Pn_init : ByteArray := prog_7_method_1_code
def y_Pn_init : MethodName := ⟨R_Pn, "<init>", "(II)V"⟩
def R_Md : String := "WaterMenModel"
def F_Md : u_T := fun k => match k with
  | 0 => ("WaterMenModel", "code", "I", false)
  | 1 => ("WaterMenModel", "time", "I", false)
  | 2 => ("WaterMenModel", "stairs", "I", false)
  | 3 => ("WaterMenModel", "miles", "[I", true)
  | 4 => ("WaterMenModel", "bridge", "I", false)
  | 5 => ("WaterMenModel", "table", "[I", true)
  | 6 => ("WaterMenModel", "hasRow", "[Z", true)
  | 7 => ("WaterMenModel", "rows", "[I", true)
  | 8 => ("WaterMenModel", "frosts", "[Z", true)
  | 9 => ("WaterMenModel", "state", "[I", true)
  | 10 => ("WaterMenModel", "master", "[I", true)
  | 11 => ("WaterMenModel", "boundOn", "[I", true)
  | 12 => ("WaterMenModel", "gaps", "[I", true)
  | 13 => ("WaterMenModel", "gapFrom", "[I", true)
  | 14 => ("WaterMenModel", "gapTo", "[I", true)
  | 15 => ("WaterMenModel", "coins", "[I", true)
  | 16 => ("WaterMenModel", "wayOf", "[I", true)
  | 17 => ("WaterMenModel", "tripsOf", "[I", true)
  | 18 => ("WaterMenModel", "shares", "[Z", true)
  | 19 => ("WaterMenModel", "turns", "[I", true)
  | 20 => ("WaterMenModel", "turn", "[I", true)
  | 21 => ("WaterMenModel", "boats", "I", false)
  | 22 => ("WaterMenModel", "boatOars", "[I", true)
  | 23 => ("WaterMenModel", "boatAt", "[I", true)
  | 24 => ("WaterMenModel", "boatFrom", "[I", true)
  | 25 => ("WaterMenModel", "boatTrip", "[I", true)
  | 26 => ("WaterMenModel", "sunk", "[Z", true)
  | 27 => ("WaterMenModel", "tape", "[B", true)
  | 28 => ("WaterMenModel", "taped", "I", false)
  | 29 => ("WaterMenModel", "orders", "I", false)
  | 30 => ("WaterMenModel", "orderFrom", "[I", true)
  | 31 => ("WaterMenModel", "orderMade", "[I", true)
  | 32 => ("WaterMenModel", "fares", "[I", true)
  | 33 => ("WaterMenModel", "fareLow", "[I", true)
  | 34 => ("WaterMenModel", "fareHigh", "[I", true)
  | 35 => ("WaterMenModel", "fareIs", "[I", true)
  | 36 => ("WaterMenModel", "hours", "[I", true)
  | 37 => ("WaterMenModel", "hourLow", "[I", true)
  | 38 => ("WaterMenModel", "hourHigh", "[I", true)
  | 39 => ("WaterMenModel", "hourIs", "[I", true)
  | 40 => ("WaterMenModel", "single", "[I", true)
  | 41 => ("WaterMenModel", "singleTo", "[I", true)
  | 42 => ("WaterMenModel", "at", "I", false)
  | 43 => ("WaterMenModel", "tk", "I", false)
  | 44 => ("WaterMenModel", "tkAt", "I", false)
  | 45 => ("WaterMenModel", "tkNumber", "I", false)
  | 46 => ("WaterMenModel", "got", "I", false)
  | 47 => ("WaterMenModel", "trips", "I", false)
  | 48 => ("WaterMenModel", "tripBoat", "[I", true)
  | 49 => ("WaterMenModel", "tripMan", "[I", true)
  | 50 => ("WaterMenModel", "tripFrom", "[I", true)
  | 51 => ("WaterMenModel", "tripTo", "[I", true)
  | 52 => ("WaterMenModel", "tripBegin", "[I", true)
  | 53 => ("WaterMenModel", "tripThere", "[I", true)
  | 54 => ("WaterMenModel", "tripPaid", "[I", true)
  | 55 => ("WaterMenModel", "sank", "[Z", true)
  | 56 => ("WaterMenModel", "box", "J", false)
  | 57 => ("WaterMenModel", "pot", "J", false)
  | 58 => ("WaterMenModel", "paidOut", "J", false)
  | 59 => ("WaterMenModel", "boxIn", "[J", true)
  | 60 => ("WaterMenModel", "pensioners", "I", false)
  | 61 => ("WaterMenModel", "pensionOf", "[I", true)
  | 62 => ("WaterMenModel", "pensionEnd", "[I", true)
  | _ => ("WaterMenModel", "gotten", "[I", true)
def t_Md : Nat → FieldType := fun k => match k with
  | 0 => .int
  | 1 => .int
  | 2 => .int
  | 3 => .array (.int)
  | 4 => .int
  | 5 => .array (.int)
  | 6 => .array (.boolean)
  | 7 => .array (.int)
  | 8 => .array (.boolean)
  | 9 => .array (.int)
  | 10 => .array (.int)
  | 11 => .array (.int)
  | 12 => .array (.int)
  | 13 => .array (.int)
  | 14 => .array (.int)
  | 15 => .array (.int)
  | 16 => .array (.int)
  | 17 => .array (.int)
  | 18 => .array (.boolean)
  | 19 => .array (.int)
  | 20 => .array (.int)
  | 21 => .int
  | 22 => .array (.int)
  | 23 => .array (.int)
  | 24 => .array (.int)
  | 25 => .array (.int)
  | 26 => .array (.boolean)
  | 27 => .array (.byte)
  | 28 => .int
  | 29 => .int
  | 30 => .array (.int)
  | 31 => .array (.int)
  | 32 => .array (.int)
  | 33 => .array (.int)
  | 34 => .array (.int)
  | 35 => .array (.int)
  | 36 => .array (.int)
  | 37 => .array (.int)
  | 38 => .array (.int)
  | 39 => .array (.int)
  | 40 => .array (.int)
  | 41 => .array (.int)
  | 42 => .int
  | 43 => .int
  | 44 => .int
  | 45 => .int
  | 46 => .int
  | 47 => .int
  | 48 => .array (.int)
  | 49 => .array (.int)
  | 50 => .array (.int)
  | 51 => .array (.int)
  | 52 => .array (.int)
  | 53 => .array (.int)
  | 54 => .array (.int)
  | 55 => .array (.boolean)
  | 56 => .long
  | 57 => .long
  | 58 => .long
  | 59 => .array (.long)
  | 60 => .int
  | 61 => .array (.int)
  | 62 => .array (.int)
  | _ => .array (.int)
abbrev b_Md_in : ByteArray := prog_12_method_2_code
def y_Md_in : MethodName := ⟨R_Md, "in", "(III)Z"⟩
abbrev b_Md_today : ByteArray := prog_12_method_3_code
def y_Md_today : MethodName := ⟨R_Md, "today", "()I"⟩
abbrev b_Md_hourNow : ByteArray := prog_12_method_4_code
def y_Md_hourNow : MethodName := ⟨R_Md, "hourNow", "()I"⟩
abbrev b_Md_isDay : ByteArray := prog_12_method_5_code
def y_Md_isDay : MethodName := ⟨R_Md, "isDay", "(I)Z"⟩
abbrev b_Md_isStairs : ByteArray := prog_12_method_6_code
def y_Md_isStairs : MethodName := ⟨R_Md, "isStairs", "(I)Z"⟩
abbrev b_Md_levelOf : ByteArray := prog_12_method_7_code
def y_Md_levelOf : MethodName := ⟨R_Md, "levelOf", "(II)I"⟩
abbrev b_Md_flowOf : ByteArray := prog_12_method_8_code
def y_Md_flowOf : MethodName := ⟨R_Md, "flowOf", "(II)I"⟩
abbrev b_Md_stairs : ByteArray := prog_12_method_9_code
def y_Md_stairs : MethodName := ⟨R_Md, "stairs", "(I)I"⟩
abbrev b_Md_bridge : ByteArray := prog_12_method_10_code
def y_Md_bridge : MethodName := ⟨R_Md, "bridge", "(I)I"⟩
abbrev b_Md_level : ByteArray := prog_12_method_11_code
def y_Md_level : MethodName := ⟨R_Md, "level", "(III)I"⟩
abbrev b_Md_table : ByteArray := prog_12_method_12_code
def y_Md_table : MethodName := ⟨R_Md, "table", "(II)I"⟩
abbrev b_Md_flow : ByteArray := prog_12_method_13_code
def y_Md_flow : MethodName := ⟨R_Md, "flow", "(II)I"⟩
abbrev b_Md_frost : ByteArray := prog_12_method_14_code
def y_Md_frost : MethodName := ⟨R_Md, "frost", "(II)I"⟩
abbrev b_Md_init : ByteArray := prog_12_method_15_code
def y_Md_init : MethodName := ⟨R_Md, "<init>", "()V"⟩
abbrev b_Md_isMan : ByteArray := prog_12_method_16_code
def y_Md_isMan : MethodName := ⟨R_Md, "isMan", "(I)Z"⟩
abbrev b_Md_free : ByteArray := prog_12_method_17_code
def y_Md_free : MethodName := ⟨R_Md, "free", "(I)I"⟩
abbrev b_Md_bind : ByteArray := prog_12_method_18_code
def y_Md_bind : MethodName := ⟨R_Md, "bind", "(II)I"⟩
abbrev b_Md_absent : ByteArray := prog_12_method_19_code
def y_Md_absent : MethodName := ⟨R_Md, "absent", "(III)I"⟩
abbrev b_Md_servedOf : ByteArray := prog_12_method_20_code
def y_Md_servedOf : MethodName := ⟨R_Md, "servedOf", "(I)I"⟩
abbrev b_Md_served : ByteArray := prog_12_method_21_code
def y_Md_served : MethodName := ⟨R_Md, "served", "(I)I"⟩
abbrev b_Md_pass : ByteArray := prog_12_method_22_code
def y_Md_pass : MethodName := ⟨R_Md, "pass", "(I)I"⟩
abbrev b_Md_rowOf : ByteArray := prog_12_method_23_code
def y_Md_rowOf : MethodName := ⟨R_Md, "rowOf", "(I)I"⟩
abbrev b_Md_placeOf : ByteArray := prog_12_method_24_code
def y_Md_placeOf : MethodName := ⟨R_Md, "placeOf", "(I)I"⟩
abbrev b_Md_leaves : ByteArray := prog_12_method_25_code
def y_Md_leaves : MethodName := ⟨R_Md, "leaves", "(I)V"⟩
abbrev b_Md_man : ByteArray := prog_12_method_26_code
def y_Md_man : MethodName := ⟨R_Md, "man", "(II)I"⟩
abbrev b_Md_join : ByteArray := prog_12_method_27_code
def y_Md_join : MethodName := ⟨R_Md, "join", "(II)I"⟩
abbrev b_Md_leave : ByteArray := prog_12_method_28_code
def y_Md_leave : MethodName := ⟨R_Md, "leave", "(I)I"⟩
abbrev b_Md_isBoat : ByteArray := prog_12_method_29_code
def y_Md_isBoat : MethodName := ⟨R_Md, "isBoat", "(I)Z"⟩
abbrev b_Md_boat : ByteArray := prog_12_method_30_code
def y_Md_boat : MethodName := ⟨R_Md, "boat", "(II)I"⟩
abbrev b_Md_craft : ByteArray := prog_12_method_31_code
def y_Md_craft : MethodName := ⟨R_Md, "craft", "(II)I"⟩
abbrev b_Md_feed : ByteArray := prog_12_method_32_code
def y_Md_feed : MethodName := ⟨R_Md, "feed", "(IIIII)I"⟩
abbrev b_Md_four : ByteArray := prog_12_method_33_code
def y_Md_four : MethodName := ⟨R_Md, "four", "(I)V"⟩
abbrev b_Md_end : ByteArray := prog_12_method_34_code
def y_Md_end : MethodName := ⟨R_Md, "end", "(I)I"⟩
abbrev b_Md_isLetter : ByteArray := prog_12_method_35_code
def y_Md_isLetter : MethodName := ⟨R_Md, "isLetter", "(I)Z"⟩
abbrev b_Md_isDigit : ByteArray := prog_12_method_36_code
def y_Md_isDigit : MethodName := ⟨R_Md, "isDigit", "(I)Z"⟩
abbrev b_Md_advance : ByteArray := prog_12_method_37_code
def y_Md_advance : MethodName := ⟨R_Md, "advance", "()V"⟩
abbrev b_Md_wordOf : ByteArray := prog_12_method_38_code
def y_Md_wordOf : MethodName := ⟨R_Md, "wordOf", "(J)I"⟩
abbrev b_Md_takes : ByteArray := prog_12_method_39_code
def y_Md_takes : MethodName := ⟨R_Md, "takes", "(I)Z"⟩
abbrev b_Md_line : ByteArray := prog_12_method_40_code
def y_Md_line : MethodName := ⟨R_Md, "line", "(I)Z"⟩
abbrev b_Md_order : ByteArray := prog_12_method_41_code
def y_Md_order : MethodName := ⟨R_Md, "order", "(I)I"⟩
abbrev b_Md_forceOn : ByteArray := prog_12_method_42_code
def y_Md_forceOn : MethodName := ⟨R_Md, "forceOn", "(II)I"⟩
abbrev b_Md_inForce : ByteArray := prog_12_method_43_code
def y_Md_inForce : MethodName := ⟨R_Md, "inForce", "(II)I"⟩
abbrev b_Md_lineOf : ByteArray := prog_12_method_44_code
def y_Md_lineOf : MethodName := ⟨R_Md, "lineOf", "(II)I"⟩
abbrev b_Md_by : ByteArray := prog_12_method_45_code
def y_Md_by : MethodName := ⟨R_Md, "by", "(II)I"⟩
abbrev b_Md_fareOf : ByteArray := prog_12_method_46_code
def y_Md_fareOf : MethodName := ⟨R_Md, "fareOf", "(IIIIII)I"⟩
abbrev b_Md_fare : ByteArray := prog_12_method_47_code
def y_Md_fare : MethodName := ⟨R_Md, "fare", "(IIIII)I"⟩
abbrev b_Md_minutesOf : ByteArray := prog_12_method_48_code
def y_Md_minutesOf : MethodName := ⟨R_Md, "minutesOf", "(II)I"⟩
abbrev b_Md_hinders : ByteArray := prog_12_method_49_code
def y_Md_hinders : MethodName := ⟨R_Md, "hinders", "(III)I"⟩
abbrev b_Md_isAsked : ByteArray := prog_12_method_50_code
def y_Md_isAsked : MethodName := ⟨R_Md, "isAsked", "(III)Z"⟩
abbrev b_Md_why : ByteArray := prog_12_method_51_code
def y_Md_why : MethodName := ⟨R_Md, "why", "(III)I"⟩
abbrev b_Md_row : ByteArray := prog_12_method_52_code
def y_Md_row : MethodName := ⟨R_Md, "row", "(IIII)I"⟩
abbrev b_Md_arrive : ByteArray := prog_12_method_53_code
def y_Md_arrive : MethodName := ⟨R_Md, "arrive", "()V"⟩
abbrev b_Md_part : ByteArray := prog_12_method_54_code
def y_Md_part : MethodName := ⟨R_Md, "part", "(I)V"⟩
abbrev b_Md_pay : ByteArray := prog_12_method_55_code
def y_Md_pay : MethodName := ⟨R_Md, "pay", "(I)V"⟩
abbrev b_Md_minutes : ByteArray := prog_12_method_56_code
def y_Md_minutes : MethodName := ⟨R_Md, "minutes", "(I)I"⟩
abbrev b_Md_sink : ByteArray := prog_12_method_57_code
def y_Md_sink : MethodName := ⟨R_Md, "sink", "(III)I"⟩
abbrev b_Md_trip : ByteArray := prog_12_method_58_code
def y_Md_trip : MethodName := ⟨R_Md, "trip", "(II)I"⟩
abbrev b_Md_dueOf : ByteArray := prog_12_method_59_code
def y_Md_dueOf : MethodName := ⟨R_Md, "dueOf", "(II)I"⟩
abbrev b_Md_due : ByteArray := prog_12_method_60_code
def y_Md_due : MethodName := ⟨R_Md, "due", "(II)I"⟩
abbrev b_Md_over : ByteArray := prog_12_method_61_code
def y_Md_over : MethodName := ⟨R_Md, "over", "(II)I"⟩
abbrev b_Md_isPension : ByteArray := prog_12_method_62_code
def y_Md_isPension : MethodName := ⟨R_Md, "isPension", "(II)Z"⟩
abbrev b_Md_newPensioner : ByteArray := prog_12_method_63_code
def y_Md_newPensioner : MethodName := ⟨R_Md, "newPensioner", "(II)I"⟩
abbrev b_Md_pension : ByteArray := prog_12_method_64_code
def y_Md_pension : MethodName := ⟨R_Md, "pension", "(II)I"⟩
abbrev b_Md_foretold : ByteArray := prog_12_method_65_code
def y_Md_foretold : MethodName := ⟨R_Md, "foretold", "()I"⟩
abbrev b_Md_pensioner : ByteArray := prog_12_method_66_code
def y_Md_pensioner : MethodName := ⟨R_Md, "pensioner", "(II)I"⟩
abbrev b_Md_menAs : ByteArray := prog_12_method_67_code
def y_Md_menAs : MethodName := ⟨R_Md, "menAs", "(I)I"⟩
abbrev b_Md_count : ByteArray := prog_12_method_68_code
def y_Md_count : MethodName := ⟨R_Md, "count", "(I)I"⟩
abbrev b_Md_coins : ByteArray := prog_12_method_69_code
def y_Md_coins : MethodName := ⟨R_Md, "coins", "(I)I"⟩
def R_Bd : String := "WaterMen$Bond"
def F_Bd : u_T := fun k => match k with
  | 0 => ("WaterMen$Bond", "master", "I", true)
  | 1 => ("WaterMen$Bond", "since", "I", true)
  | 2 => ("WaterMen$Bond", "gapFrom", "[I", true)
  | 3 => ("WaterMen$Bond", "gapTo", "[I", true)
  | _ => ("WaterMen$Bond", "gapCount", "I", false)
def t_Bd : Nat → FieldType := fun k => match k with
  | 0 => .int
  | 1 => .int
  | 2 => .array (.int)
  | 3 => .array (.int)
  | _ => .int
abbrev b_Bd_init : ByteArray := prog_3_method_1_code
def y_Bd_init : MethodName := ⟨R_Bd, "<init>", "(II)V"⟩
abbrev b_Bd_meetsGap : ByteArray := prog_3_method_2_code
def y_Bd_meetsGap : MethodName := ⟨R_Bd, "meetsGap", "(II)Z"⟩
abbrev b_Bd_addGap : ByteArray := prog_3_method_3_code
def y_Bd_addGap : MethodName := ⟨R_Bd, "addGap", "(II)I"⟩
abbrev b_Bd_daysServed : ByteArray := prog_3_method_4_code
def y_Bd_daysServed : MethodName := ⟨R_Bd, "daysServed", "(I)I"⟩
def R_Bt : String := "WaterMen$Boat"
def F_Bt : u_T := fun k => match k with
  | 0 => ("WaterMen$Boat", "oars", "I", true)
  | 1 => ("WaterMen$Boat", "stairs", "I", false)
  | 2 => ("WaterMen$Boat", "thereFrom", "I", false)
  | 3 => ("WaterMen$Boat", "rower", "I", false)
  | 4 => ("WaterMen$Boat", "lastTrip", "I", false)
  | _ => ("WaterMen$Boat", "sunk", "Z", false)
def t_Bt : Nat → FieldType := fun k => match k with
  | 0 => .int
  | 1 => .int
  | 2 => .int
  | 3 => .int
  | 4 => .int
  | _ => .boolean
abbrev b_Bt_init : ByteArray := prog_2_method_1_code
def y_Bt_init : MethodName := ⟨R_Bt, "<init>", "(II)V"⟩
abbrev b_Bt_stateAt : ByteArray := prog_2_method_2_code
def y_Bt_stateAt : MethodName := ⟨R_Bt, "stateAt", "(I)I"⟩
abbrev b_Bt_setOut : ByteArray := prog_2_method_3_code
def y_Bt_setOut : MethodName := ⟨R_Bt, "setOut", "(LWaterMen$Trip;I)V"⟩
def R_Tr : String := "WaterMen$Trip"
def F_Tr : u_T := fun k => match k with
  | 0 => ("WaterMen$Trip", "boat", "I", true)
  | 1 => ("WaterMen$Trip", "man", "I", true)
  | 2 => ("WaterMen$Trip", "start", "I", true)
  | 3 => ("WaterMen$Trip", "paid", "I", true)
  | 4 => ("WaterMen$Trip", "from", "I", false)
  | 5 => ("WaterMen$Trip", "to", "I", false)
  | 6 => ("WaterMen$Trip", "arrival", "I", false)
  | _ => ("WaterMen$Trip", "sank", "Z", false)
def t_Tr : Nat → FieldType := fun k => match k with
  | 0 => .int
  | 1 => .int
  | 2 => .int
  | 3 => .int
  | 4 => .int
  | 5 => .int
  | 6 => .int
  | _ => .boolean
abbrev b_Tr_init : ByteArray := prog_10_method_1_code
def y_Tr_init : MethodName := ⟨R_Tr, "<init>", "(IIII)V"⟩
abbrev vwCl : List vw_C := [(R_WM, F_WM, 13), (R_Rv, F_Rv, 6), (R_Mn, F_Mn, 8), (R_Or, F_Or, 9), (R_Tp, F_Tp, 6), (R_Bx, F_Bx, 7), (R_Pn, F_Pn, 3), (R_Md, F_Md, 64), (R_Bd, F_Bd, 5), (R_Bt, F_Bt, 6), (R_Tr, F_Tr, 8)]
theorem n_WM : ∀ a, a < 13 → ∀ b, b < 13 → a ≠ b → (F_WM a).2.1 ≠ (F_WM b).2.1 := by decide +kernel
theorem t_WM_ok : ∀ k, k < 13 → parseFieldDescriptor (F_WM k).2.2.1 = some (t_WM k) := by decide +kernel
theorem df_WM : ∀ j, j < 13 → defaultValue (t_WM j) = vp_V [.null, .null, .null, .null, .null, .null, .null, .int 0, .int 0, .int 0, .int 0, .int 0, .null] j := by decide +kernel
theorem n_Rv : ∀ a, a < 6 → ∀ b, b < 6 → a ≠ b → (F_Rv a).2.1 ≠ (F_Rv b).2.1 := by decide +kernel
theorem t_Rv_ok : ∀ k, k < 6 → parseFieldDescriptor (F_Rv k).2.2.1 = some (t_Rv k) := by decide +kernel
theorem df_Rv : ∀ j, j < 6 → defaultValue (t_Rv j) = vp_V [.null, .null, .null, .null, .int 0, .int 0] j := by decide +kernel
theorem n_Mn : ∀ a, a < 8 → ∀ b, b < 8 → a ≠ b → (F_Mn a).2.1 ≠ (F_Mn b).2.1 := by decide +kernel
theorem t_Mn_ok : ∀ k, k < 8 → parseFieldDescriptor (F_Mn k).2.2.1 = some (t_Mn k) := by decide +kernel
theorem df_Mn : ∀ j, j < 8 → defaultValue (t_Mn j) = vp_V [.int 0, .null, .int 0, .int 0, .int 0, .int 0, .int 0, .int 0] j := by decide +kernel
theorem n_Or : ∀ a, a < 9 → ∀ b, b < 9 → a ≠ b → (F_Or a).2.1 ≠ (F_Or b).2.1 := by decide +kernel
theorem t_Or_ok : ∀ k, k < 9 → parseFieldDescriptor (F_Or k).2.2.1 = some (t_Or k) := by decide +kernel
theorem df_Or : ∀ j, j < 9 → defaultValue (t_Or j) = vp_V [.int 0, .int 0, .null, .null, .null, .int 0, .int 0, .int 0, .int 0] j := by decide +kernel
theorem n_Tp : ∀ a, a < 6 → ∀ b, b < 6 → a ≠ b → (F_Tp a).2.1 ≠ (F_Tp b).2.1 := by decide +kernel
theorem t_Tp_ok : ∀ k, k < 6 → parseFieldDescriptor (F_Tp k).2.2.1 = some (t_Tp k) := by decide +kernel
theorem df_Tp : ∀ j, j < 6 → defaultValue (t_Tp j) = vp_V [.null, .int 0, .int 0, .int 0, .int 0, .int 0] j := by decide +kernel
theorem n_Bx : ∀ a, a < 7 → ∀ b, b < 7 → a ≠ b → (F_Bx a).2.1 ≠ (F_Bx b).2.1 := by decide +kernel
theorem t_Bx_ok : ∀ k, k < 7 → parseFieldDescriptor (F_Bx k).2.2.1 = some (t_Bx k) := by decide +kernel
theorem df_Bx : ∀ j, j < 7 → defaultValue (t_Bx j) = vp_V [.int 0, .int 0, .int 0, .int 0, .null, .null, .int 0] j := by decide +kernel
theorem n_Pn : ∀ a, a < 3 → ∀ b, b < 3 → a ≠ b → (F_Pn a).2.1 ≠ (F_Pn b).2.1 := by decide +kernel
theorem t_Pn_ok : ∀ k, k < 3 → parseFieldDescriptor (F_Pn k).2.2.1 = some (t_Pn k) := by decide +kernel
theorem df_Pn : ∀ j, j < 3 → defaultValue (t_Pn j) = vp_V [.int 0, .int 0, .int 0] j := by decide +kernel
theorem n_Md : ∀ a, a < 64 → ∀ b, b < 64 → a ≠ b → (F_Md a).2.1 ≠ (F_Md b).2.1 := by decide +kernel
theorem t_Md_ok : ∀ k, k < 64 → parseFieldDescriptor (F_Md k).2.2.1 = some (t_Md k) := by decide +kernel
theorem df_Md : ∀ j, j < 64 → defaultValue (t_Md j) = vp_V [.int 0, .int 0, .int 0, .null, .int 0, .null, .null, .null, .null, .null, .null, .null, .null, .null, .null, .null, .null, .null, .null, .null, .null, .int 0, .null, .null, .null, .null, .null, .null, .int 0, .int 0, .null, .null, .null, .null, .null, .null, .null, .null, .null, .null, .null, .null, .int 0, .int 0, .int 0, .int 0, .int 0, .int 0, .null, .null, .null, .null, .null, .null, .null, .null, .long 0, .long 0, .long 0, .null, .int 0, .null, .null, .null] j := by decide +kernel
theorem n_Bd : ∀ a, a < 5 → ∀ b, b < 5 → a ≠ b → (F_Bd a).2.1 ≠ (F_Bd b).2.1 := by decide +kernel
theorem t_Bd_ok : ∀ k, k < 5 → parseFieldDescriptor (F_Bd k).2.2.1 = some (t_Bd k) := by decide +kernel
theorem df_Bd : ∀ j, j < 5 → defaultValue (t_Bd j) = vp_V [.int 0, .int 0, .null, .null, .int 0] j := by decide +kernel
theorem n_Bt : ∀ a, a < 6 → ∀ b, b < 6 → a ≠ b → (F_Bt a).2.1 ≠ (F_Bt b).2.1 := by decide +kernel
theorem t_Bt_ok : ∀ k, k < 6 → parseFieldDescriptor (F_Bt k).2.2.1 = some (t_Bt k) := by decide +kernel
theorem df_Bt : ∀ j, j < 6 → defaultValue (t_Bt j) = vp_V [.int 0, .int 0, .int 0, .int 0, .int 0, .int 0] j := by decide +kernel
theorem n_Tr : ∀ a, a < 8 → ∀ b, b < 8 → a ≠ b → (F_Tr a).2.1 ≠ (F_Tr b).2.1 := by decide +kernel
theorem t_Tr_ok : ∀ k, k < 8 → parseFieldDescriptor (F_Tr k).2.2.1 = some (t_Tr k) := by decide +kernel
theorem df_Tr : ∀ j, j < 8 → defaultValue (t_Tr j) = vp_V [.int 0, .int 0, .int 0, .int 0, .int 0, .int 0, .int 0, .int 0] j := by decide +kernel
def TB : List Cond := lw_tbl.filter goodWord
set_option maxRecDepth 100000 in
theorem tw_f {w : Cond} (h : w ∈ lw_tbl) (g : goodWord w = true) : w ∈ TB := List.mem_filter.mpr ⟨h, g⟩
set_option maxRecDepth 100000 in
theorem tw_t1 {w : Cond} (h : w ∈ tables_1_1) : w ∈ lw_tbl := List.mem_append_right _ (List.mem_append_left _ h)
set_option maxRecDepth 100000 in
theorem tw_t2 {w : Cond} (h : w ∈ tables_1_2) : w ∈ lw_tbl := List.mem_append_right _ (List.mem_append_right _ (List.mem_append_left _ h))
set_option maxRecDepth 100000 in
theorem tw_t3 {w : Cond} (h : w ∈ tables_1_3) : w ∈ lw_tbl := List.mem_append_right _ (List.mem_append_right _ (List.mem_append_right _ (List.mem_append_left _ h)))
set_option maxRecDepth 100000 in
theorem tw_t4 {w : Cond} (h : w ∈ tables_1_4) : w ∈ lw_tbl := List.mem_append_right _ (List.mem_append_right _ (List.mem_append_right _ (List.mem_append_right _ (List.mem_append_left _ h))))
set_option maxRecDepth 100000 in
theorem tw_t5 {w : Cond} (h : w ∈ tables_1_5) : w ∈ lw_tbl := List.mem_append_right _ (List.mem_append_right _ (List.mem_append_right _ (List.mem_append_right _ (List.mem_append_right _ (List.mem_append_left _ h)))))
set_option maxRecDepth 100000 in
theorem tw_t6 {w : Cond} (h : w ∈ tables_1_6) : w ∈ lw_tbl := List.mem_append_right _ (List.mem_append_right _ (List.mem_append_right _ (List.mem_append_right _ (List.mem_append_right _ (List.mem_append_right _ (h))))))
set_option maxRecDepth 100000 in
theorem tw_s1 {w : Cond} (h : w ∈ k2_sels lw_privs_1) : w ∈ lw_tbl := by
  obtain ⟨q, hq, rfl⟩ := List.mem_map.mp h
  exact List.mem_append_left _ (List.mem_map.mpr ⟨q, (fun (h : q ∈ lw_privs_1) => (show q ∈ lw_privs from List.mem_append_left _ h)) hq, rfl⟩)
set_option maxRecDepth 100000 in
theorem tw_s2 {w : Cond} (h : w ∈ k2_sels lw_privs_2) : w ∈ lw_tbl := by
  obtain ⟨q, hq, rfl⟩ := List.mem_map.mp h
  exact List.mem_append_left _ (List.mem_map.mpr ⟨q, (fun (h : q ∈ lw_privs_2) => (show q ∈ lw_privs from List.mem_append_right _ (List.mem_append_left _ h))) hq, rfl⟩)
set_option maxRecDepth 100000 in
theorem tw_s3 {w : Cond} (h : w ∈ k2_sels lw_privs_3) : w ∈ lw_tbl := by
  obtain ⟨q, hq, rfl⟩ := List.mem_map.mp h
  exact List.mem_append_left _ (List.mem_map.mpr ⟨q, (fun (h : q ∈ lw_privs_3) => (show q ∈ lw_privs from List.mem_append_right _ (List.mem_append_right _ (h)))) hq, rfl⟩)
set_option maxRecDepth 100000 in
theorem ly_WM_0 : (.laysFinal R_WM "WaterMen" "river" "LWaterMen$River;") ∈ TB := tw_f (tw_t1 (List.mem_of_getElem? (i := 207) rfl)) rfl
set_option maxRecDepth 100000 in
theorem ly_WM_1 : (.laysFinal R_WM "WaterMen" "men" "[LWaterMen$Man;") ∈ TB := tw_f (tw_t1 (List.mem_of_getElem? (i := 209) rfl)) rfl
set_option maxRecDepth 100000 in
theorem ly_WM_2 : (.laysFinal R_WM "WaterMen" "boats" "[LWaterMen$Boat;") ∈ TB := tw_f (tw_t1 (List.mem_of_getElem? (i := 211) rfl)) rfl
set_option maxRecDepth 100000 in
theorem ly_WM_3 : (.laysFinal R_WM "WaterMen" "orders" "[LWaterMen$Order;") ∈ TB := tw_f (tw_t1 (List.mem_of_getElem? (i := 213) rfl)) rfl
set_option maxRecDepth 100000 in
theorem ly_WM_4 : (.laysFinal R_WM "WaterMen" "trips" "[LWaterMen$Trip;") ∈ TB := tw_f (tw_t1 (List.mem_of_getElem? (i := 215) rfl)) rfl
set_option maxRecDepth 100000 in
theorem ly_WM_5 : (.laysFinal R_WM "WaterMen" "tape" "LWaterMen$Tape;") ∈ TB := tw_f (tw_t1 (List.mem_of_getElem? (i := 217) rfl)) rfl
set_option maxRecDepth 100000 in
theorem ly_WM_6 : (.laysFinal R_WM "WaterMen" "box" "LWaterMen$Box;") ∈ TB := tw_f (tw_t1 (List.mem_of_getElem? (i := 219) rfl)) rfl
set_option maxRecDepth 100000 in
theorem ly_WM_7 : (.lays R_WM "WaterMen" "boatCount" "I") ∈ TB := tw_f (tw_t1 (List.mem_of_getElem? (i := 221) rfl)) rfl
set_option maxRecDepth 100000 in
theorem ly_WM_8 : (.lays R_WM "WaterMen" "orderCount" "I") ∈ TB := tw_f (tw_t1 (List.mem_of_getElem? (i := 223) rfl)) rfl
set_option maxRecDepth 100000 in
theorem ly_WM_9 : (.lays R_WM "WaterMen" "tripCount" "I") ∈ TB := tw_f (tw_t1 (List.mem_of_getElem? (i := 225) rfl)) rfl
set_option maxRecDepth 100000 in
theorem ly_WM_10 : (.lays R_WM "WaterMen" "now" "I") ∈ TB := tw_f (tw_t1 (List.mem_of_getElem? (i := 227) rfl)) rfl
set_option maxRecDepth 100000 in
theorem ly_WM_11 : (.lays R_WM "WaterMen" "joins" "I") ∈ TB := tw_f (tw_t1 (List.mem_of_getElem? (i := 229) rfl)) rfl
set_option maxRecDepth 100000 in
theorem ly_WM_12 : (.lays R_WM "WaterMen" "draft" "LWaterMen$Order;") ∈ TB := tw_f (tw_t1 (List.mem_of_getElem? (i := 231) rfl)) rfl
set_option maxRecDepth 100000 in
theorem i_WM : ∀ w ∈ u_ws R_WM F_WM 13, w ∈ TB := by
  intro w hw
  obtain ⟨k, hk, rfl⟩ := List.mem_map.mp hw
  have hk := List.mem_range.mp hk
  match k, hk with
  | 0, _ => exact ly_WM_0
  | 1, _ => exact ly_WM_1
  | 2, _ => exact ly_WM_2
  | 3, _ => exact ly_WM_3
  | 4, _ => exact ly_WM_4
  | 5, _ => exact ly_WM_5
  | 6, _ => exact ly_WM_6
  | 7, _ => exact ly_WM_7
  | 8, _ => exact ly_WM_8
  | 9, _ => exact ly_WM_9
  | 10, _ => exact ly_WM_10
  | 11, _ => exact ly_WM_11
  | 12, _ => exact ly_WM_12
set_option maxRecDepth 100000 in
theorem ly_Rv_0 : (.laysFinal R_Rv "WaterMen$River" "milesUp" "[I") ∈ TB := tw_f (tw_t1 (List.mem_of_getElem? (i := 43) rfl)) rfl
set_option maxRecDepth 100000 in
theorem ly_Rv_1 : (.laysFinal R_Rv "WaterMen$River" "table" "[I") ∈ TB := tw_f (tw_t1 (List.mem_of_getElem? (i := 45) rfl)) rfl
set_option maxRecDepth 100000 in
theorem ly_Rv_2 : (.laysFinal R_Rv "WaterMen$River" "rows" "[[I") ∈ TB := tw_f (tw_t1 (List.mem_of_getElem? (i := 47) rfl)) rfl
set_option maxRecDepth 100000 in
theorem ly_Rv_3 : (.laysFinal R_Rv "WaterMen$River" "frozen" "[Z") ∈ TB := tw_f (tw_t1 (List.mem_of_getElem? (i := 49) rfl)) rfl
set_option maxRecDepth 100000 in
theorem ly_Rv_4 : (.lays R_Rv "WaterMen$River" "stairCount" "I") ∈ TB := tw_f (tw_t1 (List.mem_of_getElem? (i := 51) rfl)) rfl
set_option maxRecDepth 100000 in
theorem ly_Rv_5 : (.lays R_Rv "WaterMen$River" "bridgeAbove" "I") ∈ TB := tw_f (tw_t1 (List.mem_of_getElem? (i := 53) rfl)) rfl
set_option maxRecDepth 100000 in
theorem i_Rv : ∀ w ∈ u_ws R_Rv F_Rv 6, w ∈ TB := by
  intro w hw
  obtain ⟨k, hk, rfl⟩ := List.mem_map.mp hw
  have hk := List.mem_range.mp hk
  match k, hk with
  | 0, _ => exact ly_Rv_0
  | 1, _ => exact ly_Rv_1
  | 2, _ => exact ly_Rv_2
  | 3, _ => exact ly_Rv_3
  | 4, _ => exact ly_Rv_4
  | 5, _ => exact ly_Rv_5
set_option maxRecDepth 100000 in
theorem ly_Mn_0 : (.lays R_Mn "WaterMen$Man" "state" "I") ∈ TB := tw_f (tw_t1 (List.mem_of_getElem? (i := 177) rfl)) rfl
set_option maxRecDepth 100000 in
theorem ly_Mn_1 : (.lays R_Mn "WaterMen$Man" "bond" "LWaterMen$Bond;") ∈ TB := tw_f (tw_t1 (List.mem_of_getElem? (i := 179) rfl)) rfl
set_option maxRecDepth 100000 in
theorem ly_Mn_2 : (.lays R_Mn "WaterMen$Man" "turnStairs" "I") ∈ TB := tw_f (tw_t1 (List.mem_of_getElem? (i := 181) rfl)) rfl
set_option maxRecDepth 100000 in
theorem ly_Mn_3 : (.lays R_Mn "WaterMen$Man" "turnTicket" "I") ∈ TB := tw_f (tw_t1 (List.mem_of_getElem? (i := 183) rfl)) rfl
set_option maxRecDepth 100000 in
theorem ly_Mn_4 : (.lays R_Mn "WaterMen$Man" "coins" "I") ∈ TB := tw_f (tw_t1 (List.mem_of_getElem? (i := 185) rfl)) rfl
set_option maxRecDepth 100000 in
theorem ly_Mn_5 : (.lays R_Mn "WaterMen$Man" "busyUntil" "I") ∈ TB := tw_f (tw_t1 (List.mem_of_getElem? (i := 187) rfl)) rfl
set_option maxRecDepth 100000 in
theorem ly_Mn_6 : (.lays R_Mn "WaterMen$Man" "tripCount" "I") ∈ TB := tw_f (tw_t1 (List.mem_of_getElem? (i := 189) rfl)) rfl
set_option maxRecDepth 100000 in
theorem ly_Mn_7 : (.lays R_Mn "WaterMen$Man" "lastSunday" "I") ∈ TB := tw_f (tw_t1 (List.mem_of_getElem? (i := 191) rfl)) rfl
set_option maxRecDepth 100000 in
theorem i_Mn : ∀ w ∈ u_ws R_Mn F_Mn 8, w ∈ TB := by
  intro w hw
  obtain ⟨k, hk, rfl⟩ := List.mem_map.mp hw
  have hk := List.mem_range.mp hk
  match k, hk with
  | 0, _ => exact ly_Mn_0
  | 1, _ => exact ly_Mn_1
  | 2, _ => exact ly_Mn_2
  | 3, _ => exact ly_Mn_3
  | 4, _ => exact ly_Mn_4
  | 5, _ => exact ly_Mn_5
  | 6, _ => exact ly_Mn_6
  | 7, _ => exact ly_Mn_7
set_option maxRecDepth 100000 in
theorem ly_Or_0 : (.lays R_Or "WaterMen$Order" "madeOn" "I") ∈ TB := tw_f (tw_t1 (List.mem_of_getElem? (i := 140) rfl)) rfl
set_option maxRecDepth 100000 in
theorem ly_Or_1 : (.lays R_Or "WaterMen$Order" "inForceFrom" "I") ∈ TB := tw_f (tw_t1 (List.mem_of_getElem? (i := 142) rfl)) rfl
set_option maxRecDepth 100000 in
theorem ly_Or_2 : (.laysFinal R_Or "WaterMen$Order" "fares" "[I") ∈ TB := tw_f (tw_t1 (List.mem_of_getElem? (i := 144) rfl)) rfl
set_option maxRecDepth 100000 in
theorem ly_Or_3 : (.laysFinal R_Or "WaterMen$Order" "hours" "[I") ∈ TB := tw_f (tw_t1 (List.mem_of_getElem? (i := 146) rfl)) rfl
set_option maxRecDepth 100000 in
theorem ly_Or_4 : (.laysFinal R_Or "WaterMen$Order" "single" "[I") ∈ TB := tw_f (tw_t1 (List.mem_of_getElem? (i := 148) rfl)) rfl
set_option maxRecDepth 100000 in
theorem ly_Or_5 : (.lays R_Or "WaterMen$Order" "fareCount" "I") ∈ TB := tw_f (tw_t1 (List.mem_of_getElem? (i := 150) rfl)) rfl
set_option maxRecDepth 100000 in
theorem ly_Or_6 : (.lays R_Or "WaterMen$Order" "hourCount" "I") ∈ TB := tw_f (tw_t1 (List.mem_of_getElem? (i := 152) rfl)) rfl
set_option maxRecDepth 100000 in
theorem ly_Or_7 : (.lays R_Or "WaterMen$Order" "bridgeOpens" "I") ∈ TB := tw_f (tw_t1 (List.mem_of_getElem? (i := 154) rfl)) rfl
set_option maxRecDepth 100000 in
theorem ly_Or_8 : (.lays R_Or "WaterMen$Order" "bridgeShuts" "I") ∈ TB := tw_f (tw_t1 (List.mem_of_getElem? (i := 156) rfl)) rfl
set_option maxRecDepth 100000 in
theorem i_Or : ∀ w ∈ u_ws R_Or F_Or 9, w ∈ TB := by
  intro w hw
  obtain ⟨k, hk, rfl⟩ := List.mem_map.mp hw
  have hk := List.mem_range.mp hk
  match k, hk with
  | 0, _ => exact ly_Or_0
  | 1, _ => exact ly_Or_1
  | 2, _ => exact ly_Or_2
  | 3, _ => exact ly_Or_3
  | 4, _ => exact ly_Or_4
  | 5, _ => exact ly_Or_5
  | 6, _ => exact ly_Or_6
  | 7, _ => exact ly_Or_7
  | 8, _ => exact ly_Or_8
set_option maxRecDepth 100000 in
theorem ly_Tp_0 : (.laysFinal R_Tp "WaterMen$Tape" "bytes" "[B") ∈ TB := tw_f (tw_t1 (List.mem_of_getElem? (i := 79) rfl)) rfl
set_option maxRecDepth 100000 in
theorem ly_Tp_1 : (.lays R_Tp "WaterMen$Tape" "length" "I") ∈ TB := tw_f (tw_t1 (List.mem_of_getElem? (i := 81) rfl)) rfl
set_option maxRecDepth 100000 in
theorem ly_Tp_2 : (.lays R_Tp "WaterMen$Tape" "sort" "I") ∈ TB := tw_f (tw_t1 (List.mem_of_getElem? (i := 83) rfl)) rfl
set_option maxRecDepth 100000 in
theorem ly_Tp_3 : (.lays R_Tp "WaterMen$Tape" "start" "I") ∈ TB := tw_f (tw_t1 (List.mem_of_getElem? (i := 85) rfl)) rfl
set_option maxRecDepth 100000 in
theorem ly_Tp_4 : (.lays R_Tp "WaterMen$Tape" "behind" "I") ∈ TB := tw_f (tw_t1 (List.mem_of_getElem? (i := 87) rfl)) rfl
set_option maxRecDepth 100000 in
theorem ly_Tp_5 : (.lays R_Tp "WaterMen$Tape" "value" "I") ∈ TB := tw_f (tw_t1 (List.mem_of_getElem? (i := 89) rfl)) rfl
set_option maxRecDepth 100000 in
theorem i_Tp : ∀ w ∈ u_ws R_Tp F_Tp 6, w ∈ TB := by
  intro w hw
  obtain ⟨k, hk, rfl⟩ := List.mem_map.mp hw
  have hk := List.mem_range.mp hk
  match k, hk with
  | 0, _ => exact ly_Tp_0
  | 1, _ => exact ly_Tp_1
  | 2, _ => exact ly_Tp_2
  | 3, _ => exact ly_Tp_3
  | 4, _ => exact ly_Tp_4
  | 5, _ => exact ly_Tp_5
set_option maxRecDepth 100000 in
theorem ly_Bx_0 : (.lays R_Bx "WaterMen$Box" "coins" "I") ∈ TB := tw_f (tw_t1 (List.mem_of_getElem? (i := 111) rfl)) rfl
set_option maxRecDepth 100000 in
theorem ly_Bx_1 : (.lays R_Bx "WaterMen$Box" "pot" "I") ∈ TB := tw_f (tw_t1 (List.mem_of_getElem? (i := 113) rfl)) rfl
set_option maxRecDepth 100000 in
theorem ly_Bx_2 : (.lays R_Bx "WaterMen$Box" "allPaid" "I") ∈ TB := tw_f (tw_t1 (List.mem_of_getElem? (i := 115) rfl)) rfl
set_option maxRecDepth 100000 in
theorem ly_Bx_3 : (.lays R_Bx "WaterMen$Box" "allPensions" "I") ∈ TB := tw_f (tw_t1 (List.mem_of_getElem? (i := 117) rfl)) rfl
set_option maxRecDepth 100000 in
theorem ly_Bx_4 : (.laysFinal R_Bx "WaterMen$Box" "income" "[I") ∈ TB := tw_f (tw_t1 (List.mem_of_getElem? (i := 119) rfl)) rfl
set_option maxRecDepth 100000 in
theorem ly_Bx_5 : (.laysFinal R_Bx "WaterMen$Box" "pensioners" "[LWaterMen$Pensioner;") ∈ TB := tw_f (tw_t1 (List.mem_of_getElem? (i := 121) rfl)) rfl
set_option maxRecDepth 100000 in
theorem ly_Bx_6 : (.lays R_Bx "WaterMen$Box" "pensionerCount" "I") ∈ TB := tw_f (tw_t1 (List.mem_of_getElem? (i := 123) rfl)) rfl
set_option maxRecDepth 100000 in
theorem i_Bx : ∀ w ∈ u_ws R_Bx F_Bx 7, w ∈ TB := by
  intro w hw
  obtain ⟨k, hk, rfl⟩ := List.mem_map.mp hw
  have hk := List.mem_range.mp hk
  match k, hk with
  | 0, _ => exact ly_Bx_0
  | 1, _ => exact ly_Bx_1
  | 2, _ => exact ly_Bx_2
  | 3, _ => exact ly_Bx_3
  | 4, _ => exact ly_Bx_4
  | 5, _ => exact ly_Bx_5
  | 6, _ => exact ly_Bx_6
set_option maxRecDepth 100000 in
theorem ly_Pn_0 : (.laysFinal R_Pn "WaterMen$Pensioner" "pension" "I") ∈ TB := tw_f (tw_t4 (List.mem_of_getElem? (i := 50) rfl)) rfl
set_option maxRecDepth 100000 in
theorem ly_Pn_1 : (.laysFinal R_Pn "WaterMen$Pensioner" "end" "I") ∈ TB := tw_f (tw_t4 (List.mem_of_getElem? (i := 52) rfl)) rfl
set_option maxRecDepth 100000 in
theorem ly_Pn_2 : (.lays R_Pn "WaterMen$Pensioner" "got" "I") ∈ TB := tw_f (tw_t4 (List.mem_of_getElem? (i := 54) rfl)) rfl
set_option maxRecDepth 100000 in
theorem i_Pn : ∀ w ∈ u_ws R_Pn F_Pn 3, w ∈ TB := by
  intro w hw
  obtain ⟨k, hk, rfl⟩ := List.mem_map.mp hw
  have hk := List.mem_range.mp hk
  match k, hk with
  | 0, _ => exact ly_Pn_0
  | 1, _ => exact ly_Pn_1
  | 2, _ => exact ly_Pn_2
set_option maxRecDepth 100000 in
theorem ly_Md_0 : (.lays R_Md "WaterMenModel" "code" "I") ∈ TB := tw_f (tw_t4 (List.mem_of_getElem? (i := 226) rfl)) rfl
set_option maxRecDepth 100000 in
theorem ly_Md_1 : (.lays R_Md "WaterMenModel" "time" "I") ∈ TB := tw_f (tw_t4 (List.mem_of_getElem? (i := 228) rfl)) rfl
set_option maxRecDepth 100000 in
theorem ly_Md_2 : (.lays R_Md "WaterMenModel" "stairs" "I") ∈ TB := tw_f (tw_t4 (List.mem_of_getElem? (i := 230) rfl)) rfl
set_option maxRecDepth 100000 in
theorem ly_Md_3 : (.laysFinal R_Md "WaterMenModel" "miles" "[I") ∈ TB := tw_f (tw_t4 (List.mem_of_getElem? (i := 232) rfl)) rfl
set_option maxRecDepth 100000 in
theorem ly_Md_4 : (.lays R_Md "WaterMenModel" "bridge" "I") ∈ TB := tw_f (tw_t4 (List.mem_of_getElem? (i := 234) rfl)) rfl
set_option maxRecDepth 100000 in
theorem ly_Md_5 : (.laysFinal R_Md "WaterMenModel" "table" "[I") ∈ TB := tw_f (tw_t4 (List.mem_of_getElem? (i := 236) rfl)) rfl
set_option maxRecDepth 100000 in
theorem ly_Md_6 : (.laysFinal R_Md "WaterMenModel" "hasRow" "[Z") ∈ TB := tw_f (tw_t4 (List.mem_of_getElem? (i := 238) rfl)) rfl
set_option maxRecDepth 100000 in
theorem ly_Md_7 : (.laysFinal R_Md "WaterMenModel" "rows" "[I") ∈ TB := tw_f (tw_t5 (List.mem_of_getElem? (i := 0) rfl)) rfl
set_option maxRecDepth 100000 in
theorem ly_Md_8 : (.laysFinal R_Md "WaterMenModel" "frosts" "[Z") ∈ TB := tw_f (tw_t5 (List.mem_of_getElem? (i := 2) rfl)) rfl
set_option maxRecDepth 100000 in
theorem ly_Md_9 : (.laysFinal R_Md "WaterMenModel" "state" "[I") ∈ TB := tw_f (tw_t5 (List.mem_of_getElem? (i := 4) rfl)) rfl
set_option maxRecDepth 100000 in
theorem ly_Md_10 : (.laysFinal R_Md "WaterMenModel" "master" "[I") ∈ TB := tw_f (tw_t5 (List.mem_of_getElem? (i := 6) rfl)) rfl
set_option maxRecDepth 100000 in
theorem ly_Md_11 : (.laysFinal R_Md "WaterMenModel" "boundOn" "[I") ∈ TB := tw_f (tw_t5 (List.mem_of_getElem? (i := 8) rfl)) rfl
set_option maxRecDepth 100000 in
theorem ly_Md_12 : (.laysFinal R_Md "WaterMenModel" "gaps" "[I") ∈ TB := tw_f (tw_t5 (List.mem_of_getElem? (i := 10) rfl)) rfl
set_option maxRecDepth 100000 in
theorem ly_Md_13 : (.laysFinal R_Md "WaterMenModel" "gapFrom" "[I") ∈ TB := tw_f (tw_t5 (List.mem_of_getElem? (i := 12) rfl)) rfl
set_option maxRecDepth 100000 in
theorem ly_Md_14 : (.laysFinal R_Md "WaterMenModel" "gapTo" "[I") ∈ TB := tw_f (tw_t5 (List.mem_of_getElem? (i := 14) rfl)) rfl
set_option maxRecDepth 100000 in
theorem ly_Md_15 : (.laysFinal R_Md "WaterMenModel" "coins" "[I") ∈ TB := tw_f (tw_t5 (List.mem_of_getElem? (i := 16) rfl)) rfl
set_option maxRecDepth 100000 in
theorem ly_Md_16 : (.laysFinal R_Md "WaterMenModel" "wayOf" "[I") ∈ TB := tw_f (tw_t5 (List.mem_of_getElem? (i := 18) rfl)) rfl
set_option maxRecDepth 100000 in
theorem ly_Md_17 : (.laysFinal R_Md "WaterMenModel" "tripsOf" "[I") ∈ TB := tw_f (tw_t5 (List.mem_of_getElem? (i := 20) rfl)) rfl
set_option maxRecDepth 100000 in
theorem ly_Md_18 : (.laysFinal R_Md "WaterMenModel" "shares" "[Z") ∈ TB := tw_f (tw_t5 (List.mem_of_getElem? (i := 22) rfl)) rfl
set_option maxRecDepth 100000 in
theorem ly_Md_19 : (.laysFinal R_Md "WaterMenModel" "turns" "[I") ∈ TB := tw_f (tw_t5 (List.mem_of_getElem? (i := 24) rfl)) rfl
set_option maxRecDepth 100000 in
theorem ly_Md_20 : (.laysFinal R_Md "WaterMenModel" "turn" "[I") ∈ TB := tw_f (tw_t5 (List.mem_of_getElem? (i := 26) rfl)) rfl
set_option maxRecDepth 100000 in
theorem ly_Md_21 : (.lays R_Md "WaterMenModel" "boats" "I") ∈ TB := tw_f (tw_t5 (List.mem_of_getElem? (i := 28) rfl)) rfl
set_option maxRecDepth 100000 in
theorem ly_Md_22 : (.laysFinal R_Md "WaterMenModel" "boatOars" "[I") ∈ TB := tw_f (tw_t5 (List.mem_of_getElem? (i := 30) rfl)) rfl
set_option maxRecDepth 100000 in
theorem ly_Md_23 : (.laysFinal R_Md "WaterMenModel" "boatAt" "[I") ∈ TB := tw_f (tw_t5 (List.mem_of_getElem? (i := 32) rfl)) rfl
set_option maxRecDepth 100000 in
theorem ly_Md_24 : (.laysFinal R_Md "WaterMenModel" "boatFrom" "[I") ∈ TB := tw_f (tw_t5 (List.mem_of_getElem? (i := 34) rfl)) rfl
set_option maxRecDepth 100000 in
theorem ly_Md_25 : (.laysFinal R_Md "WaterMenModel" "boatTrip" "[I") ∈ TB := tw_f (tw_t5 (List.mem_of_getElem? (i := 36) rfl)) rfl
set_option maxRecDepth 100000 in
theorem ly_Md_26 : (.laysFinal R_Md "WaterMenModel" "sunk" "[Z") ∈ TB := tw_f (tw_t5 (List.mem_of_getElem? (i := 38) rfl)) rfl
set_option maxRecDepth 100000 in
theorem ly_Md_27 : (.laysFinal R_Md "WaterMenModel" "tape" "[B") ∈ TB := tw_f (tw_t5 (List.mem_of_getElem? (i := 40) rfl)) rfl
set_option maxRecDepth 100000 in
theorem ly_Md_28 : (.lays R_Md "WaterMenModel" "taped" "I") ∈ TB := tw_f (tw_t5 (List.mem_of_getElem? (i := 42) rfl)) rfl
set_option maxRecDepth 100000 in
theorem ly_Md_29 : (.lays R_Md "WaterMenModel" "orders" "I") ∈ TB := tw_f (tw_t5 (List.mem_of_getElem? (i := 44) rfl)) rfl
set_option maxRecDepth 100000 in
theorem ly_Md_30 : (.laysFinal R_Md "WaterMenModel" "orderFrom" "[I") ∈ TB := tw_f (tw_t5 (List.mem_of_getElem? (i := 46) rfl)) rfl
set_option maxRecDepth 100000 in
theorem ly_Md_31 : (.laysFinal R_Md "WaterMenModel" "orderMade" "[I") ∈ TB := tw_f (tw_t5 (List.mem_of_getElem? (i := 48) rfl)) rfl
set_option maxRecDepth 100000 in
theorem ly_Md_32 : (.laysFinal R_Md "WaterMenModel" "fares" "[I") ∈ TB := tw_f (tw_t5 (List.mem_of_getElem? (i := 50) rfl)) rfl
set_option maxRecDepth 100000 in
theorem ly_Md_33 : (.laysFinal R_Md "WaterMenModel" "fareLow" "[I") ∈ TB := tw_f (tw_t5 (List.mem_of_getElem? (i := 52) rfl)) rfl
set_option maxRecDepth 100000 in
theorem ly_Md_34 : (.laysFinal R_Md "WaterMenModel" "fareHigh" "[I") ∈ TB := tw_f (tw_t5 (List.mem_of_getElem? (i := 54) rfl)) rfl
set_option maxRecDepth 100000 in
theorem ly_Md_35 : (.laysFinal R_Md "WaterMenModel" "fareIs" "[I") ∈ TB := tw_f (tw_t5 (List.mem_of_getElem? (i := 56) rfl)) rfl
set_option maxRecDepth 100000 in
theorem ly_Md_36 : (.laysFinal R_Md "WaterMenModel" "hours" "[I") ∈ TB := tw_f (tw_t5 (List.mem_of_getElem? (i := 58) rfl)) rfl
set_option maxRecDepth 100000 in
theorem ly_Md_37 : (.laysFinal R_Md "WaterMenModel" "hourLow" "[I") ∈ TB := tw_f (tw_t5 (List.mem_of_getElem? (i := 60) rfl)) rfl
set_option maxRecDepth 100000 in
theorem ly_Md_38 : (.laysFinal R_Md "WaterMenModel" "hourHigh" "[I") ∈ TB := tw_f (tw_t5 (List.mem_of_getElem? (i := 62) rfl)) rfl
set_option maxRecDepth 100000 in
theorem ly_Md_39 : (.laysFinal R_Md "WaterMenModel" "hourIs" "[I") ∈ TB := tw_f (tw_t5 (List.mem_of_getElem? (i := 64) rfl)) rfl
set_option maxRecDepth 100000 in
theorem ly_Md_40 : (.laysFinal R_Md "WaterMenModel" "single" "[I") ∈ TB := tw_f (tw_t5 (List.mem_of_getElem? (i := 66) rfl)) rfl
set_option maxRecDepth 100000 in
theorem ly_Md_41 : (.laysFinal R_Md "WaterMenModel" "singleTo" "[I") ∈ TB := tw_f (tw_t5 (List.mem_of_getElem? (i := 68) rfl)) rfl
set_option maxRecDepth 100000 in
theorem ly_Md_42 : (.lays R_Md "WaterMenModel" "at" "I") ∈ TB := tw_f (tw_t5 (List.mem_of_getElem? (i := 70) rfl)) rfl
set_option maxRecDepth 100000 in
theorem ly_Md_43 : (.lays R_Md "WaterMenModel" "tk" "I") ∈ TB := tw_f (tw_t5 (List.mem_of_getElem? (i := 72) rfl)) rfl
set_option maxRecDepth 100000 in
theorem ly_Md_44 : (.lays R_Md "WaterMenModel" "tkAt" "I") ∈ TB := tw_f (tw_t5 (List.mem_of_getElem? (i := 74) rfl)) rfl
set_option maxRecDepth 100000 in
theorem ly_Md_45 : (.lays R_Md "WaterMenModel" "tkNumber" "I") ∈ TB := tw_f (tw_t5 (List.mem_of_getElem? (i := 76) rfl)) rfl
set_option maxRecDepth 100000 in
theorem ly_Md_46 : (.lays R_Md "WaterMenModel" "got" "I") ∈ TB := tw_f (tw_t5 (List.mem_of_getElem? (i := 78) rfl)) rfl
set_option maxRecDepth 100000 in
theorem ly_Md_47 : (.lays R_Md "WaterMenModel" "trips" "I") ∈ TB := tw_f (tw_t5 (List.mem_of_getElem? (i := 80) rfl)) rfl
set_option maxRecDepth 100000 in
theorem ly_Md_48 : (.laysFinal R_Md "WaterMenModel" "tripBoat" "[I") ∈ TB := tw_f (tw_t5 (List.mem_of_getElem? (i := 82) rfl)) rfl
set_option maxRecDepth 100000 in
theorem ly_Md_49 : (.laysFinal R_Md "WaterMenModel" "tripMan" "[I") ∈ TB := tw_f (tw_t5 (List.mem_of_getElem? (i := 84) rfl)) rfl
set_option maxRecDepth 100000 in
theorem ly_Md_50 : (.laysFinal R_Md "WaterMenModel" "tripFrom" "[I") ∈ TB := tw_f (tw_t5 (List.mem_of_getElem? (i := 86) rfl)) rfl
set_option maxRecDepth 100000 in
theorem ly_Md_51 : (.laysFinal R_Md "WaterMenModel" "tripTo" "[I") ∈ TB := tw_f (tw_t5 (List.mem_of_getElem? (i := 88) rfl)) rfl
set_option maxRecDepth 100000 in
theorem ly_Md_52 : (.laysFinal R_Md "WaterMenModel" "tripBegin" "[I") ∈ TB := tw_f (tw_t5 (List.mem_of_getElem? (i := 90) rfl)) rfl
set_option maxRecDepth 100000 in
theorem ly_Md_53 : (.laysFinal R_Md "WaterMenModel" "tripThere" "[I") ∈ TB := tw_f (tw_t5 (List.mem_of_getElem? (i := 92) rfl)) rfl
set_option maxRecDepth 100000 in
theorem ly_Md_54 : (.laysFinal R_Md "WaterMenModel" "tripPaid" "[I") ∈ TB := tw_f (tw_t5 (List.mem_of_getElem? (i := 94) rfl)) rfl
set_option maxRecDepth 100000 in
theorem ly_Md_55 : (.laysFinal R_Md "WaterMenModel" "sank" "[Z") ∈ TB := tw_f (tw_t5 (List.mem_of_getElem? (i := 96) rfl)) rfl
set_option maxRecDepth 100000 in
theorem ly_Md_56 : (.lays R_Md "WaterMenModel" "box" "J") ∈ TB := tw_f (tw_t5 (List.mem_of_getElem? (i := 98) rfl)) rfl
set_option maxRecDepth 100000 in
theorem ly_Md_57 : (.lays R_Md "WaterMenModel" "pot" "J") ∈ TB := tw_f (tw_t5 (List.mem_of_getElem? (i := 100) rfl)) rfl
set_option maxRecDepth 100000 in
theorem ly_Md_58 : (.lays R_Md "WaterMenModel" "paidOut" "J") ∈ TB := tw_f (tw_t5 (List.mem_of_getElem? (i := 102) rfl)) rfl
set_option maxRecDepth 100000 in
theorem ly_Md_59 : (.laysFinal R_Md "WaterMenModel" "boxIn" "[J") ∈ TB := tw_f (tw_t5 (List.mem_of_getElem? (i := 104) rfl)) rfl
set_option maxRecDepth 100000 in
theorem ly_Md_60 : (.lays R_Md "WaterMenModel" "pensioners" "I") ∈ TB := tw_f (tw_t5 (List.mem_of_getElem? (i := 106) rfl)) rfl
set_option maxRecDepth 100000 in
theorem ly_Md_61 : (.laysFinal R_Md "WaterMenModel" "pensionOf" "[I") ∈ TB := tw_f (tw_t5 (List.mem_of_getElem? (i := 108) rfl)) rfl
set_option maxRecDepth 100000 in
theorem ly_Md_62 : (.laysFinal R_Md "WaterMenModel" "pensionEnd" "[I") ∈ TB := tw_f (tw_t5 (List.mem_of_getElem? (i := 110) rfl)) rfl
set_option maxRecDepth 100000 in
theorem ly_Md_63 : (.laysFinal R_Md "WaterMenModel" "gotten" "[I") ∈ TB := tw_f (tw_t5 (List.mem_of_getElem? (i := 112) rfl)) rfl
set_option maxRecDepth 100000 in
theorem i_Md : ∀ w ∈ u_ws R_Md F_Md 64, w ∈ TB := by
  intro w hw
  obtain ⟨k, hk, rfl⟩ := List.mem_map.mp hw
  have hk := List.mem_range.mp hk
  match k, hk with
  | 0, _ => exact ly_Md_0
  | 1, _ => exact ly_Md_1
  | 2, _ => exact ly_Md_2
  | 3, _ => exact ly_Md_3
  | 4, _ => exact ly_Md_4
  | 5, _ => exact ly_Md_5
  | 6, _ => exact ly_Md_6
  | 7, _ => exact ly_Md_7
  | 8, _ => exact ly_Md_8
  | 9, _ => exact ly_Md_9
  | 10, _ => exact ly_Md_10
  | 11, _ => exact ly_Md_11
  | 12, _ => exact ly_Md_12
  | 13, _ => exact ly_Md_13
  | 14, _ => exact ly_Md_14
  | 15, _ => exact ly_Md_15
  | 16, _ => exact ly_Md_16
  | 17, _ => exact ly_Md_17
  | 18, _ => exact ly_Md_18
  | 19, _ => exact ly_Md_19
  | 20, _ => exact ly_Md_20
  | 21, _ => exact ly_Md_21
  | 22, _ => exact ly_Md_22
  | 23, _ => exact ly_Md_23
  | 24, _ => exact ly_Md_24
  | 25, _ => exact ly_Md_25
  | 26, _ => exact ly_Md_26
  | 27, _ => exact ly_Md_27
  | 28, _ => exact ly_Md_28
  | 29, _ => exact ly_Md_29
  | 30, _ => exact ly_Md_30
  | 31, _ => exact ly_Md_31
  | 32, _ => exact ly_Md_32
  | 33, _ => exact ly_Md_33
  | 34, _ => exact ly_Md_34
  | 35, _ => exact ly_Md_35
  | 36, _ => exact ly_Md_36
  | 37, _ => exact ly_Md_37
  | 38, _ => exact ly_Md_38
  | 39, _ => exact ly_Md_39
  | 40, _ => exact ly_Md_40
  | 41, _ => exact ly_Md_41
  | 42, _ => exact ly_Md_42
  | 43, _ => exact ly_Md_43
  | 44, _ => exact ly_Md_44
  | 45, _ => exact ly_Md_45
  | 46, _ => exact ly_Md_46
  | 47, _ => exact ly_Md_47
  | 48, _ => exact ly_Md_48
  | 49, _ => exact ly_Md_49
  | 50, _ => exact ly_Md_50
  | 51, _ => exact ly_Md_51
  | 52, _ => exact ly_Md_52
  | 53, _ => exact ly_Md_53
  | 54, _ => exact ly_Md_54
  | 55, _ => exact ly_Md_55
  | 56, _ => exact ly_Md_56
  | 57, _ => exact ly_Md_57
  | 58, _ => exact ly_Md_58
  | 59, _ => exact ly_Md_59
  | 60, _ => exact ly_Md_60
  | 61, _ => exact ly_Md_61
  | 62, _ => exact ly_Md_62
  | 63, _ => exact ly_Md_63
  | k + 64, h => exact absurd h (by omega)
set_option maxRecDepth 100000 in
theorem ly_Bd_0 : (.laysFinal R_Bd "WaterMen$Bond" "master" "I") ∈ TB := tw_f (tw_t2 (List.mem_of_getElem? (i := 82) rfl)) rfl
set_option maxRecDepth 100000 in
theorem ly_Bd_1 : (.laysFinal R_Bd "WaterMen$Bond" "since" "I") ∈ TB := tw_f (tw_t2 (List.mem_of_getElem? (i := 84) rfl)) rfl
set_option maxRecDepth 100000 in
theorem ly_Bd_2 : (.laysFinal R_Bd "WaterMen$Bond" "gapFrom" "[I") ∈ TB := tw_f (tw_t2 (List.mem_of_getElem? (i := 86) rfl)) rfl
set_option maxRecDepth 100000 in
theorem ly_Bd_3 : (.laysFinal R_Bd "WaterMen$Bond" "gapTo" "[I") ∈ TB := tw_f (tw_t2 (List.mem_of_getElem? (i := 88) rfl)) rfl
set_option maxRecDepth 100000 in
theorem ly_Bd_4 : (.lays R_Bd "WaterMen$Bond" "gapCount" "I") ∈ TB := tw_f (tw_t2 (List.mem_of_getElem? (i := 90) rfl)) rfl
set_option maxRecDepth 100000 in
theorem i_Bd : ∀ w ∈ u_ws R_Bd F_Bd 5, w ∈ TB := by
  intro w hw
  obtain ⟨k, hk, rfl⟩ := List.mem_map.mp hw
  have hk := List.mem_range.mp hk
  match k, hk with
  | 0, _ => exact ly_Bd_0
  | 1, _ => exact ly_Bd_1
  | 2, _ => exact ly_Bd_2
  | 3, _ => exact ly_Bd_3
  | 4, _ => exact ly_Bd_4
set_option maxRecDepth 100000 in
theorem ly_Bt_0 : (.laysFinal R_Bt "WaterMen$Boat" "oars" "I") ∈ TB := tw_f (tw_t2 (List.mem_of_getElem? (i := 161) rfl)) rfl
set_option maxRecDepth 100000 in
theorem ly_Bt_1 : (.lays R_Bt "WaterMen$Boat" "stairs" "I") ∈ TB := tw_f (tw_t2 (List.mem_of_getElem? (i := 163) rfl)) rfl
set_option maxRecDepth 100000 in
theorem ly_Bt_2 : (.lays R_Bt "WaterMen$Boat" "thereFrom" "I") ∈ TB := tw_f (tw_t2 (List.mem_of_getElem? (i := 165) rfl)) rfl
set_option maxRecDepth 100000 in
theorem ly_Bt_3 : (.lays R_Bt "WaterMen$Boat" "rower" "I") ∈ TB := tw_f (tw_t2 (List.mem_of_getElem? (i := 167) rfl)) rfl
set_option maxRecDepth 100000 in
theorem ly_Bt_4 : (.lays R_Bt "WaterMen$Boat" "lastTrip" "I") ∈ TB := tw_f (tw_t2 (List.mem_of_getElem? (i := 169) rfl)) rfl
set_option maxRecDepth 100000 in
theorem ly_Bt_5 : (.lays R_Bt "WaterMen$Boat" "sunk" "Z") ∈ TB := tw_f (tw_t2 (List.mem_of_getElem? (i := 171) rfl)) rfl
set_option maxRecDepth 100000 in
theorem i_Bt : ∀ w ∈ u_ws R_Bt F_Bt 6, w ∈ TB := by
  intro w hw
  obtain ⟨k, hk, rfl⟩ := List.mem_map.mp hw
  have hk := List.mem_range.mp hk
  match k, hk with
  | 0, _ => exact ly_Bt_0
  | 1, _ => exact ly_Bt_1
  | 2, _ => exact ly_Bt_2
  | 3, _ => exact ly_Bt_3
  | 4, _ => exact ly_Bt_4
  | 5, _ => exact ly_Bt_5
set_option maxRecDepth 100000 in
theorem ly_Tr_0 : (.laysFinal R_Tr "WaterMen$Trip" "boat" "I") ∈ TB := tw_f (tw_t3 (List.mem_of_getElem? (i := 211) rfl)) rfl
set_option maxRecDepth 100000 in
theorem ly_Tr_1 : (.laysFinal R_Tr "WaterMen$Trip" "man" "I") ∈ TB := tw_f (tw_t3 (List.mem_of_getElem? (i := 213) rfl)) rfl
set_option maxRecDepth 100000 in
theorem ly_Tr_2 : (.laysFinal R_Tr "WaterMen$Trip" "start" "I") ∈ TB := tw_f (tw_t3 (List.mem_of_getElem? (i := 215) rfl)) rfl
set_option maxRecDepth 100000 in
theorem ly_Tr_3 : (.laysFinal R_Tr "WaterMen$Trip" "paid" "I") ∈ TB := tw_f (tw_t3 (List.mem_of_getElem? (i := 217) rfl)) rfl
set_option maxRecDepth 100000 in
theorem ly_Tr_4 : (.lays R_Tr "WaterMen$Trip" "from" "I") ∈ TB := tw_f (tw_t3 (List.mem_of_getElem? (i := 219) rfl)) rfl
set_option maxRecDepth 100000 in
theorem ly_Tr_5 : (.lays R_Tr "WaterMen$Trip" "to" "I") ∈ TB := tw_f (tw_t3 (List.mem_of_getElem? (i := 221) rfl)) rfl
set_option maxRecDepth 100000 in
theorem ly_Tr_6 : (.lays R_Tr "WaterMen$Trip" "arrival" "I") ∈ TB := tw_f (tw_t3 (List.mem_of_getElem? (i := 223) rfl)) rfl
set_option maxRecDepth 100000 in
theorem ly_Tr_7 : (.lays R_Tr "WaterMen$Trip" "sank" "Z") ∈ TB := tw_f (tw_t3 (List.mem_of_getElem? (i := 225) rfl)) rfl
set_option maxRecDepth 100000 in
theorem i_Tr : ∀ w ∈ u_ws R_Tr F_Tr 8, w ∈ TB := by
  intro w hw
  obtain ⟨k, hk, rfl⟩ := List.mem_map.mp hw
  have hk := List.mem_range.mp hk
  match k, hk with
  | 0, _ => exact ly_Tr_0
  | 1, _ => exact ly_Tr_1
  | 2, _ => exact ly_Tr_2
  | 3, _ => exact ly_Tr_3
  | 4, _ => exact ly_Tr_4
  | 5, _ => exact ly_Tr_5
  | 6, _ => exact ly_Tr_6
  | 7, _ => exact ly_Tr_7
def NWL : List Cond := [(.methodLinkNest R_WM 11 y_Rv_init "WaterMen"), (.methodLinkNest R_WM 42 y_Tp_init "WaterMen"), (.methodLinkNest R_WM 49 y_Bx_init "WaterMen"), (.methodLinkNest R_WM 54 y_Or_init "WaterMen"), (.methodLinkNest R_WM 59 y_Mn_init "WaterMen"), (.methodLinkNest R_Rv 31 y_WM_isDay "WaterMen"), (.methodLinkNest R_Or 52 y_WM_isSunday "WaterMen"), (.methodLinkNest R_Bx 25 y_WM_isDay "WaterMen")]
def nw_is : Cond → Bool
  | .methodLinkNest _ _ _ _ => true
  | _ => false
def AOL : List String := [R_Mn, R_Bt, R_Or, R_Tr, R_Pn]
set_option maxRecDepth 100000 in
theorem ao_Mn : R_Mn ∈ AOL := List.mem_of_getElem? (i := 0) rfl
set_option maxRecDepth 100000 in
theorem ao_Bt : R_Bt ∈ AOL := List.mem_of_getElem? (i := 1) rfl
set_option maxRecDepth 100000 in
theorem ao_Or : R_Or ∈ AOL := List.mem_of_getElem? (i := 2) rfl
set_option maxRecDepth 100000 in
theorem ao_Tr : R_Tr ∈ AOL := List.mem_of_getElem? (i := 3) rfl
set_option maxRecDepth 100000 in
theorem ao_Pn : R_Pn ∈ AOL := List.mem_of_getElem? (i := 4) rfl
set_option maxRecDepth 100000 in
theorem nw_0 : (.methodLinkNest R_WM 11 y_Rv_init "WaterMen") ∈ NWL := List.mem_of_getElem? (i := 0) rfl
set_option maxRecDepth 100000 in
theorem nw_1 : (.methodLinkNest R_WM 42 y_Tp_init "WaterMen") ∈ NWL := List.mem_of_getElem? (i := 1) rfl
set_option maxRecDepth 100000 in
theorem nw_2 : (.methodLinkNest R_WM 49 y_Bx_init "WaterMen") ∈ NWL := List.mem_of_getElem? (i := 2) rfl
set_option maxRecDepth 100000 in
theorem nw_3 : (.methodLinkNest R_WM 54 y_Or_init "WaterMen") ∈ NWL := List.mem_of_getElem? (i := 3) rfl
set_option maxRecDepth 100000 in
theorem nw_4 : (.methodLinkNest R_WM 59 y_Mn_init "WaterMen") ∈ NWL := List.mem_of_getElem? (i := 4) rfl
set_option maxRecDepth 100000 in
theorem nw_5 : (.methodLinkNest R_Rv 31 y_WM_isDay "WaterMen") ∈ NWL := List.mem_of_getElem? (i := 5) rfl
set_option maxRecDepth 100000 in
theorem nw_6 : (.methodLinkNest R_Or 52 y_WM_isSunday "WaterMen") ∈ NWL := List.mem_of_getElem? (i := 6) rfl
set_option maxRecDepth 100000 in
theorem nw_7 : (.methodLinkNest R_Bx 25 y_WM_isDay "WaterMen") ∈ NWL := List.mem_of_getElem? (i := 7) rfl
set_option maxRecDepth 100000 in
theorem nw_tbl : ∀ w ∈ NWL, w ∈ lw_tbl := by
  intro w hw
  simp only [NWL, List.mem_cons, List.not_mem_nil, or_false] at hw
  rcases hw with rfl | rfl | rfl | rfl | rfl | rfl | rfl | rfl
  · exact tw_t1 (List.mem_of_getElem? (i := 27) rfl)
  · exact tw_t1 (List.mem_of_getElem? (i := 68) rfl)
  · exact tw_t1 (List.mem_of_getElem? (i := 95) rfl)
  · exact tw_t1 (List.mem_of_getElem? (i := 127) rfl)
  · exact tw_t1 (List.mem_of_getElem? (i := 160) rfl)
  · exact tw_t2 (List.mem_of_getElem? (i := 55) rfl)
  · exact tw_t3 (List.mem_of_getElem? (i := 139) rfl)
  · exact tw_t4 (List.mem_of_getElem? (i := 4) rfl)
set_option maxRecDepth 100000 in
theorem ao_tbl : ∀ C ∈ AOL, Cond.arrayOver (.object C) ∈ lw_tbl := by
  intro w hw
  simp only [AOL, List.mem_cons, List.not_mem_nil, or_false] at hw
  rcases hw with rfl | rfl | rfl | rfl | rfl
  · exact tw_t1 (List.mem_of_getElem? (i := 59) rfl)
  · exact tw_t1 (List.mem_of_getElem? (i := 61) rfl)
  · exact tw_t1 (List.mem_of_getElem? (i := 63) rfl)
  · exact tw_t1 (List.mem_of_getElem? (i := 65) rfl)
  · exact tw_t1 (List.mem_of_getElem? (i := 100) rfl)
set_option maxRecDepth 100000 in
theorem aa_tbl : Cond.arrayOver (.array .int) ∈ lw_tbl := tw_t1 (List.mem_of_getElem? (i := 32) rfl)
