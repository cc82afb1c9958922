set_option maxRecDepth 100000 in
theorem tw_0 : (.fieldLink R_WM 12 "WaterMen" "river" "LWaterMen$River;") ∈ TB := tw_f (tw_t1 (List.mem_of_getElem? (i := 194) rfl)) rfl
set_option maxRecDepth 100000 in
theorem tw_1 : (.fieldLink R_Rv 35 "WaterMen$River" "stairCount" "I") ∈ TB := tw_f (tw_t1 (List.mem_of_getElem? (i := 40) rfl)) rfl
set_option maxRecDepth 100000 in
theorem tw_2 : (.code y_Rv_highest b_Rv_highest 1 (some .int)) ∈ TB := tw_f (tw_t2 (List.mem_of_getElem? (i := 1) rfl)) rfl
set_option maxRecDepth 100000 in
theorem tw_3 : (.initialized R_Rv) ∈ TB := tw_f (tw_t1 (List.mem_of_getElem? (i := 2) rfl)) rfl
set_option maxRecDepth 100000 in
theorem tw_4 : (.methodLink R_WM 60 y_Rv_highest) ∈ TB := tw_f (tw_t1 (List.mem_of_getElem? (i := 238) rfl)) rfl
set_option maxRecDepth 100000 in
theorem tw_5 : (.instanceMethod y_Rv_highest) ∈ TB := tw_f (tw_t1 (List.mem_of_getElem? (i := 239) rfl)) rfl
set_option maxRecDepth 100000 in
theorem tw_6 : (.selects R_Rv y_Rv_highest y_Rv_highest) ∈ TB := tw_f (tw_t2 (List.mem_of_getElem? (i := 0) rfl)) rfl
set_option maxRecDepth 100000 in
theorem tw_7 : (.fieldLink R_WM 64 "WaterMen$River" "stairCount" "I") ∈ TB := tw_f (tw_t1 (List.mem_of_getElem? (i := 39) rfl)) rfl
set_option maxRecDepth 100000 in
theorem tw_8 : (.fieldLink R_Rv 9 "WaterMen$River" "milesUp" "[I") ∈ TB := tw_f (tw_t1 (List.mem_of_getElem? (i := 33) rfl)) rfl
set_option maxRecDepth 100000 in
theorem tw_9 : (.code y_Rv_addStairs b_Rv_addStairs 2 (some .int)) ∈ TB := tw_f (tw_t2 (List.mem_of_getElem? (i := 5) rfl)) rfl
set_option maxRecDepth 100000 in
theorem tw_10 : (.methodLink R_WM 68 y_Rv_addStairs) ∈ TB := tw_f (tw_t2 (List.mem_of_getElem? (i := 2) rfl)) rfl
set_option maxRecDepth 100000 in
theorem tw_11 : (.instanceMethod y_Rv_addStairs) ∈ TB := tw_f (tw_t2 (List.mem_of_getElem? (i := 3) rfl)) rfl
set_option maxRecDepth 100000 in
theorem tw_12 : (.selects R_Rv y_Rv_addStairs y_Rv_addStairs) ∈ TB := tw_f (tw_t2 (List.mem_of_getElem? (i := 4) rfl)) rfl
set_option maxRecDepth 100000 in
theorem tw_13 : (.fieldLink R_WM 72 "WaterMen$River" "bridgeAbove" "I") ∈ TB := tw_f (tw_t1 (List.mem_of_getElem? (i := 42) rfl)) rfl
set_option maxRecDepth 100000 in
theorem tw_14 : (.code y_WM_isDay b_WM_isDay 1 (some .boolean)) ∈ TB := tw_f (tw_t2 (List.mem_of_getElem? (i := 16) rfl)) rfl
set_option maxRecDepth 100000 in
theorem tw_15 : (.initialized R_WM) ∈ TB := tw_f (tw_t1 (List.mem_of_getElem? (i := 1) rfl)) rfl
set_option maxRecDepth 100000 in
theorem tw_16 : (.methodLink R_WM 75 y_WM_isDay) ∈ TB := tw_f (tw_t2 (List.mem_of_getElem? (i := 14) rfl)) rfl
set_option maxRecDepth 100000 in
theorem tw_17 : (.static y_WM_isDay) ∈ TB := tw_f (tw_t2 (List.mem_of_getElem? (i := 15) rfl)) rfl
set_option maxRecDepth 100000 in
theorem tw_18 : (.code y_WM_isHour b_WM_isHour 1 (some .boolean)) ∈ TB := tw_f (tw_t2 (List.mem_of_getElem? (i := 19) rfl)) rfl
set_option maxRecDepth 100000 in
theorem tw_19 : (.methodLink R_WM 79 y_WM_isHour) ∈ TB := tw_f (tw_t2 (List.mem_of_getElem? (i := 17) rfl)) rfl
set_option maxRecDepth 100000 in
theorem tw_20 : (.static y_WM_isHour) ∈ TB := tw_f (tw_t2 (List.mem_of_getElem? (i := 18) rfl)) rfl
set_option maxRecDepth 100000 in
theorem tw_21 : (.code y_WM_isLevel b_WM_isLevel 1 (some .boolean)) ∈ TB := tw_f (tw_t2 (List.mem_of_getElem? (i := 22) rfl)) rfl
set_option maxRecDepth 100000 in
theorem tw_22 : (.methodLink R_WM 82 y_WM_isLevel) ∈ TB := tw_f (tw_t2 (List.mem_of_getElem? (i := 20) rfl)) rfl
set_option maxRecDepth 100000 in
theorem tw_23 : (.static y_WM_isLevel) ∈ TB := tw_f (tw_t2 (List.mem_of_getElem? (i := 21) rfl)) rfl
set_option maxRecDepth 100000 in
theorem tw_24 : (.fieldLink R_Rv 19 "WaterMen$River" "rows" "[[I") ∈ TB := tw_f (tw_t1 (List.mem_of_getElem? (i := 36) rfl)) rfl
set_option maxRecDepth 100000 in
theorem tw_25 : (.arrayClass .int) ∈ TB := tw_f (tw_t1 (List.mem_of_getElem? (i := 56) rfl)) rfl
set_option maxRecDepth 100000 in
theorem tw_26 : (.fieldLink R_Rv 15 "WaterMen$River" "table" "[I") ∈ TB := tw_f (tw_t1 (List.mem_of_getElem? (i := 34) rfl)) rfl
set_option maxRecDepth 100000 in
theorem tw_27 : (.code y_Rv_tell b_Rv_tell 6 none) ∈ TB := tw_f (tw_t2 (List.mem_of_getElem? (i := 26) rfl)) rfl
set_option maxRecDepth 100000 in
theorem tw_28 : (.methodLink R_WM 85 y_Rv_tell) ∈ TB := tw_f (tw_t2 (List.mem_of_getElem? (i := 23) rfl)) rfl
set_option maxRecDepth 100000 in
theorem tw_29 : (.instanceMethod y_Rv_tell) ∈ TB := tw_f (tw_t2 (List.mem_of_getElem? (i := 24) rfl)) rfl
set_option maxRecDepth 100000 in
theorem tw_30 : (.selects R_Rv y_Rv_tell y_Rv_tell) ∈ TB := tw_f (tw_t2 (List.mem_of_getElem? (i := 25) rfl)) rfl
set_option maxRecDepth 100000 in
theorem tw_31 : (.fieldLink R_WM 89 "WaterMen$River" "table" "[I") ∈ TB := tw_f (tw_t1 (List.mem_of_getElem? (i := 35) rfl)) rfl
set_option maxRecDepth 100000 in
theorem tw_32 : (.code y_Rv_height b_Rv_height 4 (some .int)) ∈ TB := tw_f (tw_t2 (List.mem_of_getElem? (i := 42) rfl)) rfl
set_option maxRecDepth 100000 in
theorem tw_33 : (.methodLink R_Rv 51 y_Rv_height) ∈ TB := tw_f (tw_t2 (List.mem_of_getElem? (i := 39) rfl)) rfl
set_option maxRecDepth 100000 in
theorem tw_34 : (.instanceMethod y_Rv_height) ∈ TB := tw_f (tw_t2 (List.mem_of_getElem? (i := 40) rfl)) rfl
set_option maxRecDepth 100000 in
theorem tw_35 : (.selects R_Rv y_Rv_height y_Rv_height) ∈ TB := tw_f (tw_t2 (List.mem_of_getElem? (i := 41) rfl)) rfl
set_option maxRecDepth 100000 in
theorem tw_36 : (.code y_Rv_flowIn b_Rv_flowIn 4 (some .int)) ∈ TB := tw_f (tw_t2 (List.mem_of_getElem? (i := 38) rfl)) rfl
set_option maxRecDepth 100000 in
theorem tw_37 : (.methodLink R_WM 93 y_Rv_flowIn) ∈ TB := tw_f (tw_t2 (List.mem_of_getElem? (i := 35) rfl)) rfl
set_option maxRecDepth 100000 in
theorem tw_38 : (.instanceMethod y_Rv_flowIn) ∈ TB := tw_f (tw_t2 (List.mem_of_getElem? (i := 36) rfl)) rfl
set_option maxRecDepth 100000 in
theorem tw_39 : (.selects R_Rv y_Rv_flowIn y_Rv_flowIn) ∈ TB := tw_f (tw_t2 (List.mem_of_getElem? (i := 37) rfl)) rfl
set_option maxRecDepth 100000 in
theorem tw_40 : (.fieldLink R_WM 155 "WaterMen" "now" "I") ∈ TB := tw_f (tw_t1 (List.mem_of_getElem? (i := 204) rfl)) rfl
set_option maxRecDepth 100000 in
theorem tw_41 : (.code y_WM_today b_WM_today 1 (some .int)) ∈ TB := tw_f (tw_t2 (List.mem_of_getElem? (i := 50) rfl)) rfl
set_option maxRecDepth 100000 in
theorem tw_42 : (.methodLink R_WM 97 y_WM_today) ∈ TB := tw_f (tw_t2 (List.mem_of_getElem? (i := 47) rfl)) rfl
set_option maxRecDepth 100000 in
theorem tw_43 : (.instanceMethod y_WM_today) ∈ TB := tw_f (tw_t2 (List.mem_of_getElem? (i := 49) rfl)) rfl
set_option maxRecDepth 100000 in
theorem tw_44 : (.selects R_WM y_WM_today y_WM_today) ∈ TB := tw_f (tw_s1 (List.mem_of_getElem? (i := 0) rfl)) rfl
set_option maxRecDepth 100000 in
theorem tw_45 : (.fieldLink R_Rv 23 "WaterMen$River" "frozen" "[Z") ∈ TB := tw_f (tw_t1 (List.mem_of_getElem? (i := 37) rfl)) rfl
set_option maxRecDepth 100000 in
theorem tw_46 : (.code y_Rv_isFrozen b_Rv_isFrozen 2 (some .boolean)) ∈ TB := tw_f (tw_t2 (List.mem_of_getElem? (i := 54) rfl)) rfl
set_option maxRecDepth 100000 in
theorem tw_47 : (.methodLink R_WM 100 y_Rv_isFrozen) ∈ TB := tw_f (tw_t2 (List.mem_of_getElem? (i := 51) rfl)) rfl
set_option maxRecDepth 100000 in
theorem tw_48 : (.instanceMethod y_Rv_isFrozen) ∈ TB := tw_f (tw_t2 (List.mem_of_getElem? (i := 52) rfl)) rfl
set_option maxRecDepth 100000 in
theorem tw_49 : (.selects R_Rv y_Rv_isFrozen y_Rv_isFrozen) ∈ TB := tw_f (tw_t2 (List.mem_of_getElem? (i := 53) rfl)) rfl
set_option maxRecDepth 100000 in
theorem tw_50 : (.fieldLink R_WM 103 "WaterMen$River" "frozen" "[Z") ∈ TB := tw_f (tw_t1 (List.mem_of_getElem? (i := 38) rfl)) rfl
set_option maxRecDepth 100000 in
theorem tw_51 : (.fieldLink R_WM 18 "WaterMen" "men" "[LWaterMen$Man;") ∈ TB := tw_f (tw_t1 (List.mem_of_getElem? (i := 195) rfl)) rfl
set_option maxRecDepth 100000 in
theorem tw_52 : (.code y_WM_manAt b_WM_manAt 2 (some (.object "WaterMen$Man"))) ∈ TB := tw_f (tw_t2 (List.mem_of_getElem? (i := 63) rfl)) rfl
set_option maxRecDepth 100000 in
theorem tw_53 : (.methodLink R_WM 107 y_WM_manAt) ∈ TB := tw_f (tw_t2 (List.mem_of_getElem? (i := 60) rfl)) rfl
set_option maxRecDepth 100000 in
theorem tw_54 : (.instanceMethod y_WM_manAt) ∈ TB := tw_f (tw_t2 (List.mem_of_getElem? (i := 62) rfl)) rfl
set_option maxRecDepth 100000 in
theorem tw_55 : (.selects R_WM y_WM_manAt y_WM_manAt) ∈ TB := tw_f (tw_s1 (List.mem_of_getElem? (i := 1) rfl)) rfl
set_option maxRecDepth 100000 in
theorem tw_56 : (.fieldLink R_WM 111 "WaterMen$Man" "state" "I") ∈ TB := tw_f (tw_t1 (List.mem_of_getElem? (i := 165) rfl)) rfl
set_option maxRecDepth 100000 in
theorem tw_57 : (.fieldLink R_WM 119 "WaterMen$Man" "bond" "LWaterMen$Bond;") ∈ TB := tw_f (tw_t1 (List.mem_of_getElem? (i := 166) rfl)) rfl
set_option maxRecDepth 100000 in
theorem tw_58 : (.code y_WM_served b_WM_served 4 (some .int)) ∈ TB := tw_f (tw_t2 (List.mem_of_getElem? (i := 108) rfl)) rfl
set_option maxRecDepth 100000 in
theorem tw_59 : (.methodLink R_WM 139 y_WM_served) ∈ TB := tw_f (tw_t2 (List.mem_of_getElem? (i := 120) rfl)) rfl
set_option maxRecDepth 100000 in
theorem tw_60 : (.instanceMethod y_WM_served) ∈ TB := tw_f (tw_t2 (List.mem_of_getElem? (i := 106) rfl)) rfl
set_option maxRecDepth 100000 in
theorem tw_61 : (.selects R_WM y_WM_served y_WM_served) ∈ TB := tw_f (tw_t2 (List.mem_of_getElem? (i := 107) rfl)) rfl
set_option maxRecDepth 100000 in
theorem tw_62 : (.fieldLink R_WM 145 "WaterMen$Man" "turnStairs" "I") ∈ TB := tw_f (tw_t1 (List.mem_of_getElem? (i := 168) rfl)) rfl
set_option maxRecDepth 100000 in
theorem tw_63 : (.code y_WM_placeInTurns b_WM_placeInTurns 5 (some .int)) ∈ TB := tw_f (tw_t2 (List.mem_of_getElem? (i := 128) rfl)) rfl
set_option maxRecDepth 100000 in
theorem tw_64 : (.methodLink R_WM 148 y_WM_placeInTurns) ∈ TB := tw_f (tw_t2 (List.mem_of_getElem? (i := 125) rfl)) rfl
set_option maxRecDepth 100000 in
theorem tw_65 : (.instanceMethod y_WM_placeInTurns) ∈ TB := tw_f (tw_t2 (List.mem_of_getElem? (i := 127) rfl)) rfl
set_option maxRecDepth 100000 in
theorem tw_66 : (.selects R_WM y_WM_placeInTurns y_WM_placeInTurns) ∈ TB := tw_f (tw_s1 (List.mem_of_getElem? (i := 2) rfl)) rfl
set_option maxRecDepth 100000 in
theorem tw_67 : (.fieldLink R_WM 152 "WaterMen$Man" "coins" "I") ∈ TB := tw_f (tw_t1 (List.mem_of_getElem? (i := 170) rfl)) rfl
set_option maxRecDepth 100000 in
theorem tw_68 : (.fieldLink R_Mn 21 "WaterMen$Man" "busyUntil" "I") ∈ TB := tw_f (tw_t1 (List.mem_of_getElem? (i := 171) rfl)) rfl
set_option maxRecDepth 100000 in
theorem tw_69 : (.code y_Mn_isOnWay b_Mn_isOnWay 2 (some .boolean)) ∈ TB := tw_f (tw_t2 (List.mem_of_getElem? (i := 132) rfl)) rfl
set_option maxRecDepth 100000 in
theorem tw_70 : (.initialized R_Mn) ∈ TB := tw_f (tw_t1 (List.mem_of_getElem? (i := 6) rfl)) rfl
set_option maxRecDepth 100000 in
theorem tw_71 : (.methodLink R_WM 158 y_Mn_isOnWay) ∈ TB := tw_f (tw_t2 (List.mem_of_getElem? (i := 129) rfl)) rfl
set_option maxRecDepth 100000 in
theorem tw_72 : (.instanceMethod y_Mn_isOnWay) ∈ TB := tw_f (tw_t2 (List.mem_of_getElem? (i := 130) rfl)) rfl
set_option maxRecDepth 100000 in
theorem tw_73 : (.selects R_Mn y_Mn_isOnWay y_Mn_isOnWay) ∈ TB := tw_f (tw_t2 (List.mem_of_getElem? (i := 131) rfl)) rfl
set_option maxRecDepth 100000 in
theorem tw_74 : (.fieldLink R_WM 161 "WaterMen$Man" "tripCount" "I") ∈ TB := tw_f (tw_t1 (List.mem_of_getElem? (i := 174) rfl)) rfl
set_option maxRecDepth 100000 in
theorem tw_75 : (.code y_WM_isOars b_WM_isOars 1 (some .boolean)) ∈ TB := tw_f (tw_t2 (List.mem_of_getElem? (i := 139) rfl)) rfl
set_option maxRecDepth 100000 in
theorem tw_76 : (.methodLink R_WM 164 y_WM_isOars) ∈ TB := tw_f (tw_t2 (List.mem_of_getElem? (i := 137) rfl)) rfl
set_option maxRecDepth 100000 in
theorem tw_77 : (.static y_WM_isOars) ∈ TB := tw_f (tw_t2 (List.mem_of_getElem? (i := 138) rfl)) rfl
set_option maxRecDepth 100000 in
theorem tw_78 : (.code y_Rv_hasStairs b_Rv_hasStairs 2 (some .boolean)) ∈ TB := tw_f (tw_t2 (List.mem_of_getElem? (i := 143) rfl)) rfl
set_option maxRecDepth 100000 in
theorem tw_79 : (.methodLink R_WM 167 y_Rv_hasStairs) ∈ TB := tw_f (tw_t2 (List.mem_of_getElem? (i := 140) rfl)) rfl
set_option maxRecDepth 100000 in
theorem tw_80 : (.instanceMethod y_Rv_hasStairs) ∈ TB := tw_f (tw_t2 (List.mem_of_getElem? (i := 141) rfl)) rfl
set_option maxRecDepth 100000 in
theorem tw_81 : (.selects R_Rv y_Rv_hasStairs y_Rv_hasStairs) ∈ TB := tw_f (tw_t2 (List.mem_of_getElem? (i := 142) rfl)) rfl
set_option maxRecDepth 100000 in
theorem tw_82 : (.fieldLink R_WM 170 "WaterMen" "boatCount" "I") ∈ TB := tw_f (tw_t1 (List.mem_of_getElem? (i := 201) rfl)) rfl
set_option maxRecDepth 100000 in
theorem tw_83 : (.code y_WM_boatAt b_WM_boatAt 2 (some (.object "WaterMen$Boat"))) ∈ TB := tw_f (tw_t2 (List.mem_of_getElem? (i := 181) rfl)) rfl
set_option maxRecDepth 100000 in
theorem tw_84 : (.methodLink R_WM 174 y_WM_boatAt) ∈ TB := tw_f (tw_t2 (List.mem_of_getElem? (i := 178) rfl)) rfl
set_option maxRecDepth 100000 in
theorem tw_85 : (.instanceMethod y_WM_boatAt) ∈ TB := tw_f (tw_t2 (List.mem_of_getElem? (i := 180) rfl)) rfl
set_option maxRecDepth 100000 in
theorem tw_86 : (.selects R_WM y_WM_boatAt y_WM_boatAt) ∈ TB := tw_f (tw_s1 (List.mem_of_getElem? (i := 3) rfl)) rfl
set_option maxRecDepth 100000 in
theorem tw_87 : (.fieldLink R_WM 43 "WaterMen" "tape" "LWaterMen$Tape;") ∈ TB := tw_f (tw_t1 (List.mem_of_getElem? (i := 199) rfl)) rfl
set_option maxRecDepth 100000 in
theorem tw_88 : (.fieldLink R_Tp 15 "WaterMen$Tape" "length" "I") ∈ TB := tw_f (tw_t1 (List.mem_of_getElem? (i := 73) rfl)) rfl
set_option maxRecDepth 100000 in
theorem tw_89 : (.code y_Tp_hasRoomForFive b_Tp_hasRoomForFive 1 (some .boolean)) ∈ TB := tw_f (tw_t2 (List.mem_of_getElem? (i := 201) rfl)) rfl
set_option maxRecDepth 100000 in
theorem tw_90 : (.initialized R_Tp) ∈ TB := tw_f (tw_t1 (List.mem_of_getElem? (i := 3) rfl)) rfl
set_option maxRecDepth 100000 in
theorem tw_91 : (.methodLink R_WM 199 y_Tp_hasRoomForFive) ∈ TB := tw_f (tw_t2 (List.mem_of_getElem? (i := 198) rfl)) rfl
set_option maxRecDepth 100000 in
theorem tw_92 : (.instanceMethod y_Tp_hasRoomForFive) ∈ TB := tw_f (tw_t2 (List.mem_of_getElem? (i := 199) rfl)) rfl
set_option maxRecDepth 100000 in
theorem tw_93 : (.selects R_Tp y_Tp_hasRoomForFive y_Tp_hasRoomForFive) ∈ TB := tw_f (tw_t2 (List.mem_of_getElem? (i := 200) rfl)) rfl
set_option maxRecDepth 100000 in
theorem tw_94 : (.fieldLink R_Tp 9 "WaterMen$Tape" "bytes" "[B") ∈ TB := tw_f (tw_t1 (List.mem_of_getElem? (i := 72) rfl)) rfl
set_option maxRecDepth 100000 in
theorem tw_95 : (.code y_Tp_append b_Tp_append 2 none) ∈ TB := tw_f (tw_t2 (List.mem_of_getElem? (i := 205) rfl)) rfl
set_option maxRecDepth 100000 in
theorem tw_96 : (.methodLink R_WM 203 y_Tp_append) ∈ TB := tw_f (tw_t2 (List.mem_of_getElem? (i := 202) rfl)) rfl
set_option maxRecDepth 100000 in
theorem tw_97 : (.instanceMethod y_Tp_append) ∈ TB := tw_f (tw_t2 (List.mem_of_getElem? (i := 203) rfl)) rfl
set_option maxRecDepth 100000 in
theorem tw_98 : (.selects R_Tp y_Tp_append y_Tp_append) ∈ TB := tw_f (tw_t2 (List.mem_of_getElem? (i := 204) rfl)) rfl
set_option maxRecDepth 100000 in
theorem tw_99 : (.fieldLink R_WM 207 "WaterMen$Tape" "length" "I") ∈ TB := tw_f (tw_t1 (List.mem_of_getElem? (i := 74) rfl)) rfl
set_option maxRecDepth 100000 in
theorem tw_100 : (.fieldLink R_WM 210 "WaterMen" "orderCount" "I") ∈ TB := tw_f (tw_t1 (List.mem_of_getElem? (i := 202) rfl)) rfl
set_option maxRecDepth 100000 in
theorem tw_101 : (.fieldLink R_WM 55 "WaterMen" "draft" "LWaterMen$Order;") ∈ TB := tw_f (tw_t1 (List.mem_of_getElem? (i := 206) rfl)) rfl
set_option maxRecDepth 100000 in
theorem tw_102 : (.fieldLink R_Or 20 "WaterMen$Order" "single" "[I") ∈ TB := tw_f (tw_t1 (List.mem_of_getElem? (i := 135) rfl)) rfl
set_option maxRecDepth 100000 in
theorem tw_103 : (.fieldLink R_Or 23 "WaterMen$Order" "fareCount" "I") ∈ TB := tw_f (tw_t1 (List.mem_of_getElem? (i := 136) rfl)) rfl
set_option maxRecDepth 100000 in
theorem tw_104 : (.fieldLink R_Or 27 "WaterMen$Order" "hourCount" "I") ∈ TB := tw_f (tw_t1 (List.mem_of_getElem? (i := 137) rfl)) rfl
set_option maxRecDepth 100000 in
theorem tw_105 : (.code y_Or_clear b_Or_clear 2 none) ∈ TB := tw_f (tw_t2 (List.mem_of_getElem? (i := 221) rfl)) rfl
set_option maxRecDepth 100000 in
theorem tw_106 : (.initialized R_Or) ∈ TB := tw_f (tw_t1 (List.mem_of_getElem? (i := 5) rfl)) rfl
set_option maxRecDepth 100000 in
theorem tw_107 : (.methodLink R_Tp 19 y_Or_clear) ∈ TB := tw_f (tw_t2 (List.mem_of_getElem? (i := 218) rfl)) rfl
set_option maxRecDepth 100000 in
theorem tw_108 : (.instanceMethod y_Or_clear) ∈ TB := tw_f (tw_t2 (List.mem_of_getElem? (i := 219) rfl)) rfl
set_option maxRecDepth 100000 in
theorem tw_109 : (.selects R_Or y_Or_clear y_Or_clear) ∈ TB := tw_f (tw_t2 (List.mem_of_getElem? (i := 220) rfl)) rfl
set_option maxRecDepth 100000 in
theorem tw_110 : (.fieldLink R_Tp 24 "WaterMen$Tape" "behind" "I") ∈ TB := tw_f (tw_t1 (List.mem_of_getElem? (i := 77) rfl)) rfl
set_option maxRecDepth 100000 in
theorem tw_111 : (.fieldLink R_Tp 34 "WaterMen$Tape" "start" "I") ∈ TB := tw_f (tw_t1 (List.mem_of_getElem? (i := 76) rfl)) rfl
set_option maxRecDepth 100000 in
theorem tw_112 : (.fieldLink R_Tp 48 "WaterMen$Tape" "value" "I") ∈ TB := tw_f (tw_t1 (List.mem_of_getElem? (i := 78) rfl)) rfl
set_option maxRecDepth 100000 in
theorem tw_113 : (.fieldLink R_Tp 37 "WaterMen$Tape" "sort" "I") ∈ TB := tw_f (tw_t1 (List.mem_of_getElem? (i := 75) rfl)) rfl
set_option maxRecDepth 100000 in
theorem tw_114 : (.code y_Tp_step b_Tp_step 1 none) ∈ TB := tw_f (tw_t2 (List.mem_of_getElem? (i := 225) rfl)) rfl
set_option maxRecDepth 100000 in
theorem tw_115 : (.methodLink R_Tp 27 y_Tp_step) ∈ TB := tw_f (tw_t2 (List.mem_of_getElem? (i := 222) rfl)) rfl
set_option maxRecDepth 100000 in
theorem tw_116 : (.instanceMethod y_Tp_step) ∈ TB := tw_f (tw_t2 (List.mem_of_getElem? (i := 223) rfl)) rfl
set_option maxRecDepth 100000 in
theorem tw_117 : (.selects R_Tp y_Tp_step y_Tp_step) ∈ TB := tw_f (tw_t2 (List.mem_of_getElem? (i := 224) rfl)) rfl
set_option maxRecDepth 100000 in
theorem tw_118 : (.code y_Tp_readLine b_Tp_readLine 8 (some .boolean)) ∈ TB := tw_f (tw_t3 (List.mem_of_getElem? (i := 3) rfl)) rfl
set_option maxRecDepth 100000 in
theorem tw_119 : (.methodLink R_Tp 30 y_Tp_readLine) ∈ TB := tw_f (tw_t3 (List.mem_of_getElem? (i := 0) rfl)) rfl
set_option maxRecDepth 100000 in
theorem tw_120 : (.instanceMethod y_Tp_readLine) ∈ TB := tw_f (tw_t3 (List.mem_of_getElem? (i := 1) rfl)) rfl
set_option maxRecDepth 100000 in
theorem tw_121 : (.selects R_Tp y_Tp_readLine y_Tp_readLine) ∈ TB := tw_f (tw_t3 (List.mem_of_getElem? (i := 2) rfl)) rfl
set_option maxRecDepth 100000 in
theorem tw_122 : (.code y_Tp_readInto b_Tp_readInto 3 (some .int)) ∈ TB := tw_f (tw_t2 (List.mem_of_getElem? (i := 217) rfl)) rfl
set_option maxRecDepth 100000 in
theorem tw_123 : (.methodLink R_WM 213 y_Tp_readInto) ∈ TB := tw_f (tw_t2 (List.mem_of_getElem? (i := 214) rfl)) rfl
set_option maxRecDepth 100000 in
theorem tw_124 : (.instanceMethod y_Tp_readInto) ∈ TB := tw_f (tw_t2 (List.mem_of_getElem? (i := 215) rfl)) rfl
set_option maxRecDepth 100000 in
theorem tw_125 : (.selects R_Tp y_Tp_readInto y_Tp_readInto) ∈ TB := tw_f (tw_t2 (List.mem_of_getElem? (i := 216) rfl)) rfl
set_option maxRecDepth 100000 in
theorem tw_126 : (.code y_WM_numberInForce b_WM_numberInForce 5 (some .int)) ∈ TB := tw_f (tw_t3 (List.mem_of_getElem? (i := 97) rfl)) rfl
set_option maxRecDepth 100000 in
theorem tw_127 : (.methodLink R_WM 223 y_WM_numberInForce) ∈ TB := tw_f (tw_t3 (List.mem_of_getElem? (i := 94) rfl)) rfl
set_option maxRecDepth 100000 in
theorem tw_128 : (.instanceMethod y_WM_numberInForce) ∈ TB := tw_f (tw_t3 (List.mem_of_getElem? (i := 96) rfl)) rfl
set_option maxRecDepth 100000 in
theorem tw_129 : (.selects R_WM y_WM_numberInForce y_WM_numberInForce) ∈ TB := tw_f (tw_s1 (List.mem_of_getElem? (i := 4) rfl)) rfl
set_option maxRecDepth 100000 in
theorem tw_130 : (.code y_WM_orderAt b_WM_orderAt 2 (some (.object "WaterMen$Order"))) ∈ TB := tw_f (tw_t3 (List.mem_of_getElem? (i := 101) rfl)) rfl
set_option maxRecDepth 100000 in
theorem tw_131 : (.methodLink R_WM 226 y_WM_orderAt) ∈ TB := tw_f (tw_t3 (List.mem_of_getElem? (i := 98) rfl)) rfl
set_option maxRecDepth 100000 in
theorem tw_132 : (.instanceMethod y_WM_orderAt) ∈ TB := tw_f (tw_t3 (List.mem_of_getElem? (i := 100) rfl)) rfl
set_option maxRecDepth 100000 in
theorem tw_133 : (.selects R_WM y_WM_orderAt y_WM_orderAt) ∈ TB := tw_f (tw_s1 (List.mem_of_getElem? (i := 5) rfl)) rfl
set_option maxRecDepth 100000 in
theorem tw_134 : (.constant R_WM 270 359999) ∈ TB := tw_f (tw_t3 (List.mem_of_getElem? (i := 185) rfl)) rfl
set_option maxRecDepth 100000 in
theorem tw_135 : (.code y_WM_isSunday b_WM_isSunday 1 (some .boolean)) ∈ TB := tw_f (tw_t3 (List.mem_of_getElem? (i := 141) rfl)) rfl
set_option maxRecDepth 100000 in
theorem tw_136 : (.methodLink R_WM 391 y_WM_isSunday) ∈ TB := tw_f (tw_t4 (List.mem_of_getElem? (i := 5) rfl)) rfl
set_option maxRecDepth 100000 in
theorem tw_137 : (.static y_WM_isSunday) ∈ TB := tw_f (tw_t3 (List.mem_of_getElem? (i := 140) rfl)) rfl
set_option maxRecDepth 100000 in
theorem tw_138 : (.fieldLink R_WM 394 "WaterMen$Man" "lastSunday" "I") ∈ TB := tw_f (tw_t1 (List.mem_of_getElem? (i := 176) rfl)) rfl
set_option maxRecDepth 100000 in
theorem tw_139 : (.code y_WM_partPot b_WM_partPot 6 none) ∈ TB := tw_f (tw_t4 (List.mem_of_getElem? (i := 13) rfl)) rfl
set_option maxRecDepth 100000 in
theorem tw_140 : (.methodLink R_WM 271 y_WM_partPot) ∈ TB := tw_f (tw_t4 (List.mem_of_getElem? (i := 10) rfl)) rfl
set_option maxRecDepth 100000 in
theorem tw_141 : (.instanceMethod y_WM_partPot) ∈ TB := tw_f (tw_t4 (List.mem_of_getElem? (i := 12) rfl)) rfl
set_option maxRecDepth 100000 in
theorem tw_142 : (.selects R_WM y_WM_partPot y_WM_partPot) ∈ TB := tw_f (tw_s1 (List.mem_of_getElem? (i := 14) rfl)) rfl
set_option maxRecDepth 100000 in
theorem tw_143 : (.fieldLink R_WM 50 "WaterMen" "box" "LWaterMen$Box;") ∈ TB := tw_f (tw_t1 (List.mem_of_getElem? (i := 200) rfl)) rfl
set_option maxRecDepth 100000 in
theorem tw_144 : (.code y_Bx_payPensions b_Bx_payPensions 4 none) ∈ TB := tw_f (tw_t4 (List.mem_of_getElem? (i := 17) rfl)) rfl
set_option maxRecDepth 100000 in
theorem tw_145 : (.initialized R_Bx) ∈ TB := tw_f (tw_t1 (List.mem_of_getElem? (i := 4) rfl)) rfl
set_option maxRecDepth 100000 in
theorem tw_146 : (.methodLink R_WM 274 y_Bx_payPensions) ∈ TB := tw_f (tw_t4 (List.mem_of_getElem? (i := 14) rfl)) rfl
set_option maxRecDepth 100000 in
theorem tw_147 : (.instanceMethod y_Bx_payPensions) ∈ TB := tw_f (tw_t4 (List.mem_of_getElem? (i := 15) rfl)) rfl
set_option maxRecDepth 100000 in
theorem tw_148 : (.selects R_Bx y_Bx_payPensions y_Bx_payPensions) ∈ TB := tw_f (tw_t4 (List.mem_of_getElem? (i := 16) rfl)) rfl
set_option maxRecDepth 100000 in
theorem tw_149 : (.fieldLink R_WM 243 "WaterMen" "tripCount" "I") ∈ TB := tw_f (tw_t1 (List.mem_of_getElem? (i := 203) rfl)) rfl
set_option maxRecDepth 100000 in
theorem tw_150 : (.code y_WM_tripAt b_WM_tripAt 2 (some (.object "WaterMen$Trip"))) ∈ TB := tw_f (tw_t4 (List.mem_of_getElem? (i := 32) rfl)) rfl
set_option maxRecDepth 100000 in
theorem tw_151 : (.methodLink R_WM 293 y_WM_tripAt) ∈ TB := tw_f (tw_t4 (List.mem_of_getElem? (i := 29) rfl)) rfl
set_option maxRecDepth 100000 in
theorem tw_152 : (.instanceMethod y_WM_tripAt) ∈ TB := tw_f (tw_t4 (List.mem_of_getElem? (i := 31) rfl)) rfl
set_option maxRecDepth 100000 in
theorem tw_153 : (.selects R_WM y_WM_tripAt y_WM_tripAt) ∈ TB := tw_f (tw_s1 (List.mem_of_getElem? (i := 15) rfl)) rfl
set_option maxRecDepth 100000 in
theorem tw_154 : (.code y_WM_isPension b_WM_isPension 2 (some .boolean)) ∈ TB := tw_f (tw_t4 (List.mem_of_getElem? (i := 28) rfl)) rfl
set_option maxRecDepth 100000 in
theorem tw_155 : (.methodLink R_WM 277 y_WM_isPension) ∈ TB := tw_f (tw_t4 (List.mem_of_getElem? (i := 26) rfl)) rfl
set_option maxRecDepth 100000 in
theorem tw_156 : (.static y_WM_isPension) ∈ TB := tw_f (tw_t4 (List.mem_of_getElem? (i := 27) rfl)) rfl
set_option maxRecDepth 100000 in
theorem tw_157 : (.fieldLink R_WM 280 "WaterMen$Box" "pensionerCount" "I") ∈ TB := tw_f (tw_t1 (List.mem_of_getElem? (i := 110) rfl)) rfl
set_option maxRecDepth 100000 in
theorem tw_158 : (.fieldLink R_Bx 17 "WaterMen$Box" "pensioners" "[LWaterMen$Pensioner;") ∈ TB := tw_f (tw_t1 (List.mem_of_getElem? (i := 108) rfl)) rfl
set_option maxRecDepth 100000 in
theorem tw_159 : (.fieldLink R_Bx 29 "WaterMen$Box" "pensionerCount" "I") ∈ TB := tw_f (tw_t1 (List.mem_of_getElem? (i := 109) rfl)) rfl
set_option maxRecDepth 100000 in
theorem tw_160 : (.classLink R_Bx 15 R_Pn) ∈ TB := tw_f (tw_t1 (List.mem_of_getElem? (i := 99) rfl)) rfl
set_option maxRecDepth 100000 in
theorem tw_161 : (.instantiable R_Pn 3) ∈ TB := tw_f (tw_t4 (List.mem_of_getElem? (i := 37) rfl)) rfl
set_option maxRecDepth 100000 in
theorem tw_162 : (.initialized R_Pn) ∈ TB := tw_f (tw_t1 (List.mem_of_getElem? (i := 16) rfl)) rfl
set_option maxRecDepth 100000 in
theorem tw_163 : (.methodLink R_Pn 1 objectInit) ∈ TB := tw_f (tw_t4 (List.mem_of_getElem? (i := 41) rfl)) rfl
set_option maxRecDepth 100000 in
theorem tw_164 : (.instanceMethod objectInit) ∈ TB := tw_f (tw_t1 (List.mem_of_getElem? (i := 23) rfl)) rfl
set_option maxRecDepth 100000 in
theorem tw_165 : (.code objectInit ⟨#[0xb1]⟩ 1 none) ∈ TB := tw_f (tw_t1 (List.mem_of_getElem? (i := 24) rfl)) rfl
set_option maxRecDepth 100000 in
theorem tw_166 : (.fieldLink R_Pn 7 "WaterMen$Pensioner" "pension" "I") ∈ TB := tw_f (tw_t4 (List.mem_of_getElem? (i := 42) rfl)) rfl
set_option maxRecDepth 100000 in
theorem tw_167 : (.fieldLink R_Pn 13 "WaterMen$Pensioner" "end" "I") ∈ TB := tw_f (tw_t4 (List.mem_of_getElem? (i := 45) rfl)) rfl
set_option maxRecDepth 100000 in
theorem tw_168 : (.code y_Pn_init b_Pn_init 3 none) ∈ TB := tw_f (tw_t4 (List.mem_of_getElem? (i := 40) rfl)) rfl
set_option maxRecDepth 100000 in
theorem tw_169 : (.methodLink R_Bx 32 y_Pn_init) ∈ TB := tw_f (tw_t4 (List.mem_of_getElem? (i := 38) rfl)) rfl
set_option maxRecDepth 100000 in
theorem tw_170 : (.instanceMethod y_Pn_init) ∈ TB := tw_f (tw_t4 (List.mem_of_getElem? (i := 39) rfl)) rfl
set_option maxRecDepth 100000 in
theorem tw_171 : (.code y_Bx_admit b_Bx_admit 3 (some .int)) ∈ TB := tw_f (tw_t4 (List.mem_of_getElem? (i := 36) rfl)) rfl
set_option maxRecDepth 100000 in
theorem tw_172 : (.methodLink R_WM 300 y_Bx_admit) ∈ TB := tw_f (tw_t4 (List.mem_of_getElem? (i := 33) rfl)) rfl
set_option maxRecDepth 100000 in
theorem tw_173 : (.instanceMethod y_Bx_admit) ∈ TB := tw_f (tw_t4 (List.mem_of_getElem? (i := 34) rfl)) rfl
set_option maxRecDepth 100000 in
theorem tw_174 : (.selects R_Bx y_Bx_admit y_Bx_admit) ∈ TB := tw_f (tw_t4 (List.mem_of_getElem? (i := 35) rfl)) rfl
set_option maxRecDepth 100000 in
theorem tw_175 : (.methodLink R_Bx 51 Lib.Math.max.name) ∈ TB := tw_f (tw_t4 (List.mem_of_getElem? (i := 89) rfl)) rfl
set_option maxRecDepth 100000 in
theorem tw_176 : (.static Lib.Math.max.name) ∈ TB := tw_f (tw_t3 (List.mem_of_getElem? (i := 143) rfl)) rfl
set_option maxRecDepth 100000 in
theorem tw_177 : (.initialized "java/lang/Math") ∈ TB := tw_f (tw_t1 (List.mem_of_getElem? (i := 9) rfl)) rfl
set_option maxRecDepth 100000 in
theorem tw_178 : (.code Lib.Math.max.name Lib.Math.max.code 2 (some .int)) ∈ TB := tw_f (tw_t3 (List.mem_of_getElem? (i := 144) rfl)) rfl
set_option maxRecDepth 100000 in
theorem tw_179 : (.fieldLink R_Bx 9 "WaterMen$Box" "income" "[I") ∈ TB := tw_f (tw_t1 (List.mem_of_getElem? (i := 107) rfl)) rfl
set_option maxRecDepth 100000 in
theorem tw_180 : (.fieldLink R_Bx 21 "WaterMen$Box" "coins" "I") ∈ TB := tw_f (tw_t1 (List.mem_of_getElem? (i := 101) rfl)) rfl
set_option maxRecDepth 100000 in
theorem tw_181 : (.code y_Bx_owedOn b_Bx_owedOn 5 (some .int)) ∈ TB := tw_f (tw_t4 (List.mem_of_getElem? (i := 93) rfl)) rfl
set_option maxRecDepth 100000 in
theorem tw_182 : (.methodLink R_Bx 57 y_Bx_owedOn) ∈ TB := tw_f (tw_t4 (List.mem_of_getElem? (i := 90) rfl)) rfl
set_option maxRecDepth 100000 in
theorem tw_183 : (.instanceMethod y_Bx_owedOn) ∈ TB := tw_f (tw_t4 (List.mem_of_getElem? (i := 91) rfl)) rfl
set_option maxRecDepth 100000 in
theorem tw_184 : (.selects R_Bx y_Bx_owedOn y_Bx_owedOn) ∈ TB := tw_f (tw_t4 (List.mem_of_getElem? (i := 92) rfl)) rfl
set_option maxRecDepth 100000 in
theorem tw_185 : (.code y_Bx_firstShortDay b_Bx_firstShortDay 8 (some .int)) ∈ TB := tw_f (tw_t4 (List.mem_of_getElem? (i := 88) rfl)) rfl
set_option maxRecDepth 100000 in
theorem tw_186 : (.methodLink R_WM 322 y_Bx_firstShortDay) ∈ TB := tw_f (tw_t4 (List.mem_of_getElem? (i := 85) rfl)) rfl
set_option maxRecDepth 100000 in
theorem tw_187 : (.instanceMethod y_Bx_firstShortDay) ∈ TB := tw_f (tw_t4 (List.mem_of_getElem? (i := 86) rfl)) rfl
set_option maxRecDepth 100000 in
theorem tw_188 : (.selects R_Bx y_Bx_firstShortDay y_Bx_firstShortDay) ∈ TB := tw_f (tw_t4 (List.mem_of_getElem? (i := 87) rfl)) rfl
set_option maxRecDepth 100000 in
theorem tw_189 : (.code y_Bx_pensionerAt b_Bx_pensionerAt 2 (some (.object "WaterMen$Pensioner"))) ∈ TB := tw_f (tw_t4 (List.mem_of_getElem? (i := 21) rfl)) rfl
set_option maxRecDepth 100000 in
theorem tw_190 : (.methodLink R_WM 325 y_Bx_pensionerAt) ∈ TB := tw_f (tw_t4 (List.mem_of_getElem? (i := 98) rfl)) rfl
set_option maxRecDepth 100000 in
theorem tw_191 : (.instanceMethod y_Bx_pensionerAt) ∈ TB := tw_f (tw_t4 (List.mem_of_getElem? (i := 19) rfl)) rfl
set_option maxRecDepth 100000 in
theorem tw_192 : (.selects R_Bx y_Bx_pensionerAt y_Bx_pensionerAt) ∈ TB := tw_f (tw_t4 (List.mem_of_getElem? (i := 20) rfl)) rfl
set_option maxRecDepth 100000 in
theorem tw_193 : (.code y_WM_menThatAre b_WM_menThatAre 5 (some .int)) ∈ TB := tw_f (tw_t4 (List.mem_of_getElem? (i := 106) rfl)) rfl
set_option maxRecDepth 100000 in
theorem tw_194 : (.methodLink R_WM 340 y_WM_menThatAre) ∈ TB := tw_f (tw_t4 (List.mem_of_getElem? (i := 103) rfl)) rfl
set_option maxRecDepth 100000 in
theorem tw_195 : (.instanceMethod y_WM_menThatAre) ∈ TB := tw_f (tw_t4 (List.mem_of_getElem? (i := 105) rfl)) rfl
set_option maxRecDepth 100000 in
theorem tw_196 : (.selects R_WM y_WM_menThatAre y_WM_menThatAre) ∈ TB := tw_f (tw_s2 (List.mem_of_getElem? (i := 2) rfl)) rfl
set_option maxRecDepth 100000 in
theorem tw_197 : (.fieldLink R_WM 343 "WaterMen$Box" "coins" "I") ∈ TB := tw_f (tw_t1 (List.mem_of_getElem? (i := 102) rfl)) rfl
set_option maxRecDepth 100000 in
theorem tw_198 : (.fieldLink R_WM 344 "WaterMen$Box" "pot" "I") ∈ TB := tw_f (tw_t1 (List.mem_of_getElem? (i := 103) rfl)) rfl
set_option maxRecDepth 100000 in
theorem tw_199 : (.code y_WM_coinsOfMen b_WM_coinsOfMen 4 (some .int)) ∈ TB := tw_f (tw_t4 (List.mem_of_getElem? (i := 114) rfl)) rfl
set_option maxRecDepth 100000 in
theorem tw_200 : (.methodLink R_WM 347 y_WM_coinsOfMen) ∈ TB := tw_f (tw_t4 (List.mem_of_getElem? (i := 111) rfl)) rfl
set_option maxRecDepth 100000 in
theorem tw_201 : (.instanceMethod y_WM_coinsOfMen) ∈ TB := tw_f (tw_t4 (List.mem_of_getElem? (i := 113) rfl)) rfl
set_option maxRecDepth 100000 in
theorem tw_202 : (.selects R_WM y_WM_coinsOfMen y_WM_coinsOfMen) ∈ TB := tw_f (tw_s2 (List.mem_of_getElem? (i := 3) rfl)) rfl
set_option maxRecDepth 100000 in
theorem tw_203 : (.fieldLink R_WM 350 "WaterMen$Box" "allPaid" "I") ∈ TB := tw_f (tw_t1 (List.mem_of_getElem? (i := 104) rfl)) rfl
set_option maxRecDepth 100000 in
theorem tw_204 : (.fieldLink R_WM 353 "WaterMen$Box" "allPensions" "I") ∈ TB := tw_f (tw_t1 (List.mem_of_getElem? (i := 106) rfl)) rfl
set_option maxRecDepth 100000 in
theorem tw_205 : (.code y_Md_in b_Md_in 3 (some .boolean)) ∈ TB := tw_f (tw_t4 (List.mem_of_getElem? (i := 121) rfl)) rfl
set_option maxRecDepth 100000 in
theorem tw_206 : (.initialized R_Md) ∈ TB := tw_f (tw_t1 (List.mem_of_getElem? (i := 7) rfl)) rfl
set_option maxRecDepth 100000 in
theorem tw_207 : (.methodLink R_Md 10 y_Md_in) ∈ TB := tw_f (tw_t4 (List.mem_of_getElem? (i := 119) rfl)) rfl
set_option maxRecDepth 100000 in
theorem tw_208 : (.static y_Md_in) ∈ TB := tw_f (tw_t4 (List.mem_of_getElem? (i := 120) rfl)) rfl
set_option maxRecDepth 100000 in
theorem tw_209 : (.fieldLink R_Md 14 "WaterMenModel" "stairs" "I") ∈ TB := tw_f (tw_t4 (List.mem_of_getElem? (i := 164) rfl)) rfl
set_option maxRecDepth 100000 in
theorem tw_210 : (.fieldLink R_Md 32 "WaterMenModel" "miles" "[I") ∈ TB := tw_f (tw_t4 (List.mem_of_getElem? (i := 165) rfl)) rfl
set_option maxRecDepth 100000 in
theorem tw_211 : (.fieldLink R_Md 35 "WaterMenModel" "bridge" "I") ∈ TB := tw_f (tw_t4 (List.mem_of_getElem? (i := 166) rfl)) rfl
set_option maxRecDepth 100000 in
theorem tw_212 : (.code y_Md_isDay b_Md_isDay 1 (some .boolean)) ∈ TB := tw_f (tw_t4 (List.mem_of_getElem? (i := 132) rfl)) rfl
set_option maxRecDepth 100000 in
theorem tw_213 : (.methodLink R_Md 38 y_Md_isDay) ∈ TB := tw_f (tw_t4 (List.mem_of_getElem? (i := 130) rfl)) rfl
set_option maxRecDepth 100000 in
theorem tw_214 : (.static y_Md_isDay) ∈ TB := tw_f (tw_t4 (List.mem_of_getElem? (i := 131) rfl)) rfl
set_option maxRecDepth 100000 in
theorem tw_215 : (.fieldLink R_Md 17 "WaterMenModel" "hasRow" "[Z") ∈ TB := tw_f (tw_t4 (List.mem_of_getElem? (i := 168) rfl)) rfl
set_option maxRecDepth 100000 in
theorem tw_216 : (.fieldLink R_Md 21 "WaterMenModel" "rows" "[I") ∈ TB := tw_f (tw_t4 (List.mem_of_getElem? (i := 169) rfl)) rfl
set_option maxRecDepth 100000 in
theorem tw_217 : (.fieldLink R_Md 25 "WaterMenModel" "table" "[I") ∈ TB := tw_f (tw_t4 (List.mem_of_getElem? (i := 167) rfl)) rfl
set_option maxRecDepth 100000 in
theorem tw_218 : (.code y_Md_levelOf b_Md_levelOf 3 (some .int)) ∈ TB := tw_f (tw_t4 (List.mem_of_getElem? (i := 149) rfl)) rfl
set_option maxRecDepth 100000 in
theorem tw_219 : (.methodLink R_Md 28 y_Md_levelOf) ∈ TB := tw_f (tw_t4 (List.mem_of_getElem? (i := 146) rfl)) rfl
set_option maxRecDepth 100000 in
theorem tw_220 : (.instanceMethod y_Md_levelOf) ∈ TB := tw_f (tw_t4 (List.mem_of_getElem? (i := 148) rfl)) rfl
set_option maxRecDepth 100000 in
theorem tw_221 : (.selects R_Md y_Md_levelOf y_Md_levelOf) ∈ TB := tw_f (tw_s2 (List.mem_of_getElem? (i := 5) rfl)) rfl
set_option maxRecDepth 100000 in
theorem tw_222 : (.code y_Md_flowOf b_Md_flowOf 3 (some .int)) ∈ TB := tw_f (tw_t4 (List.mem_of_getElem? (i := 145) rfl)) rfl
set_option maxRecDepth 100000 in
theorem tw_223 : (.methodLink R_Md 42 y_Md_flowOf) ∈ TB := tw_f (tw_t4 (List.mem_of_getElem? (i := 141) rfl)) rfl
set_option maxRecDepth 100000 in
theorem tw_224 : (.instanceMethod y_Md_flowOf) ∈ TB := tw_f (tw_t4 (List.mem_of_getElem? (i := 143) rfl)) rfl
set_option maxRecDepth 100000 in
theorem tw_225 : (.selects R_Md y_Md_flowOf y_Md_flowOf) ∈ TB := tw_f (tw_s2 (List.mem_of_getElem? (i := 4) rfl)) rfl
set_option maxRecDepth 100000 in
theorem tw_226 : (.fieldLink R_Md 7 "WaterMenModel" "time" "I") ∈ TB := tw_f (tw_t4 (List.mem_of_getElem? (i := 163) rfl)) rfl
set_option maxRecDepth 100000 in
theorem tw_227 : (.code y_Md_today b_Md_today 1 (some .int)) ∈ TB := tw_f (tw_t4 (List.mem_of_getElem? (i := 157) rfl)) rfl
set_option maxRecDepth 100000 in
theorem tw_228 : (.methodLink R_Md 45 y_Md_today) ∈ TB := tw_f (tw_t4 (List.mem_of_getElem? (i := 154) rfl)) rfl
set_option maxRecDepth 100000 in
theorem tw_229 : (.instanceMethod y_Md_today) ∈ TB := tw_f (tw_t4 (List.mem_of_getElem? (i := 156) rfl)) rfl
set_option maxRecDepth 100000 in
theorem tw_230 : (.selects R_Md y_Md_today y_Md_today) ∈ TB := tw_f (tw_s2 (List.mem_of_getElem? (i := 6) rfl)) rfl
set_option maxRecDepth 100000 in
theorem tw_231 : (.fieldLink R_Md 49 "WaterMenModel" "frosts" "[Z") ∈ TB := tw_f (tw_t4 (List.mem_of_getElem? (i := 170) rfl)) rfl
set_option maxRecDepth 100000 in
theorem tw_232 : (.code y_Md_isMan b_Md_isMan 1 (some .boolean)) ∈ TB := tw_f (tw_t5 (List.mem_of_getElem? (i := 122) rfl)) rfl
set_option maxRecDepth 100000 in
theorem tw_233 : (.methodLink R_Md 186 y_Md_isMan) ∈ TB := tw_f (tw_t5 (List.mem_of_getElem? (i := 120) rfl)) rfl
set_option maxRecDepth 100000 in
theorem tw_234 : (.static y_Md_isMan) ∈ TB := tw_f (tw_t5 (List.mem_of_getElem? (i := 121) rfl)) rfl
set_option maxRecDepth 100000 in
theorem tw_235 : (.fieldLink R_Md 58 "WaterMenModel" "state" "[I") ∈ TB := tw_f (tw_t4 (List.mem_of_getElem? (i := 171) rfl)) rfl
set_option maxRecDepth 100000 in
theorem tw_236 : (.fieldLink R_Md 61 "WaterMenModel" "master" "[I") ∈ TB := tw_f (tw_t4 (List.mem_of_getElem? (i := 172) rfl)) rfl
set_option maxRecDepth 100000 in
theorem tw_237 : (.code y_Md_rowOf b_Md_rowOf 4 (some .int)) ∈ TB := tw_f (tw_t5 (List.mem_of_getElem? (i := 150) rfl)) rfl
set_option maxRecDepth 100000 in
theorem tw_238 : (.methodLink R_Md 193 y_Md_rowOf) ∈ TB := tw_f (tw_t5 (List.mem_of_getElem? (i := 147) rfl)) rfl
set_option maxRecDepth 100000 in
theorem tw_239 : (.instanceMethod y_Md_rowOf) ∈ TB := tw_f (tw_t5 (List.mem_of_getElem? (i := 149) rfl)) rfl
set_option maxRecDepth 100000 in
theorem tw_240 : (.selects R_Md y_Md_rowOf y_Md_rowOf) ∈ TB := tw_f (tw_s2 (List.mem_of_getElem? (i := 8) rfl)) rfl
set_option maxRecDepth 100000 in
theorem tw_241 : (.code y_Md_placeOf b_Md_placeOf 4 (some .int)) ∈ TB := tw_f (tw_t5 (List.mem_of_getElem? (i := 154) rfl)) rfl
set_option maxRecDepth 100000 in
theorem tw_242 : (.methodLink R_Md 196 y_Md_placeOf) ∈ TB := tw_f (tw_t5 (List.mem_of_getElem? (i := 151) rfl)) rfl
set_option maxRecDepth 100000 in
theorem tw_243 : (.instanceMethod y_Md_placeOf) ∈ TB := tw_f (tw_t5 (List.mem_of_getElem? (i := 153) rfl)) rfl
set_option maxRecDepth 100000 in
theorem tw_244 : (.selects R_Md y_Md_placeOf y_Md_placeOf) ∈ TB := tw_f (tw_s2 (List.mem_of_getElem? (i := 9) rfl)) rfl
set_option maxRecDepth 100000 in
theorem tw_245 : (.fieldLink R_Md 76 "WaterMenModel" "coins" "[I") ∈ TB := tw_f (tw_t4 (List.mem_of_getElem? (i := 177) rfl)) rfl
set_option maxRecDepth 100000 in
theorem tw_246 : (.fieldLink R_Md 79 "WaterMenModel" "wayOf" "[I") ∈ TB := tw_f (tw_t4 (List.mem_of_getElem? (i := 178) rfl)) rfl
set_option maxRecDepth 100000 in
theorem tw_247 : (.fieldLink R_Md 82 "WaterMenModel" "tripsOf" "[I") ∈ TB := tw_f (tw_t4 (List.mem_of_getElem? (i := 179) rfl)) rfl
set_option maxRecDepth 100000 in
theorem tw_248 : (.code y_Md_isStairs b_Md_isStairs 2 (some .boolean)) ∈ TB := tw_f (tw_t5 (List.mem_of_getElem? (i := 162) rfl)) rfl
set_option maxRecDepth 100000 in
theorem tw_249 : (.methodLink R_Md 199 y_Md_isStairs) ∈ TB := tw_f (tw_t5 (List.mem_of_getElem? (i := 159) rfl)) rfl
set_option maxRecDepth 100000 in
theorem tw_250 : (.instanceMethod y_Md_isStairs) ∈ TB := tw_f (tw_t5 (List.mem_of_getElem? (i := 161) rfl)) rfl
set_option maxRecDepth 100000 in
theorem tw_251 : (.selects R_Md y_Md_isStairs y_Md_isStairs) ∈ TB := tw_f (tw_s2 (List.mem_of_getElem? (i := 10) rfl)) rfl
set_option maxRecDepth 100000 in
theorem tw_252 : (.fieldLink R_Md 206 "WaterMenModel" "boats" "I") ∈ TB := tw_f (tw_t4 (List.mem_of_getElem? (i := 183) rfl)) rfl
set_option maxRecDepth 100000 in
theorem tw_253 : (.code y_Md_isBoat b_Md_isBoat 2 (some .boolean)) ∈ TB := tw_f (tw_t5 (List.mem_of_getElem? (i := 182) rfl)) rfl
set_option maxRecDepth 100000 in
theorem tw_254 : (.methodLink R_Md 209 y_Md_isBoat) ∈ TB := tw_f (tw_t5 (List.mem_of_getElem? (i := 179) rfl)) rfl
set_option maxRecDepth 100000 in
theorem tw_255 : (.instanceMethod y_Md_isBoat) ∈ TB := tw_f (tw_t5 (List.mem_of_getElem? (i := 181) rfl)) rfl
set_option maxRecDepth 100000 in
theorem tw_256 : (.selects R_Md y_Md_isBoat y_Md_isBoat) ∈ TB := tw_f (tw_s2 (List.mem_of_getElem? (i := 12) rfl)) rfl
set_option maxRecDepth 100000 in
theorem tw_257 : (.fieldLink R_Md 212 "WaterMenModel" "taped" "I") ∈ TB := tw_f (tw_t4 (List.mem_of_getElem? (i := 190) rfl)) rfl
set_option maxRecDepth 100000 in
theorem tw_258 : (.fieldLink R_Md 109 "WaterMenModel" "tape" "[B") ∈ TB := tw_f (tw_t4 (List.mem_of_getElem? (i := 189) rfl)) rfl
set_option maxRecDepth 100000 in
theorem tw_259 : (.code y_Md_four b_Md_four 3 none) ∈ TB := tw_f (tw_t5 (List.mem_of_getElem? (i := 190) rfl)) rfl
set_option maxRecDepth 100000 in
theorem tw_260 : (.methodLink R_Md 215 y_Md_four) ∈ TB := tw_f (tw_t5 (List.mem_of_getElem? (i := 187) rfl)) rfl
set_option maxRecDepth 100000 in
theorem tw_261 : (.instanceMethod y_Md_four) ∈ TB := tw_f (tw_t5 (List.mem_of_getElem? (i := 189) rfl)) rfl
set_option maxRecDepth 100000 in
theorem tw_262 : (.selects R_Md y_Md_four y_Md_four) ∈ TB := tw_f (tw_s2 (List.mem_of_getElem? (i := 13) rfl)) rfl
set_option maxRecDepth 100000 in
theorem tw_263 : (.fieldLink R_Md 275 "WaterMenModel" "orders" "I") ∈ TB := tw_f (tw_t4 (List.mem_of_getElem? (i := 191) rfl)) rfl
set_option maxRecDepth 100000 in
theorem tw_264 : (.fieldLink R_Md 119 "WaterMenModel" "fares" "[I") ∈ TB := tw_f (tw_t4 (List.mem_of_getElem? (i := 194) rfl)) rfl
set_option maxRecDepth 100000 in
theorem tw_265 : (.fieldLink R_Md 131 "WaterMenModel" "hours" "[I") ∈ TB := tw_f (tw_t4 (List.mem_of_getElem? (i := 198) rfl)) rfl
set_option maxRecDepth 100000 in
theorem tw_266 : (.fieldLink R_Md 143 "WaterMenModel" "single" "[I") ∈ TB := tw_f (tw_t4 (List.mem_of_getElem? (i := 202) rfl)) rfl
set_option maxRecDepth 100000 in
theorem tw_267 : (.fieldLink R_Md 218 "WaterMenModel" "at" "I") ∈ TB := tw_f (tw_t4 (List.mem_of_getElem? (i := 204) rfl)) rfl
set_option maxRecDepth 100000 in
theorem tw_268 : (.fieldLink R_Md 221 "WaterMenModel" "tkAt" "I") ∈ TB := tw_f (tw_t4 (List.mem_of_getElem? (i := 206) rfl)) rfl
set_option maxRecDepth 100000 in
theorem tw_269 : (.fieldLink R_Md 224 "WaterMenModel" "tk" "I") ∈ TB := tw_f (tw_t4 (List.mem_of_getElem? (i := 205) rfl)) rfl
set_option maxRecDepth 100000 in
theorem tw_270 : (.code y_Md_advance b_Md_advance 5 none) ∈ TB := tw_f (tw_t5 (List.mem_of_getElem? (i := 202) rfl)) rfl
set_option maxRecDepth 100000 in
theorem tw_271 : (.methodLink R_Md 269 y_Md_advance) ∈ TB := tw_f (tw_t5 (List.mem_of_getElem? (i := 199) rfl)) rfl
set_option maxRecDepth 100000 in
theorem tw_272 : (.instanceMethod y_Md_advance) ∈ TB := tw_f (tw_t5 (List.mem_of_getElem? (i := 201) rfl)) rfl
set_option maxRecDepth 100000 in
theorem tw_273 : (.selects R_Md y_Md_advance y_Md_advance) ∈ TB := tw_f (tw_s2 (List.mem_of_getElem? (i := 14) rfl)) rfl
set_option maxRecDepth 100000 in
theorem tw_274 : (.code y_Md_line b_Md_line 6 (some .boolean)) ∈ TB := tw_f (tw_t5 (List.mem_of_getElem? (i := 228) rfl)) rfl
set_option maxRecDepth 100000 in
theorem tw_275 : (.methodLink R_Md 278 y_Md_line) ∈ TB := tw_f (tw_t5 (List.mem_of_getElem? (i := 225) rfl)) rfl
set_option maxRecDepth 100000 in
theorem tw_276 : (.instanceMethod y_Md_line) ∈ TB := tw_f (tw_t5 (List.mem_of_getElem? (i := 227) rfl)) rfl
set_option maxRecDepth 100000 in
theorem tw_277 : (.selects R_Md y_Md_line y_Md_line) ∈ TB := tw_f (tw_s2 (List.mem_of_getElem? (i := 15) rfl)) rfl
set_option maxRecDepth 100000 in
theorem tw_278 : (.code y_Md_forceOn b_Md_forceOn 4 (some .int)) ∈ TB := tw_f (tw_t6 (List.mem_of_getElem? (i := 0) rfl)) rfl
set_option maxRecDepth 100000 in
theorem tw_279 : (.methodLink R_Md 281 y_Md_forceOn) ∈ TB := tw_f (tw_t5 (List.mem_of_getElem? (i := 237) rfl)) rfl
set_option maxRecDepth 100000 in
theorem tw_280 : (.instanceMethod y_Md_forceOn) ∈ TB := tw_f (tw_t5 (List.mem_of_getElem? (i := 239) rfl)) rfl
set_option maxRecDepth 100000 in
theorem tw_281 : (.selects R_Md y_Md_forceOn y_Md_forceOn) ∈ TB := tw_f (tw_s3 (List.mem_of_getElem? (i := 1) rfl)) rfl
set_option maxRecDepth 100000 in
theorem tw_282 : (.code y_Md_isAsked b_Md_isAsked 4 (some .boolean)) ∈ TB := tw_f (tw_t6 (List.mem_of_getElem? (i := 26) rfl)) rfl
set_option maxRecDepth 100000 in
theorem tw_283 : (.methodLink R_Md 306 y_Md_isAsked) ∈ TB := tw_f (tw_t6 (List.mem_of_getElem? (i := 23) rfl)) rfl
set_option maxRecDepth 100000 in
theorem tw_284 : (.instanceMethod y_Md_isAsked) ∈ TB := tw_f (tw_t6 (List.mem_of_getElem? (i := 25) rfl)) rfl
set_option maxRecDepth 100000 in
theorem tw_285 : (.selects R_Md y_Md_isAsked y_Md_isAsked) ∈ TB := tw_f (tw_s3 (List.mem_of_getElem? (i := 4) rfl)) rfl
set_option maxRecDepth 100000 in
theorem tw_286 : (.constant R_Md 305 359999) ∈ TB := tw_f (tw_t6 (List.mem_of_getElem? (i := 39) rfl)) rfl
set_option maxRecDepth 100000 in
theorem tw_287 : (.code y_Md_arrive b_Md_arrive 3 none) ∈ TB := tw_f (tw_t6 (List.mem_of_getElem? (i := 51) rfl)) rfl
set_option maxRecDepth 100000 in
theorem tw_288 : (.methodLink R_Md 329 y_Md_arrive) ∈ TB := tw_f (tw_t6 (List.mem_of_getElem? (i := 48) rfl)) rfl
set_option maxRecDepth 100000 in
theorem tw_289 : (.instanceMethod y_Md_arrive) ∈ TB := tw_f (tw_t6 (List.mem_of_getElem? (i := 50) rfl)) rfl
set_option maxRecDepth 100000 in
theorem tw_290 : (.selects R_Md y_Md_arrive y_Md_arrive) ∈ TB := tw_f (tw_s3 (List.mem_of_getElem? (i := 8) rfl)) rfl
set_option maxRecDepth 100000 in
theorem tw_291 : (.fieldLink R_Md 85 "WaterMenModel" "shares" "[Z") ∈ TB := tw_f (tw_t4 (List.mem_of_getElem? (i := 180) rfl)) rfl
set_option maxRecDepth 100000 in
theorem tw_292 : (.fieldLink R_Md 316 "WaterMenModel" "box" "J") ∈ TB := tw_f (tw_t4 (List.mem_of_getElem? (i := 218) rfl)) rfl
set_option maxRecDepth 100000 in
theorem tw_293 : (.fieldLink R_Md 320 "WaterMenModel" "pot" "J") ∈ TB := tw_f (tw_t4 (List.mem_of_getElem? (i := 219) rfl)) rfl
set_option maxRecDepth 100000 in
theorem tw_294 : (.fieldLink R_Md 173 "WaterMenModel" "boxIn" "[J") ∈ TB := tw_f (tw_t4 (List.mem_of_getElem? (i := 221) rfl)) rfl
set_option maxRecDepth 100000 in
theorem tw_295 : (.code y_Md_part b_Md_part 6 none) ∈ TB := tw_f (tw_t6 (List.mem_of_getElem? (i := 55) rfl)) rfl
set_option maxRecDepth 100000 in
theorem tw_296 : (.methodLink R_Md 332 y_Md_part) ∈ TB := tw_f (tw_t6 (List.mem_of_getElem? (i := 52) rfl)) rfl
set_option maxRecDepth 100000 in
theorem tw_297 : (.instanceMethod y_Md_part) ∈ TB := tw_f (tw_t6 (List.mem_of_getElem? (i := 54) rfl)) rfl
set_option maxRecDepth 100000 in
theorem tw_298 : (.selects R_Md y_Md_part y_Md_part) ∈ TB := tw_f (tw_s3 (List.mem_of_getElem? (i := 9) rfl)) rfl
set_option maxRecDepth 100000 in
theorem tw_299 : (.fieldLink R_Md 313 "WaterMenModel" "trips" "I") ∈ TB := tw_f (tw_t4 (List.mem_of_getElem? (i := 209) rfl)) rfl
set_option maxRecDepth 100000 in
theorem tw_300 : (.code y_Md_isPension b_Md_isPension 2 (some .boolean)) ∈ TB := tw_f (tw_t6 (List.mem_of_getElem? (i := 66) rfl)) rfl
set_option maxRecDepth 100000 in
theorem tw_301 : (.methodLink R_Md 338 y_Md_isPension) ∈ TB := tw_f (tw_t6 (List.mem_of_getElem? (i := 64) rfl)) rfl
set_option maxRecDepth 100000 in
theorem tw_302 : (.static y_Md_isPension) ∈ TB := tw_f (tw_t6 (List.mem_of_getElem? (i := 65) rfl)) rfl
set_option maxRecDepth 100000 in
theorem tw_303 : (.fieldLink R_Md 323 "WaterMenModel" "pensioners" "I") ∈ TB := tw_f (tw_t4 (List.mem_of_getElem? (i := 222) rfl)) rfl
set_option maxRecDepth 100000 in
theorem tw_304 : (.fieldLink R_Md 177 "WaterMenModel" "pensionOf" "[I") ∈ TB := tw_f (tw_t4 (List.mem_of_getElem? (i := 223) rfl)) rfl
set_option maxRecDepth 100000 in
theorem tw_305 : (.fieldLink R_Md 180 "WaterMenModel" "pensionEnd" "[I") ∈ TB := tw_f (tw_t4 (List.mem_of_getElem? (i := 224) rfl)) rfl
set_option maxRecDepth 100000 in
theorem tw_306 : (.code y_Md_newPensioner b_Md_newPensioner 3 (some .int)) ∈ TB := tw_f (tw_t6 (List.mem_of_getElem? (i := 70) rfl)) rfl
set_option maxRecDepth 100000 in
theorem tw_307 : (.methodLink R_Md 342 y_Md_newPensioner) ∈ TB := tw_f (tw_t6 (List.mem_of_getElem? (i := 67) rfl)) rfl
set_option maxRecDepth 100000 in
theorem tw_308 : (.instanceMethod y_Md_newPensioner) ∈ TB := tw_f (tw_t6 (List.mem_of_getElem? (i := 69) rfl)) rfl
set_option maxRecDepth 100000 in
theorem tw_309 : (.selects R_Md y_Md_newPensioner y_Md_newPensioner) ∈ TB := tw_f (tw_s3 (List.mem_of_getElem? (i := 11) rfl)) rfl
set_option maxRecDepth 100000 in
theorem tw_310 : (.code y_Md_menAs b_Md_menAs 4 (some .int)) ∈ TB := tw_f (tw_t6 (List.mem_of_getElem? (i := 106) rfl)) rfl
set_option maxRecDepth 100000 in
theorem tw_311 : (.methodLink R_Md 348 y_Md_menAs) ∈ TB := tw_f (tw_t6 (List.mem_of_getElem? (i := 103) rfl)) rfl
set_option maxRecDepth 100000 in
theorem tw_312 : (.instanceMethod y_Md_menAs) ∈ TB := tw_f (tw_t6 (List.mem_of_getElem? (i := 105) rfl)) rfl
set_option maxRecDepth 100000 in
theorem tw_313 : (.selects R_Md y_Md_menAs y_Md_menAs) ∈ TB := tw_f (tw_s3 (List.mem_of_getElem? (i := 13) rfl)) rfl
set_option maxRecDepth 100000 in
theorem tw_314 : (.fieldLink R_Md 326 "WaterMenModel" "paidOut" "J") ∈ TB := tw_f (tw_t4 (List.mem_of_getElem? (i := 220) rfl)) rfl
