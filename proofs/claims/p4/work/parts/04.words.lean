set_option maxRecDepth 100000 in
theorem tw_0 : (.code y_WM_isDay b_WM_isDay 1 (some .boolean)) ∈ TB := tw_f (tw_t2 (List.mem_of_getElem? (i := 16) rfl)) rfl
set_option maxRecDepth 100000 in
theorem tw_1 : (.initialized R_WM) ∈ TB := tw_f (tw_t1 (List.mem_of_getElem? (i := 1) rfl)) rfl
set_option maxRecDepth 100000 in
theorem tw_2 : (.static y_WM_isDay) ∈ TB := tw_f (tw_t2 (List.mem_of_getElem? (i := 15) rfl)) rfl
set_option maxRecDepth 100000 in
theorem tw_3 : (.fieldLink R_Rv 23 "WaterMen$River" "frozen" "[Z") ∈ TB := tw_f (tw_t1 (List.mem_of_getElem? (i := 37) rfl)) rfl
set_option maxRecDepth 100000 in
theorem tw_4 : (.fieldLink R_Rv 35 "WaterMen$River" "stairCount" "I") ∈ TB := tw_f (tw_t1 (List.mem_of_getElem? (i := 40) rfl)) rfl
set_option maxRecDepth 100000 in
theorem tw_5 : (.fieldLink R_Rv 9 "WaterMen$River" "milesUp" "[I") ∈ TB := tw_f (tw_t1 (List.mem_of_getElem? (i := 33) rfl)) rfl
set_option maxRecDepth 100000 in
theorem tw_6 : (.fieldLink R_Rv 15 "WaterMen$River" "table" "[I") ∈ TB := tw_f (tw_t1 (List.mem_of_getElem? (i := 34) rfl)) rfl
set_option maxRecDepth 100000 in
theorem tw_7 : (.fieldLink R_Rv 19 "WaterMen$River" "rows" "[[I") ∈ TB := tw_f (tw_t1 (List.mem_of_getElem? (i := 36) rfl)) rfl
set_option maxRecDepth 100000 in
theorem tw_8 : (.code y_Rv_height b_Rv_height 4 (some .int)) ∈ TB := tw_f (tw_t2 (List.mem_of_getElem? (i := 42) rfl)) rfl
set_option maxRecDepth 100000 in
theorem tw_9 : (.initialized R_Rv) ∈ TB := tw_f (tw_t1 (List.mem_of_getElem? (i := 2) rfl)) rfl
set_option maxRecDepth 100000 in
theorem tw_10 : (.methodLink R_Rv 51 y_Rv_height) ∈ TB := tw_f (tw_t2 (List.mem_of_getElem? (i := 39) rfl)) rfl
set_option maxRecDepth 100000 in
theorem tw_11 : (.instanceMethod y_Rv_height) ∈ TB := tw_f (tw_t2 (List.mem_of_getElem? (i := 40) rfl)) rfl
set_option maxRecDepth 100000 in
theorem tw_12 : (.selects R_Rv y_Rv_height y_Rv_height) ∈ TB := tw_f (tw_t2 (List.mem_of_getElem? (i := 41) rfl)) rfl
set_option maxRecDepth 100000 in
theorem tw_13 : (.fieldLink R_Mn 21 "WaterMen$Man" "busyUntil" "I") ∈ TB := tw_f (tw_t1 (List.mem_of_getElem? (i := 171) rfl)) rfl
set_option maxRecDepth 100000 in
theorem tw_14 : (.fieldLink R_Bd 9 "WaterMen$Bond" "gapFrom" "[I") ∈ TB := tw_f (tw_t2 (List.mem_of_getElem? (i := 78) rfl)) rfl
set_option maxRecDepth 100000 in
theorem tw_15 : (.fieldLink R_Bd 25 "WaterMen$Bond" "gapCount" "I") ∈ TB := tw_f (tw_t2 (List.mem_of_getElem? (i := 80) rfl)) rfl
set_option maxRecDepth 100000 in
theorem tw_16 : (.fieldLink R_Bd 15 "WaterMen$Bond" "gapTo" "[I") ∈ TB := tw_f (tw_t2 (List.mem_of_getElem? (i := 79) rfl)) rfl
set_option maxRecDepth 100000 in
theorem tw_17 : (.fieldLink R_Bt 24 "WaterMen$Boat" "sunk" "Z") ∈ TB := tw_f (tw_t2 (List.mem_of_getElem? (i := 159) rfl)) rfl
set_option maxRecDepth 100000 in
theorem tw_18 : (.fieldLink R_Bt 28 "WaterMen$Boat" "thereFrom" "I") ∈ TB := tw_f (tw_t2 (List.mem_of_getElem? (i := 153) rfl)) rfl
set_option maxRecDepth 100000 in
theorem tw_19 : (.fieldLink R_WM 12 "WaterMen" "river" "LWaterMen$River;") ∈ TB := tw_f (tw_t1 (List.mem_of_getElem? (i := 194) rfl)) rfl
set_option maxRecDepth 100000 in
theorem tw_20 : (.code y_Rv_highest b_Rv_highest 1 (some .int)) ∈ TB := tw_f (tw_t2 (List.mem_of_getElem? (i := 1) rfl)) rfl
set_option maxRecDepth 100000 in
theorem tw_21 : (.methodLink R_WM 60 y_Rv_highest) ∈ TB := tw_f (tw_t1 (List.mem_of_getElem? (i := 238) rfl)) rfl
set_option maxRecDepth 100000 in
theorem tw_22 : (.instanceMethod y_Rv_highest) ∈ TB := tw_f (tw_t1 (List.mem_of_getElem? (i := 239) rfl)) rfl
set_option maxRecDepth 100000 in
theorem tw_23 : (.selects R_Rv y_Rv_highest y_Rv_highest) ∈ TB := tw_f (tw_t2 (List.mem_of_getElem? (i := 0) rfl)) rfl
set_option maxRecDepth 100000 in
theorem tw_24 : (.fieldLink R_WM 64 "WaterMen$River" "stairCount" "I") ∈ TB := tw_f (tw_t1 (List.mem_of_getElem? (i := 39) rfl)) rfl
set_option maxRecDepth 100000 in
theorem tw_25 : (.code y_Rv_addStairs b_Rv_addStairs 2 (some .int)) ∈ TB := tw_f (tw_t2 (List.mem_of_getElem? (i := 5) rfl)) rfl
set_option maxRecDepth 100000 in
theorem tw_26 : (.methodLink R_WM 68 y_Rv_addStairs) ∈ TB := tw_f (tw_t2 (List.mem_of_getElem? (i := 2) rfl)) rfl
set_option maxRecDepth 100000 in
theorem tw_27 : (.instanceMethod y_Rv_addStairs) ∈ TB := tw_f (tw_t2 (List.mem_of_getElem? (i := 3) rfl)) rfl
set_option maxRecDepth 100000 in
theorem tw_28 : (.selects R_Rv y_Rv_addStairs y_Rv_addStairs) ∈ TB := tw_f (tw_t2 (List.mem_of_getElem? (i := 4) rfl)) rfl
set_option maxRecDepth 100000 in
theorem tw_29 : (.fieldLink R_WM 72 "WaterMen$River" "bridgeAbove" "I") ∈ TB := tw_f (tw_t1 (List.mem_of_getElem? (i := 42) rfl)) rfl
set_option maxRecDepth 100000 in
theorem tw_30 : (.code y_WM_isHour b_WM_isHour 1 (some .boolean)) ∈ TB := tw_f (tw_t2 (List.mem_of_getElem? (i := 19) rfl)) rfl
set_option maxRecDepth 100000 in
theorem tw_31 : (.methodLink R_WM 79 y_WM_isHour) ∈ TB := tw_f (tw_t2 (List.mem_of_getElem? (i := 17) rfl)) rfl
set_option maxRecDepth 100000 in
theorem tw_32 : (.static y_WM_isHour) ∈ TB := tw_f (tw_t2 (List.mem_of_getElem? (i := 18) rfl)) rfl
set_option maxRecDepth 100000 in
theorem tw_33 : (.code y_WM_isLevel b_WM_isLevel 1 (some .boolean)) ∈ TB := tw_f (tw_t2 (List.mem_of_getElem? (i := 22) rfl)) rfl
set_option maxRecDepth 100000 in
theorem tw_34 : (.methodLink R_WM 82 y_WM_isLevel) ∈ TB := tw_f (tw_t2 (List.mem_of_getElem? (i := 20) rfl)) rfl
set_option maxRecDepth 100000 in
theorem tw_35 : (.static y_WM_isLevel) ∈ TB := tw_f (tw_t2 (List.mem_of_getElem? (i := 21) rfl)) rfl
set_option maxRecDepth 100000 in
theorem tw_36 : (.fieldLink R_WM 89 "WaterMen$River" "table" "[I") ∈ TB := tw_f (tw_t1 (List.mem_of_getElem? (i := 35) rfl)) rfl
set_option maxRecDepth 100000 in
theorem tw_37 : (.methodLink R_WM 75 y_WM_isDay) ∈ TB := tw_f (tw_t2 (List.mem_of_getElem? (i := 14) rfl)) rfl
set_option maxRecDepth 100000 in
theorem tw_38 : (.code y_Rv_flowIn b_Rv_flowIn 4 (some .int)) ∈ TB := tw_f (tw_t2 (List.mem_of_getElem? (i := 38) rfl)) rfl
set_option maxRecDepth 100000 in
theorem tw_39 : (.methodLink R_WM 93 y_Rv_flowIn) ∈ TB := tw_f (tw_t2 (List.mem_of_getElem? (i := 35) rfl)) rfl
set_option maxRecDepth 100000 in
theorem tw_40 : (.instanceMethod y_Rv_flowIn) ∈ TB := tw_f (tw_t2 (List.mem_of_getElem? (i := 36) rfl)) rfl
set_option maxRecDepth 100000 in
theorem tw_41 : (.selects R_Rv y_Rv_flowIn y_Rv_flowIn) ∈ TB := tw_f (tw_t2 (List.mem_of_getElem? (i := 37) rfl)) rfl
set_option maxRecDepth 100000 in
theorem tw_42 : (.fieldLink R_WM 155 "WaterMen" "now" "I") ∈ TB := tw_f (tw_t1 (List.mem_of_getElem? (i := 204) rfl)) rfl
set_option maxRecDepth 100000 in
theorem tw_43 : (.code y_WM_today b_WM_today 1 (some .int)) ∈ TB := tw_f (tw_t2 (List.mem_of_getElem? (i := 50) rfl)) rfl
set_option maxRecDepth 100000 in
theorem tw_44 : (.methodLink R_WM 97 y_WM_today) ∈ TB := tw_f (tw_t2 (List.mem_of_getElem? (i := 47) rfl)) rfl
set_option maxRecDepth 100000 in
theorem tw_45 : (.instanceMethod y_WM_today) ∈ TB := tw_f (tw_t2 (List.mem_of_getElem? (i := 49) rfl)) rfl
set_option maxRecDepth 100000 in
theorem tw_46 : (.selects R_WM y_WM_today y_WM_today) ∈ TB := tw_f (tw_s1 (List.mem_of_getElem? (i := 0) rfl)) rfl
set_option maxRecDepth 100000 in
theorem tw_47 : (.code y_Rv_isFrozen b_Rv_isFrozen 2 (some .boolean)) ∈ TB := tw_f (tw_t2 (List.mem_of_getElem? (i := 54) rfl)) rfl
set_option maxRecDepth 100000 in
theorem tw_48 : (.methodLink R_WM 100 y_Rv_isFrozen) ∈ TB := tw_f (tw_t2 (List.mem_of_getElem? (i := 51) rfl)) rfl
set_option maxRecDepth 100000 in
theorem tw_49 : (.instanceMethod y_Rv_isFrozen) ∈ TB := tw_f (tw_t2 (List.mem_of_getElem? (i := 52) rfl)) rfl
set_option maxRecDepth 100000 in
theorem tw_50 : (.selects R_Rv y_Rv_isFrozen y_Rv_isFrozen) ∈ TB := tw_f (tw_t2 (List.mem_of_getElem? (i := 53) rfl)) rfl
set_option maxRecDepth 100000 in
theorem tw_51 : (.fieldLink R_WM 103 "WaterMen$River" "frozen" "[Z") ∈ TB := tw_f (tw_t1 (List.mem_of_getElem? (i := 38) rfl)) rfl
set_option maxRecDepth 100000 in
theorem tw_52 : (.fieldLink R_WM 18 "WaterMen" "men" "[LWaterMen$Man;") ∈ TB := tw_f (tw_t1 (List.mem_of_getElem? (i := 195) rfl)) rfl
set_option maxRecDepth 100000 in
theorem tw_53 : (.code y_WM_manAt b_WM_manAt 2 (some (.object "WaterMen$Man"))) ∈ TB := tw_f (tw_t2 (List.mem_of_getElem? (i := 63) rfl)) rfl
set_option maxRecDepth 100000 in
theorem tw_54 : (.methodLink R_WM 107 y_WM_manAt) ∈ TB := tw_f (tw_t2 (List.mem_of_getElem? (i := 60) rfl)) rfl
set_option maxRecDepth 100000 in
theorem tw_55 : (.instanceMethod y_WM_manAt) ∈ TB := tw_f (tw_t2 (List.mem_of_getElem? (i := 62) rfl)) rfl
set_option maxRecDepth 100000 in
theorem tw_56 : (.selects R_WM y_WM_manAt y_WM_manAt) ∈ TB := tw_f (tw_s1 (List.mem_of_getElem? (i := 1) rfl)) rfl
set_option maxRecDepth 100000 in
theorem tw_57 : (.fieldLink R_WM 111 "WaterMen$Man" "state" "I") ∈ TB := tw_f (tw_t1 (List.mem_of_getElem? (i := 165) rfl)) rfl
set_option maxRecDepth 100000 in
theorem tw_58 : (.fieldLink R_WM 170 "WaterMen" "boatCount" "I") ∈ TB := tw_f (tw_t1 (List.mem_of_getElem? (i := 201) rfl)) rfl
set_option maxRecDepth 100000 in
theorem tw_59 : (.fieldLink R_WM 24 "WaterMen" "boats" "[LWaterMen$Boat;") ∈ TB := tw_f (tw_t1 (List.mem_of_getElem? (i := 196) rfl)) rfl
set_option maxRecDepth 100000 in
theorem tw_60 : (.code y_WM_boatAt b_WM_boatAt 2 (some (.object "WaterMen$Boat"))) ∈ TB := tw_f (tw_t2 (List.mem_of_getElem? (i := 181) rfl)) rfl
set_option maxRecDepth 100000 in
theorem tw_61 : (.methodLink R_WM 174 y_WM_boatAt) ∈ TB := tw_f (tw_t2 (List.mem_of_getElem? (i := 178) rfl)) rfl
set_option maxRecDepth 100000 in
theorem tw_62 : (.instanceMethod y_WM_boatAt) ∈ TB := tw_f (tw_t2 (List.mem_of_getElem? (i := 180) rfl)) rfl
set_option maxRecDepth 100000 in
theorem tw_63 : (.selects R_WM y_WM_boatAt y_WM_boatAt) ∈ TB := tw_f (tw_s1 (List.mem_of_getElem? (i := 3) rfl)) rfl
set_option maxRecDepth 100000 in
theorem tw_64 : (.fieldLink R_WM 178 "WaterMen$Boat" "stairs" "I") ∈ TB := tw_f (tw_t2 (List.mem_of_getElem? (i := 152) rfl)) rfl
set_option maxRecDepth 100000 in
theorem tw_65 : (.fieldLink R_WM 181 "WaterMen$Boat" "oars" "I") ∈ TB := tw_f (tw_t2 (List.mem_of_getElem? (i := 150) rfl)) rfl
set_option maxRecDepth 100000 in
theorem tw_66 : (.fieldLink R_WM 184 "WaterMen$Boat" "thereFrom" "I") ∈ TB := tw_f (tw_t2 (List.mem_of_getElem? (i := 154) rfl)) rfl
set_option maxRecDepth 100000 in
theorem tw_67 : (.code y_Bt_stateAt b_Bt_stateAt 2 (some .int)) ∈ TB := tw_f (tw_t2 (List.mem_of_getElem? (i := 185) rfl)) rfl
set_option maxRecDepth 100000 in
theorem tw_68 : (.initialized R_Bt) ∈ TB := tw_f (tw_t1 (List.mem_of_getElem? (i := 10) rfl)) rfl
set_option maxRecDepth 100000 in
theorem tw_69 : (.methodLink R_WM 187 y_Bt_stateAt) ∈ TB := tw_f (tw_t2 (List.mem_of_getElem? (i := 182) rfl)) rfl
set_option maxRecDepth 100000 in
theorem tw_70 : (.instanceMethod y_Bt_stateAt) ∈ TB := tw_f (tw_t2 (List.mem_of_getElem? (i := 183) rfl)) rfl
set_option maxRecDepth 100000 in
theorem tw_71 : (.selects R_Bt y_Bt_stateAt y_Bt_stateAt) ∈ TB := tw_f (tw_t2 (List.mem_of_getElem? (i := 184) rfl)) rfl
set_option maxRecDepth 100000 in
theorem tw_72 : (.fieldLink R_WM 190 "WaterMen$Boat" "rower" "I") ∈ TB := tw_f (tw_t2 (List.mem_of_getElem? (i := 156) rfl)) rfl
set_option maxRecDepth 100000 in
theorem tw_73 : (.fieldLink R_WM 145 "WaterMen$Man" "turnStairs" "I") ∈ TB := tw_f (tw_t1 (List.mem_of_getElem? (i := 168) rfl)) rfl
set_option maxRecDepth 100000 in
theorem tw_74 : (.fieldLink R_WM 43 "WaterMen" "tape" "LWaterMen$Tape;") ∈ TB := tw_f (tw_t1 (List.mem_of_getElem? (i := 199) rfl)) rfl
set_option maxRecDepth 100000 in
theorem tw_75 : (.fieldLink R_WM 207 "WaterMen$Tape" "length" "I") ∈ TB := tw_f (tw_t1 (List.mem_of_getElem? (i := 74) rfl)) rfl
set_option maxRecDepth 100000 in
theorem tw_76 : (.fieldLink R_WM 243 "WaterMen" "tripCount" "I") ∈ TB := tw_f (tw_t1 (List.mem_of_getElem? (i := 203) rfl)) rfl
set_option maxRecDepth 100000 in
theorem tw_77 : (.fieldLink R_WM 36 "WaterMen" "trips" "[LWaterMen$Trip;") ∈ TB := tw_f (tw_t1 (List.mem_of_getElem? (i := 198) rfl)) rfl
set_option maxRecDepth 100000 in
theorem tw_78 : (.code y_WM_tripAt b_WM_tripAt 2 (some (.object "WaterMen$Trip"))) ∈ TB := tw_f (tw_t4 (List.mem_of_getElem? (i := 32) rfl)) rfl
set_option maxRecDepth 100000 in
theorem tw_79 : (.methodLink R_WM 293 y_WM_tripAt) ∈ TB := tw_f (tw_t4 (List.mem_of_getElem? (i := 29) rfl)) rfl
set_option maxRecDepth 100000 in
theorem tw_80 : (.instanceMethod y_WM_tripAt) ∈ TB := tw_f (tw_t4 (List.mem_of_getElem? (i := 31) rfl)) rfl
set_option maxRecDepth 100000 in
theorem tw_81 : (.selects R_WM y_WM_tripAt y_WM_tripAt) ∈ TB := tw_f (tw_s1 (List.mem_of_getElem? (i := 15) rfl)) rfl
set_option maxRecDepth 100000 in
theorem tw_82 : (.fieldLink R_WM 303 "WaterMen$Trip" "boat" "I") ∈ TB := tw_f (tw_t3 (List.mem_of_getElem? (i := 197) rfl)) rfl
set_option maxRecDepth 100000 in
theorem tw_83 : (.fieldLink R_WM 306 "WaterMen$Trip" "man" "I") ∈ TB := tw_f (tw_t3 (List.mem_of_getElem? (i := 200) rfl)) rfl
set_option maxRecDepth 100000 in
theorem tw_84 : (.fieldLink R_WM 247 "WaterMen$Trip" "from" "I") ∈ TB := tw_f (tw_t3 (List.mem_of_getElem? (i := 205) rfl)) rfl
set_option maxRecDepth 100000 in
theorem tw_85 : (.fieldLink R_WM 250 "WaterMen$Trip" "to" "I") ∈ TB := tw_f (tw_t3 (List.mem_of_getElem? (i := 207) rfl)) rfl
set_option maxRecDepth 100000 in
theorem tw_86 : (.fieldLink R_WM 309 "WaterMen$Trip" "start" "I") ∈ TB := tw_f (tw_t3 (List.mem_of_getElem? (i := 202) rfl)) rfl
set_option maxRecDepth 100000 in
theorem tw_87 : (.fieldLink R_WM 257 "WaterMen$Trip" "arrival" "I") ∈ TB := tw_f (tw_t3 (List.mem_of_getElem? (i := 209) rfl)) rfl
set_option maxRecDepth 100000 in
theorem tw_88 : (.fieldLink R_WM 312 "WaterMen$Trip" "paid" "I") ∈ TB := tw_f (tw_t3 (List.mem_of_getElem? (i := 204) rfl)) rfl
set_option maxRecDepth 100000 in
theorem tw_89 : (.fieldLink R_WM 297 "WaterMen$Trip" "sank" "Z") ∈ TB := tw_f (tw_t3 (List.mem_of_getElem? (i := 210) rfl)) rfl
set_option maxRecDepth 100000 in
theorem tw_90 : (.fieldLink R_WM 50 "WaterMen" "box" "LWaterMen$Box;") ∈ TB := tw_f (tw_t1 (List.mem_of_getElem? (i := 200) rfl)) rfl
set_option maxRecDepth 100000 in
theorem tw_91 : (.fieldLink R_Bx 29 "WaterMen$Box" "pensionerCount" "I") ∈ TB := tw_f (tw_t1 (List.mem_of_getElem? (i := 109) rfl)) rfl
set_option maxRecDepth 100000 in
theorem tw_92 : (.fieldLink R_Bx 17 "WaterMen$Box" "pensioners" "[LWaterMen$Pensioner;") ∈ TB := tw_f (tw_t1 (List.mem_of_getElem? (i := 108) rfl)) rfl
set_option maxRecDepth 100000 in
theorem tw_93 : (.code y_Bx_pensionerAt b_Bx_pensionerAt 2 (some (.object "WaterMen$Pensioner"))) ∈ TB := tw_f (tw_t4 (List.mem_of_getElem? (i := 21) rfl)) rfl
set_option maxRecDepth 100000 in
theorem tw_94 : (.initialized R_Bx) ∈ TB := tw_f (tw_t1 (List.mem_of_getElem? (i := 4) rfl)) rfl
set_option maxRecDepth 100000 in
theorem tw_95 : (.methodLink R_WM 325 y_Bx_pensionerAt) ∈ TB := tw_f (tw_t4 (List.mem_of_getElem? (i := 98) rfl)) rfl
set_option maxRecDepth 100000 in
theorem tw_96 : (.instanceMethod y_Bx_pensionerAt) ∈ TB := tw_f (tw_t4 (List.mem_of_getElem? (i := 19) rfl)) rfl
set_option maxRecDepth 100000 in
theorem tw_97 : (.selects R_Bx y_Bx_pensionerAt y_Bx_pensionerAt) ∈ TB := tw_f (tw_t4 (List.mem_of_getElem? (i := 20) rfl)) rfl
set_option maxRecDepth 100000 in
theorem tw_98 : (.fieldLink R_WM 329 "WaterMen$Pensioner" "pension" "I") ∈ TB := tw_f (tw_t4 (List.mem_of_getElem? (i := 44) rfl)) rfl
set_option maxRecDepth 100000 in
theorem tw_99 : (.fieldLink R_WM 334 "WaterMen$Pensioner" "end" "I") ∈ TB := tw_f (tw_t4 (List.mem_of_getElem? (i := 47) rfl)) rfl
set_option maxRecDepth 100000 in
theorem tw_100 : (.fieldLink R_WM 337 "WaterMen$Pensioner" "got" "I") ∈ TB := tw_f (tw_t4 (List.mem_of_getElem? (i := 49) rfl)) rfl
