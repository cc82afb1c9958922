set_option maxRecDepth 100000 in
theorem tw_0 : (.fieldLink R_Md 7 "WaterMenModel" "time" "I") ∈ TB := tw_f (tw_t4 (List.mem_of_getElem? (i := 163) rfl)) rfl
set_option maxRecDepth 100000 in
theorem tw_1 : (.fieldLink R_Md 14 "WaterMenModel" "stairs" "I") ∈ TB := tw_f (tw_t4 (List.mem_of_getElem? (i := 164) rfl)) rfl
set_option maxRecDepth 100000 in
theorem tw_2 : (.code y_Md_in b_Md_in 3 (some .boolean)) ∈ TB := tw_f (tw_t4 (List.mem_of_getElem? (i := 121) rfl)) rfl
set_option maxRecDepth 100000 in
theorem tw_3 : (.initialized R_Md) ∈ TB := tw_f (tw_t1 (List.mem_of_getElem? (i := 7) rfl)) rfl
set_option maxRecDepth 100000 in
theorem tw_4 : (.methodLink R_Md 10 y_Md_in) ∈ TB := tw_f (tw_t4 (List.mem_of_getElem? (i := 119) rfl)) rfl
set_option maxRecDepth 100000 in
theorem tw_5 : (.static y_Md_in) ∈ TB := tw_f (tw_t4 (List.mem_of_getElem? (i := 120) rfl)) rfl
set_option maxRecDepth 100000 in
theorem tw_6 : (.fieldLink R_Md 25 "WaterMenModel" "table" "[I") ∈ TB := tw_f (tw_t4 (List.mem_of_getElem? (i := 167) rfl)) rfl
set_option maxRecDepth 100000 in
theorem tw_7 : (.fieldLink R_Md 17 "WaterMenModel" "hasRow" "[Z") ∈ TB := tw_f (tw_t4 (List.mem_of_getElem? (i := 168) rfl)) rfl
set_option maxRecDepth 100000 in
theorem tw_8 : (.fieldLink R_Md 21 "WaterMenModel" "rows" "[I") ∈ TB := tw_f (tw_t4 (List.mem_of_getElem? (i := 169) rfl)) rfl
set_option maxRecDepth 100000 in
theorem tw_9 : (.code y_Md_levelOf b_Md_levelOf 3 (some .int)) ∈ TB := tw_f (tw_t4 (List.mem_of_getElem? (i := 149) rfl)) rfl
set_option maxRecDepth 100000 in
theorem tw_10 : (.methodLink R_Md 28 y_Md_levelOf) ∈ TB := tw_f (tw_t4 (List.mem_of_getElem? (i := 146) rfl)) rfl
set_option maxRecDepth 100000 in
theorem tw_11 : (.instanceMethod y_Md_levelOf) ∈ TB := tw_f (tw_t4 (List.mem_of_getElem? (i := 148) rfl)) rfl
set_option maxRecDepth 100000 in
theorem tw_12 : (.selects R_Md y_Md_levelOf y_Md_levelOf) ∈ TB := tw_f (tw_s2 (List.mem_of_getElem? (i := 5) rfl)) rfl
set_option maxRecDepth 100000 in
theorem tw_13 : (.fieldLink R_Md 32 "WaterMenModel" "miles" "[I") ∈ TB := tw_f (tw_t4 (List.mem_of_getElem? (i := 165) rfl)) rfl
set_option maxRecDepth 100000 in
theorem tw_14 : (.fieldLink R_Md 35 "WaterMenModel" "bridge" "I") ∈ TB := tw_f (tw_t4 (List.mem_of_getElem? (i := 166) rfl)) rfl
set_option maxRecDepth 100000 in
theorem tw_15 : (.code y_Md_isDay b_Md_isDay 1 (some .boolean)) ∈ TB := tw_f (tw_t4 (List.mem_of_getElem? (i := 132) rfl)) rfl
set_option maxRecDepth 100000 in
theorem tw_16 : (.methodLink R_Md 38 y_Md_isDay) ∈ TB := tw_f (tw_t4 (List.mem_of_getElem? (i := 130) rfl)) rfl
set_option maxRecDepth 100000 in
theorem tw_17 : (.static y_Md_isDay) ∈ TB := tw_f (tw_t4 (List.mem_of_getElem? (i := 131) rfl)) rfl
set_option maxRecDepth 100000 in
theorem tw_18 : (.code y_Md_flowOf b_Md_flowOf 3 (some .int)) ∈ TB := tw_f (tw_t4 (List.mem_of_getElem? (i := 145) rfl)) rfl
set_option maxRecDepth 100000 in
theorem tw_19 : (.methodLink R_Md 42 y_Md_flowOf) ∈ TB := tw_f (tw_t4 (List.mem_of_getElem? (i := 141) rfl)) rfl
set_option maxRecDepth 100000 in
theorem tw_20 : (.instanceMethod y_Md_flowOf) ∈ TB := tw_f (tw_t4 (List.mem_of_getElem? (i := 143) rfl)) rfl
set_option maxRecDepth 100000 in
theorem tw_21 : (.selects R_Md y_Md_flowOf y_Md_flowOf) ∈ TB := tw_f (tw_s2 (List.mem_of_getElem? (i := 4) rfl)) rfl
set_option maxRecDepth 100000 in
theorem tw_22 : (.code y_Md_today b_Md_today 1 (some .int)) ∈ TB := tw_f (tw_t4 (List.mem_of_getElem? (i := 157) rfl)) rfl
set_option maxRecDepth 100000 in
theorem tw_23 : (.methodLink R_Md 45 y_Md_today) ∈ TB := tw_f (tw_t4 (List.mem_of_getElem? (i := 154) rfl)) rfl
set_option maxRecDepth 100000 in
theorem tw_24 : (.instanceMethod y_Md_today) ∈ TB := tw_f (tw_t4 (List.mem_of_getElem? (i := 156) rfl)) rfl
set_option maxRecDepth 100000 in
theorem tw_25 : (.selects R_Md y_Md_today y_Md_today) ∈ TB := tw_f (tw_s2 (List.mem_of_getElem? (i := 6) rfl)) rfl
set_option maxRecDepth 100000 in
theorem tw_26 : (.fieldLink R_Md 49 "WaterMenModel" "frosts" "[Z") ∈ TB := tw_f (tw_t4 (List.mem_of_getElem? (i := 170) rfl)) rfl
set_option maxRecDepth 100000 in
theorem tw_27 : (.code y_Md_isMan b_Md_isMan 1 (some .boolean)) ∈ TB := tw_f (tw_t5 (List.mem_of_getElem? (i := 122) rfl)) rfl
set_option maxRecDepth 100000 in
theorem tw_28 : (.methodLink R_Md 186 y_Md_isMan) ∈ TB := tw_f (tw_t5 (List.mem_of_getElem? (i := 120) rfl)) rfl
set_option maxRecDepth 100000 in
theorem tw_29 : (.static y_Md_isMan) ∈ TB := tw_f (tw_t5 (List.mem_of_getElem? (i := 121) rfl)) rfl
set_option maxRecDepth 100000 in
theorem tw_30 : (.fieldLink R_Md 58 "WaterMenModel" "state" "[I") ∈ TB := tw_f (tw_t4 (List.mem_of_getElem? (i := 171) rfl)) rfl
set_option maxRecDepth 100000 in
theorem tw_31 : (.fieldLink R_Md 61 "WaterMenModel" "master" "[I") ∈ TB := tw_f (tw_t4 (List.mem_of_getElem? (i := 172) rfl)) rfl
set_option maxRecDepth 100000 in
theorem tw_32 : (.fieldLink R_Md 64 "WaterMenModel" "boundOn" "[I") ∈ TB := tw_f (tw_t4 (List.mem_of_getElem? (i := 173) rfl)) rfl
set_option maxRecDepth 100000 in
theorem tw_33 : (.fieldLink R_Md 67 "WaterMenModel" "gaps" "[I") ∈ TB := tw_f (tw_t4 (List.mem_of_getElem? (i := 174) rfl)) rfl
set_option maxRecDepth 100000 in
theorem tw_34 : (.fieldLink R_Md 70 "WaterMenModel" "gapFrom" "[I") ∈ TB := tw_f (tw_t4 (List.mem_of_getElem? (i := 175) rfl)) rfl
set_option maxRecDepth 100000 in
theorem tw_35 : (.fieldLink R_Md 88 "WaterMenModel" "turns" "[I") ∈ TB := tw_f (tw_t4 (List.mem_of_getElem? (i := 181) rfl)) rfl
set_option maxRecDepth 100000 in
theorem tw_36 : (.fieldLink R_Md 91 "WaterMenModel" "turn" "[I") ∈ TB := tw_f (tw_t4 (List.mem_of_getElem? (i := 182) rfl)) rfl
set_option maxRecDepth 100000 in
theorem tw_37 : (.code y_Md_isStairs b_Md_isStairs 2 (some .boolean)) ∈ TB := tw_f (tw_t5 (List.mem_of_getElem? (i := 162) rfl)) rfl
set_option maxRecDepth 100000 in
theorem tw_38 : (.methodLink R_Md 199 y_Md_isStairs) ∈ TB := tw_f (tw_t5 (List.mem_of_getElem? (i := 159) rfl)) rfl
set_option maxRecDepth 100000 in
theorem tw_39 : (.instanceMethod y_Md_isStairs) ∈ TB := tw_f (tw_t5 (List.mem_of_getElem? (i := 161) rfl)) rfl
set_option maxRecDepth 100000 in
theorem tw_40 : (.selects R_Md y_Md_isStairs y_Md_isStairs) ∈ TB := tw_f (tw_s2 (List.mem_of_getElem? (i := 10) rfl)) rfl
set_option maxRecDepth 100000 in
theorem tw_41 : (.fieldLink R_Md 79 "WaterMenModel" "wayOf" "[I") ∈ TB := tw_f (tw_t4 (List.mem_of_getElem? (i := 178) rfl)) rfl
set_option maxRecDepth 100000 in
theorem tw_42 : (.fieldLink R_Md 206 "WaterMenModel" "boats" "I") ∈ TB := tw_f (tw_t4 (List.mem_of_getElem? (i := 183) rfl)) rfl
set_option maxRecDepth 100000 in
theorem tw_43 : (.fieldLink R_Md 94 "WaterMenModel" "boatOars" "[I") ∈ TB := tw_f (tw_t4 (List.mem_of_getElem? (i := 184) rfl)) rfl
set_option maxRecDepth 100000 in
theorem tw_44 : (.fieldLink R_Md 97 "WaterMenModel" "boatAt" "[I") ∈ TB := tw_f (tw_t4 (List.mem_of_getElem? (i := 185) rfl)) rfl
set_option maxRecDepth 100000 in
theorem tw_45 : (.fieldLink R_Md 100 "WaterMenModel" "boatFrom" "[I") ∈ TB := tw_f (tw_t4 (List.mem_of_getElem? (i := 186) rfl)) rfl
set_option maxRecDepth 100000 in
theorem tw_46 : (.fieldLink R_Md 103 "WaterMenModel" "boatTrip" "[I") ∈ TB := tw_f (tw_t4 (List.mem_of_getElem? (i := 187) rfl)) rfl
set_option maxRecDepth 100000 in
theorem tw_47 : (.code y_Md_isBoat b_Md_isBoat 2 (some .boolean)) ∈ TB := tw_f (tw_t5 (List.mem_of_getElem? (i := 182) rfl)) rfl
set_option maxRecDepth 100000 in
theorem tw_48 : (.methodLink R_Md 209 y_Md_isBoat) ∈ TB := tw_f (tw_t5 (List.mem_of_getElem? (i := 179) rfl)) rfl
set_option maxRecDepth 100000 in
theorem tw_49 : (.instanceMethod y_Md_isBoat) ∈ TB := tw_f (tw_t5 (List.mem_of_getElem? (i := 181) rfl)) rfl
set_option maxRecDepth 100000 in
theorem tw_50 : (.selects R_Md y_Md_isBoat y_Md_isBoat) ∈ TB := tw_f (tw_s2 (List.mem_of_getElem? (i := 12) rfl)) rfl
set_option maxRecDepth 100000 in
theorem tw_51 : (.fieldLink R_Md 152 "WaterMenModel" "tripMan" "[I") ∈ TB := tw_f (tw_t4 (List.mem_of_getElem? (i := 211) rfl)) rfl
set_option maxRecDepth 100000 in
theorem tw_52 : (.fieldLink R_Md 212 "WaterMenModel" "taped" "I") ∈ TB := tw_f (tw_t4 (List.mem_of_getElem? (i := 190) rfl)) rfl
set_option maxRecDepth 100000 in
theorem tw_53 : (.fieldLink R_Md 218 "WaterMenModel" "at" "I") ∈ TB := tw_f (tw_t4 (List.mem_of_getElem? (i := 204) rfl)) rfl
set_option maxRecDepth 100000 in
theorem tw_54 : (.fieldLink R_Md 221 "WaterMenModel" "tkAt" "I") ∈ TB := tw_f (tw_t4 (List.mem_of_getElem? (i := 206) rfl)) rfl
set_option maxRecDepth 100000 in
theorem tw_55 : (.fieldLink R_Md 109 "WaterMenModel" "tape" "[B") ∈ TB := tw_f (tw_t4 (List.mem_of_getElem? (i := 189) rfl)) rfl
set_option maxRecDepth 100000 in
theorem tw_56 : (.fieldLink R_Md 224 "WaterMenModel" "tk" "I") ∈ TB := tw_f (tw_t4 (List.mem_of_getElem? (i := 205) rfl)) rfl
set_option maxRecDepth 100000 in
theorem tw_57 : (.fieldLink R_Md 241 "WaterMenModel" "tkNumber" "I") ∈ TB := tw_f (tw_t4 (List.mem_of_getElem? (i := 207) rfl)) rfl
set_option maxRecDepth 100000 in
theorem tw_58 : (.fieldLink R_Md 266 "WaterMenModel" "got" "I") ∈ TB := tw_f (tw_t4 (List.mem_of_getElem? (i := 208) rfl)) rfl
set_option maxRecDepth 100000 in
theorem tw_59 : (.fieldLink R_Md 143 "WaterMenModel" "single" "[I") ∈ TB := tw_f (tw_t4 (List.mem_of_getElem? (i := 202) rfl)) rfl
set_option maxRecDepth 100000 in
theorem tw_60 : (.fieldLink R_Md 275 "WaterMenModel" "orders" "I") ∈ TB := tw_f (tw_t4 (List.mem_of_getElem? (i := 191) rfl)) rfl
set_option maxRecDepth 100000 in
theorem tw_61 : (.fieldLink R_Md 119 "WaterMenModel" "fares" "[I") ∈ TB := tw_f (tw_t4 (List.mem_of_getElem? (i := 194) rfl)) rfl
set_option maxRecDepth 100000 in
theorem tw_62 : (.fieldLink R_Md 131 "WaterMenModel" "hours" "[I") ∈ TB := tw_f (tw_t4 (List.mem_of_getElem? (i := 198) rfl)) rfl
set_option maxRecDepth 100000 in
theorem tw_63 : (.fieldLink R_Md 116 "WaterMenModel" "orderMade" "[I") ∈ TB := tw_f (tw_t4 (List.mem_of_getElem? (i := 193) rfl)) rfl
set_option maxRecDepth 100000 in
theorem tw_64 : (.fieldLink R_Md 113 "WaterMenModel" "orderFrom" "[I") ∈ TB := tw_f (tw_t4 (List.mem_of_getElem? (i := 192) rfl)) rfl
set_option maxRecDepth 100000 in
theorem tw_65 : (.fieldLink R_Md 106 "WaterMenModel" "sunk" "[Z") ∈ TB := tw_f (tw_t4 (List.mem_of_getElem? (i := 188) rfl)) rfl
set_option maxRecDepth 100000 in
theorem tw_66 : (.code y_Md_isAsked b_Md_isAsked 4 (some .boolean)) ∈ TB := tw_f (tw_t6 (List.mem_of_getElem? (i := 26) rfl)) rfl
set_option maxRecDepth 100000 in
theorem tw_67 : (.methodLink R_Md 306 y_Md_isAsked) ∈ TB := tw_f (tw_t6 (List.mem_of_getElem? (i := 23) rfl)) rfl
set_option maxRecDepth 100000 in
theorem tw_68 : (.instanceMethod y_Md_isAsked) ∈ TB := tw_f (tw_t6 (List.mem_of_getElem? (i := 25) rfl)) rfl
set_option maxRecDepth 100000 in
theorem tw_69 : (.selects R_Md y_Md_isAsked y_Md_isAsked) ∈ TB := tw_f (tw_s3 (List.mem_of_getElem? (i := 4) rfl)) rfl
set_option maxRecDepth 100000 in
theorem tw_70 : (.constant R_Md 288 1000000) ∈ TB := tw_f (tw_t6 (List.mem_of_getElem? (i := 18) rfl)) rfl
set_option maxRecDepth 100000 in
theorem tw_71 : (.fieldLink R_Md 164 "WaterMenModel" "tripThere" "[I") ∈ TB := tw_f (tw_t4 (List.mem_of_getElem? (i := 215) rfl)) rfl
set_option maxRecDepth 100000 in
theorem tw_72 : (.fieldLink R_Md 85 "WaterMenModel" "shares" "[Z") ∈ TB := tw_f (tw_t4 (List.mem_of_getElem? (i := 180) rfl)) rfl
set_option maxRecDepth 100000 in
theorem tw_73 : (.fieldLink R_Md 316 "WaterMenModel" "box" "J") ∈ TB := tw_f (tw_t4 (List.mem_of_getElem? (i := 218) rfl)) rfl
set_option maxRecDepth 100000 in
theorem tw_74 : (.fieldLink R_Md 320 "WaterMenModel" "pot" "J") ∈ TB := tw_f (tw_t4 (List.mem_of_getElem? (i := 219) rfl)) rfl
set_option maxRecDepth 100000 in
theorem tw_75 : (.fieldLink R_Md 173 "WaterMenModel" "boxIn" "[J") ∈ TB := tw_f (tw_t4 (List.mem_of_getElem? (i := 221) rfl)) rfl
set_option maxRecDepth 100000 in
theorem tw_76 : (.fieldLink R_Md 323 "WaterMenModel" "pensioners" "I") ∈ TB := tw_f (tw_t4 (List.mem_of_getElem? (i := 222) rfl)) rfl
set_option maxRecDepth 100000 in
theorem tw_77 : (.fieldLink R_Md 180 "WaterMenModel" "pensionEnd" "[I") ∈ TB := tw_f (tw_t4 (List.mem_of_getElem? (i := 224) rfl)) rfl
set_option maxRecDepth 100000 in
theorem tw_78 : (.fieldLink R_Md 177 "WaterMenModel" "pensionOf" "[I") ∈ TB := tw_f (tw_t4 (List.mem_of_getElem? (i := 223) rfl)) rfl
set_option maxRecDepth 100000 in
theorem tw_79 : (.constant R_Md 305 359999) ∈ TB := tw_f (tw_t6 (List.mem_of_getElem? (i := 39) rfl)) rfl
set_option maxRecDepth 100000 in
theorem tw_80 : (.code y_Md_isPension b_Md_isPension 2 (some .boolean)) ∈ TB := tw_f (tw_t6 (List.mem_of_getElem? (i := 66) rfl)) rfl
set_option maxRecDepth 100000 in
theorem tw_81 : (.methodLink R_Md 338 y_Md_isPension) ∈ TB := tw_f (tw_t6 (List.mem_of_getElem? (i := 64) rfl)) rfl
set_option maxRecDepth 100000 in
theorem tw_82 : (.static y_Md_isPension) ∈ TB := tw_f (tw_t6 (List.mem_of_getElem? (i := 65) rfl)) rfl
set_option maxRecDepth 100000 in
theorem tw_83 : (.fieldLink R_Md 170 "WaterMenModel" "sank" "[Z") ∈ TB := tw_f (tw_t4 (List.mem_of_getElem? (i := 217) rfl)) rfl
set_option maxRecDepth 100000 in
theorem tw_84 : (.fieldLink R_Md 313 "WaterMenModel" "trips" "I") ∈ TB := tw_f (tw_t4 (List.mem_of_getElem? (i := 209) rfl)) rfl
set_option maxRecDepth 100000 in
theorem tw_85 : (.fieldLink R_Md 149 "WaterMenModel" "tripBoat" "[I") ∈ TB := tw_f (tw_t4 (List.mem_of_getElem? (i := 210) rfl)) rfl
set_option maxRecDepth 100000 in
theorem tw_86 : (.fieldLink R_Md 155 "WaterMenModel" "tripFrom" "[I") ∈ TB := tw_f (tw_t4 (List.mem_of_getElem? (i := 212) rfl)) rfl
set_option maxRecDepth 100000 in
theorem tw_87 : (.fieldLink R_Md 158 "WaterMenModel" "tripTo" "[I") ∈ TB := tw_f (tw_t4 (List.mem_of_getElem? (i := 213) rfl)) rfl
set_option maxRecDepth 100000 in
theorem tw_88 : (.fieldLink R_Md 161 "WaterMenModel" "tripBegin" "[I") ∈ TB := tw_f (tw_t4 (List.mem_of_getElem? (i := 214) rfl)) rfl
set_option maxRecDepth 100000 in
theorem tw_89 : (.fieldLink R_Md 167 "WaterMenModel" "tripPaid" "[I") ∈ TB := tw_f (tw_t4 (List.mem_of_getElem? (i := 216) rfl)) rfl
set_option maxRecDepth 100000 in
theorem tw_90 : (.code y_Md_newPensioner b_Md_newPensioner 3 (some .int)) ∈ TB := tw_f (tw_t6 (List.mem_of_getElem? (i := 70) rfl)) rfl
set_option maxRecDepth 100000 in
theorem tw_91 : (.methodLink R_Md 342 y_Md_newPensioner) ∈ TB := tw_f (tw_t6 (List.mem_of_getElem? (i := 67) rfl)) rfl
set_option maxRecDepth 100000 in
theorem tw_92 : (.instanceMethod y_Md_newPensioner) ∈ TB := tw_f (tw_t6 (List.mem_of_getElem? (i := 69) rfl)) rfl
set_option maxRecDepth 100000 in
theorem tw_93 : (.selects R_Md y_Md_newPensioner y_Md_newPensioner) ∈ TB := tw_f (tw_s3 (List.mem_of_getElem? (i := 11) rfl)) rfl
set_option maxRecDepth 100000 in
theorem tw_94 : (.fieldLink R_Md 183 "WaterMenModel" "gotten" "[I") ∈ TB := tw_f (tw_t4 (List.mem_of_getElem? (i := 225) rfl)) rfl
set_option maxRecDepth 100000 in
theorem tw_95 : (.fieldLink R_Md 76 "WaterMenModel" "coins" "[I") ∈ TB := tw_f (tw_t4 (List.mem_of_getElem? (i := 177) rfl)) rfl
set_option maxRecDepth 100000 in
theorem tw_96 : (.code y_Md_four b_Md_four 3 none) ∈ TB := tw_f (tw_t5 (List.mem_of_getElem? (i := 190) rfl)) rfl
set_option maxRecDepth 100000 in
theorem tw_97 : (.methodLink R_Md 215 y_Md_four) ∈ TB := tw_f (tw_t5 (List.mem_of_getElem? (i := 187) rfl)) rfl
set_option maxRecDepth 100000 in
theorem tw_98 : (.instanceMethod y_Md_four) ∈ TB := tw_f (tw_t5 (List.mem_of_getElem? (i := 189) rfl)) rfl
set_option maxRecDepth 100000 in
theorem tw_99 : (.selects R_Md y_Md_four y_Md_four) ∈ TB := tw_f (tw_s2 (List.mem_of_getElem? (i := 13) rfl)) rfl
