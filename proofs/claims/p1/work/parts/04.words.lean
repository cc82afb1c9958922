set_option maxRecDepth 100000 in
theorem tw_0 : (.methodLink R_Md 52 objectInit) ∈ TB := tw_f (tw_t4 (List.mem_of_getElem? (i := 162) rfl)) rfl
set_option maxRecDepth 100000 in
theorem tw_1 : (.instanceMethod objectInit) ∈ TB := tw_f (tw_t1 (List.mem_of_getElem? (i := 23) rfl)) rfl
set_option maxRecDepth 100000 in
theorem tw_2 : (.code objectInit ⟨#[0xb1]⟩ 1 none) ∈ TB := tw_f (tw_t1 (List.mem_of_getElem? (i := 24) rfl)) rfl
set_option maxRecDepth 100000 in
theorem tw_3 : (.arrayClass .int) ∈ TB := tw_f (tw_t1 (List.mem_of_getElem? (i := 56) rfl)) rfl
set_option maxRecDepth 100000 in
theorem tw_4 : (.fieldLink R_Md 32 "WaterMenModel" "miles" "[I") ∈ TB := tw_f (tw_t4 (List.mem_of_getElem? (i := 165) rfl)) rfl
set_option maxRecDepth 100000 in
theorem tw_5 : (.fieldLink R_Md 35 "WaterMenModel" "bridge" "I") ∈ TB := tw_f (tw_t4 (List.mem_of_getElem? (i := 166) rfl)) rfl
set_option maxRecDepth 100000 in
theorem tw_6 : (.fieldLink R_Md 25 "WaterMenModel" "table" "[I") ∈ TB := tw_f (tw_t4 (List.mem_of_getElem? (i := 167) rfl)) rfl
set_option maxRecDepth 100000 in
theorem tw_7 : (.arrayClass .boolean) ∈ TB := tw_f (tw_t1 (List.mem_of_getElem? (i := 57) rfl)) rfl
set_option maxRecDepth 100000 in
theorem tw_8 : (.fieldLink R_Md 17 "WaterMenModel" "hasRow" "[Z") ∈ TB := tw_f (tw_t4 (List.mem_of_getElem? (i := 168) rfl)) rfl
set_option maxRecDepth 100000 in
theorem tw_9 : (.fieldLink R_Md 21 "WaterMenModel" "rows" "[I") ∈ TB := tw_f (tw_t4 (List.mem_of_getElem? (i := 169) rfl)) rfl
set_option maxRecDepth 100000 in
theorem tw_10 : (.fieldLink R_Md 49 "WaterMenModel" "frosts" "[Z") ∈ TB := tw_f (tw_t4 (List.mem_of_getElem? (i := 170) rfl)) rfl
set_option maxRecDepth 100000 in
theorem tw_11 : (.fieldLink R_Md 58 "WaterMenModel" "state" "[I") ∈ TB := tw_f (tw_t4 (List.mem_of_getElem? (i := 171) rfl)) rfl
set_option maxRecDepth 100000 in
theorem tw_12 : (.fieldLink R_Md 61 "WaterMenModel" "master" "[I") ∈ TB := tw_f (tw_t4 (List.mem_of_getElem? (i := 172) rfl)) rfl
set_option maxRecDepth 100000 in
theorem tw_13 : (.fieldLink R_Md 64 "WaterMenModel" "boundOn" "[I") ∈ TB := tw_f (tw_t4 (List.mem_of_getElem? (i := 173) rfl)) rfl
set_option maxRecDepth 100000 in
theorem tw_14 : (.fieldLink R_Md 67 "WaterMenModel" "gaps" "[I") ∈ TB := tw_f (tw_t4 (List.mem_of_getElem? (i := 174) rfl)) rfl
set_option maxRecDepth 100000 in
theorem tw_15 : (.fieldLink R_Md 70 "WaterMenModel" "gapFrom" "[I") ∈ TB := tw_f (tw_t4 (List.mem_of_getElem? (i := 175) rfl)) rfl
set_option maxRecDepth 100000 in
theorem tw_16 : (.fieldLink R_Md 73 "WaterMenModel" "gapTo" "[I") ∈ TB := tw_f (tw_t4 (List.mem_of_getElem? (i := 176) rfl)) rfl
set_option maxRecDepth 100000 in
theorem tw_17 : (.fieldLink R_Md 76 "WaterMenModel" "coins" "[I") ∈ TB := tw_f (tw_t4 (List.mem_of_getElem? (i := 177) rfl)) rfl
set_option maxRecDepth 100000 in
theorem tw_18 : (.fieldLink R_Md 79 "WaterMenModel" "wayOf" "[I") ∈ TB := tw_f (tw_t4 (List.mem_of_getElem? (i := 178) rfl)) rfl
set_option maxRecDepth 100000 in
theorem tw_19 : (.fieldLink R_Md 82 "WaterMenModel" "tripsOf" "[I") ∈ TB := tw_f (tw_t4 (List.mem_of_getElem? (i := 179) rfl)) rfl
set_option maxRecDepth 100000 in
theorem tw_20 : (.fieldLink R_Md 85 "WaterMenModel" "shares" "[Z") ∈ TB := tw_f (tw_t4 (List.mem_of_getElem? (i := 180) rfl)) rfl
set_option maxRecDepth 100000 in
theorem tw_21 : (.fieldLink R_Md 88 "WaterMenModel" "turns" "[I") ∈ TB := tw_f (tw_t4 (List.mem_of_getElem? (i := 181) rfl)) rfl
set_option maxRecDepth 100000 in
theorem tw_22 : (.fieldLink R_Md 91 "WaterMenModel" "turn" "[I") ∈ TB := tw_f (tw_t4 (List.mem_of_getElem? (i := 182) rfl)) rfl
set_option maxRecDepth 100000 in
theorem tw_23 : (.fieldLink R_Md 94 "WaterMenModel" "boatOars" "[I") ∈ TB := tw_f (tw_t4 (List.mem_of_getElem? (i := 184) rfl)) rfl
set_option maxRecDepth 100000 in
theorem tw_24 : (.fieldLink R_Md 97 "WaterMenModel" "boatAt" "[I") ∈ TB := tw_f (tw_t4 (List.mem_of_getElem? (i := 185) rfl)) rfl
set_option maxRecDepth 100000 in
theorem tw_25 : (.fieldLink R_Md 100 "WaterMenModel" "boatFrom" "[I") ∈ TB := tw_f (tw_t4 (List.mem_of_getElem? (i := 186) rfl)) rfl
set_option maxRecDepth 100000 in
theorem tw_26 : (.fieldLink R_Md 103 "WaterMenModel" "boatTrip" "[I") ∈ TB := tw_f (tw_t4 (List.mem_of_getElem? (i := 187) rfl)) rfl
set_option maxRecDepth 100000 in
theorem tw_27 : (.fieldLink R_Md 106 "WaterMenModel" "sunk" "[Z") ∈ TB := tw_f (tw_t4 (List.mem_of_getElem? (i := 188) rfl)) rfl
set_option maxRecDepth 100000 in
theorem tw_28 : (.arrayClass .byte) ∈ TB := tw_f (tw_t1 (List.mem_of_getElem? (i := 92) rfl)) rfl
set_option maxRecDepth 100000 in
theorem tw_29 : (.fieldLink R_Md 109 "WaterMenModel" "tape" "[B") ∈ TB := tw_f (tw_t4 (List.mem_of_getElem? (i := 189) rfl)) rfl
set_option maxRecDepth 100000 in
theorem tw_30 : (.fieldLink R_Md 113 "WaterMenModel" "orderFrom" "[I") ∈ TB := tw_f (tw_t4 (List.mem_of_getElem? (i := 192) rfl)) rfl
set_option maxRecDepth 100000 in
theorem tw_31 : (.fieldLink R_Md 116 "WaterMenModel" "orderMade" "[I") ∈ TB := tw_f (tw_t4 (List.mem_of_getElem? (i := 193) rfl)) rfl
set_option maxRecDepth 100000 in
theorem tw_32 : (.fieldLink R_Md 119 "WaterMenModel" "fares" "[I") ∈ TB := tw_f (tw_t4 (List.mem_of_getElem? (i := 194) rfl)) rfl
set_option maxRecDepth 100000 in
theorem tw_33 : (.fieldLink R_Md 122 "WaterMenModel" "fareLow" "[I") ∈ TB := tw_f (tw_t4 (List.mem_of_getElem? (i := 195) rfl)) rfl
set_option maxRecDepth 100000 in
theorem tw_34 : (.fieldLink R_Md 125 "WaterMenModel" "fareHigh" "[I") ∈ TB := tw_f (tw_t4 (List.mem_of_getElem? (i := 196) rfl)) rfl
set_option maxRecDepth 100000 in
theorem tw_35 : (.fieldLink R_Md 128 "WaterMenModel" "fareIs" "[I") ∈ TB := tw_f (tw_t4 (List.mem_of_getElem? (i := 197) rfl)) rfl
set_option maxRecDepth 100000 in
theorem tw_36 : (.fieldLink R_Md 131 "WaterMenModel" "hours" "[I") ∈ TB := tw_f (tw_t4 (List.mem_of_getElem? (i := 198) rfl)) rfl
set_option maxRecDepth 100000 in
theorem tw_37 : (.fieldLink R_Md 134 "WaterMenModel" "hourLow" "[I") ∈ TB := tw_f (tw_t4 (List.mem_of_getElem? (i := 199) rfl)) rfl
set_option maxRecDepth 100000 in
theorem tw_38 : (.fieldLink R_Md 137 "WaterMenModel" "hourHigh" "[I") ∈ TB := tw_f (tw_t4 (List.mem_of_getElem? (i := 200) rfl)) rfl
set_option maxRecDepth 100000 in
theorem tw_39 : (.fieldLink R_Md 140 "WaterMenModel" "hourIs" "[I") ∈ TB := tw_f (tw_t4 (List.mem_of_getElem? (i := 201) rfl)) rfl
set_option maxRecDepth 100000 in
theorem tw_40 : (.fieldLink R_Md 143 "WaterMenModel" "single" "[I") ∈ TB := tw_f (tw_t4 (List.mem_of_getElem? (i := 202) rfl)) rfl
set_option maxRecDepth 100000 in
theorem tw_41 : (.fieldLink R_Md 146 "WaterMenModel" "singleTo" "[I") ∈ TB := tw_f (tw_t4 (List.mem_of_getElem? (i := 203) rfl)) rfl
set_option maxRecDepth 100000 in
theorem tw_42 : (.fieldLink R_Md 149 "WaterMenModel" "tripBoat" "[I") ∈ TB := tw_f (tw_t4 (List.mem_of_getElem? (i := 210) rfl)) rfl
set_option maxRecDepth 100000 in
theorem tw_43 : (.fieldLink R_Md 152 "WaterMenModel" "tripMan" "[I") ∈ TB := tw_f (tw_t4 (List.mem_of_getElem? (i := 211) rfl)) rfl
set_option maxRecDepth 100000 in
theorem tw_44 : (.fieldLink R_Md 155 "WaterMenModel" "tripFrom" "[I") ∈ TB := tw_f (tw_t4 (List.mem_of_getElem? (i := 212) rfl)) rfl
set_option maxRecDepth 100000 in
theorem tw_45 : (.fieldLink R_Md 158 "WaterMenModel" "tripTo" "[I") ∈ TB := tw_f (tw_t4 (List.mem_of_getElem? (i := 213) rfl)) rfl
set_option maxRecDepth 100000 in
theorem tw_46 : (.fieldLink R_Md 161 "WaterMenModel" "tripBegin" "[I") ∈ TB := tw_f (tw_t4 (List.mem_of_getElem? (i := 214) rfl)) rfl
set_option maxRecDepth 100000 in
theorem tw_47 : (.fieldLink R_Md 164 "WaterMenModel" "tripThere" "[I") ∈ TB := tw_f (tw_t4 (List.mem_of_getElem? (i := 215) rfl)) rfl
set_option maxRecDepth 100000 in
theorem tw_48 : (.fieldLink R_Md 167 "WaterMenModel" "tripPaid" "[I") ∈ TB := tw_f (tw_t4 (List.mem_of_getElem? (i := 216) rfl)) rfl
set_option maxRecDepth 100000 in
theorem tw_49 : (.fieldLink R_Md 170 "WaterMenModel" "sank" "[Z") ∈ TB := tw_f (tw_t4 (List.mem_of_getElem? (i := 217) rfl)) rfl
set_option maxRecDepth 100000 in
theorem tw_50 : (.arrayClass .long) ∈ TB := tw_f (tw_t5 (List.mem_of_getElem? (i := 115) rfl)) rfl
set_option maxRecDepth 100000 in
theorem tw_51 : (.fieldLink R_Md 173 "WaterMenModel" "boxIn" "[J") ∈ TB := tw_f (tw_t4 (List.mem_of_getElem? (i := 221) rfl)) rfl
set_option maxRecDepth 100000 in
theorem tw_52 : (.fieldLink R_Md 177 "WaterMenModel" "pensionOf" "[I") ∈ TB := tw_f (tw_t4 (List.mem_of_getElem? (i := 223) rfl)) rfl
set_option maxRecDepth 100000 in
theorem tw_53 : (.fieldLink R_Md 180 "WaterMenModel" "pensionEnd" "[I") ∈ TB := tw_f (tw_t4 (List.mem_of_getElem? (i := 224) rfl)) rfl
set_option maxRecDepth 100000 in
theorem tw_54 : (.fieldLink R_Md 183 "WaterMenModel" "gotten" "[I") ∈ TB := tw_f (tw_t4 (List.mem_of_getElem? (i := 225) rfl)) rfl
set_option maxRecDepth 100000 in
theorem tw_55 : (.methodLink R_WM 3 objectInit) ∈ TB := tw_f (tw_t1 (List.mem_of_getElem? (i := 22) rfl)) rfl
set_option maxRecDepth 100000 in
theorem tw_56 : (.classLink R_WM 9 R_Rv) ∈ TB := tw_f (tw_t1 (List.mem_of_getElem? (i := 25) rfl)) rfl
set_option maxRecDepth 100000 in
theorem tw_57 : (.instantiable R_Rv 6) ∈ TB := tw_f (tw_t1 (List.mem_of_getElem? (i := 26) rfl)) rfl
set_option maxRecDepth 100000 in
theorem tw_58 : (.initialized R_Rv) ∈ TB := tw_f (tw_t1 (List.mem_of_getElem? (i := 2) rfl)) rfl
set_option maxRecDepth 100000 in
theorem tw_59 : (.methodLink R_Rv 3 objectInit) ∈ TB := tw_f (tw_t1 (List.mem_of_getElem? (i := 30) rfl)) rfl
set_option maxRecDepth 100000 in
theorem tw_60 : (.fieldLink R_Rv 9 "WaterMen$River" "milesUp" "[I") ∈ TB := tw_f (tw_t1 (List.mem_of_getElem? (i := 33) rfl)) rfl
set_option maxRecDepth 100000 in
theorem tw_61 : (.fieldLink R_Rv 15 "WaterMen$River" "table" "[I") ∈ TB := tw_f (tw_t1 (List.mem_of_getElem? (i := 34) rfl)) rfl
set_option maxRecDepth 100000 in
theorem tw_62 : (.classLink R_Rv 18 "[I") ∈ TB := tw_f (tw_t1 (List.mem_of_getElem? (i := 31) rfl)) rfl
set_option maxRecDepth 100000 in
theorem tw_63 : (.fieldLink R_Rv 19 "WaterMen$River" "rows" "[[I") ∈ TB := tw_f (tw_t1 (List.mem_of_getElem? (i := 36) rfl)) rfl
set_option maxRecDepth 100000 in
theorem tw_64 : (.fieldLink R_Rv 23 "WaterMen$River" "frozen" "[Z") ∈ TB := tw_f (tw_t1 (List.mem_of_getElem? (i := 37) rfl)) rfl
set_option maxRecDepth 100000 in
theorem tw_65 : (.fieldLink R_Rv 27 "WaterMen$River" "bridgeAbove" "I") ∈ TB := tw_f (tw_t1 (List.mem_of_getElem? (i := 41) rfl)) rfl
set_option maxRecDepth 100000 in
theorem tw_66 : (.code y_Rv_init b_Rv_init 1 none) ∈ TB := tw_f (tw_t1 (List.mem_of_getElem? (i := 29) rfl)) rfl
set_option maxRecDepth 100000 in
theorem tw_67 : (.instanceMethod y_Rv_init) ∈ TB := tw_f (tw_t1 (List.mem_of_getElem? (i := 28) rfl)) rfl
set_option maxRecDepth 100000 in
theorem tw_68 : (.fieldLink R_WM 12 "WaterMen" "river" "LWaterMen$River;") ∈ TB := tw_f (tw_t1 (List.mem_of_getElem? (i := 194) rfl)) rfl
set_option maxRecDepth 100000 in
theorem tw_69 : (.classLink R_WM 16 R_Mn) ∈ TB := tw_f (tw_t1 (List.mem_of_getElem? (i := 58) rfl)) rfl
set_option maxRecDepth 100000 in
theorem tw_70 : (.fieldLink R_WM 18 "WaterMen" "men" "[LWaterMen$Man;") ∈ TB := tw_f (tw_t1 (List.mem_of_getElem? (i := 195) rfl)) rfl
set_option maxRecDepth 100000 in
theorem tw_71 : (.classLink R_WM 22 R_Bt) ∈ TB := tw_f (tw_t1 (List.mem_of_getElem? (i := 60) rfl)) rfl
set_option maxRecDepth 100000 in
theorem tw_72 : (.fieldLink R_WM 24 "WaterMen" "boats" "[LWaterMen$Boat;") ∈ TB := tw_f (tw_t1 (List.mem_of_getElem? (i := 196) rfl)) rfl
set_option maxRecDepth 100000 in
theorem tw_73 : (.classLink R_WM 28 R_Or) ∈ TB := tw_f (tw_t1 (List.mem_of_getElem? (i := 62) rfl)) rfl
set_option maxRecDepth 100000 in
theorem tw_74 : (.fieldLink R_WM 30 "WaterMen" "orders" "[LWaterMen$Order;") ∈ TB := tw_f (tw_t1 (List.mem_of_getElem? (i := 197) rfl)) rfl
set_option maxRecDepth 100000 in
theorem tw_75 : (.classLink R_WM 34 R_Tr) ∈ TB := tw_f (tw_t1 (List.mem_of_getElem? (i := 64) rfl)) rfl
set_option maxRecDepth 100000 in
theorem tw_76 : (.fieldLink R_WM 36 "WaterMen" "trips" "[LWaterMen$Trip;") ∈ TB := tw_f (tw_t1 (List.mem_of_getElem? (i := 198) rfl)) rfl
set_option maxRecDepth 100000 in
theorem tw_77 : (.classLink R_WM 40 R_Tp) ∈ TB := tw_f (tw_t1 (List.mem_of_getElem? (i := 66) rfl)) rfl
set_option maxRecDepth 100000 in
theorem tw_78 : (.instantiable R_Tp 6) ∈ TB := tw_f (tw_t1 (List.mem_of_getElem? (i := 67) rfl)) rfl
set_option maxRecDepth 100000 in
theorem tw_79 : (.initialized R_Tp) ∈ TB := tw_f (tw_t1 (List.mem_of_getElem? (i := 3) rfl)) rfl
set_option maxRecDepth 100000 in
theorem tw_80 : (.methodLink R_Tp 3 objectInit) ∈ TB := tw_f (tw_t1 (List.mem_of_getElem? (i := 71) rfl)) rfl
set_option maxRecDepth 100000 in
theorem tw_81 : (.fieldLink R_Tp 9 "WaterMen$Tape" "bytes" "[B") ∈ TB := tw_f (tw_t1 (List.mem_of_getElem? (i := 72) rfl)) rfl
set_option maxRecDepth 100000 in
theorem tw_82 : (.code y_Tp_init b_Tp_init 1 none) ∈ TB := tw_f (tw_t1 (List.mem_of_getElem? (i := 70) rfl)) rfl
set_option maxRecDepth 100000 in
theorem tw_83 : (.instanceMethod y_Tp_init) ∈ TB := tw_f (tw_t1 (List.mem_of_getElem? (i := 69) rfl)) rfl
set_option maxRecDepth 100000 in
theorem tw_84 : (.fieldLink R_WM 43 "WaterMen" "tape" "LWaterMen$Tape;") ∈ TB := tw_f (tw_t1 (List.mem_of_getElem? (i := 199) rfl)) rfl
set_option maxRecDepth 100000 in
theorem tw_85 : (.classLink R_WM 47 R_Bx) ∈ TB := tw_f (tw_t1 (List.mem_of_getElem? (i := 93) rfl)) rfl
set_option maxRecDepth 100000 in
theorem tw_86 : (.instantiable R_Bx 7) ∈ TB := tw_f (tw_t1 (List.mem_of_getElem? (i := 94) rfl)) rfl
set_option maxRecDepth 100000 in
theorem tw_87 : (.initialized R_Bx) ∈ TB := tw_f (tw_t1 (List.mem_of_getElem? (i := 4) rfl)) rfl
set_option maxRecDepth 100000 in
theorem tw_88 : (.methodLink R_Bx 3 objectInit) ∈ TB := tw_f (tw_t1 (List.mem_of_getElem? (i := 98) rfl)) rfl
set_option maxRecDepth 100000 in
theorem tw_89 : (.fieldLink R_Bx 9 "WaterMen$Box" "income" "[I") ∈ TB := tw_f (tw_t1 (List.mem_of_getElem? (i := 107) rfl)) rfl
set_option maxRecDepth 100000 in
theorem tw_90 : (.classLink R_Bx 15 R_Pn) ∈ TB := tw_f (tw_t1 (List.mem_of_getElem? (i := 99) rfl)) rfl
set_option maxRecDepth 100000 in
theorem tw_91 : (.fieldLink R_Bx 17 "WaterMen$Box" "pensioners" "[LWaterMen$Pensioner;") ∈ TB := tw_f (tw_t1 (List.mem_of_getElem? (i := 108) rfl)) rfl
set_option maxRecDepth 100000 in
theorem tw_92 : (.code y_Bx_init b_Bx_init 1 none) ∈ TB := tw_f (tw_t1 (List.mem_of_getElem? (i := 97) rfl)) rfl
set_option maxRecDepth 100000 in
theorem tw_93 : (.instanceMethod y_Bx_init) ∈ TB := tw_f (tw_t1 (List.mem_of_getElem? (i := 96) rfl)) rfl
set_option maxRecDepth 100000 in
theorem tw_94 : (.fieldLink R_WM 50 "WaterMen" "box" "LWaterMen$Box;") ∈ TB := tw_f (tw_t1 (List.mem_of_getElem? (i := 200) rfl)) rfl
set_option maxRecDepth 100000 in
theorem tw_95 : (.instantiable R_Or 9) ∈ TB := tw_f (tw_t1 (List.mem_of_getElem? (i := 126) rfl)) rfl
set_option maxRecDepth 100000 in
theorem tw_96 : (.initialized R_Or) ∈ TB := tw_f (tw_t1 (List.mem_of_getElem? (i := 5) rfl)) rfl
set_option maxRecDepth 100000 in
theorem tw_97 : (.methodLink R_Or 3 objectInit) ∈ TB := tw_f (tw_t1 (List.mem_of_getElem? (i := 130) rfl)) rfl
set_option maxRecDepth 100000 in
theorem tw_98 : (.fieldLink R_Or 9 "WaterMen$Order" "fares" "[I") ∈ TB := tw_f (tw_t1 (List.mem_of_getElem? (i := 133) rfl)) rfl
set_option maxRecDepth 100000 in
theorem tw_99 : (.fieldLink R_Or 15 "WaterMen$Order" "hours" "[I") ∈ TB := tw_f (tw_t1 (List.mem_of_getElem? (i := 134) rfl)) rfl
set_option maxRecDepth 100000 in
theorem tw_100 : (.fieldLink R_Or 20 "WaterMen$Order" "single" "[I") ∈ TB := tw_f (tw_t1 (List.mem_of_getElem? (i := 135) rfl)) rfl
set_option maxRecDepth 100000 in
theorem tw_101 : (.code y_Or_init b_Or_init 1 none) ∈ TB := tw_f (tw_t1 (List.mem_of_getElem? (i := 129) rfl)) rfl
set_option maxRecDepth 100000 in
theorem tw_102 : (.instanceMethod y_Or_init) ∈ TB := tw_f (tw_t1 (List.mem_of_getElem? (i := 128) rfl)) rfl
set_option maxRecDepth 100000 in
theorem tw_103 : (.fieldLink R_WM 55 "WaterMen" "draft" "LWaterMen$Order;") ∈ TB := tw_f (tw_t1 (List.mem_of_getElem? (i := 206) rfl)) rfl
set_option maxRecDepth 100000 in
theorem tw_104 : (.instantiable R_Mn 8) ∈ TB := tw_f (tw_t1 (List.mem_of_getElem? (i := 159) rfl)) rfl
set_option maxRecDepth 100000 in
theorem tw_105 : (.initialized R_Mn) ∈ TB := tw_f (tw_t1 (List.mem_of_getElem? (i := 6) rfl)) rfl
set_option maxRecDepth 100000 in
theorem tw_106 : (.methodLink R_Mn 3 objectInit) ∈ TB := tw_f (tw_t1 (List.mem_of_getElem? (i := 163) rfl)) rfl
set_option maxRecDepth 100000 in
theorem tw_107 : (.fieldLink R_Mn 9 "WaterMen$Man" "state" "I") ∈ TB := tw_f (tw_t1 (List.mem_of_getElem? (i := 164) rfl)) rfl
set_option maxRecDepth 100000 in
theorem tw_108 : (.fieldLink R_Mn 15 "WaterMen$Man" "turnStairs" "I") ∈ TB := tw_f (tw_t1 (List.mem_of_getElem? (i := 167) rfl)) rfl
set_option maxRecDepth 100000 in
theorem tw_109 : (.fieldLink R_Mn 18 "WaterMen$Man" "lastSunday" "I") ∈ TB := tw_f (tw_t1 (List.mem_of_getElem? (i := 175) rfl)) rfl
set_option maxRecDepth 100000 in
theorem tw_110 : (.code y_Mn_init b_Mn_init 1 none) ∈ TB := tw_f (tw_t1 (List.mem_of_getElem? (i := 162) rfl)) rfl
set_option maxRecDepth 100000 in
theorem tw_111 : (.instanceMethod y_Mn_init) ∈ TB := tw_f (tw_t1 (List.mem_of_getElem? (i := 161) rfl)) rfl
set_option maxRecDepth 100000 in
theorem tw_112 : (.fieldLink R_Rv 35 "WaterMen$River" "stairCount" "I") ∈ TB := tw_f (tw_t1 (List.mem_of_getElem? (i := 40) rfl)) rfl
set_option maxRecDepth 100000 in
theorem tw_113 : (.code y_Rv_highest b_Rv_highest 1 (some .int)) ∈ TB := tw_f (tw_t2 (List.mem_of_getElem? (i := 1) rfl)) rfl
set_option maxRecDepth 100000 in
theorem tw_114 : (.methodLink R_WM 60 y_Rv_highest) ∈ TB := tw_f (tw_t1 (List.mem_of_getElem? (i := 238) rfl)) rfl
set_option maxRecDepth 100000 in
theorem tw_115 : (.instanceMethod y_Rv_highest) ∈ TB := tw_f (tw_t1 (List.mem_of_getElem? (i := 239) rfl)) rfl
set_option maxRecDepth 100000 in
theorem tw_116 : (.selects R_Rv y_Rv_highest y_Rv_highest) ∈ TB := tw_f (tw_t2 (List.mem_of_getElem? (i := 0) rfl)) rfl
set_option maxRecDepth 100000 in
theorem tw_117 : (.fieldLink R_WM 64 "WaterMen$River" "stairCount" "I") ∈ TB := tw_f (tw_t1 (List.mem_of_getElem? (i := 39) rfl)) rfl
set_option maxRecDepth 100000 in
theorem tw_118 : (.code y_Rv_addStairs b_Rv_addStairs 2 (some .int)) ∈ TB := tw_f (tw_t2 (List.mem_of_getElem? (i := 5) rfl)) rfl
set_option maxRecDepth 100000 in
theorem tw_119 : (.methodLink R_WM 68 y_Rv_addStairs) ∈ TB := tw_f (tw_t2 (List.mem_of_getElem? (i := 2) rfl)) rfl
set_option maxRecDepth 100000 in
theorem tw_120 : (.instanceMethod y_Rv_addStairs) ∈ TB := tw_f (tw_t2 (List.mem_of_getElem? (i := 3) rfl)) rfl
set_option maxRecDepth 100000 in
theorem tw_121 : (.selects R_Rv y_Rv_addStairs y_Rv_addStairs) ∈ TB := tw_f (tw_t2 (List.mem_of_getElem? (i := 4) rfl)) rfl
set_option maxRecDepth 100000 in
theorem tw_122 : (.fieldLink R_WM 72 "WaterMen$River" "bridgeAbove" "I") ∈ TB := tw_f (tw_t1 (List.mem_of_getElem? (i := 42) rfl)) rfl
set_option maxRecDepth 100000 in
theorem tw_123 : (.code y_WM_isDay b_WM_isDay 1 (some .boolean)) ∈ TB := tw_f (tw_t2 (List.mem_of_getElem? (i := 16) rfl)) rfl
set_option maxRecDepth 100000 in
theorem tw_124 : (.initialized R_WM) ∈ TB := tw_f (tw_t1 (List.mem_of_getElem? (i := 1) rfl)) rfl
set_option maxRecDepth 100000 in
theorem tw_125 : (.methodLink R_WM 75 y_WM_isDay) ∈ TB := tw_f (tw_t2 (List.mem_of_getElem? (i := 14) rfl)) rfl
set_option maxRecDepth 100000 in
theorem tw_126 : (.static y_WM_isDay) ∈ TB := tw_f (tw_t2 (List.mem_of_getElem? (i := 15) rfl)) rfl
set_option maxRecDepth 100000 in
theorem tw_127 : (.code y_WM_isHour b_WM_isHour 1 (some .boolean)) ∈ TB := tw_f (tw_t2 (List.mem_of_getElem? (i := 19) rfl)) rfl
set_option maxRecDepth 100000 in
theorem tw_128 : (.methodLink R_WM 79 y_WM_isHour) ∈ TB := tw_f (tw_t2 (List.mem_of_getElem? (i := 17) rfl)) rfl
set_option maxRecDepth 100000 in
theorem tw_129 : (.static y_WM_isHour) ∈ TB := tw_f (tw_t2 (List.mem_of_getElem? (i := 18) rfl)) rfl
set_option maxRecDepth 100000 in
theorem tw_130 : (.code y_WM_isLevel b_WM_isLevel 1 (some .boolean)) ∈ TB := tw_f (tw_t2 (List.mem_of_getElem? (i := 22) rfl)) rfl
set_option maxRecDepth 100000 in
theorem tw_131 : (.methodLink R_WM 82 y_WM_isLevel) ∈ TB := tw_f (tw_t2 (List.mem_of_getElem? (i := 20) rfl)) rfl
set_option maxRecDepth 100000 in
theorem tw_132 : (.static y_WM_isLevel) ∈ TB := tw_f (tw_t2 (List.mem_of_getElem? (i := 21) rfl)) rfl
set_option maxRecDepth 100000 in
theorem tw_133 : (.code y_Rv_tell b_Rv_tell 6 none) ∈ TB := tw_f (tw_t2 (List.mem_of_getElem? (i := 26) rfl)) rfl
set_option maxRecDepth 100000 in
theorem tw_134 : (.methodLink R_WM 85 y_Rv_tell) ∈ TB := tw_f (tw_t2 (List.mem_of_getElem? (i := 23) rfl)) rfl
set_option maxRecDepth 100000 in
theorem tw_135 : (.instanceMethod y_Rv_tell) ∈ TB := tw_f (tw_t2 (List.mem_of_getElem? (i := 24) rfl)) rfl
set_option maxRecDepth 100000 in
theorem tw_136 : (.selects R_Rv y_Rv_tell y_Rv_tell) ∈ TB := tw_f (tw_t2 (List.mem_of_getElem? (i := 25) rfl)) rfl
set_option maxRecDepth 100000 in
theorem tw_137 : (.fieldLink R_WM 89 "WaterMen$River" "table" "[I") ∈ TB := tw_f (tw_t1 (List.mem_of_getElem? (i := 35) rfl)) rfl
set_option maxRecDepth 100000 in
theorem tw_138 : (.code y_Rv_height b_Rv_height 4 (some .int)) ∈ TB := tw_f (tw_t2 (List.mem_of_getElem? (i := 42) rfl)) rfl
set_option maxRecDepth 100000 in
theorem tw_139 : (.methodLink R_Rv 51 y_Rv_height) ∈ TB := tw_f (tw_t2 (List.mem_of_getElem? (i := 39) rfl)) rfl
set_option maxRecDepth 100000 in
theorem tw_140 : (.instanceMethod y_Rv_height) ∈ TB := tw_f (tw_t2 (List.mem_of_getElem? (i := 40) rfl)) rfl
set_option maxRecDepth 100000 in
theorem tw_141 : (.selects R_Rv y_Rv_height y_Rv_height) ∈ TB := tw_f (tw_t2 (List.mem_of_getElem? (i := 41) rfl)) rfl
set_option maxRecDepth 100000 in
theorem tw_142 : (.code y_Rv_flowIn b_Rv_flowIn 4 (some .int)) ∈ TB := tw_f (tw_t2 (List.mem_of_getElem? (i := 38) rfl)) rfl
set_option maxRecDepth 100000 in
theorem tw_143 : (.methodLink R_WM 93 y_Rv_flowIn) ∈ TB := tw_f (tw_t2 (List.mem_of_getElem? (i := 35) rfl)) rfl
set_option maxRecDepth 100000 in
theorem tw_144 : (.instanceMethod y_Rv_flowIn) ∈ TB := tw_f (tw_t2 (List.mem_of_getElem? (i := 36) rfl)) rfl
set_option maxRecDepth 100000 in
theorem tw_145 : (.selects R_Rv y_Rv_flowIn y_Rv_flowIn) ∈ TB := tw_f (tw_t2 (List.mem_of_getElem? (i := 37) rfl)) rfl
set_option maxRecDepth 100000 in
theorem tw_146 : (.fieldLink R_WM 155 "WaterMen" "now" "I") ∈ TB := tw_f (tw_t1 (List.mem_of_getElem? (i := 204) rfl)) rfl
set_option maxRecDepth 100000 in
theorem tw_147 : (.code y_WM_today b_WM_today 1 (some .int)) ∈ TB := tw_f (tw_t2 (List.mem_of_getElem? (i := 50) rfl)) rfl
set_option maxRecDepth 100000 in
theorem tw_148 : (.methodLink R_WM 97 y_WM_today) ∈ TB := tw_f (tw_t2 (List.mem_of_getElem? (i := 47) rfl)) rfl
set_option maxRecDepth 100000 in
theorem tw_149 : (.instanceMethod y_WM_today) ∈ TB := tw_f (tw_t2 (List.mem_of_getElem? (i := 49) rfl)) rfl
set_option maxRecDepth 100000 in
theorem tw_150 : (.selects R_WM y_WM_today y_WM_today) ∈ TB := tw_f (tw_s1 (List.mem_of_getElem? (i := 0) rfl)) rfl
set_option maxRecDepth 100000 in
theorem tw_151 : (.code y_Rv_isFrozen b_Rv_isFrozen 2 (some .boolean)) ∈ TB := tw_f (tw_t2 (List.mem_of_getElem? (i := 54) rfl)) rfl
set_option maxRecDepth 100000 in
theorem tw_152 : (.methodLink R_WM 100 y_Rv_isFrozen) ∈ TB := tw_f (tw_t2 (List.mem_of_getElem? (i := 51) rfl)) rfl
set_option maxRecDepth 100000 in
theorem tw_153 : (.instanceMethod y_Rv_isFrozen) ∈ TB := tw_f (tw_t2 (List.mem_of_getElem? (i := 52) rfl)) rfl
set_option maxRecDepth 100000 in
theorem tw_154 : (.selects R_Rv y_Rv_isFrozen y_Rv_isFrozen) ∈ TB := tw_f (tw_t2 (List.mem_of_getElem? (i := 53) rfl)) rfl
set_option maxRecDepth 100000 in
theorem tw_155 : (.fieldLink R_WM 103 "WaterMen$River" "frozen" "[Z") ∈ TB := tw_f (tw_t1 (List.mem_of_getElem? (i := 38) rfl)) rfl
set_option maxRecDepth 100000 in
theorem tw_156 : (.code y_WM_manAt b_WM_manAt 2 (some (.object "WaterMen$Man"))) ∈ TB := tw_f (tw_t2 (List.mem_of_getElem? (i := 63) rfl)) rfl
set_option maxRecDepth 100000 in
theorem tw_157 : (.methodLink R_WM 107 y_WM_manAt) ∈ TB := tw_f (tw_t2 (List.mem_of_getElem? (i := 60) rfl)) rfl
set_option maxRecDepth 100000 in
theorem tw_158 : (.instanceMethod y_WM_manAt) ∈ TB := tw_f (tw_t2 (List.mem_of_getElem? (i := 62) rfl)) rfl
set_option maxRecDepth 100000 in
theorem tw_159 : (.selects R_WM y_WM_manAt y_WM_manAt) ∈ TB := tw_f (tw_s1 (List.mem_of_getElem? (i := 1) rfl)) rfl
set_option maxRecDepth 100000 in
theorem tw_160 : (.fieldLink R_WM 111 "WaterMen$Man" "state" "I") ∈ TB := tw_f (tw_t1 (List.mem_of_getElem? (i := 165) rfl)) rfl
set_option maxRecDepth 100000 in
theorem tw_161 : (.fieldLink R_WM 119 "WaterMen$Man" "bond" "LWaterMen$Bond;") ∈ TB := tw_f (tw_t1 (List.mem_of_getElem? (i := 166) rfl)) rfl
set_option maxRecDepth 100000 in
theorem tw_162 : (.code y_WM_served b_WM_served 4 (some .int)) ∈ TB := tw_f (tw_t2 (List.mem_of_getElem? (i := 108) rfl)) rfl
set_option maxRecDepth 100000 in
theorem tw_163 : (.methodLink R_WM 139 y_WM_served) ∈ TB := tw_f (tw_t2 (List.mem_of_getElem? (i := 120) rfl)) rfl
set_option maxRecDepth 100000 in
theorem tw_164 : (.instanceMethod y_WM_served) ∈ TB := tw_f (tw_t2 (List.mem_of_getElem? (i := 106) rfl)) rfl
set_option maxRecDepth 100000 in
theorem tw_165 : (.selects R_WM y_WM_served y_WM_served) ∈ TB := tw_f (tw_t2 (List.mem_of_getElem? (i := 107) rfl)) rfl
set_option maxRecDepth 100000 in
theorem tw_166 : (.fieldLink R_WM 145 "WaterMen$Man" "turnStairs" "I") ∈ TB := tw_f (tw_t1 (List.mem_of_getElem? (i := 168) rfl)) rfl
set_option maxRecDepth 100000 in
theorem tw_167 : (.code y_WM_placeInTurns b_WM_placeInTurns 5 (some .int)) ∈ TB := tw_f (tw_t2 (List.mem_of_getElem? (i := 128) rfl)) rfl
set_option maxRecDepth 100000 in
theorem tw_168 : (.methodLink R_WM 148 y_WM_placeInTurns) ∈ TB := tw_f (tw_t2 (List.mem_of_getElem? (i := 125) rfl)) rfl
set_option maxRecDepth 100000 in
theorem tw_169 : (.instanceMethod y_WM_placeInTurns) ∈ TB := tw_f (tw_t2 (List.mem_of_getElem? (i := 127) rfl)) rfl
set_option maxRecDepth 100000 in
theorem tw_170 : (.selects R_WM y_WM_placeInTurns y_WM_placeInTurns) ∈ TB := tw_f (tw_s1 (List.mem_of_getElem? (i := 2) rfl)) rfl
set_option maxRecDepth 100000 in
theorem tw_171 : (.fieldLink R_WM 152 "WaterMen$Man" "coins" "I") ∈ TB := tw_f (tw_t1 (List.mem_of_getElem? (i := 170) rfl)) rfl
set_option maxRecDepth 100000 in
theorem tw_172 : (.fieldLink R_Mn 21 "WaterMen$Man" "busyUntil" "I") ∈ TB := tw_f (tw_t1 (List.mem_of_getElem? (i := 171) rfl)) rfl
set_option maxRecDepth 100000 in
theorem tw_173 : (.code y_Mn_isOnWay b_Mn_isOnWay 2 (some .boolean)) ∈ TB := tw_f (tw_t2 (List.mem_of_getElem? (i := 132) rfl)) rfl
set_option maxRecDepth 100000 in
theorem tw_174 : (.methodLink R_WM 158 y_Mn_isOnWay) ∈ TB := tw_f (tw_t2 (List.mem_of_getElem? (i := 129) rfl)) rfl
set_option maxRecDepth 100000 in
theorem tw_175 : (.instanceMethod y_Mn_isOnWay) ∈ TB := tw_f (tw_t2 (List.mem_of_getElem? (i := 130) rfl)) rfl
set_option maxRecDepth 100000 in
theorem tw_176 : (.selects R_Mn y_Mn_isOnWay y_Mn_isOnWay) ∈ TB := tw_f (tw_t2 (List.mem_of_getElem? (i := 131) rfl)) rfl
set_option maxRecDepth 100000 in
theorem tw_177 : (.fieldLink R_WM 161 "WaterMen$Man" "tripCount" "I") ∈ TB := tw_f (tw_t1 (List.mem_of_getElem? (i := 174) rfl)) rfl
set_option maxRecDepth 100000 in
theorem tw_178 : (.code y_WM_isOars b_WM_isOars 1 (some .boolean)) ∈ TB := tw_f (tw_t2 (List.mem_of_getElem? (i := 139) rfl)) rfl
set_option maxRecDepth 100000 in
theorem tw_179 : (.methodLink R_WM 164 y_WM_isOars) ∈ TB := tw_f (tw_t2 (List.mem_of_getElem? (i := 137) rfl)) rfl
set_option maxRecDepth 100000 in
theorem tw_180 : (.static y_WM_isOars) ∈ TB := tw_f (tw_t2 (List.mem_of_getElem? (i := 138) rfl)) rfl
set_option maxRecDepth 100000 in
theorem tw_181 : (.code y_Rv_hasStairs b_Rv_hasStairs 2 (some .boolean)) ∈ TB := tw_f (tw_t2 (List.mem_of_getElem? (i := 143) rfl)) rfl
set_option maxRecDepth 100000 in
theorem tw_182 : (.methodLink R_WM 167 y_Rv_hasStairs) ∈ TB := tw_f (tw_t2 (List.mem_of_getElem? (i := 140) rfl)) rfl
set_option maxRecDepth 100000 in
theorem tw_183 : (.instanceMethod y_Rv_hasStairs) ∈ TB := tw_f (tw_t2 (List.mem_of_getElem? (i := 141) rfl)) rfl
set_option maxRecDepth 100000 in
theorem tw_184 : (.selects R_Rv y_Rv_hasStairs y_Rv_hasStairs) ∈ TB := tw_f (tw_t2 (List.mem_of_getElem? (i := 142) rfl)) rfl
set_option maxRecDepth 100000 in
theorem tw_185 : (.fieldLink R_WM 170 "WaterMen" "boatCount" "I") ∈ TB := tw_f (tw_t1 (List.mem_of_getElem? (i := 201) rfl)) rfl
set_option maxRecDepth 100000 in
theorem tw_186 : (.code y_WM_boatAt b_WM_boatAt 2 (some (.object "WaterMen$Boat"))) ∈ TB := tw_f (tw_t2 (List.mem_of_getElem? (i := 181) rfl)) rfl
set_option maxRecDepth 100000 in
theorem tw_187 : (.methodLink R_WM 174 y_WM_boatAt) ∈ TB := tw_f (tw_t2 (List.mem_of_getElem? (i := 178) rfl)) rfl
set_option maxRecDepth 100000 in
theorem tw_188 : (.instanceMethod y_WM_boatAt) ∈ TB := tw_f (tw_t2 (List.mem_of_getElem? (i := 180) rfl)) rfl
set_option maxRecDepth 100000 in
theorem tw_189 : (.selects R_WM y_WM_boatAt y_WM_boatAt) ∈ TB := tw_f (tw_s1 (List.mem_of_getElem? (i := 3) rfl)) rfl
set_option maxRecDepth 100000 in
theorem tw_190 : (.fieldLink R_Tp 15 "WaterMen$Tape" "length" "I") ∈ TB := tw_f (tw_t1 (List.mem_of_getElem? (i := 73) rfl)) rfl
set_option maxRecDepth 100000 in
theorem tw_191 : (.code y_Tp_hasRoomForFive b_Tp_hasRoomForFive 1 (some .boolean)) ∈ TB := tw_f (tw_t2 (List.mem_of_getElem? (i := 201) rfl)) rfl
set_option maxRecDepth 100000 in
theorem tw_192 : (.methodLink R_WM 199 y_Tp_hasRoomForFive) ∈ TB := tw_f (tw_t2 (List.mem_of_getElem? (i := 198) rfl)) rfl
set_option maxRecDepth 100000 in
theorem tw_193 : (.instanceMethod y_Tp_hasRoomForFive) ∈ TB := tw_f (tw_t2 (List.mem_of_getElem? (i := 199) rfl)) rfl
set_option maxRecDepth 100000 in
theorem tw_194 : (.selects R_Tp y_Tp_hasRoomForFive y_Tp_hasRoomForFive) ∈ TB := tw_f (tw_t2 (List.mem_of_getElem? (i := 200) rfl)) rfl
set_option maxRecDepth 100000 in
theorem tw_195 : (.code y_Tp_append b_Tp_append 2 none) ∈ TB := tw_f (tw_t2 (List.mem_of_getElem? (i := 205) rfl)) rfl
set_option maxRecDepth 100000 in
theorem tw_196 : (.methodLink R_WM 203 y_Tp_append) ∈ TB := tw_f (tw_t2 (List.mem_of_getElem? (i := 202) rfl)) rfl
set_option maxRecDepth 100000 in
theorem tw_197 : (.instanceMethod y_Tp_append) ∈ TB := tw_f (tw_t2 (List.mem_of_getElem? (i := 203) rfl)) rfl
set_option maxRecDepth 100000 in
theorem tw_198 : (.selects R_Tp y_Tp_append y_Tp_append) ∈ TB := tw_f (tw_t2 (List.mem_of_getElem? (i := 204) rfl)) rfl
set_option maxRecDepth 100000 in
theorem tw_199 : (.fieldLink R_WM 207 "WaterMen$Tape" "length" "I") ∈ TB := tw_f (tw_t1 (List.mem_of_getElem? (i := 74) rfl)) rfl
set_option maxRecDepth 100000 in
theorem tw_200 : (.fieldLink R_WM 210 "WaterMen" "orderCount" "I") ∈ TB := tw_f (tw_t1 (List.mem_of_getElem? (i := 202) rfl)) rfl
set_option maxRecDepth 100000 in
theorem tw_201 : (.fieldLink R_Or 23 "WaterMen$Order" "fareCount" "I") ∈ TB := tw_f (tw_t1 (List.mem_of_getElem? (i := 136) rfl)) rfl
set_option maxRecDepth 100000 in
theorem tw_202 : (.fieldLink R_Or 27 "WaterMen$Order" "hourCount" "I") ∈ TB := tw_f (tw_t1 (List.mem_of_getElem? (i := 137) rfl)) rfl
set_option maxRecDepth 100000 in
theorem tw_203 : (.code y_Or_clear b_Or_clear 2 none) ∈ TB := tw_f (tw_t2 (List.mem_of_getElem? (i := 221) rfl)) rfl
set_option maxRecDepth 100000 in
theorem tw_204 : (.methodLink R_Tp 19 y_Or_clear) ∈ TB := tw_f (tw_t2 (List.mem_of_getElem? (i := 218) rfl)) rfl
set_option maxRecDepth 100000 in
theorem tw_205 : (.instanceMethod y_Or_clear) ∈ TB := tw_f (tw_t2 (List.mem_of_getElem? (i := 219) rfl)) rfl
set_option maxRecDepth 100000 in
theorem tw_206 : (.selects R_Or y_Or_clear y_Or_clear) ∈ TB := tw_f (tw_t2 (List.mem_of_getElem? (i := 220) rfl)) rfl
set_option maxRecDepth 100000 in
theorem tw_207 : (.fieldLink R_Tp 24 "WaterMen$Tape" "behind" "I") ∈ TB := tw_f (tw_t1 (List.mem_of_getElem? (i := 77) rfl)) rfl
set_option maxRecDepth 100000 in
theorem tw_208 : (.fieldLink R_Tp 34 "WaterMen$Tape" "start" "I") ∈ TB := tw_f (tw_t1 (List.mem_of_getElem? (i := 76) rfl)) rfl
set_option maxRecDepth 100000 in
theorem tw_209 : (.fieldLink R_Tp 48 "WaterMen$Tape" "value" "I") ∈ TB := tw_f (tw_t1 (List.mem_of_getElem? (i := 78) rfl)) rfl
set_option maxRecDepth 100000 in
theorem tw_210 : (.fieldLink R_Tp 37 "WaterMen$Tape" "sort" "I") ∈ TB := tw_f (tw_t1 (List.mem_of_getElem? (i := 75) rfl)) rfl
set_option maxRecDepth 100000 in
theorem tw_211 : (.code y_Tp_step b_Tp_step 1 none) ∈ TB := tw_f (tw_t2 (List.mem_of_getElem? (i := 225) rfl)) rfl
set_option maxRecDepth 100000 in
theorem tw_212 : (.methodLink R_Tp 27 y_Tp_step) ∈ TB := tw_f (tw_t2 (List.mem_of_getElem? (i := 222) rfl)) rfl
set_option maxRecDepth 100000 in
theorem tw_213 : (.instanceMethod y_Tp_step) ∈ TB := tw_f (tw_t2 (List.mem_of_getElem? (i := 223) rfl)) rfl
set_option maxRecDepth 100000 in
theorem tw_214 : (.selects R_Tp y_Tp_step y_Tp_step) ∈ TB := tw_f (tw_t2 (List.mem_of_getElem? (i := 224) rfl)) rfl
set_option maxRecDepth 100000 in
theorem tw_215 : (.code y_Tp_readLine b_Tp_readLine 8 (some .boolean)) ∈ TB := tw_f (tw_t3 (List.mem_of_getElem? (i := 3) rfl)) rfl
set_option maxRecDepth 100000 in
theorem tw_216 : (.methodLink R_Tp 30 y_Tp_readLine) ∈ TB := tw_f (tw_t3 (List.mem_of_getElem? (i := 0) rfl)) rfl
set_option maxRecDepth 100000 in
theorem tw_217 : (.instanceMethod y_Tp_readLine) ∈ TB := tw_f (tw_t3 (List.mem_of_getElem? (i := 1) rfl)) rfl
set_option maxRecDepth 100000 in
theorem tw_218 : (.selects R_Tp y_Tp_readLine y_Tp_readLine) ∈ TB := tw_f (tw_t3 (List.mem_of_getElem? (i := 2) rfl)) rfl
set_option maxRecDepth 100000 in
theorem tw_219 : (.code y_Tp_readInto b_Tp_readInto 3 (some .int)) ∈ TB := tw_f (tw_t2 (List.mem_of_getElem? (i := 217) rfl)) rfl
set_option maxRecDepth 100000 in
theorem tw_220 : (.methodLink R_WM 213 y_Tp_readInto) ∈ TB := tw_f (tw_t2 (List.mem_of_getElem? (i := 214) rfl)) rfl
set_option maxRecDepth 100000 in
theorem tw_221 : (.instanceMethod y_Tp_readInto) ∈ TB := tw_f (tw_t2 (List.mem_of_getElem? (i := 215) rfl)) rfl
set_option maxRecDepth 100000 in
theorem tw_222 : (.selects R_Tp y_Tp_readInto y_Tp_readInto) ∈ TB := tw_f (tw_t2 (List.mem_of_getElem? (i := 216) rfl)) rfl
set_option maxRecDepth 100000 in
theorem tw_223 : (.code y_WM_numberInForce b_WM_numberInForce 5 (some .int)) ∈ TB := tw_f (tw_t3 (List.mem_of_getElem? (i := 97) rfl)) rfl
set_option maxRecDepth 100000 in
theorem tw_224 : (.methodLink R_WM 223 y_WM_numberInForce) ∈ TB := tw_f (tw_t3 (List.mem_of_getElem? (i := 94) rfl)) rfl
set_option maxRecDepth 100000 in
theorem tw_225 : (.instanceMethod y_WM_numberInForce) ∈ TB := tw_f (tw_t3 (List.mem_of_getElem? (i := 96) rfl)) rfl
set_option maxRecDepth 100000 in
theorem tw_226 : (.selects R_WM y_WM_numberInForce y_WM_numberInForce) ∈ TB := tw_f (tw_s1 (List.mem_of_getElem? (i := 4) rfl)) rfl
set_option maxRecDepth 100000 in
theorem tw_227 : (.code y_WM_orderAt b_WM_orderAt 2 (some (.object "WaterMen$Order"))) ∈ TB := tw_f (tw_t3 (List.mem_of_getElem? (i := 101) rfl)) rfl
set_option maxRecDepth 100000 in
theorem tw_228 : (.methodLink R_WM 226 y_WM_orderAt) ∈ TB := tw_f (tw_t3 (List.mem_of_getElem? (i := 98) rfl)) rfl
set_option maxRecDepth 100000 in
theorem tw_229 : (.instanceMethod y_WM_orderAt) ∈ TB := tw_f (tw_t3 (List.mem_of_getElem? (i := 100) rfl)) rfl
set_option maxRecDepth 100000 in
theorem tw_230 : (.selects R_WM y_WM_orderAt y_WM_orderAt) ∈ TB := tw_f (tw_s1 (List.mem_of_getElem? (i := 5) rfl)) rfl
set_option maxRecDepth 100000 in
theorem tw_231 : (.constant R_WM 270 359999) ∈ TB := tw_f (tw_t3 (List.mem_of_getElem? (i := 185) rfl)) rfl
set_option maxRecDepth 100000 in
theorem tw_232 : (.code y_WM_isSunday b_WM_isSunday 1 (some .boolean)) ∈ TB := tw_f (tw_t3 (List.mem_of_getElem? (i := 141) rfl)) rfl
set_option maxRecDepth 100000 in
theorem tw_233 : (.methodLink R_WM 391 y_WM_isSunday) ∈ TB := tw_f (tw_t4 (List.mem_of_getElem? (i := 5) rfl)) rfl
set_option maxRecDepth 100000 in
theorem tw_234 : (.static y_WM_isSunday) ∈ TB := tw_f (tw_t3 (List.mem_of_getElem? (i := 140) rfl)) rfl
set_option maxRecDepth 100000 in
theorem tw_235 : (.fieldLink R_WM 394 "WaterMen$Man" "lastSunday" "I") ∈ TB := tw_f (tw_t1 (List.mem_of_getElem? (i := 176) rfl)) rfl
set_option maxRecDepth 100000 in
theorem tw_236 : (.code y_WM_partPot b_WM_partPot 6 none) ∈ TB := tw_f (tw_t4 (List.mem_of_getElem? (i := 13) rfl)) rfl
set_option maxRecDepth 100000 in
theorem tw_237 : (.methodLink R_WM 271 y_WM_partPot) ∈ TB := tw_f (tw_t4 (List.mem_of_getElem? (i := 10) rfl)) rfl
set_option maxRecDepth 100000 in
theorem tw_238 : (.instanceMethod y_WM_partPot) ∈ TB := tw_f (tw_t4 (List.mem_of_getElem? (i := 12) rfl)) rfl
set_option maxRecDepth 100000 in
theorem tw_239 : (.selects R_WM y_WM_partPot y_WM_partPot) ∈ TB := tw_f (tw_s1 (List.mem_of_getElem? (i := 14) rfl)) rfl
set_option maxRecDepth 100000 in
theorem tw_240 : (.code y_Bx_payPensions b_Bx_payPensions 4 none) ∈ TB := tw_f (tw_t4 (List.mem_of_getElem? (i := 17) rfl)) rfl
set_option maxRecDepth 100000 in
theorem tw_241 : (.methodLink R_WM 274 y_Bx_payPensions) ∈ TB := tw_f (tw_t4 (List.mem_of_getElem? (i := 14) rfl)) rfl
set_option maxRecDepth 100000 in
theorem tw_242 : (.instanceMethod y_Bx_payPensions) ∈ TB := tw_f (tw_t4 (List.mem_of_getElem? (i := 15) rfl)) rfl
set_option maxRecDepth 100000 in
theorem tw_243 : (.selects R_Bx y_Bx_payPensions y_Bx_payPensions) ∈ TB := tw_f (tw_t4 (List.mem_of_getElem? (i := 16) rfl)) rfl
set_option maxRecDepth 100000 in
theorem tw_244 : (.fieldLink R_WM 243 "WaterMen" "tripCount" "I") ∈ TB := tw_f (tw_t1 (List.mem_of_getElem? (i := 203) rfl)) rfl
set_option maxRecDepth 100000 in
theorem tw_245 : (.code y_WM_tripAt b_WM_tripAt 2 (some (.object "WaterMen$Trip"))) ∈ TB := tw_f (tw_t4 (List.mem_of_getElem? (i := 32) rfl)) rfl
set_option maxRecDepth 100000 in
theorem tw_246 : (.methodLink R_WM 293 y_WM_tripAt) ∈ TB := tw_f (tw_t4 (List.mem_of_getElem? (i := 29) rfl)) rfl
set_option maxRecDepth 100000 in
theorem tw_247 : (.instanceMethod y_WM_tripAt) ∈ TB := tw_f (tw_t4 (List.mem_of_getElem? (i := 31) rfl)) rfl
set_option maxRecDepth 100000 in
theorem tw_248 : (.selects R_WM y_WM_tripAt y_WM_tripAt) ∈ TB := tw_f (tw_s1 (List.mem_of_getElem? (i := 15) rfl)) rfl
set_option maxRecDepth 100000 in
theorem tw_249 : (.code y_WM_isPension b_WM_isPension 2 (some .boolean)) ∈ TB := tw_f (tw_t4 (List.mem_of_getElem? (i := 28) rfl)) rfl
set_option maxRecDepth 100000 in
theorem tw_250 : (.methodLink R_WM 277 y_WM_isPension) ∈ TB := tw_f (tw_t4 (List.mem_of_getElem? (i := 26) rfl)) rfl
set_option maxRecDepth 100000 in
theorem tw_251 : (.static y_WM_isPension) ∈ TB := tw_f (tw_t4 (List.mem_of_getElem? (i := 27) rfl)) rfl
set_option maxRecDepth 100000 in
theorem tw_252 : (.fieldLink R_WM 280 "WaterMen$Box" "pensionerCount" "I") ∈ TB := tw_f (tw_t1 (List.mem_of_getElem? (i := 110) rfl)) rfl
set_option maxRecDepth 100000 in
theorem tw_253 : (.fieldLink R_Bx 29 "WaterMen$Box" "pensionerCount" "I") ∈ TB := tw_f (tw_t1 (List.mem_of_getElem? (i := 109) rfl)) rfl
set_option maxRecDepth 100000 in
theorem tw_254 : (.instantiable R_Pn 3) ∈ TB := tw_f (tw_t4 (List.mem_of_getElem? (i := 37) rfl)) rfl
set_option maxRecDepth 100000 in
theorem tw_255 : (.initialized R_Pn) ∈ TB := tw_f (tw_t1 (List.mem_of_getElem? (i := 16) rfl)) rfl
set_option maxRecDepth 100000 in
theorem tw_256 : (.methodLink R_Pn 1 objectInit) ∈ TB := tw_f (tw_t4 (List.mem_of_getElem? (i := 41) rfl)) rfl
set_option maxRecDepth 100000 in
theorem tw_257 : (.fieldLink R_Pn 7 "WaterMen$Pensioner" "pension" "I") ∈ TB := tw_f (tw_t4 (List.mem_of_getElem? (i := 42) rfl)) rfl
set_option maxRecDepth 100000 in
theorem tw_258 : (.fieldLink R_Pn 13 "WaterMen$Pensioner" "end" "I") ∈ TB := tw_f (tw_t4 (List.mem_of_getElem? (i := 45) rfl)) rfl
set_option maxRecDepth 100000 in
theorem tw_259 : (.code y_Pn_init b_Pn_init 3 none) ∈ TB := tw_f (tw_t4 (List.mem_of_getElem? (i := 40) rfl)) rfl
set_option maxRecDepth 100000 in
theorem tw_260 : (.methodLink R_Bx 32 y_Pn_init) ∈ TB := tw_f (tw_t4 (List.mem_of_getElem? (i := 38) rfl)) rfl
set_option maxRecDepth 100000 in
theorem tw_261 : (.instanceMethod y_Pn_init) ∈ TB := tw_f (tw_t4 (List.mem_of_getElem? (i := 39) rfl)) rfl
set_option maxRecDepth 100000 in
theorem tw_262 : (.code y_Bx_take b_Bx_take 3 (some .int)) ∈ TB := tw_f (tw_t4 (List.mem_of_getElem? (i := 36) rfl)) rfl
set_option maxRecDepth 100000 in
theorem tw_263 : (.methodLink R_WM 300 y_Bx_take) ∈ TB := tw_f (tw_t4 (List.mem_of_getElem? (i := 33) rfl)) rfl
set_option maxRecDepth 100000 in
theorem tw_264 : (.instanceMethod y_Bx_take) ∈ TB := tw_f (tw_t4 (List.mem_of_getElem? (i := 34) rfl)) rfl
set_option maxRecDepth 100000 in
theorem tw_265 : (.selects R_Bx y_Bx_take y_Bx_take) ∈ TB := tw_f (tw_t4 (List.mem_of_getElem? (i := 35) rfl)) rfl
set_option maxRecDepth 100000 in
theorem tw_266 : (.methodLink R_Bx 51 Lib.Math.max.name) ∈ TB := tw_f (tw_t4 (List.mem_of_getElem? (i := 89) rfl)) rfl
set_option maxRecDepth 100000 in
theorem tw_267 : (.static Lib.Math.max.name) ∈ TB := tw_f (tw_t3 (List.mem_of_getElem? (i := 143) rfl)) rfl
set_option maxRecDepth 100000 in
theorem tw_268 : (.initialized "java/lang/Math") ∈ TB := tw_f (tw_t1 (List.mem_of_getElem? (i := 9) rfl)) rfl
set_option maxRecDepth 100000 in
theorem tw_269 : (.code Lib.Math.max.name Lib.Math.max.code 2 (some .int)) ∈ TB := tw_f (tw_t3 (List.mem_of_getElem? (i := 144) rfl)) rfl
set_option maxRecDepth 100000 in
theorem tw_270 : (.fieldLink R_Bx 21 "WaterMen$Box" "coins" "I") ∈ TB := tw_f (tw_t1 (List.mem_of_getElem? (i := 101) rfl)) rfl
set_option maxRecDepth 100000 in
theorem tw_271 : (.code y_Bx_owedOn b_Bx_owedOn 5 (some .int)) ∈ TB := tw_f (tw_t4 (List.mem_of_getElem? (i := 93) rfl)) rfl
set_option maxRecDepth 100000 in
theorem tw_272 : (.methodLink R_Bx 57 y_Bx_owedOn) ∈ TB := tw_f (tw_t4 (List.mem_of_getElem? (i := 90) rfl)) rfl
set_option maxRecDepth 100000 in
theorem tw_273 : (.instanceMethod y_Bx_owedOn) ∈ TB := tw_f (tw_t4 (List.mem_of_getElem? (i := 91) rfl)) rfl
set_option maxRecDepth 100000 in
theorem tw_274 : (.selects R_Bx y_Bx_owedOn y_Bx_owedOn) ∈ TB := tw_f (tw_t4 (List.mem_of_getElem? (i := 92) rfl)) rfl
set_option maxRecDepth 100000 in
theorem tw_275 : (.code y_Bx_firstShortDay b_Bx_firstShortDay 8 (some .int)) ∈ TB := tw_f (tw_t4 (List.mem_of_getElem? (i := 88) rfl)) rfl
set_option maxRecDepth 100000 in
theorem tw_276 : (.methodLink R_WM 322 y_Bx_firstShortDay) ∈ TB := tw_f (tw_t4 (List.mem_of_getElem? (i := 85) rfl)) rfl
set_option maxRecDepth 100000 in
theorem tw_277 : (.instanceMethod y_Bx_firstShortDay) ∈ TB := tw_f (tw_t4 (List.mem_of_getElem? (i := 86) rfl)) rfl
set_option maxRecDepth 100000 in
theorem tw_278 : (.selects R_Bx y_Bx_firstShortDay y_Bx_firstShortDay) ∈ TB := tw_f (tw_t4 (List.mem_of_getElem? (i := 87) rfl)) rfl
set_option maxRecDepth 100000 in
theorem tw_279 : (.code y_Bx_pensionerAt b_Bx_pensionerAt 2 (some (.object "WaterMen$Pensioner"))) ∈ TB := tw_f (tw_t4 (List.mem_of_getElem? (i := 21) rfl)) rfl
set_option maxRecDepth 100000 in
theorem tw_280 : (.methodLink R_WM 325 y_Bx_pensionerAt) ∈ TB := tw_f (tw_t4 (List.mem_of_getElem? (i := 98) rfl)) rfl
set_option maxRecDepth 100000 in
theorem tw_281 : (.instanceMethod y_Bx_pensionerAt) ∈ TB := tw_f (tw_t4 (List.mem_of_getElem? (i := 19) rfl)) rfl
set_option maxRecDepth 100000 in
theorem tw_282 : (.selects R_Bx y_Bx_pensionerAt y_Bx_pensionerAt) ∈ TB := tw_f (tw_t4 (List.mem_of_getElem? (i := 20) rfl)) rfl
set_option maxRecDepth 100000 in
theorem tw_283 : (.code y_WM_menThatAre b_WM_menThatAre 5 (some .int)) ∈ TB := tw_f (tw_t4 (List.mem_of_getElem? (i := 106) rfl)) rfl
set_option maxRecDepth 100000 in
theorem tw_284 : (.methodLink R_WM 340 y_WM_menThatAre) ∈ TB := tw_f (tw_t4 (List.mem_of_getElem? (i := 103) rfl)) rfl
set_option maxRecDepth 100000 in
theorem tw_285 : (.instanceMethod y_WM_menThatAre) ∈ TB := tw_f (tw_t4 (List.mem_of_getElem? (i := 105) rfl)) rfl
set_option maxRecDepth 100000 in
theorem tw_286 : (.selects R_WM y_WM_menThatAre y_WM_menThatAre) ∈ TB := tw_f (tw_s2 (List.mem_of_getElem? (i := 2) rfl)) rfl
set_option maxRecDepth 100000 in
theorem tw_287 : (.fieldLink R_WM 343 "WaterMen$Box" "coins" "I") ∈ TB := tw_f (tw_t1 (List.mem_of_getElem? (i := 102) rfl)) rfl
set_option maxRecDepth 100000 in
theorem tw_288 : (.fieldLink R_WM 344 "WaterMen$Box" "pot" "I") ∈ TB := tw_f (tw_t1 (List.mem_of_getElem? (i := 103) rfl)) rfl
set_option maxRecDepth 100000 in
theorem tw_289 : (.code y_WM_coinsOfMen b_WM_coinsOfMen 4 (some .int)) ∈ TB := tw_f (tw_t4 (List.mem_of_getElem? (i := 114) rfl)) rfl
set_option maxRecDepth 100000 in
theorem tw_290 : (.methodLink R_WM 347 y_WM_coinsOfMen) ∈ TB := tw_f (tw_t4 (List.mem_of_getElem? (i := 111) rfl)) rfl
set_option maxRecDepth 100000 in
theorem tw_291 : (.instanceMethod y_WM_coinsOfMen) ∈ TB := tw_f (tw_t4 (List.mem_of_getElem? (i := 113) rfl)) rfl
set_option maxRecDepth 100000 in
theorem tw_292 : (.selects R_WM y_WM_coinsOfMen y_WM_coinsOfMen) ∈ TB := tw_f (tw_s2 (List.mem_of_getElem? (i := 3) rfl)) rfl
set_option maxRecDepth 100000 in
theorem tw_293 : (.fieldLink R_WM 350 "WaterMen$Box" "allPaid" "I") ∈ TB := tw_f (tw_t1 (List.mem_of_getElem? (i := 104) rfl)) rfl
set_option maxRecDepth 100000 in
theorem tw_294 : (.fieldLink R_WM 353 "WaterMen$Box" "allPensions" "I") ∈ TB := tw_f (tw_t1 (List.mem_of_getElem? (i := 106) rfl)) rfl
set_option maxRecDepth 100000 in
theorem tw_295 : (.code y_Md_in b_Md_in 3 (some .boolean)) ∈ TB := tw_f (tw_t4 (List.mem_of_getElem? (i := 121) rfl)) rfl
set_option maxRecDepth 100000 in
theorem tw_296 : (.initialized R_Md) ∈ TB := tw_f (tw_t1 (List.mem_of_getElem? (i := 7) rfl)) rfl
set_option maxRecDepth 100000 in
theorem tw_297 : (.methodLink R_Md 10 y_Md_in) ∈ TB := tw_f (tw_t4 (List.mem_of_getElem? (i := 119) rfl)) rfl
set_option maxRecDepth 100000 in
theorem tw_298 : (.static y_Md_in) ∈ TB := tw_f (tw_t4 (List.mem_of_getElem? (i := 120) rfl)) rfl
set_option maxRecDepth 100000 in
theorem tw_299 : (.fieldLink R_Md 14 "WaterMenModel" "stairs" "I") ∈ TB := tw_f (tw_t4 (List.mem_of_getElem? (i := 164) rfl)) rfl
set_option maxRecDepth 100000 in
theorem tw_300 : (.code y_Md_isDay b_Md_isDay 1 (some .boolean)) ∈ TB := tw_f (tw_t4 (List.mem_of_getElem? (i := 132) rfl)) rfl
set_option maxRecDepth 100000 in
theorem tw_301 : (.methodLink R_Md 38 y_Md_isDay) ∈ TB := tw_f (tw_t4 (List.mem_of_getElem? (i := 130) rfl)) rfl
set_option maxRecDepth 100000 in
theorem tw_302 : (.static y_Md_isDay) ∈ TB := tw_f (tw_t4 (List.mem_of_getElem? (i := 131) rfl)) rfl
set_option maxRecDepth 100000 in
theorem tw_303 : (.code y_Md_levelOf b_Md_levelOf 3 (some .int)) ∈ TB := tw_f (tw_t4 (List.mem_of_getElem? (i := 149) rfl)) rfl
set_option maxRecDepth 100000 in
theorem tw_304 : (.methodLink R_Md 28 y_Md_levelOf) ∈ TB := tw_f (tw_t4 (List.mem_of_getElem? (i := 146) rfl)) rfl
set_option maxRecDepth 100000 in
theorem tw_305 : (.instanceMethod y_Md_levelOf) ∈ TB := tw_f (tw_t4 (List.mem_of_getElem? (i := 148) rfl)) rfl
set_option maxRecDepth 100000 in
theorem tw_306 : (.selects R_Md y_Md_levelOf y_Md_levelOf) ∈ TB := tw_f (tw_s2 (List.mem_of_getElem? (i := 5) rfl)) rfl
set_option maxRecDepth 100000 in
theorem tw_307 : (.code y_Md_flowOf b_Md_flowOf 3 (some .int)) ∈ TB := tw_f (tw_t4 (List.mem_of_getElem? (i := 145) rfl)) rfl
set_option maxRecDepth 100000 in
theorem tw_308 : (.methodLink R_Md 42 y_Md_flowOf) ∈ TB := tw_f (tw_t4 (List.mem_of_getElem? (i := 141) rfl)) rfl
set_option maxRecDepth 100000 in
theorem tw_309 : (.instanceMethod y_Md_flowOf) ∈ TB := tw_f (tw_t4 (List.mem_of_getElem? (i := 143) rfl)) rfl
set_option maxRecDepth 100000 in
theorem tw_310 : (.selects R_Md y_Md_flowOf y_Md_flowOf) ∈ TB := tw_f (tw_s2 (List.mem_of_getElem? (i := 4) rfl)) rfl
set_option maxRecDepth 100000 in
theorem tw_311 : (.fieldLink R_Md 7 "WaterMenModel" "time" "I") ∈ TB := tw_f (tw_t4 (List.mem_of_getElem? (i := 163) rfl)) rfl
set_option maxRecDepth 100000 in
theorem tw_312 : (.code y_Md_today b_Md_today 1 (some .int)) ∈ TB := tw_f (tw_t4 (List.mem_of_getElem? (i := 157) rfl)) rfl
set_option maxRecDepth 100000 in
theorem tw_313 : (.methodLink R_Md 45 y_Md_today) ∈ TB := tw_f (tw_t4 (List.mem_of_getElem? (i := 154) rfl)) rfl
set_option maxRecDepth 100000 in
theorem tw_314 : (.instanceMethod y_Md_today) ∈ TB := tw_f (tw_t4 (List.mem_of_getElem? (i := 156) rfl)) rfl
set_option maxRecDepth 100000 in
theorem tw_315 : (.selects R_Md y_Md_today y_Md_today) ∈ TB := tw_f (tw_s2 (List.mem_of_getElem? (i := 6) rfl)) rfl
set_option maxRecDepth 100000 in
theorem tw_316 : (.code y_Md_isMan b_Md_isMan 1 (some .boolean)) ∈ TB := tw_f (tw_t5 (List.mem_of_getElem? (i := 122) rfl)) rfl
set_option maxRecDepth 100000 in
theorem tw_317 : (.methodLink R_Md 186 y_Md_isMan) ∈ TB := tw_f (tw_t5 (List.mem_of_getElem? (i := 120) rfl)) rfl
set_option maxRecDepth 100000 in
theorem tw_318 : (.static y_Md_isMan) ∈ TB := tw_f (tw_t5 (List.mem_of_getElem? (i := 121) rfl)) rfl
set_option maxRecDepth 100000 in
theorem tw_319 : (.code y_Md_rowOf b_Md_rowOf 4 (some .int)) ∈ TB := tw_f (tw_t5 (List.mem_of_getElem? (i := 150) rfl)) rfl
set_option maxRecDepth 100000 in
theorem tw_320 : (.methodLink R_Md 193 y_Md_rowOf) ∈ TB := tw_f (tw_t5 (List.mem_of_getElem? (i := 147) rfl)) rfl
set_option maxRecDepth 100000 in
theorem tw_321 : (.instanceMethod y_Md_rowOf) ∈ TB := tw_f (tw_t5 (List.mem_of_getElem? (i := 149) rfl)) rfl
set_option maxRecDepth 100000 in
theorem tw_322 : (.selects R_Md y_Md_rowOf y_Md_rowOf) ∈ TB := tw_f (tw_s2 (List.mem_of_getElem? (i := 8) rfl)) rfl
set_option maxRecDepth 100000 in
theorem tw_323 : (.code y_Md_placeOf b_Md_placeOf 4 (some .int)) ∈ TB := tw_f (tw_t5 (List.mem_of_getElem? (i := 154) rfl)) rfl
set_option maxRecDepth 100000 in
theorem tw_324 : (.methodLink R_Md 196 y_Md_placeOf) ∈ TB := tw_f (tw_t5 (List.mem_of_getElem? (i := 151) rfl)) rfl
set_option maxRecDepth 100000 in
theorem tw_325 : (.instanceMethod y_Md_placeOf) ∈ TB := tw_f (tw_t5 (List.mem_of_getElem? (i := 153) rfl)) rfl
set_option maxRecDepth 100000 in
theorem tw_326 : (.selects R_Md y_Md_placeOf y_Md_placeOf) ∈ TB := tw_f (tw_s2 (List.mem_of_getElem? (i := 9) rfl)) rfl
set_option maxRecDepth 100000 in
theorem tw_327 : (.code y_Md_isStairs b_Md_isStairs 2 (some .boolean)) ∈ TB := tw_f (tw_t5 (List.mem_of_getElem? (i := 162) rfl)) rfl
set_option maxRecDepth 100000 in
theorem tw_328 : (.methodLink R_Md 199 y_Md_isStairs) ∈ TB := tw_f (tw_t5 (List.mem_of_getElem? (i := 159) rfl)) rfl
set_option maxRecDepth 100000 in
theorem tw_329 : (.instanceMethod y_Md_isStairs) ∈ TB := tw_f (tw_t5 (List.mem_of_getElem? (i := 161) rfl)) rfl
set_option maxRecDepth 100000 in
theorem tw_330 : (.selects R_Md y_Md_isStairs y_Md_isStairs) ∈ TB := tw_f (tw_s2 (List.mem_of_getElem? (i := 10) rfl)) rfl
set_option maxRecDepth 100000 in
theorem tw_331 : (.fieldLink R_Md 206 "WaterMenModel" "boats" "I") ∈ TB := tw_f (tw_t4 (List.mem_of_getElem? (i := 183) rfl)) rfl
set_option maxRecDepth 100000 in
theorem tw_332 : (.code y_Md_isBoat b_Md_isBoat 2 (some .boolean)) ∈ TB := tw_f (tw_t5 (List.mem_of_getElem? (i := 182) rfl)) rfl
set_option maxRecDepth 100000 in
theorem tw_333 : (.methodLink R_Md 209 y_Md_isBoat) ∈ TB := tw_f (tw_t5 (List.mem_of_getElem? (i := 179) rfl)) rfl
set_option maxRecDepth 100000 in
theorem tw_334 : (.instanceMethod y_Md_isBoat) ∈ TB := tw_f (tw_t5 (List.mem_of_getElem? (i := 181) rfl)) rfl
set_option maxRecDepth 100000 in
theorem tw_335 : (.selects R_Md y_Md_isBoat y_Md_isBoat) ∈ TB := tw_f (tw_s2 (List.mem_of_getElem? (i := 12) rfl)) rfl
set_option maxRecDepth 100000 in
theorem tw_336 : (.fieldLink R_Md 212 "WaterMenModel" "taped" "I") ∈ TB := tw_f (tw_t4 (List.mem_of_getElem? (i := 190) rfl)) rfl
set_option maxRecDepth 100000 in
theorem tw_337 : (.code y_Md_four b_Md_four 3 none) ∈ TB := tw_f (tw_t5 (List.mem_of_getElem? (i := 190) rfl)) rfl
set_option maxRecDepth 100000 in
theorem tw_338 : (.methodLink R_Md 215 y_Md_four) ∈ TB := tw_f (tw_t5 (List.mem_of_getElem? (i := 187) rfl)) rfl
set_option maxRecDepth 100000 in
theorem tw_339 : (.instanceMethod y_Md_four) ∈ TB := tw_f (tw_t5 (List.mem_of_getElem? (i := 189) rfl)) rfl
set_option maxRecDepth 100000 in
theorem tw_340 : (.selects R_Md y_Md_four y_Md_four) ∈ TB := tw_f (tw_s2 (List.mem_of_getElem? (i := 13) rfl)) rfl
set_option maxRecDepth 100000 in
theorem tw_341 : (.fieldLink R_Md 275 "WaterMenModel" "orders" "I") ∈ TB := tw_f (tw_t4 (List.mem_of_getElem? (i := 191) rfl)) rfl
set_option maxRecDepth 100000 in
theorem tw_342 : (.fieldLink R_Md 218 "WaterMenModel" "at" "I") ∈ TB := tw_f (tw_t4 (List.mem_of_getElem? (i := 204) rfl)) rfl
set_option maxRecDepth 100000 in
theorem tw_343 : (.fieldLink R_Md 221 "WaterMenModel" "tkAt" "I") ∈ TB := tw_f (tw_t4 (List.mem_of_getElem? (i := 206) rfl)) rfl
set_option maxRecDepth 100000 in
theorem tw_344 : (.fieldLink R_Md 224 "WaterMenModel" "tk" "I") ∈ TB := tw_f (tw_t4 (List.mem_of_getElem? (i := 205) rfl)) rfl
set_option maxRecDepth 100000 in
theorem tw_345 : (.code y_Md_advance b_Md_advance 5 none) ∈ TB := tw_f (tw_t5 (List.mem_of_getElem? (i := 202) rfl)) rfl
set_option maxRecDepth 100000 in
theorem tw_346 : (.methodLink R_Md 269 y_Md_advance) ∈ TB := tw_f (tw_t5 (List.mem_of_getElem? (i := 199) rfl)) rfl
set_option maxRecDepth 100000 in
theorem tw_347 : (.instanceMethod y_Md_advance) ∈ TB := tw_f (tw_t5 (List.mem_of_getElem? (i := 201) rfl)) rfl
set_option maxRecDepth 100000 in
theorem tw_348 : (.selects R_Md y_Md_advance y_Md_advance) ∈ TB := tw_f (tw_s2 (List.mem_of_getElem? (i := 14) rfl)) rfl
set_option maxRecDepth 100000 in
theorem tw_349 : (.code y_Md_line b_Md_line 6 (some .boolean)) ∈ TB := tw_f (tw_t5 (List.mem_of_getElem? (i := 228) rfl)) rfl
set_option maxRecDepth 100000 in
theorem tw_350 : (.methodLink R_Md 278 y_Md_line) ∈ TB := tw_f (tw_t5 (List.mem_of_getElem? (i := 225) rfl)) rfl
set_option maxRecDepth 100000 in
theorem tw_351 : (.instanceMethod y_Md_line) ∈ TB := tw_f (tw_t5 (List.mem_of_getElem? (i := 227) rfl)) rfl
set_option maxRecDepth 100000 in
theorem tw_352 : (.selects R_Md y_Md_line y_Md_line) ∈ TB := tw_f (tw_s2 (List.mem_of_getElem? (i := 15) rfl)) rfl
set_option maxRecDepth 100000 in
theorem tw_353 : (.code y_Md_forceOn b_Md_forceOn 4 (some .int)) ∈ TB := tw_f (tw_t6 (List.mem_of_getElem? (i := 0) rfl)) rfl
set_option maxRecDepth 100000 in
theorem tw_354 : (.methodLink R_Md 281 y_Md_forceOn) ∈ TB := tw_f (tw_t5 (List.mem_of_getElem? (i := 237) rfl)) rfl
set_option maxRecDepth 100000 in
theorem tw_355 : (.instanceMethod y_Md_forceOn) ∈ TB := tw_f (tw_t5 (List.mem_of_getElem? (i := 239) rfl)) rfl
set_option maxRecDepth 100000 in
theorem tw_356 : (.selects R_Md y_Md_forceOn y_Md_forceOn) ∈ TB := tw_f (tw_s3 (List.mem_of_getElem? (i := 1) rfl)) rfl
set_option maxRecDepth 100000 in
theorem tw_357 : (.code y_Md_isAsked b_Md_isAsked 4 (some .boolean)) ∈ TB := tw_f (tw_t6 (List.mem_of_getElem? (i := 26) rfl)) rfl
set_option maxRecDepth 100000 in
theorem tw_358 : (.methodLink R_Md 306 y_Md_isAsked) ∈ TB := tw_f (tw_t6 (List.mem_of_getElem? (i := 23) rfl)) rfl
set_option maxRecDepth 100000 in
theorem tw_359 : (.instanceMethod y_Md_isAsked) ∈ TB := tw_f (tw_t6 (List.mem_of_getElem? (i := 25) rfl)) rfl
set_option maxRecDepth 100000 in
theorem tw_360 : (.selects R_Md y_Md_isAsked y_Md_isAsked) ∈ TB := tw_f (tw_s3 (List.mem_of_getElem? (i := 4) rfl)) rfl
set_option maxRecDepth 100000 in
theorem tw_361 : (.constant R_Md 305 359999) ∈ TB := tw_f (tw_t6 (List.mem_of_getElem? (i := 39) rfl)) rfl
set_option maxRecDepth 100000 in
theorem tw_362 : (.code y_Md_arrive b_Md_arrive 3 none) ∈ TB := tw_f (tw_t6 (List.mem_of_getElem? (i := 51) rfl)) rfl
set_option maxRecDepth 100000 in
theorem tw_363 : (.methodLink R_Md 329 y_Md_arrive) ∈ TB := tw_f (tw_t6 (List.mem_of_getElem? (i := 48) rfl)) rfl
set_option maxRecDepth 100000 in
theorem tw_364 : (.instanceMethod y_Md_arrive) ∈ TB := tw_f (tw_t6 (List.mem_of_getElem? (i := 50) rfl)) rfl
set_option maxRecDepth 100000 in
theorem tw_365 : (.selects R_Md y_Md_arrive y_Md_arrive) ∈ TB := tw_f (tw_s3 (List.mem_of_getElem? (i := 8) rfl)) rfl
set_option maxRecDepth 100000 in
theorem tw_366 : (.fieldLink R_Md 316 "WaterMenModel" "box" "J") ∈ TB := tw_f (tw_t4 (List.mem_of_getElem? (i := 218) rfl)) rfl
set_option maxRecDepth 100000 in
theorem tw_367 : (.fieldLink R_Md 320 "WaterMenModel" "pot" "J") ∈ TB := tw_f (tw_t4 (List.mem_of_getElem? (i := 219) rfl)) rfl
set_option maxRecDepth 100000 in
theorem tw_368 : (.code y_Md_part b_Md_part 6 none) ∈ TB := tw_f (tw_t6 (List.mem_of_getElem? (i := 55) rfl)) rfl
set_option maxRecDepth 100000 in
theorem tw_369 : (.methodLink R_Md 332 y_Md_part) ∈ TB := tw_f (tw_t6 (List.mem_of_getElem? (i := 52) rfl)) rfl
set_option maxRecDepth 100000 in
theorem tw_370 : (.instanceMethod y_Md_part) ∈ TB := tw_f (tw_t6 (List.mem_of_getElem? (i := 54) rfl)) rfl
set_option maxRecDepth 100000 in
theorem tw_371 : (.selects R_Md y_Md_part y_Md_part) ∈ TB := tw_f (tw_s3 (List.mem_of_getElem? (i := 9) rfl)) rfl
set_option maxRecDepth 100000 in
theorem tw_372 : (.fieldLink R_Md 313 "WaterMenModel" "trips" "I") ∈ TB := tw_f (tw_t4 (List.mem_of_getElem? (i := 209) rfl)) rfl
set_option maxRecDepth 100000 in
theorem tw_373 : (.code y_Md_isPension b_Md_isPension 2 (some .boolean)) ∈ TB := tw_f (tw_t6 (List.mem_of_getElem? (i := 66) rfl)) rfl
set_option maxRecDepth 100000 in
theorem tw_374 : (.methodLink R_Md 338 y_Md_isPension) ∈ TB := tw_f (tw_t6 (List.mem_of_getElem? (i := 64) rfl)) rfl
set_option maxRecDepth 100000 in
theorem tw_375 : (.static y_Md_isPension) ∈ TB := tw_f (tw_t6 (List.mem_of_getElem? (i := 65) rfl)) rfl
set_option maxRecDepth 100000 in
theorem tw_376 : (.fieldLink R_Md 323 "WaterMenModel" "pensioners" "I") ∈ TB := tw_f (tw_t4 (List.mem_of_getElem? (i := 222) rfl)) rfl
set_option maxRecDepth 100000 in
theorem tw_377 : (.code y_Md_newPensioner b_Md_newPensioner 3 (some .int)) ∈ TB := tw_f (tw_t6 (List.mem_of_getElem? (i := 70) rfl)) rfl
set_option maxRecDepth 100000 in
theorem tw_378 : (.methodLink R_Md 342 y_Md_newPensioner) ∈ TB := tw_f (tw_t6 (List.mem_of_getElem? (i := 67) rfl)) rfl
set_option maxRecDepth 100000 in
theorem tw_379 : (.instanceMethod y_Md_newPensioner) ∈ TB := tw_f (tw_t6 (List.mem_of_getElem? (i := 69) rfl)) rfl
set_option maxRecDepth 100000 in
theorem tw_380 : (.selects R_Md y_Md_newPensioner y_Md_newPensioner) ∈ TB := tw_f (tw_s3 (List.mem_of_getElem? (i := 11) rfl)) rfl
set_option maxRecDepth 100000 in
theorem tw_381 : (.code y_Md_menAs b_Md_menAs 4 (some .int)) ∈ TB := tw_f (tw_t6 (List.mem_of_getElem? (i := 106) rfl)) rfl
set_option maxRecDepth 100000 in
theorem tw_382 : (.methodLink R_Md 348 y_Md_menAs) ∈ TB := tw_f (tw_t6 (List.mem_of_getElem? (i := 103) rfl)) rfl
set_option maxRecDepth 100000 in
theorem tw_383 : (.instanceMethod y_Md_menAs) ∈ TB := tw_f (tw_t6 (List.mem_of_getElem? (i := 105) rfl)) rfl
set_option maxRecDepth 100000 in
theorem tw_384 : (.selects R_Md y_Md_menAs y_Md_menAs) ∈ TB := tw_f (tw_s3 (List.mem_of_getElem? (i := 13) rfl)) rfl
set_option maxRecDepth 100000 in
theorem tw_385 : (.fieldLink R_Md 326 "WaterMenModel" "paidOut" "J") ∈ TB := tw_f (tw_t4 (List.mem_of_getElem? (i := 220) rfl)) rfl
set_option maxRecDepth 100000 in
theorem tw_386 : (.methodLink R_law 13 y_WM_stairs) ∈ TB := tw_f (tw_t1 (List.mem_of_getElem? (i := 234) rfl)) rfl
set_option maxRecDepth 100000 in
theorem tw_387 : (.instanceMethod y_WM_stairs) ∈ TB := tw_f (tw_t1 (List.mem_of_getElem? (i := 235) rfl)) rfl
set_option maxRecDepth 100000 in
theorem tw_388 : (.selects R_WM y_WM_stairs y_WM_stairs) ∈ TB := tw_f (tw_t1 (List.mem_of_getElem? (i := 236) rfl)) rfl
set_option maxRecDepth 100000 in
theorem tw_389 : (.code y_WM_stairs b_WM_stairs 2 (some .int)) ∈ TB := tw_f (tw_t1 (List.mem_of_getElem? (i := 237) rfl)) rfl
set_option maxRecDepth 100000 in
theorem tw_390 : (.methodLink R_law 17 y_Md_stairs) ∈ TB := tw_f (tw_t4 (List.mem_of_getElem? (i := 115) rfl)) rfl
set_option maxRecDepth 100000 in
theorem tw_391 : (.instanceMethod y_Md_stairs) ∈ TB := tw_f (tw_t4 (List.mem_of_getElem? (i := 116) rfl)) rfl
set_option maxRecDepth 100000 in
theorem tw_392 : (.selects R_Md y_Md_stairs y_Md_stairs) ∈ TB := tw_f (tw_t4 (List.mem_of_getElem? (i := 117) rfl)) rfl
set_option maxRecDepth 100000 in
theorem tw_393 : (.code y_Md_stairs b_Md_stairs 2 (some .int)) ∈ TB := tw_f (tw_t4 (List.mem_of_getElem? (i := 118) rfl)) rfl
set_option maxRecDepth 100000 in
theorem tw_394 : (.methodLink R_law 18 y_WM_bridge) ∈ TB := tw_f (tw_t2 (List.mem_of_getElem? (i := 6) rfl)) rfl
set_option maxRecDepth 100000 in
theorem tw_395 : (.instanceMethod y_WM_bridge) ∈ TB := tw_f (tw_t2 (List.mem_of_getElem? (i := 7) rfl)) rfl
set_option maxRecDepth 100000 in
theorem tw_396 : (.selects R_WM y_WM_bridge y_WM_bridge) ∈ TB := tw_f (tw_t2 (List.mem_of_getElem? (i := 8) rfl)) rfl
set_option maxRecDepth 100000 in
theorem tw_397 : (.code y_WM_bridge b_WM_bridge 2 (some .int)) ∈ TB := tw_f (tw_t2 (List.mem_of_getElem? (i := 9) rfl)) rfl
set_option maxRecDepth 100000 in
theorem tw_398 : (.methodLink R_law 21 y_Md_bridge) ∈ TB := tw_f (tw_t4 (List.mem_of_getElem? (i := 122) rfl)) rfl
set_option maxRecDepth 100000 in
theorem tw_399 : (.instanceMethod y_Md_bridge) ∈ TB := tw_f (tw_t4 (List.mem_of_getElem? (i := 123) rfl)) rfl
set_option maxRecDepth 100000 in
theorem tw_400 : (.selects R_Md y_Md_bridge y_Md_bridge) ∈ TB := tw_f (tw_t4 (List.mem_of_getElem? (i := 124) rfl)) rfl
set_option maxRecDepth 100000 in
theorem tw_401 : (.code y_Md_bridge b_Md_bridge 2 (some .int)) ∈ TB := tw_f (tw_t4 (List.mem_of_getElem? (i := 125) rfl)) rfl
set_option maxRecDepth 100000 in
theorem tw_402 : (.methodLink R_law 22 y_WM_level) ∈ TB := tw_f (tw_t2 (List.mem_of_getElem? (i := 10) rfl)) rfl
set_option maxRecDepth 100000 in
theorem tw_403 : (.instanceMethod y_WM_level) ∈ TB := tw_f (tw_t2 (List.mem_of_getElem? (i := 11) rfl)) rfl
set_option maxRecDepth 100000 in
theorem tw_404 : (.selects R_WM y_WM_level y_WM_level) ∈ TB := tw_f (tw_t2 (List.mem_of_getElem? (i := 12) rfl)) rfl
set_option maxRecDepth 100000 in
theorem tw_405 : (.code y_WM_level b_WM_level 4 (some .int)) ∈ TB := tw_f (tw_t2 (List.mem_of_getElem? (i := 13) rfl)) rfl
set_option maxRecDepth 100000 in
theorem tw_406 : (.methodLink R_law 26 y_Md_level) ∈ TB := tw_f (tw_t4 (List.mem_of_getElem? (i := 126) rfl)) rfl
set_option maxRecDepth 100000 in
theorem tw_407 : (.instanceMethod y_Md_level) ∈ TB := tw_f (tw_t4 (List.mem_of_getElem? (i := 127) rfl)) rfl
set_option maxRecDepth 100000 in
theorem tw_408 : (.selects R_Md y_Md_level y_Md_level) ∈ TB := tw_f (tw_t4 (List.mem_of_getElem? (i := 128) rfl)) rfl
set_option maxRecDepth 100000 in
theorem tw_409 : (.code y_Md_level b_Md_level 5 (some .int)) ∈ TB := tw_f (tw_t4 (List.mem_of_getElem? (i := 129) rfl)) rfl
set_option maxRecDepth 100000 in
theorem tw_410 : (.methodLink R_law 27 y_WM_table) ∈ TB := tw_f (tw_t2 (List.mem_of_getElem? (i := 27) rfl)) rfl
set_option maxRecDepth 100000 in
theorem tw_411 : (.instanceMethod y_WM_table) ∈ TB := tw_f (tw_t2 (List.mem_of_getElem? (i := 28) rfl)) rfl
set_option maxRecDepth 100000 in
theorem tw_412 : (.selects R_WM y_WM_table y_WM_table) ∈ TB := tw_f (tw_t2 (List.mem_of_getElem? (i := 29) rfl)) rfl
set_option maxRecDepth 100000 in
theorem tw_413 : (.code y_WM_table b_WM_table 4 (some .int)) ∈ TB := tw_f (tw_t2 (List.mem_of_getElem? (i := 30) rfl)) rfl
set_option maxRecDepth 100000 in
theorem tw_414 : (.methodLink R_law 31 y_Md_table) ∈ TB := tw_f (tw_t4 (List.mem_of_getElem? (i := 133) rfl)) rfl
set_option maxRecDepth 100000 in
theorem tw_415 : (.instanceMethod y_Md_table) ∈ TB := tw_f (tw_t4 (List.mem_of_getElem? (i := 134) rfl)) rfl
set_option maxRecDepth 100000 in
theorem tw_416 : (.selects R_Md y_Md_table y_Md_table) ∈ TB := tw_f (tw_t4 (List.mem_of_getElem? (i := 135) rfl)) rfl
set_option maxRecDepth 100000 in
theorem tw_417 : (.code y_Md_table b_Md_table 4 (some .int)) ∈ TB := tw_f (tw_t4 (List.mem_of_getElem? (i := 136) rfl)) rfl
set_option maxRecDepth 100000 in
theorem tw_418 : (.methodLink R_law 32 y_WM_flow) ∈ TB := tw_f (tw_t2 (List.mem_of_getElem? (i := 31) rfl)) rfl
set_option maxRecDepth 100000 in
theorem tw_419 : (.instanceMethod y_WM_flow) ∈ TB := tw_f (tw_t2 (List.mem_of_getElem? (i := 32) rfl)) rfl
set_option maxRecDepth 100000 in
theorem tw_420 : (.selects R_WM y_WM_flow y_WM_flow) ∈ TB := tw_f (tw_t2 (List.mem_of_getElem? (i := 33) rfl)) rfl
set_option maxRecDepth 100000 in
theorem tw_421 : (.code y_WM_flow b_WM_flow 3 (some .int)) ∈ TB := tw_f (tw_t2 (List.mem_of_getElem? (i := 34) rfl)) rfl
set_option maxRecDepth 100000 in
theorem tw_422 : (.methodLink R_law 35 y_Md_flow) ∈ TB := tw_f (tw_t4 (List.mem_of_getElem? (i := 137) rfl)) rfl
set_option maxRecDepth 100000 in
theorem tw_423 : (.instanceMethod y_Md_flow) ∈ TB := tw_f (tw_t4 (List.mem_of_getElem? (i := 138) rfl)) rfl
set_option maxRecDepth 100000 in
theorem tw_424 : (.selects R_Md y_Md_flow y_Md_flow) ∈ TB := tw_f (tw_t4 (List.mem_of_getElem? (i := 139) rfl)) rfl
set_option maxRecDepth 100000 in
theorem tw_425 : (.code y_Md_flow b_Md_flow 3 (some .int)) ∈ TB := tw_f (tw_t4 (List.mem_of_getElem? (i := 140) rfl)) rfl
set_option maxRecDepth 100000 in
theorem tw_426 : (.methodLink R_law 36 y_WM_frost) ∈ TB := tw_f (tw_t2 (List.mem_of_getElem? (i := 43) rfl)) rfl
set_option maxRecDepth 100000 in
theorem tw_427 : (.instanceMethod y_WM_frost) ∈ TB := tw_f (tw_t2 (List.mem_of_getElem? (i := 44) rfl)) rfl
set_option maxRecDepth 100000 in
theorem tw_428 : (.selects R_WM y_WM_frost y_WM_frost) ∈ TB := tw_f (tw_t2 (List.mem_of_getElem? (i := 45) rfl)) rfl
set_option maxRecDepth 100000 in
theorem tw_429 : (.code y_WM_frost b_WM_frost 4 (some .int)) ∈ TB := tw_f (tw_t2 (List.mem_of_getElem? (i := 46) rfl)) rfl
set_option maxRecDepth 100000 in
theorem tw_430 : (.methodLink R_law 39 y_Md_frost) ∈ TB := tw_f (tw_t4 (List.mem_of_getElem? (i := 150) rfl)) rfl
set_option maxRecDepth 100000 in
theorem tw_431 : (.instanceMethod y_Md_frost) ∈ TB := tw_f (tw_t4 (List.mem_of_getElem? (i := 151) rfl)) rfl
set_option maxRecDepth 100000 in
theorem tw_432 : (.selects R_Md y_Md_frost y_Md_frost) ∈ TB := tw_f (tw_t4 (List.mem_of_getElem? (i := 152) rfl)) rfl
set_option maxRecDepth 100000 in
theorem tw_433 : (.code y_Md_frost b_Md_frost 4 (some .int)) ∈ TB := tw_f (tw_t4 (List.mem_of_getElem? (i := 153) rfl)) rfl
set_option maxRecDepth 100000 in
theorem tw_434 : (.methodLink R_law 40 y_WM_free) ∈ TB := tw_f (tw_t2 (List.mem_of_getElem? (i := 56) rfl)) rfl
set_option maxRecDepth 100000 in
theorem tw_435 : (.instanceMethod y_WM_free) ∈ TB := tw_f (tw_t2 (List.mem_of_getElem? (i := 57) rfl)) rfl
set_option maxRecDepth 100000 in
theorem tw_436 : (.selects R_WM y_WM_free y_WM_free) ∈ TB := tw_f (tw_t2 (List.mem_of_getElem? (i := 58) rfl)) rfl
set_option maxRecDepth 100000 in
theorem tw_437 : (.code y_WM_free b_WM_free 3 (some .int)) ∈ TB := tw_f (tw_t2 (List.mem_of_getElem? (i := 59) rfl)) rfl
set_option maxRecDepth 100000 in
theorem tw_438 : (.methodLink R_law 43 y_Md_free) ∈ TB := tw_f (tw_t5 (List.mem_of_getElem? (i := 116) rfl)) rfl
set_option maxRecDepth 100000 in
theorem tw_439 : (.instanceMethod y_Md_free) ∈ TB := tw_f (tw_t5 (List.mem_of_getElem? (i := 117) rfl)) rfl
set_option maxRecDepth 100000 in
theorem tw_440 : (.selects R_Md y_Md_free y_Md_free) ∈ TB := tw_f (tw_t5 (List.mem_of_getElem? (i := 118) rfl)) rfl
set_option maxRecDepth 100000 in
theorem tw_441 : (.code y_Md_free b_Md_free 2 (some .int)) ∈ TB := tw_f (tw_t5 (List.mem_of_getElem? (i := 119) rfl)) rfl
set_option maxRecDepth 100000 in
theorem tw_442 : (.methodLink R_law 44 y_WM_bind) ∈ TB := tw_f (tw_t2 (List.mem_of_getElem? (i := 64) rfl)) rfl
set_option maxRecDepth 100000 in
theorem tw_443 : (.instanceMethod y_WM_bind) ∈ TB := tw_f (tw_t2 (List.mem_of_getElem? (i := 65) rfl)) rfl
set_option maxRecDepth 100000 in
theorem tw_444 : (.selects R_WM y_WM_bind y_WM_bind) ∈ TB := tw_f (tw_t2 (List.mem_of_getElem? (i := 66) rfl)) rfl
set_option maxRecDepth 100000 in
theorem tw_445 : (.code y_WM_bind b_WM_bind 5 (some .int)) ∈ TB := tw_f (tw_t2 (List.mem_of_getElem? (i := 67) rfl)) rfl
set_option maxRecDepth 100000 in
theorem tw_446 : (.methodLink R_law 47 y_Md_bind) ∈ TB := tw_f (tw_t5 (List.mem_of_getElem? (i := 123) rfl)) rfl
set_option maxRecDepth 100000 in
theorem tw_447 : (.instanceMethod y_Md_bind) ∈ TB := tw_f (tw_t5 (List.mem_of_getElem? (i := 124) rfl)) rfl
set_option maxRecDepth 100000 in
theorem tw_448 : (.selects R_Md y_Md_bind y_Md_bind) ∈ TB := tw_f (tw_t5 (List.mem_of_getElem? (i := 125) rfl)) rfl
set_option maxRecDepth 100000 in
theorem tw_449 : (.code y_Md_bind b_Md_bind 3 (some .int)) ∈ TB := tw_f (tw_t5 (List.mem_of_getElem? (i := 126) rfl)) rfl
set_option maxRecDepth 100000 in
theorem tw_450 : (.methodLink R_law 48 y_WM_absent) ∈ TB := tw_f (tw_t2 (List.mem_of_getElem? (i := 93) rfl)) rfl
set_option maxRecDepth 100000 in
theorem tw_451 : (.instanceMethod y_WM_absent) ∈ TB := tw_f (tw_t2 (List.mem_of_getElem? (i := 94) rfl)) rfl
set_option maxRecDepth 100000 in
theorem tw_452 : (.selects R_WM y_WM_absent y_WM_absent) ∈ TB := tw_f (tw_t2 (List.mem_of_getElem? (i := 95) rfl)) rfl
set_option maxRecDepth 100000 in
theorem tw_453 : (.code y_WM_absent b_WM_absent 6 (some .int)) ∈ TB := tw_f (tw_t2 (List.mem_of_getElem? (i := 96) rfl)) rfl
set_option maxRecDepth 100000 in
theorem tw_454 : (.methodLink R_law 51 y_Md_absent) ∈ TB := tw_f (tw_t5 (List.mem_of_getElem? (i := 127) rfl)) rfl
set_option maxRecDepth 100000 in
theorem tw_455 : (.instanceMethod y_Md_absent) ∈ TB := tw_f (tw_t5 (List.mem_of_getElem? (i := 128) rfl)) rfl
set_option maxRecDepth 100000 in
theorem tw_456 : (.selects R_Md y_Md_absent y_Md_absent) ∈ TB := tw_f (tw_t5 (List.mem_of_getElem? (i := 129) rfl)) rfl
set_option maxRecDepth 100000 in
theorem tw_457 : (.code y_Md_absent b_Md_absent 5 (some .int)) ∈ TB := tw_f (tw_t5 (List.mem_of_getElem? (i := 130) rfl)) rfl
set_option maxRecDepth 100000 in
theorem tw_458 : (.methodLink R_law 52 y_WM_served) ∈ TB := tw_f (tw_t2 (List.mem_of_getElem? (i := 105) rfl)) rfl
set_option maxRecDepth 100000 in
theorem tw_459 : (.methodLink R_law 55 y_Md_served) ∈ TB := tw_f (tw_t5 (List.mem_of_getElem? (i := 131) rfl)) rfl
set_option maxRecDepth 100000 in
theorem tw_460 : (.instanceMethod y_Md_served) ∈ TB := tw_f (tw_t5 (List.mem_of_getElem? (i := 132) rfl)) rfl
set_option maxRecDepth 100000 in
theorem tw_461 : (.selects R_Md y_Md_served y_Md_served) ∈ TB := tw_f (tw_t5 (List.mem_of_getElem? (i := 133) rfl)) rfl
set_option maxRecDepth 100000 in
theorem tw_462 : (.code y_Md_served b_Md_served 2 (some .int)) ∈ TB := tw_f (tw_t5 (List.mem_of_getElem? (i := 134) rfl)) rfl
set_option maxRecDepth 100000 in
theorem tw_463 : (.methodLink R_law 56 y_WM_pass) ∈ TB := tw_f (tw_t2 (List.mem_of_getElem? (i := 116) rfl)) rfl
set_option maxRecDepth 100000 in
theorem tw_464 : (.instanceMethod y_WM_pass) ∈ TB := tw_f (tw_t2 (List.mem_of_getElem? (i := 117) rfl)) rfl
set_option maxRecDepth 100000 in
theorem tw_465 : (.selects R_WM y_WM_pass y_WM_pass) ∈ TB := tw_f (tw_t2 (List.mem_of_getElem? (i := 118) rfl)) rfl
set_option maxRecDepth 100000 in
theorem tw_466 : (.code y_WM_pass b_WM_pass 4 (some .int)) ∈ TB := tw_f (tw_t2 (List.mem_of_getElem? (i := 119) rfl)) rfl
set_option maxRecDepth 100000 in
theorem tw_467 : (.methodLink R_law 59 y_Md_pass) ∈ TB := tw_f (tw_t5 (List.mem_of_getElem? (i := 139) rfl)) rfl
set_option maxRecDepth 100000 in
theorem tw_468 : (.instanceMethod y_Md_pass) ∈ TB := tw_f (tw_t5 (List.mem_of_getElem? (i := 140) rfl)) rfl
set_option maxRecDepth 100000 in
theorem tw_469 : (.selects R_Md y_Md_pass y_Md_pass) ∈ TB := tw_f (tw_t5 (List.mem_of_getElem? (i := 141) rfl)) rfl
set_option maxRecDepth 100000 in
theorem tw_470 : (.code y_Md_pass b_Md_pass 3 (some .int)) ∈ TB := tw_f (tw_t5 (List.mem_of_getElem? (i := 142) rfl)) rfl
set_option maxRecDepth 100000 in
theorem tw_471 : (.methodLink R_law 60 y_WM_man) ∈ TB := tw_f (tw_t2 (List.mem_of_getElem? (i := 121) rfl)) rfl
set_option maxRecDepth 100000 in
theorem tw_472 : (.instanceMethod y_WM_man) ∈ TB := tw_f (tw_t2 (List.mem_of_getElem? (i := 122) rfl)) rfl
set_option maxRecDepth 100000 in
theorem tw_473 : (.selects R_WM y_WM_man y_WM_man) ∈ TB := tw_f (tw_t2 (List.mem_of_getElem? (i := 123) rfl)) rfl
set_option maxRecDepth 100000 in
theorem tw_474 : (.code y_WM_man b_WM_man 4 (some .int)) ∈ TB := tw_f (tw_t2 (List.mem_of_getElem? (i := 124) rfl)) rfl
set_option maxRecDepth 100000 in
theorem tw_475 : (.methodLink R_law 63 y_Md_man) ∈ TB := tw_f (tw_t5 (List.mem_of_getElem? (i := 143) rfl)) rfl
set_option maxRecDepth 100000 in
theorem tw_476 : (.instanceMethod y_Md_man) ∈ TB := tw_f (tw_t5 (List.mem_of_getElem? (i := 144) rfl)) rfl
set_option maxRecDepth 100000 in
theorem tw_477 : (.selects R_Md y_Md_man y_Md_man) ∈ TB := tw_f (tw_t5 (List.mem_of_getElem? (i := 145) rfl)) rfl
set_option maxRecDepth 100000 in
theorem tw_478 : (.code y_Md_man b_Md_man 3 (some .int)) ∈ TB := tw_f (tw_t5 (List.mem_of_getElem? (i := 146) rfl)) rfl
set_option maxRecDepth 100000 in
theorem tw_479 : (.methodLink R_law 64 y_WM_boat) ∈ TB := tw_f (tw_t2 (List.mem_of_getElem? (i := 133) rfl)) rfl
set_option maxRecDepth 100000 in
theorem tw_480 : (.instanceMethod y_WM_boat) ∈ TB := tw_f (tw_t2 (List.mem_of_getElem? (i := 134) rfl)) rfl
set_option maxRecDepth 100000 in
theorem tw_481 : (.selects R_WM y_WM_boat y_WM_boat) ∈ TB := tw_f (tw_t2 (List.mem_of_getElem? (i := 135) rfl)) rfl
set_option maxRecDepth 100000 in
theorem tw_482 : (.code y_WM_boat b_WM_boat 3 (some .int)) ∈ TB := tw_f (tw_t2 (List.mem_of_getElem? (i := 136) rfl)) rfl
set_option maxRecDepth 100000 in
theorem tw_483 : (.methodLink R_law 67 y_Md_boat) ∈ TB := tw_f (tw_t5 (List.mem_of_getElem? (i := 171) rfl)) rfl
set_option maxRecDepth 100000 in
theorem tw_484 : (.instanceMethod y_Md_boat) ∈ TB := tw_f (tw_t5 (List.mem_of_getElem? (i := 172) rfl)) rfl
set_option maxRecDepth 100000 in
theorem tw_485 : (.selects R_Md y_Md_boat y_Md_boat) ∈ TB := tw_f (tw_t5 (List.mem_of_getElem? (i := 173) rfl)) rfl
set_option maxRecDepth 100000 in
theorem tw_486 : (.code y_Md_boat b_Md_boat 3 (some .int)) ∈ TB := tw_f (tw_t5 (List.mem_of_getElem? (i := 174) rfl)) rfl
set_option maxRecDepth 100000 in
theorem tw_487 : (.methodLink R_law 68 y_WM_craft) ∈ TB := tw_f (tw_t2 (List.mem_of_getElem? (i := 174) rfl)) rfl
set_option maxRecDepth 100000 in
theorem tw_488 : (.instanceMethod y_WM_craft) ∈ TB := tw_f (tw_t2 (List.mem_of_getElem? (i := 175) rfl)) rfl
set_option maxRecDepth 100000 in
theorem tw_489 : (.selects R_WM y_WM_craft y_WM_craft) ∈ TB := tw_f (tw_t2 (List.mem_of_getElem? (i := 176) rfl)) rfl
set_option maxRecDepth 100000 in
theorem tw_490 : (.code y_WM_craft b_WM_craft 4 (some .int)) ∈ TB := tw_f (tw_t2 (List.mem_of_getElem? (i := 177) rfl)) rfl
set_option maxRecDepth 100000 in
theorem tw_491 : (.methodLink R_law 71 y_Md_craft) ∈ TB := tw_f (tw_t5 (List.mem_of_getElem? (i := 175) rfl)) rfl
set_option maxRecDepth 100000 in
theorem tw_492 : (.instanceMethod y_Md_craft) ∈ TB := tw_f (tw_t5 (List.mem_of_getElem? (i := 176) rfl)) rfl
set_option maxRecDepth 100000 in
theorem tw_493 : (.selects R_Md y_Md_craft y_Md_craft) ∈ TB := tw_f (tw_t5 (List.mem_of_getElem? (i := 177) rfl)) rfl
set_option maxRecDepth 100000 in
theorem tw_494 : (.code y_Md_craft b_Md_craft 3 (some .int)) ∈ TB := tw_f (tw_t5 (List.mem_of_getElem? (i := 178) rfl)) rfl
set_option maxRecDepth 100000 in
theorem tw_495 : (.methodLink R_law 72 y_WM_join) ∈ TB := tw_f (tw_t2 (List.mem_of_getElem? (i := 186) rfl)) rfl
set_option maxRecDepth 100000 in
theorem tw_496 : (.instanceMethod y_WM_join) ∈ TB := tw_f (tw_t2 (List.mem_of_getElem? (i := 187) rfl)) rfl
set_option maxRecDepth 100000 in
theorem tw_497 : (.selects R_WM y_WM_join y_WM_join) ∈ TB := tw_f (tw_t2 (List.mem_of_getElem? (i := 188) rfl)) rfl
set_option maxRecDepth 100000 in
theorem tw_498 : (.code y_WM_join b_WM_join 4 (some .int)) ∈ TB := tw_f (tw_t2 (List.mem_of_getElem? (i := 189) rfl)) rfl
set_option maxRecDepth 100000 in
theorem tw_499 : (.methodLink R_law 75 y_Md_join) ∈ TB := tw_f (tw_t5 (List.mem_of_getElem? (i := 155) rfl)) rfl
set_option maxRecDepth 100000 in
theorem tw_500 : (.instanceMethod y_Md_join) ∈ TB := tw_f (tw_t5 (List.mem_of_getElem? (i := 156) rfl)) rfl
set_option maxRecDepth 100000 in
theorem tw_501 : (.selects R_Md y_Md_join y_Md_join) ∈ TB := tw_f (tw_t5 (List.mem_of_getElem? (i := 157) rfl)) rfl
set_option maxRecDepth 100000 in
theorem tw_502 : (.code y_Md_join b_Md_join 3 (some .int)) ∈ TB := tw_f (tw_t5 (List.mem_of_getElem? (i := 158) rfl)) rfl
set_option maxRecDepth 100000 in
theorem tw_503 : (.methodLink R_law 76 y_WM_leave) ∈ TB := tw_f (tw_t2 (List.mem_of_getElem? (i := 190) rfl)) rfl
set_option maxRecDepth 100000 in
theorem tw_504 : (.instanceMethod y_WM_leave) ∈ TB := tw_f (tw_t2 (List.mem_of_getElem? (i := 191) rfl)) rfl
set_option maxRecDepth 100000 in
theorem tw_505 : (.selects R_WM y_WM_leave y_WM_leave) ∈ TB := tw_f (tw_t2 (List.mem_of_getElem? (i := 192) rfl)) rfl
set_option maxRecDepth 100000 in
theorem tw_506 : (.code y_WM_leave b_WM_leave 3 (some .int)) ∈ TB := tw_f (tw_t2 (List.mem_of_getElem? (i := 193) rfl)) rfl
set_option maxRecDepth 100000 in
theorem tw_507 : (.methodLink R_law 79 y_Md_leave) ∈ TB := tw_f (tw_t5 (List.mem_of_getElem? (i := 163) rfl)) rfl
set_option maxRecDepth 100000 in
theorem tw_508 : (.instanceMethod y_Md_leave) ∈ TB := tw_f (tw_t5 (List.mem_of_getElem? (i := 164) rfl)) rfl
set_option maxRecDepth 100000 in
theorem tw_509 : (.selects R_Md y_Md_leave y_Md_leave) ∈ TB := tw_f (tw_t5 (List.mem_of_getElem? (i := 165) rfl)) rfl
set_option maxRecDepth 100000 in
theorem tw_510 : (.code y_Md_leave b_Md_leave 2 (some .int)) ∈ TB := tw_f (tw_t5 (List.mem_of_getElem? (i := 166) rfl)) rfl
set_option maxRecDepth 100000 in
theorem tw_511 : (.methodLink R_law 80 y_WM_feed) ∈ TB := tw_f (tw_t2 (List.mem_of_getElem? (i := 194) rfl)) rfl
set_option maxRecDepth 100000 in
theorem tw_512 : (.instanceMethod y_WM_feed) ∈ TB := tw_f (tw_t2 (List.mem_of_getElem? (i := 195) rfl)) rfl
set_option maxRecDepth 100000 in
theorem tw_513 : (.selects R_WM y_WM_feed y_WM_feed) ∈ TB := tw_f (tw_t2 (List.mem_of_getElem? (i := 196) rfl)) rfl
set_option maxRecDepth 100000 in
theorem tw_514 : (.code y_WM_feed b_WM_feed 6 (some .int)) ∈ TB := tw_f (tw_t2 (List.mem_of_getElem? (i := 197) rfl)) rfl
set_option maxRecDepth 100000 in
theorem tw_515 : (.methodLink R_law 84 y_Md_feed) ∈ TB := tw_f (tw_t5 (List.mem_of_getElem? (i := 183) rfl)) rfl
set_option maxRecDepth 100000 in
theorem tw_516 : (.instanceMethod y_Md_feed) ∈ TB := tw_f (tw_t5 (List.mem_of_getElem? (i := 184) rfl)) rfl
set_option maxRecDepth 100000 in
theorem tw_517 : (.selects R_Md y_Md_feed y_Md_feed) ∈ TB := tw_f (tw_t5 (List.mem_of_getElem? (i := 185) rfl)) rfl
set_option maxRecDepth 100000 in
theorem tw_518 : (.code y_Md_feed b_Md_feed 6 (some .int)) ∈ TB := tw_f (tw_t5 (List.mem_of_getElem? (i := 186) rfl)) rfl
set_option maxRecDepth 100000 in
theorem tw_519 : (.methodLink R_law 85 y_WM_end) ∈ TB := tw_f (tw_t2 (List.mem_of_getElem? (i := 206) rfl)) rfl
set_option maxRecDepth 100000 in
theorem tw_520 : (.instanceMethod y_WM_end) ∈ TB := tw_f (tw_t2 (List.mem_of_getElem? (i := 207) rfl)) rfl
set_option maxRecDepth 100000 in
theorem tw_521 : (.selects R_WM y_WM_end y_WM_end) ∈ TB := tw_f (tw_t2 (List.mem_of_getElem? (i := 208) rfl)) rfl
set_option maxRecDepth 100000 in
theorem tw_522 : (.code y_WM_end b_WM_end 2 (some .int)) ∈ TB := tw_f (tw_t2 (List.mem_of_getElem? (i := 209) rfl)) rfl
set_option maxRecDepth 100000 in
theorem tw_523 : (.methodLink R_law 88 y_Md_end) ∈ TB := tw_f (tw_t5 (List.mem_of_getElem? (i := 191) rfl)) rfl
set_option maxRecDepth 100000 in
theorem tw_524 : (.instanceMethod y_Md_end) ∈ TB := tw_f (tw_t5 (List.mem_of_getElem? (i := 192) rfl)) rfl
set_option maxRecDepth 100000 in
theorem tw_525 : (.selects R_Md y_Md_end y_Md_end) ∈ TB := tw_f (tw_t5 (List.mem_of_getElem? (i := 193) rfl)) rfl
set_option maxRecDepth 100000 in
theorem tw_526 : (.code y_Md_end b_Md_end 2 (some .int)) ∈ TB := tw_f (tw_t5 (List.mem_of_getElem? (i := 194) rfl)) rfl
set_option maxRecDepth 100000 in
theorem tw_527 : (.methodLink R_law 89 y_WM_order) ∈ TB := tw_f (tw_t2 (List.mem_of_getElem? (i := 210) rfl)) rfl
set_option maxRecDepth 100000 in
theorem tw_528 : (.instanceMethod y_WM_order) ∈ TB := tw_f (tw_t2 (List.mem_of_getElem? (i := 211) rfl)) rfl
set_option maxRecDepth 100000 in
theorem tw_529 : (.selects R_WM y_WM_order y_WM_order) ∈ TB := tw_f (tw_t2 (List.mem_of_getElem? (i := 212) rfl)) rfl
set_option maxRecDepth 100000 in
theorem tw_530 : (.code y_WM_order b_WM_order 3 (some .int)) ∈ TB := tw_f (tw_t2 (List.mem_of_getElem? (i := 213) rfl)) rfl
set_option maxRecDepth 100000 in
theorem tw_531 : (.methodLink R_law 92 y_Md_order) ∈ TB := tw_f (tw_t5 (List.mem_of_getElem? (i := 195) rfl)) rfl
set_option maxRecDepth 100000 in
theorem tw_532 : (.instanceMethod y_Md_order) ∈ TB := tw_f (tw_t5 (List.mem_of_getElem? (i := 196) rfl)) rfl
set_option maxRecDepth 100000 in
theorem tw_533 : (.selects R_Md y_Md_order y_Md_order) ∈ TB := tw_f (tw_t5 (List.mem_of_getElem? (i := 197) rfl)) rfl
set_option maxRecDepth 100000 in
theorem tw_534 : (.code y_Md_order b_Md_order 5 (some .int)) ∈ TB := tw_f (tw_t5 (List.mem_of_getElem? (i := 198) rfl)) rfl
set_option maxRecDepth 100000 in
theorem tw_535 : (.methodLink R_law 93 y_WM_inForce) ∈ TB := tw_f (tw_t3 (List.mem_of_getElem? (i := 90) rfl)) rfl
set_option maxRecDepth 100000 in
theorem tw_536 : (.instanceMethod y_WM_inForce) ∈ TB := tw_f (tw_t3 (List.mem_of_getElem? (i := 91) rfl)) rfl
set_option maxRecDepth 100000 in
theorem tw_537 : (.selects R_WM y_WM_inForce y_WM_inForce) ∈ TB := tw_f (tw_t3 (List.mem_of_getElem? (i := 92) rfl)) rfl
set_option maxRecDepth 100000 in
theorem tw_538 : (.code y_WM_inForce b_WM_inForce 3 (some .int)) ∈ TB := tw_f (tw_t3 (List.mem_of_getElem? (i := 93) rfl)) rfl
set_option maxRecDepth 100000 in
theorem tw_539 : (.methodLink R_law 96 y_Md_inForce) ∈ TB := tw_f (tw_t5 (List.mem_of_getElem? (i := 233) rfl)) rfl
set_option maxRecDepth 100000 in
theorem tw_540 : (.instanceMethod y_Md_inForce) ∈ TB := tw_f (tw_t5 (List.mem_of_getElem? (i := 234) rfl)) rfl
set_option maxRecDepth 100000 in
theorem tw_541 : (.selects R_Md y_Md_inForce y_Md_inForce) ∈ TB := tw_f (tw_t5 (List.mem_of_getElem? (i := 235) rfl)) rfl
set_option maxRecDepth 100000 in
theorem tw_542 : (.code y_Md_inForce b_Md_inForce 3 (some .int)) ∈ TB := tw_f (tw_t5 (List.mem_of_getElem? (i := 236) rfl)) rfl
set_option maxRecDepth 100000 in
theorem tw_543 : (.methodLink R_law 97 y_WM_fare) ∈ TB := tw_f (tw_t3 (List.mem_of_getElem? (i := 102) rfl)) rfl
set_option maxRecDepth 100000 in
theorem tw_544 : (.instanceMethod y_WM_fare) ∈ TB := tw_f (tw_t3 (List.mem_of_getElem? (i := 103) rfl)) rfl
set_option maxRecDepth 100000 in
theorem tw_545 : (.selects R_WM y_WM_fare y_WM_fare) ∈ TB := tw_f (tw_t3 (List.mem_of_getElem? (i := 104) rfl)) rfl
set_option maxRecDepth 100000 in
theorem tw_546 : (.code y_WM_fare b_WM_fare 8 (some .int)) ∈ TB := tw_f (tw_t3 (List.mem_of_getElem? (i := 105) rfl)) rfl
set_option maxRecDepth 100000 in
theorem tw_547 : (.methodLink R_law 100 y_Md_fare) ∈ TB := tw_f (tw_t6 (List.mem_of_getElem? (i := 1) rfl)) rfl
set_option maxRecDepth 100000 in
theorem tw_548 : (.instanceMethod y_Md_fare) ∈ TB := tw_f (tw_t6 (List.mem_of_getElem? (i := 2) rfl)) rfl
set_option maxRecDepth 100000 in
theorem tw_549 : (.selects R_Md y_Md_fare y_Md_fare) ∈ TB := tw_f (tw_t6 (List.mem_of_getElem? (i := 3) rfl)) rfl
set_option maxRecDepth 100000 in
theorem tw_550 : (.code y_Md_fare b_Md_fare 6 (some .int)) ∈ TB := tw_f (tw_t6 (List.mem_of_getElem? (i := 4) rfl)) rfl
set_option maxRecDepth 100000 in
theorem tw_551 : (.methodLink R_law 101 y_WM_why) ∈ TB := tw_f (tw_t3 (List.mem_of_getElem? (i := 145) rfl)) rfl
set_option maxRecDepth 100000 in
theorem tw_552 : (.instanceMethod y_WM_why) ∈ TB := tw_f (tw_t3 (List.mem_of_getElem? (i := 146) rfl)) rfl
set_option maxRecDepth 100000 in
theorem tw_553 : (.selects R_WM y_WM_why y_WM_why) ∈ TB := tw_f (tw_t3 (List.mem_of_getElem? (i := 147) rfl)) rfl
set_option maxRecDepth 100000 in
theorem tw_554 : (.code y_WM_why b_WM_why 6 (some .int)) ∈ TB := tw_f (tw_t3 (List.mem_of_getElem? (i := 148) rfl)) rfl
set_option maxRecDepth 100000 in
theorem tw_555 : (.methodLink R_law 104 y_Md_why) ∈ TB := tw_f (tw_t6 (List.mem_of_getElem? (i := 19) rfl)) rfl
set_option maxRecDepth 100000 in
theorem tw_556 : (.instanceMethod y_Md_why) ∈ TB := tw_f (tw_t6 (List.mem_of_getElem? (i := 20) rfl)) rfl
set_option maxRecDepth 100000 in
theorem tw_557 : (.selects R_Md y_Md_why y_Md_why) ∈ TB := tw_f (tw_t6 (List.mem_of_getElem? (i := 21) rfl)) rfl
set_option maxRecDepth 100000 in
theorem tw_558 : (.code y_Md_why b_Md_why 4 (some .int)) ∈ TB := tw_f (tw_t6 (List.mem_of_getElem? (i := 22) rfl)) rfl
set_option maxRecDepth 100000 in
theorem tw_559 : (.methodLink R_law 105 y_WM_row) ∈ TB := tw_f (tw_t3 (List.mem_of_getElem? (i := 186) rfl)) rfl
set_option maxRecDepth 100000 in
theorem tw_560 : (.instanceMethod y_WM_row) ∈ TB := tw_f (tw_t3 (List.mem_of_getElem? (i := 187) rfl)) rfl
set_option maxRecDepth 100000 in
theorem tw_561 : (.selects R_WM y_WM_row y_WM_row) ∈ TB := tw_f (tw_t3 (List.mem_of_getElem? (i := 188) rfl)) rfl
set_option maxRecDepth 100000 in
theorem tw_562 : (.code y_WM_row b_WM_row 9 (some .int)) ∈ TB := tw_f (tw_t3 (List.mem_of_getElem? (i := 189) rfl)) rfl
set_option maxRecDepth 100000 in
theorem tw_563 : (.methodLink R_law 109 y_Md_row) ∈ TB := tw_f (tw_t6 (List.mem_of_getElem? (i := 40) rfl)) rfl
set_option maxRecDepth 100000 in
theorem tw_564 : (.instanceMethod y_Md_row) ∈ TB := tw_f (tw_t6 (List.mem_of_getElem? (i := 41) rfl)) rfl
set_option maxRecDepth 100000 in
theorem tw_565 : (.selects R_Md y_Md_row y_Md_row) ∈ TB := tw_f (tw_t6 (List.mem_of_getElem? (i := 42) rfl)) rfl
set_option maxRecDepth 100000 in
theorem tw_566 : (.code y_Md_row b_Md_row 7 (some .int)) ∈ TB := tw_f (tw_t6 (List.mem_of_getElem? (i := 43) rfl)) rfl
set_option maxRecDepth 100000 in
theorem tw_567 : (.methodLink R_law 110 y_WM_minutes) ∈ TB := tw_f (tw_t4 (List.mem_of_getElem? (i := 6) rfl)) rfl
set_option maxRecDepth 100000 in
theorem tw_568 : (.instanceMethod y_WM_minutes) ∈ TB := tw_f (tw_t4 (List.mem_of_getElem? (i := 7) rfl)) rfl
set_option maxRecDepth 100000 in
theorem tw_569 : (.selects R_WM y_WM_minutes y_WM_minutes) ∈ TB := tw_f (tw_t4 (List.mem_of_getElem? (i := 8) rfl)) rfl
set_option maxRecDepth 100000 in
theorem tw_570 : (.code y_WM_minutes b_WM_minutes 4 (some .int)) ∈ TB := tw_f (tw_t4 (List.mem_of_getElem? (i := 9) rfl)) rfl
set_option maxRecDepth 100000 in
theorem tw_571 : (.methodLink R_law 113 y_Md_minutes) ∈ TB := tw_f (tw_t6 (List.mem_of_getElem? (i := 44) rfl)) rfl
set_option maxRecDepth 100000 in
theorem tw_572 : (.instanceMethod y_Md_minutes) ∈ TB := tw_f (tw_t6 (List.mem_of_getElem? (i := 45) rfl)) rfl
set_option maxRecDepth 100000 in
theorem tw_573 : (.selects R_Md y_Md_minutes y_Md_minutes) ∈ TB := tw_f (tw_t6 (List.mem_of_getElem? (i := 46) rfl)) rfl
set_option maxRecDepth 100000 in
theorem tw_574 : (.code y_Md_minutes b_Md_minutes 3 (some .int)) ∈ TB := tw_f (tw_t6 (List.mem_of_getElem? (i := 47) rfl)) rfl
set_option maxRecDepth 100000 in
theorem tw_575 : (.methodLink R_law 114 y_WM_sink) ∈ TB := tw_f (tw_t4 (List.mem_of_getElem? (i := 22) rfl)) rfl
set_option maxRecDepth 100000 in
theorem tw_576 : (.instanceMethod y_WM_sink) ∈ TB := tw_f (tw_t4 (List.mem_of_getElem? (i := 23) rfl)) rfl
set_option maxRecDepth 100000 in
theorem tw_577 : (.selects R_WM y_WM_sink y_WM_sink) ∈ TB := tw_f (tw_t4 (List.mem_of_getElem? (i := 24) rfl)) rfl
set_option maxRecDepth 100000 in
theorem tw_578 : (.code y_WM_sink b_WM_sink 7 (some .int)) ∈ TB := tw_f (tw_t4 (List.mem_of_getElem? (i := 25) rfl)) rfl
set_option maxRecDepth 100000 in
theorem tw_579 : (.methodLink R_law 117 y_Md_sink) ∈ TB := tw_f (tw_t6 (List.mem_of_getElem? (i := 60) rfl)) rfl
set_option maxRecDepth 100000 in
theorem tw_580 : (.instanceMethod y_Md_sink) ∈ TB := tw_f (tw_t6 (List.mem_of_getElem? (i := 61) rfl)) rfl
set_option maxRecDepth 100000 in
theorem tw_581 : (.selects R_Md y_Md_sink y_Md_sink) ∈ TB := tw_f (tw_t6 (List.mem_of_getElem? (i := 62) rfl)) rfl
set_option maxRecDepth 100000 in
theorem tw_582 : (.code y_Md_sink b_Md_sink 5 (some .int)) ∈ TB := tw_f (tw_t6 (List.mem_of_getElem? (i := 63) rfl)) rfl
set_option maxRecDepth 100000 in
theorem tw_583 : (.methodLink R_law 118 y_WM_trip) ∈ TB := tw_f (tw_t4 (List.mem_of_getElem? (i := 57) rfl)) rfl
set_option maxRecDepth 100000 in
theorem tw_584 : (.instanceMethod y_WM_trip) ∈ TB := tw_f (tw_t4 (List.mem_of_getElem? (i := 58) rfl)) rfl
set_option maxRecDepth 100000 in
theorem tw_585 : (.selects R_WM y_WM_trip y_WM_trip) ∈ TB := tw_f (tw_t4 (List.mem_of_getElem? (i := 59) rfl)) rfl
set_option maxRecDepth 100000 in
theorem tw_586 : (.code y_WM_trip b_WM_trip 4 (some .int)) ∈ TB := tw_f (tw_t4 (List.mem_of_getElem? (i := 60) rfl)) rfl
set_option maxRecDepth 100000 in
theorem tw_587 : (.methodLink R_law 121 y_Md_trip) ∈ TB := tw_f (tw_t6 (List.mem_of_getElem? (i := 71) rfl)) rfl
set_option maxRecDepth 100000 in
theorem tw_588 : (.instanceMethod y_Md_trip) ∈ TB := tw_f (tw_t6 (List.mem_of_getElem? (i := 72) rfl)) rfl
set_option maxRecDepth 100000 in
theorem tw_589 : (.selects R_Md y_Md_trip y_Md_trip) ∈ TB := tw_f (tw_t6 (List.mem_of_getElem? (i := 73) rfl)) rfl
set_option maxRecDepth 100000 in
theorem tw_590 : (.code y_Md_trip b_Md_trip 3 (some .int)) ∈ TB := tw_f (tw_t6 (List.mem_of_getElem? (i := 74) rfl)) rfl
set_option maxRecDepth 100000 in
theorem tw_591 : (.methodLink R_law 122 y_WM_due) ∈ TB := tw_f (tw_t4 (List.mem_of_getElem? (i := 61) rfl)) rfl
set_option maxRecDepth 100000 in
theorem tw_592 : (.instanceMethod y_WM_due) ∈ TB := tw_f (tw_t4 (List.mem_of_getElem? (i := 62) rfl)) rfl
set_option maxRecDepth 100000 in
theorem tw_593 : (.selects R_WM y_WM_due y_WM_due) ∈ TB := tw_f (tw_t4 (List.mem_of_getElem? (i := 63) rfl)) rfl
set_option maxRecDepth 100000 in
theorem tw_594 : (.code y_WM_due b_WM_due 4 (some .int)) ∈ TB := tw_f (tw_t4 (List.mem_of_getElem? (i := 64) rfl)) rfl
set_option maxRecDepth 100000 in
theorem tw_595 : (.methodLink R_law 125 y_Md_due) ∈ TB := tw_f (tw_t6 (List.mem_of_getElem? (i := 75) rfl)) rfl
set_option maxRecDepth 100000 in
theorem tw_596 : (.instanceMethod y_Md_due) ∈ TB := tw_f (tw_t6 (List.mem_of_getElem? (i := 76) rfl)) rfl
set_option maxRecDepth 100000 in
theorem tw_597 : (.selects R_Md y_Md_due y_Md_due) ∈ TB := tw_f (tw_t6 (List.mem_of_getElem? (i := 77) rfl)) rfl
set_option maxRecDepth 100000 in
theorem tw_598 : (.code y_Md_due b_Md_due 3 (some .int)) ∈ TB := tw_f (tw_t6 (List.mem_of_getElem? (i := 78) rfl)) rfl
set_option maxRecDepth 100000 in
theorem tw_599 : (.methodLink R_law 126 y_WM_over) ∈ TB := tw_f (tw_t4 (List.mem_of_getElem? (i := 69) rfl)) rfl
set_option maxRecDepth 100000 in
theorem tw_600 : (.instanceMethod y_WM_over) ∈ TB := tw_f (tw_t4 (List.mem_of_getElem? (i := 70) rfl)) rfl
set_option maxRecDepth 100000 in
theorem tw_601 : (.selects R_WM y_WM_over y_WM_over) ∈ TB := tw_f (tw_t4 (List.mem_of_getElem? (i := 71) rfl)) rfl
set_option maxRecDepth 100000 in
theorem tw_602 : (.code y_WM_over b_WM_over 6 (some .int)) ∈ TB := tw_f (tw_t4 (List.mem_of_getElem? (i := 72) rfl)) rfl
set_option maxRecDepth 100000 in
theorem tw_603 : (.methodLink R_law 129 y_Md_over) ∈ TB := tw_f (tw_t6 (List.mem_of_getElem? (i := 83) rfl)) rfl
set_option maxRecDepth 100000 in
theorem tw_604 : (.instanceMethod y_Md_over) ∈ TB := tw_f (tw_t6 (List.mem_of_getElem? (i := 84) rfl)) rfl
set_option maxRecDepth 100000 in
theorem tw_605 : (.selects R_Md y_Md_over y_Md_over) ∈ TB := tw_f (tw_t6 (List.mem_of_getElem? (i := 85) rfl)) rfl
set_option maxRecDepth 100000 in
theorem tw_606 : (.code y_Md_over b_Md_over 6 (some .int)) ∈ TB := tw_f (tw_t6 (List.mem_of_getElem? (i := 86) rfl)) rfl
set_option maxRecDepth 100000 in
theorem tw_607 : (.methodLink R_law 130 y_WM_pension) ∈ TB := tw_f (tw_t4 (List.mem_of_getElem? (i := 77) rfl)) rfl
set_option maxRecDepth 100000 in
theorem tw_608 : (.instanceMethod y_WM_pension) ∈ TB := tw_f (tw_t4 (List.mem_of_getElem? (i := 78) rfl)) rfl
set_option maxRecDepth 100000 in
theorem tw_609 : (.selects R_WM y_WM_pension y_WM_pension) ∈ TB := tw_f (tw_t4 (List.mem_of_getElem? (i := 79) rfl)) rfl
set_option maxRecDepth 100000 in
theorem tw_610 : (.code y_WM_pension b_WM_pension 3 (some .int)) ∈ TB := tw_f (tw_t4 (List.mem_of_getElem? (i := 80) rfl)) rfl
set_option maxRecDepth 100000 in
theorem tw_611 : (.methodLink R_law 133 y_Md_pension) ∈ TB := tw_f (tw_t6 (List.mem_of_getElem? (i := 87) rfl)) rfl
set_option maxRecDepth 100000 in
theorem tw_612 : (.instanceMethod y_Md_pension) ∈ TB := tw_f (tw_t6 (List.mem_of_getElem? (i := 88) rfl)) rfl
set_option maxRecDepth 100000 in
theorem tw_613 : (.selects R_Md y_Md_pension y_Md_pension) ∈ TB := tw_f (tw_t6 (List.mem_of_getElem? (i := 89) rfl)) rfl
set_option maxRecDepth 100000 in
theorem tw_614 : (.code y_Md_pension b_Md_pension 3 (some .int)) ∈ TB := tw_f (tw_t6 (List.mem_of_getElem? (i := 90) rfl)) rfl
set_option maxRecDepth 100000 in
theorem tw_615 : (.methodLink R_law 134 y_WM_foretold) ∈ TB := tw_f (tw_t4 (List.mem_of_getElem? (i := 81) rfl)) rfl
set_option maxRecDepth 100000 in
theorem tw_616 : (.instanceMethod y_WM_foretold) ∈ TB := tw_f (tw_t4 (List.mem_of_getElem? (i := 82) rfl)) rfl
set_option maxRecDepth 100000 in
theorem tw_617 : (.selects R_WM y_WM_foretold y_WM_foretold) ∈ TB := tw_f (tw_t4 (List.mem_of_getElem? (i := 83) rfl)) rfl
set_option maxRecDepth 100000 in
theorem tw_618 : (.code y_WM_foretold b_WM_foretold 2 (some .int)) ∈ TB := tw_f (tw_t4 (List.mem_of_getElem? (i := 84) rfl)) rfl
set_option maxRecDepth 100000 in
theorem tw_619 : (.methodLink R_law 138 y_Md_foretold) ∈ TB := tw_f (tw_t6 (List.mem_of_getElem? (i := 91) rfl)) rfl
set_option maxRecDepth 100000 in
theorem tw_620 : (.instanceMethod y_Md_foretold) ∈ TB := tw_f (tw_t6 (List.mem_of_getElem? (i := 92) rfl)) rfl
set_option maxRecDepth 100000 in
theorem tw_621 : (.selects R_Md y_Md_foretold y_Md_foretold) ∈ TB := tw_f (tw_t6 (List.mem_of_getElem? (i := 93) rfl)) rfl
set_option maxRecDepth 100000 in
theorem tw_622 : (.code y_Md_foretold b_Md_foretold 8 (some .int)) ∈ TB := tw_f (tw_t6 (List.mem_of_getElem? (i := 94) rfl)) rfl
set_option maxRecDepth 100000 in
theorem tw_623 : (.methodLink R_law 139 y_WM_pensioner) ∈ TB := tw_f (tw_t4 (List.mem_of_getElem? (i := 94) rfl)) rfl
set_option maxRecDepth 100000 in
theorem tw_624 : (.instanceMethod y_WM_pensioner) ∈ TB := tw_f (tw_t4 (List.mem_of_getElem? (i := 95) rfl)) rfl
set_option maxRecDepth 100000 in
theorem tw_625 : (.selects R_WM y_WM_pensioner y_WM_pensioner) ∈ TB := tw_f (tw_t4 (List.mem_of_getElem? (i := 96) rfl)) rfl
set_option maxRecDepth 100000 in
theorem tw_626 : (.code y_WM_pensioner b_WM_pensioner 4 (some .int)) ∈ TB := tw_f (tw_t4 (List.mem_of_getElem? (i := 97) rfl)) rfl
set_option maxRecDepth 100000 in
theorem tw_627 : (.methodLink R_law 142 y_Md_pensioner) ∈ TB := tw_f (tw_t6 (List.mem_of_getElem? (i := 95) rfl)) rfl
set_option maxRecDepth 100000 in
theorem tw_628 : (.instanceMethod y_Md_pensioner) ∈ TB := tw_f (tw_t6 (List.mem_of_getElem? (i := 96) rfl)) rfl
set_option maxRecDepth 100000 in
theorem tw_629 : (.selects R_Md y_Md_pensioner y_Md_pensioner) ∈ TB := tw_f (tw_t6 (List.mem_of_getElem? (i := 97) rfl)) rfl
set_option maxRecDepth 100000 in
theorem tw_630 : (.code y_Md_pensioner b_Md_pensioner 3 (some .int)) ∈ TB := tw_f (tw_t6 (List.mem_of_getElem? (i := 98) rfl)) rfl
set_option maxRecDepth 100000 in
theorem tw_631 : (.methodLink R_law 143 y_WM_count) ∈ TB := tw_f (tw_t4 (List.mem_of_getElem? (i := 99) rfl)) rfl
set_option maxRecDepth 100000 in
theorem tw_632 : (.instanceMethod y_WM_count) ∈ TB := tw_f (tw_t4 (List.mem_of_getElem? (i := 100) rfl)) rfl
set_option maxRecDepth 100000 in
theorem tw_633 : (.selects R_WM y_WM_count y_WM_count) ∈ TB := tw_f (tw_t4 (List.mem_of_getElem? (i := 101) rfl)) rfl
set_option maxRecDepth 100000 in
theorem tw_634 : (.code y_WM_count b_WM_count 2 (some .int)) ∈ TB := tw_f (tw_t4 (List.mem_of_getElem? (i := 102) rfl)) rfl
set_option maxRecDepth 100000 in
theorem tw_635 : (.methodLink R_law 146 y_Md_count) ∈ TB := tw_f (tw_t6 (List.mem_of_getElem? (i := 99) rfl)) rfl
set_option maxRecDepth 100000 in
theorem tw_636 : (.instanceMethod y_Md_count) ∈ TB := tw_f (tw_t6 (List.mem_of_getElem? (i := 100) rfl)) rfl
set_option maxRecDepth 100000 in
theorem tw_637 : (.selects R_Md y_Md_count y_Md_count) ∈ TB := tw_f (tw_t6 (List.mem_of_getElem? (i := 101) rfl)) rfl
set_option maxRecDepth 100000 in
theorem tw_638 : (.code y_Md_count b_Md_count 2 (some .int)) ∈ TB := tw_f (tw_t6 (List.mem_of_getElem? (i := 102) rfl)) rfl
set_option maxRecDepth 100000 in
theorem tw_639 : (.methodLink R_law 147 y_WM_coins) ∈ TB := tw_f (tw_t4 (List.mem_of_getElem? (i := 107) rfl)) rfl
set_option maxRecDepth 100000 in
theorem tw_640 : (.instanceMethod y_WM_coins) ∈ TB := tw_f (tw_t4 (List.mem_of_getElem? (i := 108) rfl)) rfl
set_option maxRecDepth 100000 in
theorem tw_641 : (.selects R_WM y_WM_coins y_WM_coins) ∈ TB := tw_f (tw_t4 (List.mem_of_getElem? (i := 109) rfl)) rfl
set_option maxRecDepth 100000 in
theorem tw_642 : (.code y_WM_coins b_WM_coins 2 (some .int)) ∈ TB := tw_f (tw_t4 (List.mem_of_getElem? (i := 110) rfl)) rfl
set_option maxRecDepth 100000 in
theorem tw_643 : (.methodLink R_law 150 y_Md_coins) ∈ TB := tw_f (tw_t6 (List.mem_of_getElem? (i := 107) rfl)) rfl
set_option maxRecDepth 100000 in
theorem tw_644 : (.instanceMethod y_Md_coins) ∈ TB := tw_f (tw_t6 (List.mem_of_getElem? (i := 108) rfl)) rfl
set_option maxRecDepth 100000 in
theorem tw_645 : (.selects R_Md y_Md_coins y_Md_coins) ∈ TB := tw_f (tw_t6 (List.mem_of_getElem? (i := 109) rfl)) rfl
set_option maxRecDepth 100000 in
theorem tw_646 : (.code y_Md_coins b_Md_coins 5 (some .int)) ∈ TB := tw_f (tw_t6 (List.mem_of_getElem? (i := 110) rfl)) rfl
set_option maxRecDepth 100000 in
theorem tw_647 : (.instantiable R_WM 13) ∈ TB := tw_f (tw_t1 (List.mem_of_getElem? (i := 18) rfl)) rfl
set_option maxRecDepth 100000 in
theorem tw_648 : (.instantiable R_Md 64) ∈ TB := tw_f (tw_t4 (List.mem_of_getElem? (i := 144) rfl)) rfl
set_option maxRecDepth 100000 in
theorem tw_649 : (.instantiable R_Bd 5) ∈ TB := tw_f (tw_t2 (List.mem_of_getElem? (i := 69) rfl)) rfl
set_option maxRecDepth 100000 in
theorem tw_650 : (.instantiable R_Bt 6) ∈ TB := tw_f (tw_t2 (List.mem_of_getElem? (i := 144) rfl)) rfl
set_option maxRecDepth 100000 in
theorem tw_651 : (.instantiable R_Tr 8) ∈ TB := tw_f (tw_t3 (List.mem_of_getElem? (i := 191) rfl)) rfl
set_option maxRecDepth 100000 in
theorem tw_652 : (.classLink R_law 7 R_WM) ∈ TB := tw_f (tw_t1 (List.mem_of_getElem? (i := 17) rfl)) rfl
set_option maxRecDepth 100000 in
theorem tw_653 : (.code y_WM_init b_WM_init 2 none) ∈ TB := tw_f (tw_t1 (List.mem_of_getElem? (i := 21) rfl)) rfl
set_option maxRecDepth 100000 in
theorem tw_654 : (.methodLink R_law 9 y_WM_init) ∈ TB := tw_f (tw_t1 (List.mem_of_getElem? (i := 19) rfl)) rfl
set_option maxRecDepth 100000 in
theorem tw_655 : (.instanceMethod y_WM_init) ∈ TB := tw_f (tw_t1 (List.mem_of_getElem? (i := 20) rfl)) rfl
set_option maxRecDepth 100000 in
theorem tw_656 : (.classLink R_law 10 R_Md) ∈ TB := tw_f (tw_t4 (List.mem_of_getElem? (i := 158) rfl)) rfl
set_option maxRecDepth 100000 in
theorem tw_657 : (.code y_Md_init b_Md_init 2 none) ∈ TB := tw_f (tw_t4 (List.mem_of_getElem? (i := 161) rfl)) rfl
set_option maxRecDepth 100000 in
theorem tw_658 : (.methodLink R_law 12 y_Md_init) ∈ TB := tw_f (tw_t4 (List.mem_of_getElem? (i := 159) rfl)) rfl
set_option maxRecDepth 100000 in
theorem tw_659 : (.instanceMethod y_Md_init) ∈ TB := tw_f (tw_t4 (List.mem_of_getElem? (i := 160) rfl)) rfl
