set_option maxRecDepth 100000 in
theorem tw_0 : (.fieldLink "java/lang/String" 38 "java/lang/String" "COMPACT_STRINGS" "Z") ∈ TB := tw_f (tw_t3 (List.mem_of_getElem? (i := 21) rfl)) rfl
set_option maxRecDepth 100000 in
theorem tw_1 : (.fieldLink "java/lang/String" 15 "java/lang/String" "coder" "B") ∈ TB := tw_f (tw_t6 (List.mem_of_getElem? (i := 112) rfl)) rfl
set_option maxRecDepth 100000 in
theorem tw_2 : (.fieldLink "java/lang/String" 9 "java/lang/String" "value" "[B") ∈ TB := tw_f (tw_t6 (List.mem_of_getElem? (i := 111) rfl)) rfl
set_option maxRecDepth 100000 in
theorem tw_3 : (.methodLink "java/lang/String" 335 y_St_coder) ∈ TB := tw_f (tw_t3 (List.mem_of_getElem? (i := 17) rfl)) rfl
set_option maxRecDepth 100000 in
theorem tw_4 : (.instanceMethod y_St_coder) ∈ TB := tw_f (tw_t3 (List.mem_of_getElem? (i := 18) rfl)) rfl
set_option maxRecDepth 100000 in
theorem tw_5 : (.selects "java/lang/String" y_St_coder y_St_coder) ∈ TB := tw_f (tw_t3 (List.mem_of_getElem? (i := 19) rfl)) rfl
set_option maxRecDepth 100000 in
theorem tw_6 : (.initialized "java/lang/String") ∈ TB := tw_f (tw_t1 (List.mem_of_getElem? (i := 11) rfl)) rfl
set_option maxRecDepth 100000 in
theorem tw_7 : (.code y_St_coder b_St_coder 1 (some .byte)) ∈ TB := tw_f (tw_t3 (List.mem_of_getElem? (i := 20) rfl)) rfl
set_option maxRecDepth 100000 in
theorem tw_8 : (.fieldLink "java/lang/String" 1053 "jdk/internal/util/Preconditions" "SIOOBE_FORMATTER" "Ljava/util/function/BiFunction;") ∈ TB := tw_f (tw_t3 (List.mem_of_getElem? (i := 37) rfl)) rfl
set_option maxRecDepth 100000 in
theorem tw_9 : (.methodLink "java/lang/String" 1059 y_Pr_check) ∈ TB := tw_f (tw_t3 (List.mem_of_getElem? (i := 39) rfl)) rfl
set_option maxRecDepth 100000 in
theorem tw_10 : (.static y_Pr_check) ∈ TB := tw_f (tw_t3 (List.mem_of_getElem? (i := 40) rfl)) rfl
set_option maxRecDepth 100000 in
theorem tw_11 : (.initialized "jdk/internal/util/Preconditions") ∈ TB := tw_f (tw_t1 (List.mem_of_getElem? (i := 13) rfl)) rfl
set_option maxRecDepth 100000 in
theorem tw_12 : (.code y_Pr_check b_Pr_check 3 (some .int)) ∈ TB := tw_f (tw_t3 (List.mem_of_getElem? (i := 41) rfl)) rfl
set_option maxRecDepth 100000 in
theorem tw_13 : (.methodLink "java/lang/StringLatin1" 9 y_St_check) ∈ TB := tw_f (tw_t3 (List.mem_of_getElem? (i := 34) rfl)) rfl
set_option maxRecDepth 100000 in
theorem tw_14 : (.static y_St_check) ∈ TB := tw_f (tw_t3 (List.mem_of_getElem? (i := 35) rfl)) rfl
set_option maxRecDepth 100000 in
theorem tw_15 : (.code y_St_check b_St_check 2 none) ∈ TB := tw_f (tw_t3 (List.mem_of_getElem? (i := 36) rfl)) rfl
set_option maxRecDepth 100000 in
theorem tw_16 : (.methodLink "java/lang/String" 492 y_St_isLatin1) ∈ TB := tw_f (tw_t3 (List.mem_of_getElem? (i := 27) rfl)) rfl
set_option maxRecDepth 100000 in
theorem tw_17 : (.instanceMethod y_St_isLatin1) ∈ TB := tw_f (tw_t3 (List.mem_of_getElem? (i := 28) rfl)) rfl
set_option maxRecDepth 100000 in
theorem tw_18 : (.selects "java/lang/String" y_St_isLatin1 y_St_isLatin1) ∈ TB := tw_f (tw_t3 (List.mem_of_getElem? (i := 29) rfl)) rfl
set_option maxRecDepth 100000 in
theorem tw_19 : (.code y_St_isLatin1 b_St_isLatin1 1 (some .boolean)) ∈ TB := tw_f (tw_t3 (List.mem_of_getElem? (i := 30) rfl)) rfl
set_option maxRecDepth 100000 in
theorem tw_20 : (.methodLink "java/lang/String" 495 y_SL_charAt) ∈ TB := tw_f (tw_t3 (List.mem_of_getElem? (i := 31) rfl)) rfl
set_option maxRecDepth 100000 in
theorem tw_21 : (.static y_SL_charAt) ∈ TB := tw_f (tw_t3 (List.mem_of_getElem? (i := 32) rfl)) rfl
set_option maxRecDepth 100000 in
theorem tw_22 : (.initialized "java/lang/StringLatin1") ∈ TB := tw_f (tw_t1 (List.mem_of_getElem? (i := 12) rfl)) rfl
set_option maxRecDepth 100000 in
theorem tw_23 : (.code y_SL_charAt b_SL_charAt 2 (some .char)) ∈ TB := tw_f (tw_t3 (List.mem_of_getElem? (i := 33) rfl)) rfl
set_option maxRecDepth 100000 in
theorem tw_24 : (.code y_WM_isDay b_WM_isDay 1 (some .boolean)) ∈ TB := tw_f (tw_t2 (List.mem_of_getElem? (i := 16) rfl)) rfl
set_option maxRecDepth 100000 in
theorem tw_25 : (.initialized R_WM) ∈ TB := tw_f (tw_t1 (List.mem_of_getElem? (i := 1) rfl)) rfl
set_option maxRecDepth 100000 in
theorem tw_26 : (.static y_WM_isDay) ∈ TB := tw_f (tw_t2 (List.mem_of_getElem? (i := 15) rfl)) rfl
set_option maxRecDepth 100000 in
theorem tw_27 : (.fieldLink R_Rv 23 "WaterMen$River" "frozen" "[Z") ∈ TB := tw_f (tw_t1 (List.mem_of_getElem? (i := 37) rfl)) rfl
set_option maxRecDepth 100000 in
theorem tw_28 : (.fieldLink R_Rv 35 "WaterMen$River" "stairCount" "I") ∈ TB := tw_f (tw_t1 (List.mem_of_getElem? (i := 40) rfl)) rfl
set_option maxRecDepth 100000 in
theorem tw_29 : (.fieldLink R_Rv 9 "WaterMen$River" "milesUp" "[I") ∈ TB := tw_f (tw_t1 (List.mem_of_getElem? (i := 33) rfl)) rfl
set_option maxRecDepth 100000 in
theorem tw_30 : (.methodLink R_Rv 38 Lib.Math.abs.name) ∈ TB := tw_f (tw_t3 (List.mem_of_getElem? (i := 119) rfl)) rfl
set_option maxRecDepth 100000 in
theorem tw_31 : (.static Lib.Math.abs.name) ∈ TB := tw_f (tw_t3 (List.mem_of_getElem? (i := 120) rfl)) rfl
set_option maxRecDepth 100000 in
theorem tw_32 : (.initialized "java/lang/Math") ∈ TB := tw_f (tw_t1 (List.mem_of_getElem? (i := 9) rfl)) rfl
set_option maxRecDepth 100000 in
theorem tw_33 : (.code Lib.Math.abs.name Lib.Math.abs.code 1 (some .int)) ∈ TB := tw_f (tw_t3 (List.mem_of_getElem? (i := 121) rfl)) rfl
set_option maxRecDepth 100000 in
theorem tw_34 : (.fieldLink R_Rv 27 "WaterMen$River" "bridgeAbove" "I") ∈ TB := tw_f (tw_t1 (List.mem_of_getElem? (i := 41) rfl)) rfl
set_option maxRecDepth 100000 in
theorem tw_35 : (.methodLink R_Rv 44 Lib.Math.min.name) ∈ TB := tw_f (tw_t3 (List.mem_of_getElem? (i := 169) rfl)) rfl
set_option maxRecDepth 100000 in
theorem tw_36 : (.static Lib.Math.min.name) ∈ TB := tw_f (tw_t2 (List.mem_of_getElem? (i := 114) rfl)) rfl
set_option maxRecDepth 100000 in
theorem tw_37 : (.code Lib.Math.min.name Lib.Math.min.code 2 (some .int)) ∈ TB := tw_f (tw_t2 (List.mem_of_getElem? (i := 115) rfl)) rfl
set_option maxRecDepth 100000 in
theorem tw_38 : (.methodLink R_Rv 48 Lib.Math.max.name) ∈ TB := tw_f (tw_t3 (List.mem_of_getElem? (i := 170) rfl)) rfl
set_option maxRecDepth 100000 in
theorem tw_39 : (.static Lib.Math.max.name) ∈ TB := tw_f (tw_t3 (List.mem_of_getElem? (i := 143) rfl)) rfl
set_option maxRecDepth 100000 in
theorem tw_40 : (.code Lib.Math.max.name Lib.Math.max.code 2 (some .int)) ∈ TB := tw_f (tw_t3 (List.mem_of_getElem? (i := 144) rfl)) rfl
set_option maxRecDepth 100000 in
theorem tw_41 : (.fieldLink R_Rv 19 "WaterMen$River" "rows" "[[I") ∈ TB := tw_f (tw_t1 (List.mem_of_getElem? (i := 36) rfl)) rfl
set_option maxRecDepth 100000 in
theorem tw_42 : (.arrayClass .int) ∈ TB := tw_f (tw_t1 (List.mem_of_getElem? (i := 56) rfl)) rfl
set_option maxRecDepth 100000 in
theorem tw_43 : (.fieldLink R_Rv 15 "WaterMen$River" "table" "[I") ∈ TB := tw_f (tw_t1 (List.mem_of_getElem? (i := 34) rfl)) rfl
set_option maxRecDepth 100000 in
theorem tw_44 : (.code y_Rv_height b_Rv_height 4 (some .int)) ∈ TB := tw_f (tw_t2 (List.mem_of_getElem? (i := 42) rfl)) rfl
set_option maxRecDepth 100000 in
theorem tw_45 : (.initialized R_Rv) ∈ TB := tw_f (tw_t1 (List.mem_of_getElem? (i := 2) rfl)) rfl
set_option maxRecDepth 100000 in
theorem tw_46 : (.methodLink R_Rv 51 y_Rv_height) ∈ TB := tw_f (tw_t2 (List.mem_of_getElem? (i := 39) rfl)) rfl
set_option maxRecDepth 100000 in
theorem tw_47 : (.instanceMethod y_Rv_height) ∈ TB := tw_f (tw_t2 (List.mem_of_getElem? (i := 40) rfl)) rfl
set_option maxRecDepth 100000 in
theorem tw_48 : (.selects R_Rv y_Rv_height y_Rv_height) ∈ TB := tw_f (tw_t2 (List.mem_of_getElem? (i := 41) rfl)) rfl
set_option maxRecDepth 100000 in
theorem tw_49 : (.code y_Rv_flowIn b_Rv_flowIn 4 (some .int)) ∈ TB := tw_f (tw_t2 (List.mem_of_getElem? (i := 38) rfl)) rfl
set_option maxRecDepth 100000 in
theorem tw_50 : (.methodLink R_Rv 54 y_Rv_flowIn) ∈ TB := tw_f (tw_t3 (List.mem_of_getElem? (i := 114) rfl)) rfl
set_option maxRecDepth 100000 in
theorem tw_51 : (.instanceMethod y_Rv_flowIn) ∈ TB := tw_f (tw_t2 (List.mem_of_getElem? (i := 36) rfl)) rfl
set_option maxRecDepth 100000 in
theorem tw_52 : (.selects R_Rv y_Rv_flowIn y_Rv_flowIn) ∈ TB := tw_f (tw_t2 (List.mem_of_getElem? (i := 37) rfl)) rfl
set_option maxRecDepth 100000 in
theorem tw_53 : (.fieldLink R_Mn 21 "WaterMen$Man" "busyUntil" "I") ∈ TB := tw_f (tw_t1 (List.mem_of_getElem? (i := 171) rfl)) rfl
set_option maxRecDepth 100000 in
theorem tw_54 : (.fieldLink R_Mn 15 "WaterMen$Man" "turnStairs" "I") ∈ TB := tw_f (tw_t1 (List.mem_of_getElem? (i := 167) rfl)) rfl
set_option maxRecDepth 100000 in
theorem tw_55 : (.fieldLink R_Mn 24 "WaterMen$Man" "tripCount" "I") ∈ TB := tw_f (tw_t1 (List.mem_of_getElem? (i := 173) rfl)) rfl
set_option maxRecDepth 100000 in
theorem tw_56 : (.fieldLink R_Bd 25 "WaterMen$Bond" "gapCount" "I") ∈ TB := tw_f (tw_t2 (List.mem_of_getElem? (i := 80) rfl)) rfl
set_option maxRecDepth 100000 in
theorem tw_57 : (.fieldLink R_Bd 15 "WaterMen$Bond" "gapTo" "[I") ∈ TB := tw_f (tw_t2 (List.mem_of_getElem? (i := 79) rfl)) rfl
set_option maxRecDepth 100000 in
theorem tw_58 : (.fieldLink R_Bd 9 "WaterMen$Bond" "gapFrom" "[I") ∈ TB := tw_f (tw_t2 (List.mem_of_getElem? (i := 78) rfl)) rfl
set_option maxRecDepth 100000 in
theorem tw_59 : (.fieldLink R_Bd 22 "WaterMen$Bond" "since" "I") ∈ TB := tw_f (tw_t2 (List.mem_of_getElem? (i := 76) rfl)) rfl
set_option maxRecDepth 100000 in
theorem tw_60 : (.methodLink R_Bd 28 Lib.Math.min.name) ∈ TB := tw_f (tw_t2 (List.mem_of_getElem? (i := 113) rfl)) rfl
set_option maxRecDepth 100000 in
theorem tw_61 : (.fieldLink R_Bt 24 "WaterMen$Boat" "sunk" "Z") ∈ TB := tw_f (tw_t2 (List.mem_of_getElem? (i := 159) rfl)) rfl
set_option maxRecDepth 100000 in
theorem tw_62 : (.fieldLink R_Bt 28 "WaterMen$Boat" "thereFrom" "I") ∈ TB := tw_f (tw_t2 (List.mem_of_getElem? (i := 153) rfl)) rfl
set_option maxRecDepth 100000 in
theorem tw_63 : (.fieldLink R_Or 23 "WaterMen$Order" "fareCount" "I") ∈ TB := tw_f (tw_t1 (List.mem_of_getElem? (i := 136) rfl)) rfl
set_option maxRecDepth 100000 in
theorem tw_64 : (.fieldLink R_Or 27 "WaterMen$Order" "hourCount" "I") ∈ TB := tw_f (tw_t1 (List.mem_of_getElem? (i := 137) rfl)) rfl
set_option maxRecDepth 100000 in
theorem tw_65 : (.fieldLink R_Or 20 "WaterMen$Order" "single" "[I") ∈ TB := tw_f (tw_t1 (List.mem_of_getElem? (i := 135) rfl)) rfl
set_option maxRecDepth 100000 in
theorem tw_66 : (.fieldLink R_Or 9 "WaterMen$Order" "fares" "[I") ∈ TB := tw_f (tw_t1 (List.mem_of_getElem? (i := 133) rfl)) rfl
set_option maxRecDepth 100000 in
theorem tw_67 : (.code y_Or_lineHolds b_Or_lineHolds 3 (some .boolean)) ∈ TB := tw_f (tw_t3 (List.mem_of_getElem? (i := 132) rfl)) rfl
set_option maxRecDepth 100000 in
theorem tw_68 : (.initialized R_Or) ∈ TB := tw_f (tw_t1 (List.mem_of_getElem? (i := 5) rfl)) rfl
set_option maxRecDepth 100000 in
theorem tw_69 : (.methodLink R_Or 48 y_Or_lineHolds) ∈ TB := tw_f (tw_t3 (List.mem_of_getElem? (i := 130) rfl)) rfl
set_option maxRecDepth 100000 in
theorem tw_70 : (.static y_Or_lineHolds) ∈ TB := tw_f (tw_t3 (List.mem_of_getElem? (i := 131) rfl)) rfl
set_option maxRecDepth 100000 in
theorem tw_71 : (.code y_Or_basePrice b_Or_basePrice 3 (some .int)) ∈ TB := tw_f (tw_t3 (List.mem_of_getElem? (i := 129) rfl)) rfl
set_option maxRecDepth 100000 in
theorem tw_72 : (.methodLink R_Or 40 y_Or_basePrice) ∈ TB := tw_f (tw_t3 (List.mem_of_getElem? (i := 126) rfl)) rfl
set_option maxRecDepth 100000 in
theorem tw_73 : (.instanceMethod y_Or_basePrice) ∈ TB := tw_f (tw_t3 (List.mem_of_getElem? (i := 127) rfl)) rfl
set_option maxRecDepth 100000 in
theorem tw_74 : (.selects R_Or y_Or_basePrice y_Or_basePrice) ∈ TB := tw_f (tw_t3 (List.mem_of_getElem? (i := 128) rfl)) rfl
set_option maxRecDepth 100000 in
theorem tw_75 : (.code y_WM_isSunday b_WM_isSunday 1 (some .boolean)) ∈ TB := tw_f (tw_t3 (List.mem_of_getElem? (i := 141) rfl)) rfl
set_option maxRecDepth 100000 in
theorem tw_76 : (.static y_WM_isSunday) ∈ TB := tw_f (tw_t3 (List.mem_of_getElem? (i := 140) rfl)) rfl
set_option maxRecDepth 100000 in
theorem tw_77 : (.constantLong R_Or 61 100) ∈ TB := tw_f (tw_t3 (List.mem_of_getElem? (i := 136) rfl)) rfl
set_option maxRecDepth 100000 in
theorem tw_78 : (.constantLong R_Or 63 1000000) ∈ TB := tw_f (tw_t3 (List.mem_of_getElem? (i := 137) rfl)) rfl
set_option maxRecDepth 100000 in
theorem tw_79 : (.constant R_Or 65 1000000) ∈ TB := tw_f (tw_t3 (List.mem_of_getElem? (i := 138) rfl)) rfl
set_option maxRecDepth 100000 in
theorem tw_80 : (.code y_Or_scaled b_Or_scaled 4 (some .int)) ∈ TB := tw_f (tw_t3 (List.mem_of_getElem? (i := 135) rfl)) rfl
set_option maxRecDepth 100000 in
theorem tw_81 : (.methodLink R_Or 44 y_Or_scaled) ∈ TB := tw_f (tw_t3 (List.mem_of_getElem? (i := 133) rfl)) rfl
set_option maxRecDepth 100000 in
theorem tw_82 : (.static y_Or_scaled) ∈ TB := tw_f (tw_t3 (List.mem_of_getElem? (i := 134) rfl)) rfl
set_option maxRecDepth 100000 in
theorem tw_83 : (.methodLink R_Or 56 Lib.Math.max.name) ∈ TB := tw_f (tw_t3 (List.mem_of_getElem? (i := 142) rfl)) rfl
set_option maxRecDepth 100000 in
theorem tw_84 : (.fieldLink R_Or 15 "WaterMen$Order" "hours" "[I") ∈ TB := tw_f (tw_t1 (List.mem_of_getElem? (i := 134) rfl)) rfl
set_option maxRecDepth 100000 in
theorem tw_85 : (.methodLink R_Or 66 Lib.Math.abs.name) ∈ TB := tw_f (tw_t3 (List.mem_of_getElem? (i := 179) rfl)) rfl
set_option maxRecDepth 100000 in
theorem tw_86 : (.fieldLink R_Or 34 "WaterMen$Order" "bridgeOpens" "I") ∈ TB := tw_f (tw_t1 (List.mem_of_getElem? (i := 138) rfl)) rfl
set_option maxRecDepth 100000 in
theorem tw_87 : (.fieldLink R_Or 37 "WaterMen$Order" "bridgeShuts" "I") ∈ TB := tw_f (tw_t1 (List.mem_of_getElem? (i := 139) rfl)) rfl
set_option maxRecDepth 100000 in
theorem tw_88 : (.fieldLink R_Bx 21 "WaterMen$Box" "coins" "I") ∈ TB := tw_f (tw_t1 (List.mem_of_getElem? (i := 101) rfl)) rfl
set_option maxRecDepth 100000 in
theorem tw_89 : (.fieldLink R_Bx 9 "WaterMen$Box" "income" "[I") ∈ TB := tw_f (tw_t1 (List.mem_of_getElem? (i := 107) rfl)) rfl
set_option maxRecDepth 100000 in
theorem tw_90 : (.fieldLink R_Bx 29 "WaterMen$Box" "pensionerCount" "I") ∈ TB := tw_f (tw_t1 (List.mem_of_getElem? (i := 109) rfl)) rfl
set_option maxRecDepth 100000 in
theorem tw_91 : (.fieldLink R_Bx 17 "WaterMen$Box" "pensioners" "[LWaterMen$Pensioner;") ∈ TB := tw_f (tw_t1 (List.mem_of_getElem? (i := 108) rfl)) rfl
set_option maxRecDepth 100000 in
theorem tw_92 : (.classLink R_Bx 15 R_Pn) ∈ TB := tw_f (tw_t1 (List.mem_of_getElem? (i := 99) rfl)) rfl
set_option maxRecDepth 100000 in
theorem tw_93 : (.instantiable R_Pn 3) ∈ TB := tw_f (tw_t4 (List.mem_of_getElem? (i := 37) rfl)) rfl
set_option maxRecDepth 100000 in
theorem tw_94 : (.initialized R_Pn) ∈ TB := tw_f (tw_t1 (List.mem_of_getElem? (i := 16) rfl)) rfl
set_option maxRecDepth 100000 in
theorem tw_95 : (.methodLink R_Pn 1 objectInit) ∈ TB := tw_f (tw_t4 (List.mem_of_getElem? (i := 41) rfl)) rfl
set_option maxRecDepth 100000 in
theorem tw_96 : (.instanceMethod objectInit) ∈ TB := tw_f (tw_t1 (List.mem_of_getElem? (i := 23) rfl)) rfl
set_option maxRecDepth 100000 in
theorem tw_97 : (.code objectInit ⟨#[0xb1]⟩ 1 none) ∈ TB := tw_f (tw_t1 (List.mem_of_getElem? (i := 24) rfl)) rfl
set_option maxRecDepth 100000 in
theorem tw_98 : (.fieldLink R_Pn 7 "WaterMen$Pensioner" "pension" "I") ∈ TB := tw_f (tw_t4 (List.mem_of_getElem? (i := 42) rfl)) rfl
set_option maxRecDepth 100000 in
theorem tw_99 : (.fieldLink R_Pn 13 "WaterMen$Pensioner" "end" "I") ∈ TB := tw_f (tw_t4 (List.mem_of_getElem? (i := 45) rfl)) rfl
set_option maxRecDepth 100000 in
theorem tw_100 : (.code y_Pn_init b_Pn_init 3 none) ∈ TB := tw_f (tw_t4 (List.mem_of_getElem? (i := 40) rfl)) rfl
set_option maxRecDepth 100000 in
theorem tw_101 : (.methodLink R_Bx 32 y_Pn_init) ∈ TB := tw_f (tw_t4 (List.mem_of_getElem? (i := 38) rfl)) rfl
set_option maxRecDepth 100000 in
theorem tw_102 : (.instanceMethod y_Pn_init) ∈ TB := tw_f (tw_t4 (List.mem_of_getElem? (i := 39) rfl)) rfl
set_option maxRecDepth 100000 in
theorem tw_103 : (.code y_Bx_pensionerAt b_Bx_pensionerAt 2 (some (.object "WaterMen$Pensioner"))) ∈ TB := tw_f (tw_t4 (List.mem_of_getElem? (i := 21) rfl)) rfl
set_option maxRecDepth 100000 in
theorem tw_104 : (.initialized R_Bx) ∈ TB := tw_f (tw_t1 (List.mem_of_getElem? (i := 4) rfl)) rfl
set_option maxRecDepth 100000 in
theorem tw_105 : (.methodLink R_Bx 35 y_Bx_pensionerAt) ∈ TB := tw_f (tw_t4 (List.mem_of_getElem? (i := 18) rfl)) rfl
set_option maxRecDepth 100000 in
theorem tw_106 : (.instanceMethod y_Bx_pensionerAt) ∈ TB := tw_f (tw_t4 (List.mem_of_getElem? (i := 19) rfl)) rfl
set_option maxRecDepth 100000 in
theorem tw_107 : (.selects R_Bx y_Bx_pensionerAt y_Bx_pensionerAt) ∈ TB := tw_f (tw_t4 (List.mem_of_getElem? (i := 20) rfl)) rfl
set_option maxRecDepth 100000 in
theorem tw_108 : (.fieldLink R_Bx 39 "WaterMen$Pensioner" "end" "I") ∈ TB := tw_f (tw_t4 (List.mem_of_getElem? (i := 46) rfl)) rfl
set_option maxRecDepth 100000 in
theorem tw_109 : (.fieldLink R_Bx 42 "WaterMen$Pensioner" "pension" "I") ∈ TB := tw_f (tw_t4 (List.mem_of_getElem? (i := 43) rfl)) rfl
set_option maxRecDepth 100000 in
theorem tw_110 : (.fieldLink R_Bx 45 "WaterMen$Pensioner" "got" "I") ∈ TB := tw_f (tw_t4 (List.mem_of_getElem? (i := 48) rfl)) rfl
set_option maxRecDepth 100000 in
theorem tw_111 : (.fieldLink R_Bx 48 "WaterMen$Box" "allPensions" "I") ∈ TB := tw_f (tw_t1 (List.mem_of_getElem? (i := 105) rfl)) rfl
set_option maxRecDepth 100000 in
theorem tw_112 : (.methodLink R_Bx 51 Lib.Math.max.name) ∈ TB := tw_f (tw_t4 (List.mem_of_getElem? (i := 89) rfl)) rfl
set_option maxRecDepth 100000 in
theorem tw_113 : (.code y_Bx_owedOn b_Bx_owedOn 5 (some .int)) ∈ TB := tw_f (tw_t4 (List.mem_of_getElem? (i := 93) rfl)) rfl
set_option maxRecDepth 100000 in
theorem tw_114 : (.methodLink R_Bx 57 y_Bx_owedOn) ∈ TB := tw_f (tw_t4 (List.mem_of_getElem? (i := 90) rfl)) rfl
set_option maxRecDepth 100000 in
theorem tw_115 : (.instanceMethod y_Bx_owedOn) ∈ TB := tw_f (tw_t4 (List.mem_of_getElem? (i := 91) rfl)) rfl
set_option maxRecDepth 100000 in
theorem tw_116 : (.selects R_Bx y_Bx_owedOn y_Bx_owedOn) ∈ TB := tw_f (tw_t4 (List.mem_of_getElem? (i := 92) rfl)) rfl
set_option maxRecDepth 100000 in
theorem tw_117 : (.fieldLink R_Tp 15 "WaterMen$Tape" "length" "I") ∈ TB := tw_f (tw_t1 (List.mem_of_getElem? (i := 73) rfl)) rfl
set_option maxRecDepth 100000 in
theorem tw_118 : (.fieldLink R_Tp 9 "WaterMen$Tape" "bytes" "[B") ∈ TB := tw_f (tw_t1 (List.mem_of_getElem? (i := 72) rfl)) rfl
set_option maxRecDepth 100000 in
theorem tw_119 : (.fieldLink R_Tp 37 "WaterMen$Tape" "sort" "I") ∈ TB := tw_f (tw_t1 (List.mem_of_getElem? (i := 75) rfl)) rfl
set_option maxRecDepth 100000 in
theorem tw_120 : (.fieldLink R_Tp 24 "WaterMen$Tape" "behind" "I") ∈ TB := tw_f (tw_t1 (List.mem_of_getElem? (i := 77) rfl)) rfl
set_option maxRecDepth 100000 in
theorem tw_121 : (.fieldLink R_Tp 34 "WaterMen$Tape" "start" "I") ∈ TB := tw_f (tw_t1 (List.mem_of_getElem? (i := 76) rfl)) rfl
set_option maxRecDepth 100000 in
theorem tw_122 : (.fieldLink R_Tp 48 "WaterMen$Tape" "value" "I") ∈ TB := tw_f (tw_t1 (List.mem_of_getElem? (i := 78) rfl)) rfl
set_option maxRecDepth 100000 in
theorem tw_123 : (.code y_Tp_isLetter b_Tp_isLetter 1 (some .boolean)) ∈ TB := tw_f (tw_t2 (List.mem_of_getElem? (i := 228) rfl)) rfl
set_option maxRecDepth 100000 in
theorem tw_124 : (.initialized R_Tp) ∈ TB := tw_f (tw_t1 (List.mem_of_getElem? (i := 3) rfl)) rfl
set_option maxRecDepth 100000 in
theorem tw_125 : (.methodLink R_Tp 96 y_Tp_isLetter) ∈ TB := tw_f (tw_t2 (List.mem_of_getElem? (i := 226) rfl)) rfl
set_option maxRecDepth 100000 in
theorem tw_126 : (.static y_Tp_isLetter) ∈ TB := tw_f (tw_t2 (List.mem_of_getElem? (i := 227) rfl)) rfl
set_option maxRecDepth 100000 in
theorem tw_127 : (.code y_Tp_isDigit b_Tp_isDigit 1 (some .boolean)) ∈ TB := tw_f (tw_t2 (List.mem_of_getElem? (i := 235) rfl)) rfl
set_option maxRecDepth 100000 in
theorem tw_128 : (.methodLink R_Tp 103 y_Tp_isDigit) ∈ TB := tw_f (tw_t2 (List.mem_of_getElem? (i := 233) rfl)) rfl
set_option maxRecDepth 100000 in
theorem tw_129 : (.static y_Tp_isDigit) ∈ TB := tw_f (tw_t2 (List.mem_of_getElem? (i := 234) rfl)) rfl
set_option maxRecDepth 100000 in
theorem tw_130 : (.code y_Tp_passDigits b_Tp_passDigits 1 none) ∈ TB := tw_f (tw_t2 (List.mem_of_getElem? (i := 239) rfl)) rfl
set_option maxRecDepth 100000 in
theorem tw_131 : (.methodLink R_Tp 106 y_Tp_passDigits) ∈ TB := tw_f (tw_t2 (List.mem_of_getElem? (i := 236) rfl)) rfl
set_option maxRecDepth 100000 in
theorem tw_132 : (.instanceMethod y_Tp_passDigits) ∈ TB := tw_f (tw_t2 (List.mem_of_getElem? (i := 237) rfl)) rfl
set_option maxRecDepth 100000 in
theorem tw_133 : (.selects R_Tp y_Tp_passDigits y_Tp_passDigits) ∈ TB := tw_f (tw_t2 (List.mem_of_getElem? (i := 238) rfl)) rfl
set_option maxRecDepth 100000 in
theorem tw_134 : (.code y_Tp_passLetters b_Tp_passLetters 1 none) ∈ TB := tw_f (tw_t2 (List.mem_of_getElem? (i := 232) rfl)) rfl
set_option maxRecDepth 100000 in
theorem tw_135 : (.methodLink R_Tp 100 y_Tp_passLetters) ∈ TB := tw_f (tw_t2 (List.mem_of_getElem? (i := 229) rfl)) rfl
set_option maxRecDepth 100000 in
theorem tw_136 : (.instanceMethod y_Tp_passLetters) ∈ TB := tw_f (tw_t2 (List.mem_of_getElem? (i := 230) rfl)) rfl
set_option maxRecDepth 100000 in
theorem tw_137 : (.selects R_Tp y_Tp_passLetters y_Tp_passLetters) ∈ TB := tw_f (tw_t2 (List.mem_of_getElem? (i := 231) rfl)) rfl
set_option maxRecDepth 100000 in
theorem tw_138 : (.code y_Tp_step b_Tp_step 1 none) ∈ TB := tw_f (tw_t2 (List.mem_of_getElem? (i := 225) rfl)) rfl
set_option maxRecDepth 100000 in
theorem tw_139 : (.methodLink R_Tp 27 y_Tp_step) ∈ TB := tw_f (tw_t2 (List.mem_of_getElem? (i := 222) rfl)) rfl
set_option maxRecDepth 100000 in
theorem tw_140 : (.instanceMethod y_Tp_step) ∈ TB := tw_f (tw_t2 (List.mem_of_getElem? (i := 223) rfl)) rfl
set_option maxRecDepth 100000 in
theorem tw_141 : (.selects R_Tp y_Tp_step y_Tp_step) ∈ TB := tw_f (tw_t2 (List.mem_of_getElem? (i := 224) rfl)) rfl
set_option maxRecDepth 100000 in
theorem tw_142 : (.methodLink R_Tp 88 y_St_length) ∈ TB := tw_f (tw_t3 (List.mem_of_getElem? (i := 13) rfl)) rfl
set_option maxRecDepth 100000 in
theorem tw_143 : (.instanceMethod y_St_length) ∈ TB := tw_f (tw_t3 (List.mem_of_getElem? (i := 14) rfl)) rfl
set_option maxRecDepth 100000 in
theorem tw_144 : (.selects "java/lang/String" y_St_length y_St_length) ∈ TB := tw_f (tw_t3 (List.mem_of_getElem? (i := 15) rfl)) rfl
set_option maxRecDepth 100000 in
theorem tw_145 : (.code y_St_length b_St_length 1 (some .int)) ∈ TB := tw_f (tw_t3 (List.mem_of_getElem? (i := 16) rfl)) rfl
set_option maxRecDepth 100000 in
theorem tw_146 : (.methodLink R_Tp 92 y_St_charAt) ∈ TB := tw_f (tw_t3 (List.mem_of_getElem? (i := 23) rfl)) rfl
set_option maxRecDepth 100000 in
theorem tw_147 : (.instanceMethod y_St_charAt) ∈ TB := tw_f (tw_t3 (List.mem_of_getElem? (i := 24) rfl)) rfl
set_option maxRecDepth 100000 in
theorem tw_148 : (.selects "java/lang/String" y_St_charAt y_St_charAt) ∈ TB := tw_f (tw_t3 (List.mem_of_getElem? (i := 25) rfl)) rfl
set_option maxRecDepth 100000 in
theorem tw_149 : (.code y_St_charAt b_St_charAt 2 (some .char)) ∈ TB := tw_f (tw_t3 (List.mem_of_getElem? (i := 26) rfl)) rfl
set_option maxRecDepth 100000 in
theorem tw_150 : (.code y_Tp_isWord b_Tp_isWord 3 (some .boolean)) ∈ TB := tw_f (tw_t3 (List.mem_of_getElem? (i := 12) rfl)) rfl
set_option maxRecDepth 100000 in
theorem tw_151 : (.methodLink R_Tp 67 y_Tp_isWord) ∈ TB := tw_f (tw_t3 (List.mem_of_getElem? (i := 9) rfl)) rfl
set_option maxRecDepth 100000 in
theorem tw_152 : (.instanceMethod y_Tp_isWord) ∈ TB := tw_f (tw_t3 (List.mem_of_getElem? (i := 10) rfl)) rfl
set_option maxRecDepth 100000 in
theorem tw_153 : (.selects R_Tp y_Tp_isWord y_Tp_isWord) ∈ TB := tw_f (tw_t3 (List.mem_of_getElem? (i := 11) rfl)) rfl
set_option maxRecDepth 100000 in
theorem tw_154 : (.fieldLink R_WM 12 "WaterMen" "river" "LWaterMen$River;") ∈ TB := tw_f (tw_t1 (List.mem_of_getElem? (i := 194) rfl)) rfl
set_option maxRecDepth 100000 in
theorem tw_155 : (.code y_Rv_highest b_Rv_highest 1 (some .int)) ∈ TB := tw_f (tw_t2 (List.mem_of_getElem? (i := 1) rfl)) rfl
set_option maxRecDepth 100000 in
theorem tw_156 : (.methodLink R_WM 60 y_Rv_highest) ∈ TB := tw_f (tw_t1 (List.mem_of_getElem? (i := 238) rfl)) rfl
set_option maxRecDepth 100000 in
theorem tw_157 : (.instanceMethod y_Rv_highest) ∈ TB := tw_f (tw_t1 (List.mem_of_getElem? (i := 239) rfl)) rfl
set_option maxRecDepth 100000 in
theorem tw_158 : (.selects R_Rv y_Rv_highest y_Rv_highest) ∈ TB := tw_f (tw_t2 (List.mem_of_getElem? (i := 0) rfl)) rfl
set_option maxRecDepth 100000 in
theorem tw_159 : (.fieldLink R_WM 64 "WaterMen$River" "stairCount" "I") ∈ TB := tw_f (tw_t1 (List.mem_of_getElem? (i := 39) rfl)) rfl
set_option maxRecDepth 100000 in
theorem tw_160 : (.code y_Rv_addStairs b_Rv_addStairs 2 (some .int)) ∈ TB := tw_f (tw_t2 (List.mem_of_getElem? (i := 5) rfl)) rfl
set_option maxRecDepth 100000 in
theorem tw_161 : (.methodLink R_WM 68 y_Rv_addStairs) ∈ TB := tw_f (tw_t2 (List.mem_of_getElem? (i := 2) rfl)) rfl
set_option maxRecDepth 100000 in
theorem tw_162 : (.instanceMethod y_Rv_addStairs) ∈ TB := tw_f (tw_t2 (List.mem_of_getElem? (i := 3) rfl)) rfl
set_option maxRecDepth 100000 in
theorem tw_163 : (.selects R_Rv y_Rv_addStairs y_Rv_addStairs) ∈ TB := tw_f (tw_t2 (List.mem_of_getElem? (i := 4) rfl)) rfl
set_option maxRecDepth 100000 in
theorem tw_164 : (.fieldLink R_WM 72 "WaterMen$River" "bridgeAbove" "I") ∈ TB := tw_f (tw_t1 (List.mem_of_getElem? (i := 42) rfl)) rfl
set_option maxRecDepth 100000 in
theorem tw_165 : (.methodLink R_WM 75 y_WM_isDay) ∈ TB := tw_f (tw_t2 (List.mem_of_getElem? (i := 14) rfl)) rfl
set_option maxRecDepth 100000 in
theorem tw_166 : (.code y_WM_isHour b_WM_isHour 1 (some .boolean)) ∈ TB := tw_f (tw_t2 (List.mem_of_getElem? (i := 19) rfl)) rfl
set_option maxRecDepth 100000 in
theorem tw_167 : (.methodLink R_WM 79 y_WM_isHour) ∈ TB := tw_f (tw_t2 (List.mem_of_getElem? (i := 17) rfl)) rfl
set_option maxRecDepth 100000 in
theorem tw_168 : (.static y_WM_isHour) ∈ TB := tw_f (tw_t2 (List.mem_of_getElem? (i := 18) rfl)) rfl
set_option maxRecDepth 100000 in
theorem tw_169 : (.code y_WM_isLevel b_WM_isLevel 1 (some .boolean)) ∈ TB := tw_f (tw_t2 (List.mem_of_getElem? (i := 22) rfl)) rfl
set_option maxRecDepth 100000 in
theorem tw_170 : (.methodLink R_WM 82 y_WM_isLevel) ∈ TB := tw_f (tw_t2 (List.mem_of_getElem? (i := 20) rfl)) rfl
set_option maxRecDepth 100000 in
theorem tw_171 : (.static y_WM_isLevel) ∈ TB := tw_f (tw_t2 (List.mem_of_getElem? (i := 21) rfl)) rfl
set_option maxRecDepth 100000 in
theorem tw_172 : (.code y_Rv_tell b_Rv_tell 6 none) ∈ TB := tw_f (tw_t2 (List.mem_of_getElem? (i := 26) rfl)) rfl
set_option maxRecDepth 100000 in
theorem tw_173 : (.methodLink R_WM 85 y_Rv_tell) ∈ TB := tw_f (tw_t2 (List.mem_of_getElem? (i := 23) rfl)) rfl
set_option maxRecDepth 100000 in
theorem tw_174 : (.instanceMethod y_Rv_tell) ∈ TB := tw_f (tw_t2 (List.mem_of_getElem? (i := 24) rfl)) rfl
set_option maxRecDepth 100000 in
theorem tw_175 : (.selects R_Rv y_Rv_tell y_Rv_tell) ∈ TB := tw_f (tw_t2 (List.mem_of_getElem? (i := 25) rfl)) rfl
set_option maxRecDepth 100000 in
theorem tw_176 : (.fieldLink R_WM 89 "WaterMen$River" "table" "[I") ∈ TB := tw_f (tw_t1 (List.mem_of_getElem? (i := 35) rfl)) rfl
set_option maxRecDepth 100000 in
theorem tw_177 : (.methodLink R_WM 93 y_Rv_flowIn) ∈ TB := tw_f (tw_t2 (List.mem_of_getElem? (i := 35) rfl)) rfl
set_option maxRecDepth 100000 in
theorem tw_178 : (.fieldLink R_WM 155 "WaterMen" "now" "I") ∈ TB := tw_f (tw_t1 (List.mem_of_getElem? (i := 204) rfl)) rfl
set_option maxRecDepth 100000 in
theorem tw_179 : (.code y_WM_today b_WM_today 1 (some .int)) ∈ TB := tw_f (tw_t2 (List.mem_of_getElem? (i := 50) rfl)) rfl
set_option maxRecDepth 100000 in
theorem tw_180 : (.methodLink R_WM 97 y_WM_today) ∈ TB := tw_f (tw_t2 (List.mem_of_getElem? (i := 47) rfl)) rfl
set_option maxRecDepth 100000 in
theorem tw_181 : (.instanceMethod y_WM_today) ∈ TB := tw_f (tw_t2 (List.mem_of_getElem? (i := 49) rfl)) rfl
set_option maxRecDepth 100000 in
theorem tw_182 : (.selects R_WM y_WM_today y_WM_today) ∈ TB := tw_f (tw_s1 (List.mem_of_getElem? (i := 0) rfl)) rfl
set_option maxRecDepth 100000 in
theorem tw_183 : (.code y_Rv_isFrozen b_Rv_isFrozen 2 (some .boolean)) ∈ TB := tw_f (tw_t2 (List.mem_of_getElem? (i := 54) rfl)) rfl
set_option maxRecDepth 100000 in
theorem tw_184 : (.methodLink R_WM 100 y_Rv_isFrozen) ∈ TB := tw_f (tw_t2 (List.mem_of_getElem? (i := 51) rfl)) rfl
set_option maxRecDepth 100000 in
theorem tw_185 : (.instanceMethod y_Rv_isFrozen) ∈ TB := tw_f (tw_t2 (List.mem_of_getElem? (i := 52) rfl)) rfl
set_option maxRecDepth 100000 in
theorem tw_186 : (.selects R_Rv y_Rv_isFrozen y_Rv_isFrozen) ∈ TB := tw_f (tw_t2 (List.mem_of_getElem? (i := 53) rfl)) rfl
set_option maxRecDepth 100000 in
theorem tw_187 : (.fieldLink R_WM 103 "WaterMen$River" "frozen" "[Z") ∈ TB := tw_f (tw_t1 (List.mem_of_getElem? (i := 38) rfl)) rfl
set_option maxRecDepth 100000 in
theorem tw_188 : (.fieldLink R_WM 18 "WaterMen" "men" "[LWaterMen$Man;") ∈ TB := tw_f (tw_t1 (List.mem_of_getElem? (i := 195) rfl)) rfl
set_option maxRecDepth 100000 in
theorem tw_189 : (.code y_WM_manAt b_WM_manAt 2 (some (.object "WaterMen$Man"))) ∈ TB := tw_f (tw_t2 (List.mem_of_getElem? (i := 63) rfl)) rfl
set_option maxRecDepth 100000 in
theorem tw_190 : (.methodLink R_WM 107 y_WM_manAt) ∈ TB := tw_f (tw_t2 (List.mem_of_getElem? (i := 60) rfl)) rfl
set_option maxRecDepth 100000 in
theorem tw_191 : (.instanceMethod y_WM_manAt) ∈ TB := tw_f (tw_t2 (List.mem_of_getElem? (i := 62) rfl)) rfl
set_option maxRecDepth 100000 in
theorem tw_192 : (.selects R_WM y_WM_manAt y_WM_manAt) ∈ TB := tw_f (tw_s1 (List.mem_of_getElem? (i := 1) rfl)) rfl
set_option maxRecDepth 100000 in
theorem tw_193 : (.fieldLink R_WM 111 "WaterMen$Man" "state" "I") ∈ TB := tw_f (tw_t1 (List.mem_of_getElem? (i := 165) rfl)) rfl
set_option maxRecDepth 100000 in
theorem tw_194 : (.classLink R_WM 114 R_Bd) ∈ TB := tw_f (tw_t2 (List.mem_of_getElem? (i := 68) rfl)) rfl
set_option maxRecDepth 100000 in
theorem tw_195 : (.instantiable R_Bd 5) ∈ TB := tw_f (tw_t2 (List.mem_of_getElem? (i := 69) rfl)) rfl
set_option maxRecDepth 100000 in
theorem tw_196 : (.initialized R_Bd) ∈ TB := tw_f (tw_t1 (List.mem_of_getElem? (i := 8) rfl)) rfl
set_option maxRecDepth 100000 in
theorem tw_197 : (.methodLink R_Bd 3 objectInit) ∈ TB := tw_f (tw_t2 (List.mem_of_getElem? (i := 73) rfl)) rfl
set_option maxRecDepth 100000 in
theorem tw_198 : (.fieldLink R_Bd 18 "WaterMen$Bond" "master" "I") ∈ TB := tw_f (tw_t2 (List.mem_of_getElem? (i := 74) rfl)) rfl
set_option maxRecDepth 100000 in
theorem tw_199 : (.code y_Bd_init b_Bd_init 3 none) ∈ TB := tw_f (tw_t2 (List.mem_of_getElem? (i := 72) rfl)) rfl
set_option maxRecDepth 100000 in
theorem tw_200 : (.methodLink R_WM 116 y_Bd_init) ∈ TB := tw_f (tw_t2 (List.mem_of_getElem? (i := 70) rfl)) rfl
set_option maxRecDepth 100000 in
theorem tw_201 : (.instanceMethod y_Bd_init) ∈ TB := tw_f (tw_t2 (List.mem_of_getElem? (i := 71) rfl)) rfl
set_option maxRecDepth 100000 in
theorem tw_202 : (.fieldLink R_WM 119 "WaterMen$Man" "bond" "LWaterMen$Bond;") ∈ TB := tw_f (tw_t1 (List.mem_of_getElem? (i := 166) rfl)) rfl
set_option maxRecDepth 100000 in
theorem tw_203 : (.fieldLink R_WM 123 "WaterMen$Bond" "since" "I") ∈ TB := tw_f (tw_t2 (List.mem_of_getElem? (i := 77) rfl)) rfl
set_option maxRecDepth 100000 in
theorem tw_204 : (.code y_Bd_meetsGap b_Bd_meetsGap 4 (some .boolean)) ∈ TB := tw_f (tw_t2 (List.mem_of_getElem? (i := 100) rfl)) rfl
set_option maxRecDepth 100000 in
theorem tw_205 : (.methodLink R_WM 126 y_Bd_meetsGap) ∈ TB := tw_f (tw_t2 (List.mem_of_getElem? (i := 97) rfl)) rfl
set_option maxRecDepth 100000 in
theorem tw_206 : (.instanceMethod y_Bd_meetsGap) ∈ TB := tw_f (tw_t2 (List.mem_of_getElem? (i := 98) rfl)) rfl
set_option maxRecDepth 100000 in
theorem tw_207 : (.selects R_Bd y_Bd_meetsGap y_Bd_meetsGap) ∈ TB := tw_f (tw_t2 (List.mem_of_getElem? (i := 99) rfl)) rfl
set_option maxRecDepth 100000 in
theorem tw_208 : (.fieldLink R_WM 130 "WaterMen$Bond" "gapCount" "I") ∈ TB := tw_f (tw_t2 (List.mem_of_getElem? (i := 81) rfl)) rfl
set_option maxRecDepth 100000 in
theorem tw_209 : (.code y_Bd_addGap b_Bd_addGap 3 (some .int)) ∈ TB := tw_f (tw_t2 (List.mem_of_getElem? (i := 104) rfl)) rfl
set_option maxRecDepth 100000 in
theorem tw_210 : (.methodLink R_WM 133 y_Bd_addGap) ∈ TB := tw_f (tw_t2 (List.mem_of_getElem? (i := 101) rfl)) rfl
set_option maxRecDepth 100000 in
theorem tw_211 : (.instanceMethod y_Bd_addGap) ∈ TB := tw_f (tw_t2 (List.mem_of_getElem? (i := 102) rfl)) rfl
set_option maxRecDepth 100000 in
theorem tw_212 : (.selects R_Bd y_Bd_addGap y_Bd_addGap) ∈ TB := tw_f (tw_t2 (List.mem_of_getElem? (i := 103) rfl)) rfl
set_option maxRecDepth 100000 in
theorem tw_213 : (.code y_Bd_daysServed b_Bd_daysServed 4 (some .int)) ∈ TB := tw_f (tw_t2 (List.mem_of_getElem? (i := 112) rfl)) rfl
set_option maxRecDepth 100000 in
theorem tw_214 : (.methodLink R_WM 136 y_Bd_daysServed) ∈ TB := tw_f (tw_t2 (List.mem_of_getElem? (i := 109) rfl)) rfl
set_option maxRecDepth 100000 in
theorem tw_215 : (.instanceMethod y_Bd_daysServed) ∈ TB := tw_f (tw_t2 (List.mem_of_getElem? (i := 110) rfl)) rfl
set_option maxRecDepth 100000 in
theorem tw_216 : (.selects R_Bd y_Bd_daysServed y_Bd_daysServed) ∈ TB := tw_f (tw_t2 (List.mem_of_getElem? (i := 111) rfl)) rfl
set_option maxRecDepth 100000 in
theorem tw_217 : (.code y_WM_served b_WM_served 4 (some .int)) ∈ TB := tw_f (tw_t2 (List.mem_of_getElem? (i := 108) rfl)) rfl
set_option maxRecDepth 100000 in
theorem tw_218 : (.methodLink R_WM 139 y_WM_served) ∈ TB := tw_f (tw_t2 (List.mem_of_getElem? (i := 120) rfl)) rfl
set_option maxRecDepth 100000 in
theorem tw_219 : (.instanceMethod y_WM_served) ∈ TB := tw_f (tw_t2 (List.mem_of_getElem? (i := 106) rfl)) rfl
set_option maxRecDepth 100000 in
theorem tw_220 : (.selects R_WM y_WM_served y_WM_served) ∈ TB := tw_f (tw_t2 (List.mem_of_getElem? (i := 107) rfl)) rfl
set_option maxRecDepth 100000 in
theorem tw_221 : (.fieldLink R_WM 142 "WaterMen$Bond" "master" "I") ∈ TB := tw_f (tw_t2 (List.mem_of_getElem? (i := 75) rfl)) rfl
set_option maxRecDepth 100000 in
theorem tw_222 : (.fieldLink R_WM 145 "WaterMen$Man" "turnStairs" "I") ∈ TB := tw_f (tw_t1 (List.mem_of_getElem? (i := 168) rfl)) rfl
set_option maxRecDepth 100000 in
theorem tw_223 : (.fieldLink R_WM 196 "WaterMen$Man" "turnTicket" "I") ∈ TB := tw_f (tw_t1 (List.mem_of_getElem? (i := 169) rfl)) rfl
set_option maxRecDepth 100000 in
theorem tw_224 : (.code y_WM_placeInTurns b_WM_placeInTurns 5 (some .int)) ∈ TB := tw_f (tw_t2 (List.mem_of_getElem? (i := 128) rfl)) rfl
set_option maxRecDepth 100000 in
theorem tw_225 : (.methodLink R_WM 148 y_WM_placeInTurns) ∈ TB := tw_f (tw_t2 (List.mem_of_getElem? (i := 125) rfl)) rfl
set_option maxRecDepth 100000 in
theorem tw_226 : (.instanceMethod y_WM_placeInTurns) ∈ TB := tw_f (tw_t2 (List.mem_of_getElem? (i := 127) rfl)) rfl
set_option maxRecDepth 100000 in
theorem tw_227 : (.selects R_WM y_WM_placeInTurns y_WM_placeInTurns) ∈ TB := tw_f (tw_s1 (List.mem_of_getElem? (i := 2) rfl)) rfl
set_option maxRecDepth 100000 in
theorem tw_228 : (.fieldLink R_WM 152 "WaterMen$Man" "coins" "I") ∈ TB := tw_f (tw_t1 (List.mem_of_getElem? (i := 170) rfl)) rfl
set_option maxRecDepth 100000 in
theorem tw_229 : (.code y_Mn_isOnWay b_Mn_isOnWay 2 (some .boolean)) ∈ TB := tw_f (tw_t2 (List.mem_of_getElem? (i := 132) rfl)) rfl
set_option maxRecDepth 100000 in
theorem tw_230 : (.initialized R_Mn) ∈ TB := tw_f (tw_t1 (List.mem_of_getElem? (i := 6) rfl)) rfl
set_option maxRecDepth 100000 in
theorem tw_231 : (.methodLink R_WM 158 y_Mn_isOnWay) ∈ TB := tw_f (tw_t2 (List.mem_of_getElem? (i := 129) rfl)) rfl
set_option maxRecDepth 100000 in
theorem tw_232 : (.instanceMethod y_Mn_isOnWay) ∈ TB := tw_f (tw_t2 (List.mem_of_getElem? (i := 130) rfl)) rfl
set_option maxRecDepth 100000 in
theorem tw_233 : (.selects R_Mn y_Mn_isOnWay y_Mn_isOnWay) ∈ TB := tw_f (tw_t2 (List.mem_of_getElem? (i := 131) rfl)) rfl
set_option maxRecDepth 100000 in
theorem tw_234 : (.fieldLink R_WM 161 "WaterMen$Man" "tripCount" "I") ∈ TB := tw_f (tw_t1 (List.mem_of_getElem? (i := 174) rfl)) rfl
set_option maxRecDepth 100000 in
theorem tw_235 : (.code y_WM_isOars b_WM_isOars 1 (some .boolean)) ∈ TB := tw_f (tw_t2 (List.mem_of_getElem? (i := 139) rfl)) rfl
set_option maxRecDepth 100000 in
theorem tw_236 : (.methodLink R_WM 164 y_WM_isOars) ∈ TB := tw_f (tw_t2 (List.mem_of_getElem? (i := 137) rfl)) rfl
set_option maxRecDepth 100000 in
theorem tw_237 : (.static y_WM_isOars) ∈ TB := tw_f (tw_t2 (List.mem_of_getElem? (i := 138) rfl)) rfl
set_option maxRecDepth 100000 in
theorem tw_238 : (.code y_Rv_hasStairs b_Rv_hasStairs 2 (some .boolean)) ∈ TB := tw_f (tw_t2 (List.mem_of_getElem? (i := 143) rfl)) rfl
set_option maxRecDepth 100000 in
theorem tw_239 : (.methodLink R_WM 167 y_Rv_hasStairs) ∈ TB := tw_f (tw_t2 (List.mem_of_getElem? (i := 140) rfl)) rfl
set_option maxRecDepth 100000 in
theorem tw_240 : (.instanceMethod y_Rv_hasStairs) ∈ TB := tw_f (tw_t2 (List.mem_of_getElem? (i := 141) rfl)) rfl
set_option maxRecDepth 100000 in
theorem tw_241 : (.selects R_Rv y_Rv_hasStairs y_Rv_hasStairs) ∈ TB := tw_f (tw_t2 (List.mem_of_getElem? (i := 142) rfl)) rfl
set_option maxRecDepth 100000 in
theorem tw_242 : (.fieldLink R_WM 170 "WaterMen" "boatCount" "I") ∈ TB := tw_f (tw_t1 (List.mem_of_getElem? (i := 201) rfl)) rfl
set_option maxRecDepth 100000 in
theorem tw_243 : (.fieldLink R_WM 24 "WaterMen" "boats" "[LWaterMen$Boat;") ∈ TB := tw_f (tw_t1 (List.mem_of_getElem? (i := 196) rfl)) rfl
set_option maxRecDepth 100000 in
theorem tw_244 : (.classLink R_WM 22 R_Bt) ∈ TB := tw_f (tw_t1 (List.mem_of_getElem? (i := 60) rfl)) rfl
set_option maxRecDepth 100000 in
theorem tw_245 : (.instantiable R_Bt 6) ∈ TB := tw_f (tw_t2 (List.mem_of_getElem? (i := 144) rfl)) rfl
set_option maxRecDepth 100000 in
theorem tw_246 : (.initialized R_Bt) ∈ TB := tw_f (tw_t1 (List.mem_of_getElem? (i := 10) rfl)) rfl
set_option maxRecDepth 100000 in
theorem tw_247 : (.methodLink R_Bt 3 objectInit) ∈ TB := tw_f (tw_t2 (List.mem_of_getElem? (i := 148) rfl)) rfl
set_option maxRecDepth 100000 in
theorem tw_248 : (.fieldLink R_Bt 9 "WaterMen$Boat" "rower" "I") ∈ TB := tw_f (tw_t2 (List.mem_of_getElem? (i := 155) rfl)) rfl
set_option maxRecDepth 100000 in
theorem tw_249 : (.fieldLink R_Bt 15 "WaterMen$Boat" "lastTrip" "I") ∈ TB := tw_f (tw_t2 (List.mem_of_getElem? (i := 157) rfl)) rfl
set_option maxRecDepth 100000 in
theorem tw_250 : (.fieldLink R_Bt 18 "WaterMen$Boat" "oars" "I") ∈ TB := tw_f (tw_t2 (List.mem_of_getElem? (i := 149) rfl)) rfl
set_option maxRecDepth 100000 in
theorem tw_251 : (.fieldLink R_Bt 21 "WaterMen$Boat" "stairs" "I") ∈ TB := tw_f (tw_t2 (List.mem_of_getElem? (i := 151) rfl)) rfl
set_option maxRecDepth 100000 in
theorem tw_252 : (.code y_Bt_init b_Bt_init 3 none) ∈ TB := tw_f (tw_t2 (List.mem_of_getElem? (i := 147) rfl)) rfl
set_option maxRecDepth 100000 in
theorem tw_253 : (.methodLink R_WM 173 y_Bt_init) ∈ TB := tw_f (tw_t2 (List.mem_of_getElem? (i := 145) rfl)) rfl
set_option maxRecDepth 100000 in
theorem tw_254 : (.instanceMethod y_Bt_init) ∈ TB := tw_f (tw_t2 (List.mem_of_getElem? (i := 146) rfl)) rfl
set_option maxRecDepth 100000 in
theorem tw_255 : (.code y_WM_boatAt b_WM_boatAt 2 (some (.object "WaterMen$Boat"))) ∈ TB := tw_f (tw_t2 (List.mem_of_getElem? (i := 181) rfl)) rfl
set_option maxRecDepth 100000 in
theorem tw_256 : (.methodLink R_WM 174 y_WM_boatAt) ∈ TB := tw_f (tw_t2 (List.mem_of_getElem? (i := 178) rfl)) rfl
set_option maxRecDepth 100000 in
theorem tw_257 : (.instanceMethod y_WM_boatAt) ∈ TB := tw_f (tw_t2 (List.mem_of_getElem? (i := 180) rfl)) rfl
set_option maxRecDepth 100000 in
theorem tw_258 : (.selects R_WM y_WM_boatAt y_WM_boatAt) ∈ TB := tw_f (tw_s1 (List.mem_of_getElem? (i := 3) rfl)) rfl
set_option maxRecDepth 100000 in
theorem tw_259 : (.fieldLink R_WM 178 "WaterMen$Boat" "stairs" "I") ∈ TB := tw_f (tw_t2 (List.mem_of_getElem? (i := 152) rfl)) rfl
set_option maxRecDepth 100000 in
theorem tw_260 : (.fieldLink R_WM 181 "WaterMen$Boat" "oars" "I") ∈ TB := tw_f (tw_t2 (List.mem_of_getElem? (i := 150) rfl)) rfl
set_option maxRecDepth 100000 in
theorem tw_261 : (.fieldLink R_WM 184 "WaterMen$Boat" "thereFrom" "I") ∈ TB := tw_f (tw_t2 (List.mem_of_getElem? (i := 154) rfl)) rfl
set_option maxRecDepth 100000 in
theorem tw_262 : (.code y_Bt_stateAt b_Bt_stateAt 2 (some .int)) ∈ TB := tw_f (tw_t2 (List.mem_of_getElem? (i := 185) rfl)) rfl
set_option maxRecDepth 100000 in
theorem tw_263 : (.methodLink R_WM 187 y_Bt_stateAt) ∈ TB := tw_f (tw_t2 (List.mem_of_getElem? (i := 182) rfl)) rfl
set_option maxRecDepth 100000 in
theorem tw_264 : (.instanceMethod y_Bt_stateAt) ∈ TB := tw_f (tw_t2 (List.mem_of_getElem? (i := 183) rfl)) rfl
set_option maxRecDepth 100000 in
theorem tw_265 : (.selects R_Bt y_Bt_stateAt y_Bt_stateAt) ∈ TB := tw_f (tw_t2 (List.mem_of_getElem? (i := 184) rfl)) rfl
set_option maxRecDepth 100000 in
theorem tw_266 : (.fieldLink R_WM 190 "WaterMen$Boat" "rower" "I") ∈ TB := tw_f (tw_t2 (List.mem_of_getElem? (i := 156) rfl)) rfl
set_option maxRecDepth 100000 in
theorem tw_267 : (.fieldLink R_WM 193 "WaterMen" "joins" "I") ∈ TB := tw_f (tw_t1 (List.mem_of_getElem? (i := 205) rfl)) rfl
set_option maxRecDepth 100000 in
theorem tw_268 : (.fieldLink R_WM 43 "WaterMen" "tape" "LWaterMen$Tape;") ∈ TB := tw_f (tw_t1 (List.mem_of_getElem? (i := 199) rfl)) rfl
set_option maxRecDepth 100000 in
theorem tw_269 : (.code y_Tp_hasRoomForFive b_Tp_hasRoomForFive 1 (some .boolean)) ∈ TB := tw_f (tw_t2 (List.mem_of_getElem? (i := 201) rfl)) rfl
set_option maxRecDepth 100000 in
theorem tw_270 : (.methodLink R_WM 199 y_Tp_hasRoomForFive) ∈ TB := tw_f (tw_t2 (List.mem_of_getElem? (i := 198) rfl)) rfl
set_option maxRecDepth 100000 in
theorem tw_271 : (.instanceMethod y_Tp_hasRoomForFive) ∈ TB := tw_f (tw_t2 (List.mem_of_getElem? (i := 199) rfl)) rfl
set_option maxRecDepth 100000 in
theorem tw_272 : (.selects R_Tp y_Tp_hasRoomForFive y_Tp_hasRoomForFive) ∈ TB := tw_f (tw_t2 (List.mem_of_getElem? (i := 200) rfl)) rfl
set_option maxRecDepth 100000 in
theorem tw_273 : (.code y_Tp_append b_Tp_append 2 none) ∈ TB := tw_f (tw_t2 (List.mem_of_getElem? (i := 205) rfl)) rfl
set_option maxRecDepth 100000 in
theorem tw_274 : (.methodLink R_WM 203 y_Tp_append) ∈ TB := tw_f (tw_t2 (List.mem_of_getElem? (i := 202) rfl)) rfl
set_option maxRecDepth 100000 in
theorem tw_275 : (.instanceMethod y_Tp_append) ∈ TB := tw_f (tw_t2 (List.mem_of_getElem? (i := 203) rfl)) rfl
set_option maxRecDepth 100000 in
theorem tw_276 : (.selects R_Tp y_Tp_append y_Tp_append) ∈ TB := tw_f (tw_t2 (List.mem_of_getElem? (i := 204) rfl)) rfl
set_option maxRecDepth 100000 in
theorem tw_277 : (.fieldLink R_WM 207 "WaterMen$Tape" "length" "I") ∈ TB := tw_f (tw_t1 (List.mem_of_getElem? (i := 74) rfl)) rfl
set_option maxRecDepth 100000 in
theorem tw_278 : (.fieldLink R_WM 210 "WaterMen" "orderCount" "I") ∈ TB := tw_f (tw_t1 (List.mem_of_getElem? (i := 202) rfl)) rfl
set_option maxRecDepth 100000 in
theorem tw_279 : (.fieldLink R_WM 55 "WaterMen" "draft" "LWaterMen$Order;") ∈ TB := tw_f (tw_t1 (List.mem_of_getElem? (i := 206) rfl)) rfl
set_option maxRecDepth 100000 in
theorem tw_280 : (.code y_Or_clear b_Or_clear 2 none) ∈ TB := tw_f (tw_t2 (List.mem_of_getElem? (i := 221) rfl)) rfl
set_option maxRecDepth 100000 in
theorem tw_281 : (.methodLink R_Tp 19 y_Or_clear) ∈ TB := tw_f (tw_t2 (List.mem_of_getElem? (i := 218) rfl)) rfl
set_option maxRecDepth 100000 in
theorem tw_282 : (.instanceMethod y_Or_clear) ∈ TB := tw_f (tw_t2 (List.mem_of_getElem? (i := 219) rfl)) rfl
set_option maxRecDepth 100000 in
theorem tw_283 : (.selects R_Or y_Or_clear y_Or_clear) ∈ TB := tw_f (tw_t2 (List.mem_of_getElem? (i := 220) rfl)) rfl
set_option maxRecDepth 100000 in
theorem tw_284 : (.code y_Tp_kindOfLine b_Tp_kindOfLine 1 (some .int)) ∈ TB := tw_f (tw_t3 (List.mem_of_getElem? (i := 7) rfl)) rfl
set_option maxRecDepth 100000 in
theorem tw_285 : (.methodLink R_Tp 40 y_Tp_kindOfLine) ∈ TB := tw_f (tw_t3 (List.mem_of_getElem? (i := 4) rfl)) rfl
set_option maxRecDepth 100000 in
theorem tw_286 : (.instanceMethod y_Tp_kindOfLine) ∈ TB := tw_f (tw_t3 (List.mem_of_getElem? (i := 5) rfl)) rfl
set_option maxRecDepth 100000 in
theorem tw_287 : (.selects R_Tp y_Tp_kindOfLine y_Tp_kindOfLine) ∈ TB := tw_f (tw_t3 (List.mem_of_getElem? (i := 6) rfl)) rfl
set_option maxRecDepth 100000 in
theorem tw_288 : (.code y_Or_takesLine b_Or_takesLine 2 (some .boolean)) ∈ TB := tw_f (tw_t3 (List.mem_of_getElem? (i := 72) rfl)) rfl
set_option maxRecDepth 100000 in
theorem tw_289 : (.methodLink R_Tp 44 y_Or_takesLine) ∈ TB := tw_f (tw_t3 (List.mem_of_getElem? (i := 69) rfl)) rfl
set_option maxRecDepth 100000 in
theorem tw_290 : (.instanceMethod y_Or_takesLine) ∈ TB := tw_f (tw_t3 (List.mem_of_getElem? (i := 70) rfl)) rfl
set_option maxRecDepth 100000 in
theorem tw_291 : (.selects R_Or y_Or_takesLine y_Or_takesLine) ∈ TB := tw_f (tw_t3 (List.mem_of_getElem? (i := 71) rfl)) rfl
set_option maxRecDepth 100000 in
theorem tw_292 : (.code y_Tp_stepOverNumber b_Tp_stepOverNumber 1 (some .boolean)) ∈ TB := tw_f (tw_t3 (List.mem_of_getElem? (i := 76) rfl)) rfl
set_option maxRecDepth 100000 in
theorem tw_293 : (.methodLink R_Tp 51 y_Tp_stepOverNumber) ∈ TB := tw_f (tw_t3 (List.mem_of_getElem? (i := 73) rfl)) rfl
set_option maxRecDepth 100000 in
theorem tw_294 : (.instanceMethod y_Tp_stepOverNumber) ∈ TB := tw_f (tw_t3 (List.mem_of_getElem? (i := 74) rfl)) rfl
set_option maxRecDepth 100000 in
theorem tw_295 : (.selects R_Tp y_Tp_stepOverNumber y_Tp_stepOverNumber) ∈ TB := tw_f (tw_t3 (List.mem_of_getElem? (i := 75) rfl)) rfl
set_option maxRecDepth 100000 in
theorem tw_296 : (.code y_Tp_stepOverWord b_Tp_stepOverWord 2 (some .boolean)) ∈ TB := tw_f (tw_t3 (List.mem_of_getElem? (i := 81) rfl)) rfl
set_option maxRecDepth 100000 in
theorem tw_297 : (.methodLink R_Tp 57 y_Tp_stepOverWord) ∈ TB := tw_f (tw_t3 (List.mem_of_getElem? (i := 78) rfl)) rfl
set_option maxRecDepth 100000 in
theorem tw_298 : (.instanceMethod y_Tp_stepOverWord) ∈ TB := tw_f (tw_t3 (List.mem_of_getElem? (i := 79) rfl)) rfl
set_option maxRecDepth 100000 in
theorem tw_299 : (.selects R_Tp y_Tp_stepOverWord y_Tp_stepOverWord) ∈ TB := tw_f (tw_t3 (List.mem_of_getElem? (i := 80) rfl)) rfl
set_option maxRecDepth 100000 in
theorem tw_300 : (.code y_Or_setLine b_Or_setLine 5 none) ∈ TB := tw_f (tw_t3 (List.mem_of_getElem? (i := 89) rfl)) rfl
set_option maxRecDepth 100000 in
theorem tw_301 : (.methodLink R_Or 30 y_Or_setLine) ∈ TB := tw_f (tw_t3 (List.mem_of_getElem? (i := 87) rfl)) rfl
set_option maxRecDepth 100000 in
theorem tw_302 : (.static y_Or_setLine) ∈ TB := tw_f (tw_t3 (List.mem_of_getElem? (i := 88) rfl)) rfl
set_option maxRecDepth 100000 in
theorem tw_303 : (.code y_Or_addLine b_Or_addLine 5 none) ∈ TB := tw_f (tw_t3 (List.mem_of_getElem? (i := 86) rfl)) rfl
set_option maxRecDepth 100000 in
theorem tw_304 : (.methodLink R_Tp 63 y_Or_addLine) ∈ TB := tw_f (tw_t3 (List.mem_of_getElem? (i := 83) rfl)) rfl
set_option maxRecDepth 100000 in
theorem tw_305 : (.instanceMethod y_Or_addLine) ∈ TB := tw_f (tw_t3 (List.mem_of_getElem? (i := 84) rfl)) rfl
set_option maxRecDepth 100000 in
theorem tw_306 : (.selects R_Or y_Or_addLine y_Or_addLine) ∈ TB := tw_f (tw_t3 (List.mem_of_getElem? (i := 85) rfl)) rfl
set_option maxRecDepth 100000 in
theorem tw_307 : (.code y_Tp_readLine b_Tp_readLine 8 (some .boolean)) ∈ TB := tw_f (tw_t3 (List.mem_of_getElem? (i := 3) rfl)) rfl
set_option maxRecDepth 100000 in
theorem tw_308 : (.methodLink R_Tp 30 y_Tp_readLine) ∈ TB := tw_f (tw_t3 (List.mem_of_getElem? (i := 0) rfl)) rfl
set_option maxRecDepth 100000 in
theorem tw_309 : (.instanceMethod y_Tp_readLine) ∈ TB := tw_f (tw_t3 (List.mem_of_getElem? (i := 1) rfl)) rfl
set_option maxRecDepth 100000 in
theorem tw_310 : (.selects R_Tp y_Tp_readLine y_Tp_readLine) ∈ TB := tw_f (tw_t3 (List.mem_of_getElem? (i := 2) rfl)) rfl
set_option maxRecDepth 100000 in
theorem tw_311 : (.code y_Tp_readInto b_Tp_readInto 3 (some .int)) ∈ TB := tw_f (tw_t2 (List.mem_of_getElem? (i := 217) rfl)) rfl
set_option maxRecDepth 100000 in
theorem tw_312 : (.methodLink R_WM 213 y_Tp_readInto) ∈ TB := tw_f (tw_t2 (List.mem_of_getElem? (i := 214) rfl)) rfl
set_option maxRecDepth 100000 in
theorem tw_313 : (.instanceMethod y_Tp_readInto) ∈ TB := tw_f (tw_t2 (List.mem_of_getElem? (i := 215) rfl)) rfl
set_option maxRecDepth 100000 in
theorem tw_314 : (.selects R_Tp y_Tp_readInto y_Tp_readInto) ∈ TB := tw_f (tw_t2 (List.mem_of_getElem? (i := 216) rfl)) rfl
set_option maxRecDepth 100000 in
theorem tw_315 : (.fieldLink R_WM 217 "WaterMen$Order" "inForceFrom" "I") ∈ TB := tw_f (tw_t1 (List.mem_of_getElem? (i := 132) rfl)) rfl
set_option maxRecDepth 100000 in
theorem tw_316 : (.fieldLink R_WM 220 "WaterMen$Order" "madeOn" "I") ∈ TB := tw_f (tw_t1 (List.mem_of_getElem? (i := 131) rfl)) rfl
set_option maxRecDepth 100000 in
theorem tw_317 : (.fieldLink R_WM 30 "WaterMen" "orders" "[LWaterMen$Order;") ∈ TB := tw_f (tw_t1 (List.mem_of_getElem? (i := 197) rfl)) rfl
set_option maxRecDepth 100000 in
theorem tw_318 : (.classLink R_WM 28 R_Or) ∈ TB := tw_f (tw_t1 (List.mem_of_getElem? (i := 62) rfl)) rfl
set_option maxRecDepth 100000 in
theorem tw_319 : (.instantiable R_Or 9) ∈ TB := tw_f (tw_t1 (List.mem_of_getElem? (i := 126) rfl)) rfl
set_option maxRecDepth 100000 in
theorem tw_320 : (.methodLink R_Or 3 objectInit) ∈ TB := tw_f (tw_t1 (List.mem_of_getElem? (i := 130) rfl)) rfl
set_option maxRecDepth 100000 in
theorem tw_321 : (.code y_Or_init b_Or_init 1 none) ∈ TB := tw_f (tw_t1 (List.mem_of_getElem? (i := 129) rfl)) rfl
set_option maxRecDepth 100000 in
theorem tw_322 : (.instanceMethod y_Or_init) ∈ TB := tw_f (tw_t1 (List.mem_of_getElem? (i := 128) rfl)) rfl
set_option maxRecDepth 100000 in
theorem tw_323 : (.code y_WM_orderAt b_WM_orderAt 2 (some (.object "WaterMen$Order"))) ∈ TB := tw_f (tw_t3 (List.mem_of_getElem? (i := 101) rfl)) rfl
set_option maxRecDepth 100000 in
theorem tw_324 : (.methodLink R_WM 226 y_WM_orderAt) ∈ TB := tw_f (tw_t3 (List.mem_of_getElem? (i := 98) rfl)) rfl
set_option maxRecDepth 100000 in
theorem tw_325 : (.instanceMethod y_WM_orderAt) ∈ TB := tw_f (tw_t3 (List.mem_of_getElem? (i := 100) rfl)) rfl
set_option maxRecDepth 100000 in
theorem tw_326 : (.selects R_WM y_WM_orderAt y_WM_orderAt) ∈ TB := tw_f (tw_s1 (List.mem_of_getElem? (i := 5) rfl)) rfl
set_option maxRecDepth 100000 in
theorem tw_327 : (.code y_WM_numberInForce b_WM_numberInForce 5 (some .int)) ∈ TB := tw_f (tw_t3 (List.mem_of_getElem? (i := 97) rfl)) rfl
set_option maxRecDepth 100000 in
theorem tw_328 : (.methodLink R_WM 223 y_WM_numberInForce) ∈ TB := tw_f (tw_t3 (List.mem_of_getElem? (i := 94) rfl)) rfl
set_option maxRecDepth 100000 in
theorem tw_329 : (.instanceMethod y_WM_numberInForce) ∈ TB := tw_f (tw_t3 (List.mem_of_getElem? (i := 96) rfl)) rfl
set_option maxRecDepth 100000 in
theorem tw_330 : (.selects R_WM y_WM_numberInForce y_WM_numberInForce) ∈ TB := tw_f (tw_s1 (List.mem_of_getElem? (i := 4) rfl)) rfl
set_option maxRecDepth 100000 in
theorem tw_331 : (.code y_Rv_drift b_Rv_drift 6 (some .int)) ∈ TB := tw_f (tw_t3 (List.mem_of_getElem? (i := 113) rfl)) rfl
set_option maxRecDepth 100000 in
theorem tw_332 : (.methodLink R_WM 359 y_Rv_drift) ∈ TB := tw_f (tw_t3 (List.mem_of_getElem? (i := 110) rfl)) rfl
set_option maxRecDepth 100000 in
theorem tw_333 : (.instanceMethod y_Rv_drift) ∈ TB := tw_f (tw_t3 (List.mem_of_getElem? (i := 111) rfl)) rfl
set_option maxRecDepth 100000 in
theorem tw_334 : (.selects R_Rv y_Rv_drift y_Rv_drift) ∈ TB := tw_f (tw_t3 (List.mem_of_getElem? (i := 112) rfl)) rfl
set_option maxRecDepth 100000 in
theorem tw_335 : (.code y_Rv_distance b_Rv_distance 3 (some .int)) ∈ TB := tw_f (tw_t3 (List.mem_of_getElem? (i := 118) rfl)) rfl
set_option maxRecDepth 100000 in
theorem tw_336 : (.methodLink R_WM 363 y_Rv_distance) ∈ TB := tw_f (tw_t3 (List.mem_of_getElem? (i := 115) rfl)) rfl
set_option maxRecDepth 100000 in
theorem tw_337 : (.instanceMethod y_Rv_distance) ∈ TB := tw_f (tw_t3 (List.mem_of_getElem? (i := 116) rfl)) rfl
set_option maxRecDepth 100000 in
theorem tw_338 : (.selects R_Rv y_Rv_distance y_Rv_distance) ∈ TB := tw_f (tw_t3 (List.mem_of_getElem? (i := 117) rfl)) rfl
set_option maxRecDepth 100000 in
theorem tw_339 : (.code y_Or_price b_Or_price 8 (some .int)) ∈ TB := tw_f (tw_t3 (List.mem_of_getElem? (i := 125) rfl)) rfl
set_option maxRecDepth 100000 in
theorem tw_340 : (.methodLink R_WM 366 y_Or_price) ∈ TB := tw_f (tw_t3 (List.mem_of_getElem? (i := 122) rfl)) rfl
set_option maxRecDepth 100000 in
theorem tw_341 : (.instanceMethod y_Or_price) ∈ TB := tw_f (tw_t3 (List.mem_of_getElem? (i := 123) rfl)) rfl
set_option maxRecDepth 100000 in
theorem tw_342 : (.selects R_Or y_Or_price y_Or_price) ∈ TB := tw_f (tw_t3 (List.mem_of_getElem? (i := 124) rfl)) rfl
set_option maxRecDepth 100000 in
theorem tw_343 : (.code y_WM_priceOf b_WM_priceOf 9 (some .int)) ∈ TB := tw_f (tw_t3 (List.mem_of_getElem? (i := 109) rfl)) rfl
set_option maxRecDepth 100000 in
theorem tw_344 : (.methodLink R_WM 230 y_WM_priceOf) ∈ TB := tw_f (tw_t3 (List.mem_of_getElem? (i := 106) rfl)) rfl
set_option maxRecDepth 100000 in
theorem tw_345 : (.instanceMethod y_WM_priceOf) ∈ TB := tw_f (tw_t3 (List.mem_of_getElem? (i := 108) rfl)) rfl
set_option maxRecDepth 100000 in
theorem tw_346 : (.selects R_WM y_WM_priceOf y_WM_priceOf) ∈ TB := tw_f (tw_s1 (List.mem_of_getElem? (i := 6) rfl)) rfl
set_option maxRecDepth 100000 in
theorem tw_347 : (.fieldLink R_WM 283 "WaterMen$Boat" "sunk" "Z") ∈ TB := tw_f (tw_t2 (List.mem_of_getElem? (i := 160) rfl)) rfl
set_option maxRecDepth 100000 in
theorem tw_348 : (.code y_WM_mayGoTo b_WM_mayGoTo 3 (some .boolean)) ∈ TB := tw_f (tw_t3 (List.mem_of_getElem? (i := 152) rfl)) rfl
set_option maxRecDepth 100000 in
theorem tw_349 : (.methodLink R_WM 234 y_WM_mayGoTo) ∈ TB := tw_f (tw_t3 (List.mem_of_getElem? (i := 149) rfl)) rfl
set_option maxRecDepth 100000 in
theorem tw_350 : (.instanceMethod y_WM_mayGoTo) ∈ TB := tw_f (tw_t3 (List.mem_of_getElem? (i := 151) rfl)) rfl
set_option maxRecDepth 100000 in
theorem tw_351 : (.selects R_WM y_WM_mayGoTo y_WM_mayGoTo) ∈ TB := tw_f (tw_s1 (List.mem_of_getElem? (i := 7) rfl)) rfl
set_option maxRecDepth 100000 in
theorem tw_352 : (.code y_WM_hasTurns b_WM_hasTurns 4 (some .boolean)) ∈ TB := tw_f (tw_t3 (List.mem_of_getElem? (i := 164) rfl)) rfl
set_option maxRecDepth 100000 in
theorem tw_353 : (.methodLink R_WM 356 y_WM_hasTurns) ∈ TB := tw_f (tw_t3 (List.mem_of_getElem? (i := 161) rfl)) rfl
set_option maxRecDepth 100000 in
theorem tw_354 : (.instanceMethod y_WM_hasTurns) ∈ TB := tw_f (tw_t3 (List.mem_of_getElem? (i := 163) rfl)) rfl
set_option maxRecDepth 100000 in
theorem tw_355 : (.selects R_WM y_WM_hasTurns y_WM_hasTurns) ∈ TB := tw_f (tw_s1 (List.mem_of_getElem? (i := 10) rfl)) rfl
set_option maxRecDepth 100000 in
theorem tw_356 : (.code y_WM_mustWait b_WM_mustWait 3 (some .boolean)) ∈ TB := tw_f (tw_t3 (List.mem_of_getElem? (i := 160) rfl)) rfl
set_option maxRecDepth 100000 in
theorem tw_357 : (.methodLink R_WM 375 y_WM_mustWait) ∈ TB := tw_f (tw_t3 (List.mem_of_getElem? (i := 157) rfl)) rfl
set_option maxRecDepth 100000 in
theorem tw_358 : (.instanceMethod y_WM_mustWait) ∈ TB := tw_f (tw_t3 (List.mem_of_getElem? (i := 159) rfl)) rfl
set_option maxRecDepth 100000 in
theorem tw_359 : (.selects R_WM y_WM_mustWait y_WM_mustWait) ∈ TB := tw_f (tw_s1 (List.mem_of_getElem? (i := 9) rfl)) rfl
set_option maxRecDepth 100000 in
theorem tw_360 : (.code y_Rv_passesBridge b_Rv_passesBridge 3 (some .boolean)) ∈ TB := tw_f (tw_t3 (List.mem_of_getElem? (i := 168) rfl)) rfl
set_option maxRecDepth 100000 in
theorem tw_361 : (.methodLink R_WM 379 y_Rv_passesBridge) ∈ TB := tw_f (tw_t3 (List.mem_of_getElem? (i := 165) rfl)) rfl
set_option maxRecDepth 100000 in
theorem tw_362 : (.instanceMethod y_Rv_passesBridge) ∈ TB := tw_f (tw_t3 (List.mem_of_getElem? (i := 166) rfl)) rfl
set_option maxRecDepth 100000 in
theorem tw_363 : (.selects R_Rv y_Rv_passesBridge y_Rv_passesBridge) ∈ TB := tw_f (tw_t3 (List.mem_of_getElem? (i := 167) rfl)) rfl
set_option maxRecDepth 100000 in
theorem tw_364 : (.code y_WM_hourNow b_WM_hourNow 1 (some .int)) ∈ TB := tw_f (tw_t3 (List.mem_of_getElem? (i := 174) rfl)) rfl
set_option maxRecDepth 100000 in
theorem tw_365 : (.methodLink R_WM 382 y_WM_hourNow) ∈ TB := tw_f (tw_t3 (List.mem_of_getElem? (i := 171) rfl)) rfl
set_option maxRecDepth 100000 in
theorem tw_366 : (.instanceMethod y_WM_hourNow) ∈ TB := tw_f (tw_t3 (List.mem_of_getElem? (i := 173) rfl)) rfl
set_option maxRecDepth 100000 in
theorem tw_367 : (.selects R_WM y_WM_hourNow y_WM_hourNow) ∈ TB := tw_f (tw_s1 (List.mem_of_getElem? (i := 11) rfl)) rfl
set_option maxRecDepth 100000 in
theorem tw_368 : (.methodLink R_WM 370 Lib.Math.max.name) ∈ TB := tw_f (tw_t3 (List.mem_of_getElem? (i := 184) rfl)) rfl
set_option maxRecDepth 100000 in
theorem tw_369 : (.code y_WM_minutesOfWay b_WM_minutesOfWay 6 (some .int)) ∈ TB := tw_f (tw_t3 (List.mem_of_getElem? (i := 183) rfl)) rfl
set_option maxRecDepth 100000 in
theorem tw_370 : (.methodLink R_WM 253 y_WM_minutesOfWay) ∈ TB := tw_f (tw_t3 (List.mem_of_getElem? (i := 180) rfl)) rfl
set_option maxRecDepth 100000 in
theorem tw_371 : (.instanceMethod y_WM_minutesOfWay) ∈ TB := tw_f (tw_t3 (List.mem_of_getElem? (i := 182) rfl)) rfl
set_option maxRecDepth 100000 in
theorem tw_372 : (.selects R_WM y_WM_minutesOfWay y_WM_minutesOfWay) ∈ TB := tw_f (tw_s1 (List.mem_of_getElem? (i := 12) rfl)) rfl
set_option maxRecDepth 100000 in
theorem tw_373 : (.constant R_WM 270 359999) ∈ TB := tw_f (tw_t3 (List.mem_of_getElem? (i := 185) rfl)) rfl
set_option maxRecDepth 100000 in
theorem tw_374 : (.code y_Or_shutsBridge b_Or_shutsBridge 4 (some .boolean)) ∈ TB := tw_f (tw_t3 (List.mem_of_getElem? (i := 178) rfl)) rfl
set_option maxRecDepth 100000 in
theorem tw_375 : (.methodLink R_WM 385 y_Or_shutsBridge) ∈ TB := tw_f (tw_t3 (List.mem_of_getElem? (i := 175) rfl)) rfl
set_option maxRecDepth 100000 in
theorem tw_376 : (.instanceMethod y_Or_shutsBridge) ∈ TB := tw_f (tw_t3 (List.mem_of_getElem? (i := 176) rfl)) rfl
set_option maxRecDepth 100000 in
theorem tw_377 : (.selects R_Or y_Or_shutsBridge y_Or_shutsBridge) ∈ TB := tw_f (tw_t3 (List.mem_of_getElem? (i := 177) rfl)) rfl
set_option maxRecDepth 100000 in
theorem tw_378 : (.code y_WM_hindrance b_WM_hindrance 6 (some .int)) ∈ TB := tw_f (tw_t3 (List.mem_of_getElem? (i := 156) rfl)) rfl
set_option maxRecDepth 100000 in
theorem tw_379 : (.methodLink R_WM 238 y_WM_hindrance) ∈ TB := tw_f (tw_t3 (List.mem_of_getElem? (i := 153) rfl)) rfl
set_option maxRecDepth 100000 in
theorem tw_380 : (.instanceMethod y_WM_hindrance) ∈ TB := tw_f (tw_t3 (List.mem_of_getElem? (i := 155) rfl)) rfl
set_option maxRecDepth 100000 in
theorem tw_381 : (.selects R_WM y_WM_hindrance y_WM_hindrance) ∈ TB := tw_f (tw_s1 (List.mem_of_getElem? (i := 8) rfl)) rfl
set_option maxRecDepth 100000 in
theorem tw_382 : (.constant R_WM 242 1000000) ∈ TB := tw_f (tw_t3 (List.mem_of_getElem? (i := 190) rfl)) rfl
set_option maxRecDepth 100000 in
theorem tw_383 : (.fieldLink R_WM 243 "WaterMen" "tripCount" "I") ∈ TB := tw_f (tw_t1 (List.mem_of_getElem? (i := 203) rfl)) rfl
set_option maxRecDepth 100000 in
theorem tw_384 : (.classLink R_WM 34 R_Tr) ∈ TB := tw_f (tw_t1 (List.mem_of_getElem? (i := 64) rfl)) rfl
set_option maxRecDepth 100000 in
theorem tw_385 : (.instantiable R_Tr 8) ∈ TB := tw_f (tw_t3 (List.mem_of_getElem? (i := 191) rfl)) rfl
set_option maxRecDepth 100000 in
theorem tw_386 : (.initialized R_Tr) ∈ TB := tw_f (tw_t1 (List.mem_of_getElem? (i := 15) rfl)) rfl
set_option maxRecDepth 100000 in
theorem tw_387 : (.methodLink R_Tr 1 objectInit) ∈ TB := tw_f (tw_t3 (List.mem_of_getElem? (i := 195) rfl)) rfl
set_option maxRecDepth 100000 in
theorem tw_388 : (.fieldLink R_Tr 7 "WaterMen$Trip" "boat" "I") ∈ TB := tw_f (tw_t3 (List.mem_of_getElem? (i := 196) rfl)) rfl
set_option maxRecDepth 100000 in
theorem tw_389 : (.fieldLink R_Tr 13 "WaterMen$Trip" "man" "I") ∈ TB := tw_f (tw_t3 (List.mem_of_getElem? (i := 198) rfl)) rfl
set_option maxRecDepth 100000 in
theorem tw_390 : (.fieldLink R_Tr 16 "WaterMen$Trip" "start" "I") ∈ TB := tw_f (tw_t3 (List.mem_of_getElem? (i := 201) rfl)) rfl
set_option maxRecDepth 100000 in
theorem tw_391 : (.fieldLink R_Tr 19 "WaterMen$Trip" "paid" "I") ∈ TB := tw_f (tw_t3 (List.mem_of_getElem? (i := 203) rfl)) rfl
set_option maxRecDepth 100000 in
theorem tw_392 : (.code y_Tr_init b_Tr_init 5 none) ∈ TB := tw_f (tw_t3 (List.mem_of_getElem? (i := 194) rfl)) rfl
set_option maxRecDepth 100000 in
theorem tw_393 : (.methodLink R_WM 244 y_Tr_init) ∈ TB := tw_f (tw_t3 (List.mem_of_getElem? (i := 192) rfl)) rfl
set_option maxRecDepth 100000 in
theorem tw_394 : (.instanceMethod y_Tr_init) ∈ TB := tw_f (tw_t3 (List.mem_of_getElem? (i := 193) rfl)) rfl
set_option maxRecDepth 100000 in
theorem tw_395 : (.fieldLink R_WM 247 "WaterMen$Trip" "from" "I") ∈ TB := tw_f (tw_t3 (List.mem_of_getElem? (i := 205) rfl)) rfl
set_option maxRecDepth 100000 in
theorem tw_396 : (.fieldLink R_WM 250 "WaterMen$Trip" "to" "I") ∈ TB := tw_f (tw_t3 (List.mem_of_getElem? (i := 207) rfl)) rfl
set_option maxRecDepth 100000 in
theorem tw_397 : (.fieldLink R_WM 257 "WaterMen$Trip" "arrival" "I") ∈ TB := tw_f (tw_t3 (List.mem_of_getElem? (i := 209) rfl)) rfl
set_option maxRecDepth 100000 in
theorem tw_398 : (.fieldLink R_WM 36 "WaterMen" "trips" "[LWaterMen$Trip;") ∈ TB := tw_f (tw_t1 (List.mem_of_getElem? (i := 198) rfl)) rfl
set_option maxRecDepth 100000 in
theorem tw_399 : (.fieldLink R_Bt 31 "WaterMen$Trip" "to" "I") ∈ TB := tw_f (tw_t3 (List.mem_of_getElem? (i := 206) rfl)) rfl
set_option maxRecDepth 100000 in
theorem tw_400 : (.fieldLink R_Bt 36 "WaterMen$Trip" "arrival" "I") ∈ TB := tw_f (tw_t3 (List.mem_of_getElem? (i := 208) rfl)) rfl
set_option maxRecDepth 100000 in
theorem tw_401 : (.fieldLink R_Bt 39 "WaterMen$Trip" "man" "I") ∈ TB := tw_f (tw_t3 (List.mem_of_getElem? (i := 199) rfl)) rfl
set_option maxRecDepth 100000 in
theorem tw_402 : (.code y_Bt_setOut b_Bt_setOut 3 none) ∈ TB := tw_f (tw_t3 (List.mem_of_getElem? (i := 231) rfl)) rfl
set_option maxRecDepth 100000 in
theorem tw_403 : (.methodLink R_WM 260 y_Bt_setOut) ∈ TB := tw_f (tw_t3 (List.mem_of_getElem? (i := 228) rfl)) rfl
set_option maxRecDepth 100000 in
theorem tw_404 : (.instanceMethod y_Bt_setOut) ∈ TB := tw_f (tw_t3 (List.mem_of_getElem? (i := 229) rfl)) rfl
set_option maxRecDepth 100000 in
theorem tw_405 : (.selects R_Bt y_Bt_setOut y_Bt_setOut) ∈ TB := tw_f (tw_t3 (List.mem_of_getElem? (i := 230) rfl)) rfl
set_option maxRecDepth 100000 in
theorem tw_406 : (.code y_Mn_setOut b_Mn_setOut 2 none) ∈ TB := tw_f (tw_t3 (List.mem_of_getElem? (i := 235) rfl)) rfl
set_option maxRecDepth 100000 in
theorem tw_407 : (.methodLink R_WM 264 y_Mn_setOut) ∈ TB := tw_f (tw_t3 (List.mem_of_getElem? (i := 232) rfl)) rfl
set_option maxRecDepth 100000 in
theorem tw_408 : (.instanceMethod y_Mn_setOut) ∈ TB := tw_f (tw_t3 (List.mem_of_getElem? (i := 233) rfl)) rfl
set_option maxRecDepth 100000 in
theorem tw_409 : (.selects R_Mn y_Mn_setOut y_Mn_setOut) ∈ TB := tw_f (tw_t3 (List.mem_of_getElem? (i := 234) rfl)) rfl
set_option maxRecDepth 100000 in
theorem tw_410 : (.fieldLink R_WM 50 "WaterMen" "box" "LWaterMen$Box;") ∈ TB := tw_f (tw_t1 (List.mem_of_getElem? (i := 200) rfl)) rfl
set_option maxRecDepth 100000 in
theorem tw_411 : (.fieldLink R_WM 350 "WaterMen$Box" "allPaid" "I") ∈ TB := tw_f (tw_t1 (List.mem_of_getElem? (i := 104) rfl)) rfl
set_option maxRecDepth 100000 in
theorem tw_412 : (.code y_Bx_receive b_Bx_receive 3 none) ∈ TB := tw_f (tw_t4 (List.mem_of_getElem? (i := 3) rfl)) rfl
set_option maxRecDepth 100000 in
theorem tw_413 : (.methodLink R_WM 388 y_Bx_receive) ∈ TB := tw_f (tw_t4 (List.mem_of_getElem? (i := 0) rfl)) rfl
set_option maxRecDepth 100000 in
theorem tw_414 : (.instanceMethod y_Bx_receive) ∈ TB := tw_f (tw_t4 (List.mem_of_getElem? (i := 1) rfl)) rfl
set_option maxRecDepth 100000 in
theorem tw_415 : (.selects R_Bx y_Bx_receive y_Bx_receive) ∈ TB := tw_f (tw_t4 (List.mem_of_getElem? (i := 2) rfl)) rfl
set_option maxRecDepth 100000 in
theorem tw_416 : (.methodLink R_WM 391 y_WM_isSunday) ∈ TB := tw_f (tw_t4 (List.mem_of_getElem? (i := 5) rfl)) rfl
set_option maxRecDepth 100000 in
theorem tw_417 : (.fieldLink R_WM 344 "WaterMen$Box" "pot" "I") ∈ TB := tw_f (tw_t1 (List.mem_of_getElem? (i := 103) rfl)) rfl
set_option maxRecDepth 100000 in
theorem tw_418 : (.fieldLink R_WM 394 "WaterMen$Man" "lastSunday" "I") ∈ TB := tw_f (tw_t1 (List.mem_of_getElem? (i := 176) rfl)) rfl
set_option maxRecDepth 100000 in
theorem tw_419 : (.code y_WM_takeMoney b_WM_takeMoney 4 none) ∈ TB := tw_f (tw_t3 (List.mem_of_getElem? (i := 239) rfl)) rfl
set_option maxRecDepth 100000 in
theorem tw_420 : (.methodLink R_WM 266 y_WM_takeMoney) ∈ TB := tw_f (tw_t3 (List.mem_of_getElem? (i := 236) rfl)) rfl
set_option maxRecDepth 100000 in
theorem tw_421 : (.instanceMethod y_WM_takeMoney) ∈ TB := tw_f (tw_t3 (List.mem_of_getElem? (i := 238) rfl)) rfl
set_option maxRecDepth 100000 in
theorem tw_422 : (.selects R_WM y_WM_takeMoney y_WM_takeMoney) ∈ TB := tw_f (tw_s1 (List.mem_of_getElem? (i := 13) rfl)) rfl
set_option maxRecDepth 100000 in
theorem tw_423 : (.code y_WM_partPot b_WM_partPot 6 none) ∈ TB := tw_f (tw_t4 (List.mem_of_getElem? (i := 13) rfl)) rfl
set_option maxRecDepth 100000 in
theorem tw_424 : (.methodLink R_WM 271 y_WM_partPot) ∈ TB := tw_f (tw_t4 (List.mem_of_getElem? (i := 10) rfl)) rfl
set_option maxRecDepth 100000 in
theorem tw_425 : (.instanceMethod y_WM_partPot) ∈ TB := tw_f (tw_t4 (List.mem_of_getElem? (i := 12) rfl)) rfl
set_option maxRecDepth 100000 in
theorem tw_426 : (.selects R_WM y_WM_partPot y_WM_partPot) ∈ TB := tw_f (tw_s1 (List.mem_of_getElem? (i := 14) rfl)) rfl
set_option maxRecDepth 100000 in
theorem tw_427 : (.code y_Bx_payPensions b_Bx_payPensions 4 none) ∈ TB := tw_f (tw_t4 (List.mem_of_getElem? (i := 17) rfl)) rfl
set_option maxRecDepth 100000 in
theorem tw_428 : (.methodLink R_WM 274 y_Bx_payPensions) ∈ TB := tw_f (tw_t4 (List.mem_of_getElem? (i := 14) rfl)) rfl
set_option maxRecDepth 100000 in
theorem tw_429 : (.instanceMethod y_Bx_payPensions) ∈ TB := tw_f (tw_t4 (List.mem_of_getElem? (i := 15) rfl)) rfl
set_option maxRecDepth 100000 in
theorem tw_430 : (.selects R_Bx y_Bx_payPensions y_Bx_payPensions) ∈ TB := tw_f (tw_t4 (List.mem_of_getElem? (i := 16) rfl)) rfl
set_option maxRecDepth 100000 in
theorem tw_431 : (.code y_WM_isPension b_WM_isPension 2 (some .boolean)) ∈ TB := tw_f (tw_t4 (List.mem_of_getElem? (i := 28) rfl)) rfl
set_option maxRecDepth 100000 in
theorem tw_432 : (.methodLink R_WM 277 y_WM_isPension) ∈ TB := tw_f (tw_t4 (List.mem_of_getElem? (i := 26) rfl)) rfl
set_option maxRecDepth 100000 in
theorem tw_433 : (.static y_WM_isPension) ∈ TB := tw_f (tw_t4 (List.mem_of_getElem? (i := 27) rfl)) rfl
set_option maxRecDepth 100000 in
theorem tw_434 : (.fieldLink R_WM 280 "WaterMen$Box" "pensionerCount" "I") ∈ TB := tw_f (tw_t1 (List.mem_of_getElem? (i := 110) rfl)) rfl
set_option maxRecDepth 100000 in
theorem tw_435 : (.fieldLink R_WM 287 "WaterMen$Man" "busyUntil" "I") ∈ TB := tw_f (tw_t1 (List.mem_of_getElem? (i := 172) rfl)) rfl
set_option maxRecDepth 100000 in
theorem tw_436 : (.fieldLink R_WM 290 "WaterMen$Boat" "lastTrip" "I") ∈ TB := tw_f (tw_t2 (List.mem_of_getElem? (i := 158) rfl)) rfl
set_option maxRecDepth 100000 in
theorem tw_437 : (.code y_WM_tripAt b_WM_tripAt 2 (some (.object "WaterMen$Trip"))) ∈ TB := tw_f (tw_t4 (List.mem_of_getElem? (i := 32) rfl)) rfl
set_option maxRecDepth 100000 in
theorem tw_438 : (.methodLink R_WM 293 y_WM_tripAt) ∈ TB := tw_f (tw_t4 (List.mem_of_getElem? (i := 29) rfl)) rfl
set_option maxRecDepth 100000 in
theorem tw_439 : (.instanceMethod y_WM_tripAt) ∈ TB := tw_f (tw_t4 (List.mem_of_getElem? (i := 31) rfl)) rfl
set_option maxRecDepth 100000 in
theorem tw_440 : (.selects R_WM y_WM_tripAt y_WM_tripAt) ∈ TB := tw_f (tw_s1 (List.mem_of_getElem? (i := 15) rfl)) rfl
set_option maxRecDepth 100000 in
theorem tw_441 : (.code y_Bx_take b_Bx_take 3 (some .int)) ∈ TB := tw_f (tw_t4 (List.mem_of_getElem? (i := 36) rfl)) rfl
set_option maxRecDepth 100000 in
theorem tw_442 : (.methodLink R_WM 300 y_Bx_take) ∈ TB := tw_f (tw_t4 (List.mem_of_getElem? (i := 33) rfl)) rfl
set_option maxRecDepth 100000 in
theorem tw_443 : (.instanceMethod y_Bx_take) ∈ TB := tw_f (tw_t4 (List.mem_of_getElem? (i := 34) rfl)) rfl
set_option maxRecDepth 100000 in
theorem tw_444 : (.selects R_Bx y_Bx_take y_Bx_take) ∈ TB := tw_f (tw_t4 (List.mem_of_getElem? (i := 35) rfl)) rfl
set_option maxRecDepth 100000 in
theorem tw_445 : (.fieldLink R_WM 297 "WaterMen$Trip" "sank" "Z") ∈ TB := tw_f (tw_t3 (List.mem_of_getElem? (i := 210) rfl)) rfl
set_option maxRecDepth 100000 in
theorem tw_446 : (.fieldLink R_WM 303 "WaterMen$Trip" "boat" "I") ∈ TB := tw_f (tw_t3 (List.mem_of_getElem? (i := 197) rfl)) rfl
set_option maxRecDepth 100000 in
theorem tw_447 : (.fieldLink R_WM 306 "WaterMen$Trip" "man" "I") ∈ TB := tw_f (tw_t3 (List.mem_of_getElem? (i := 200) rfl)) rfl
set_option maxRecDepth 100000 in
theorem tw_448 : (.fieldLink R_WM 309 "WaterMen$Trip" "start" "I") ∈ TB := tw_f (tw_t3 (List.mem_of_getElem? (i := 202) rfl)) rfl
set_option maxRecDepth 100000 in
theorem tw_449 : (.fieldLink R_WM 312 "WaterMen$Trip" "paid" "I") ∈ TB := tw_f (tw_t3 (List.mem_of_getElem? (i := 204) rfl)) rfl
set_option maxRecDepth 100000 in
theorem tw_450 : (.code y_WM_dueOf b_WM_dueOf 5 (some .int)) ∈ TB := tw_f (tw_t4 (List.mem_of_getElem? (i := 68) rfl)) rfl
set_option maxRecDepth 100000 in
theorem tw_451 : (.methodLink R_WM 315 y_WM_dueOf) ∈ TB := tw_f (tw_t4 (List.mem_of_getElem? (i := 65) rfl)) rfl
set_option maxRecDepth 100000 in
theorem tw_452 : (.instanceMethod y_WM_dueOf) ∈ TB := tw_f (tw_t4 (List.mem_of_getElem? (i := 67) rfl)) rfl
set_option maxRecDepth 100000 in
theorem tw_453 : (.selects R_WM y_WM_dueOf y_WM_dueOf) ∈ TB := tw_f (tw_s2 (List.mem_of_getElem? (i := 0) rfl)) rfl
set_option maxRecDepth 100000 in
theorem tw_454 : (.code y_WM_overpaid b_WM_overpaid 4 (some .int)) ∈ TB := tw_f (tw_t4 (List.mem_of_getElem? (i := 76) rfl)) rfl
set_option maxRecDepth 100000 in
theorem tw_455 : (.methodLink R_WM 319 y_WM_overpaid) ∈ TB := tw_f (tw_t4 (List.mem_of_getElem? (i := 73) rfl)) rfl
set_option maxRecDepth 100000 in
theorem tw_456 : (.instanceMethod y_WM_overpaid) ∈ TB := tw_f (tw_t4 (List.mem_of_getElem? (i := 75) rfl)) rfl
set_option maxRecDepth 100000 in
theorem tw_457 : (.selects R_WM y_WM_overpaid y_WM_overpaid) ∈ TB := tw_f (tw_s2 (List.mem_of_getElem? (i := 1) rfl)) rfl
set_option maxRecDepth 100000 in
theorem tw_458 : (.code y_Bx_firstShortDay b_Bx_firstShortDay 8 (some .int)) ∈ TB := tw_f (tw_t4 (List.mem_of_getElem? (i := 88) rfl)) rfl
set_option maxRecDepth 100000 in
theorem tw_459 : (.methodLink R_WM 322 y_Bx_firstShortDay) ∈ TB := tw_f (tw_t4 (List.mem_of_getElem? (i := 85) rfl)) rfl
set_option maxRecDepth 100000 in
theorem tw_460 : (.instanceMethod y_Bx_firstShortDay) ∈ TB := tw_f (tw_t4 (List.mem_of_getElem? (i := 86) rfl)) rfl
set_option maxRecDepth 100000 in
theorem tw_461 : (.selects R_Bx y_Bx_firstShortDay y_Bx_firstShortDay) ∈ TB := tw_f (tw_t4 (List.mem_of_getElem? (i := 87) rfl)) rfl
set_option maxRecDepth 100000 in
theorem tw_462 : (.methodLink R_WM 325 y_Bx_pensionerAt) ∈ TB := tw_f (tw_t4 (List.mem_of_getElem? (i := 98) rfl)) rfl
set_option maxRecDepth 100000 in
theorem tw_463 : (.fieldLink R_WM 329 "WaterMen$Pensioner" "pension" "I") ∈ TB := tw_f (tw_t4 (List.mem_of_getElem? (i := 44) rfl)) rfl
set_option maxRecDepth 100000 in
theorem tw_464 : (.fieldLink R_WM 334 "WaterMen$Pensioner" "end" "I") ∈ TB := tw_f (tw_t4 (List.mem_of_getElem? (i := 47) rfl)) rfl
set_option maxRecDepth 100000 in
theorem tw_465 : (.fieldLink R_WM 337 "WaterMen$Pensioner" "got" "I") ∈ TB := tw_f (tw_t4 (List.mem_of_getElem? (i := 49) rfl)) rfl
set_option maxRecDepth 100000 in
theorem tw_466 : (.code y_WM_menThatAre b_WM_menThatAre 5 (some .int)) ∈ TB := tw_f (tw_t4 (List.mem_of_getElem? (i := 106) rfl)) rfl
set_option maxRecDepth 100000 in
theorem tw_467 : (.methodLink R_WM 340 y_WM_menThatAre) ∈ TB := tw_f (tw_t4 (List.mem_of_getElem? (i := 103) rfl)) rfl
set_option maxRecDepth 100000 in
theorem tw_468 : (.instanceMethod y_WM_menThatAre) ∈ TB := tw_f (tw_t4 (List.mem_of_getElem? (i := 105) rfl)) rfl
set_option maxRecDepth 100000 in
theorem tw_469 : (.selects R_WM y_WM_menThatAre y_WM_menThatAre) ∈ TB := tw_f (tw_s2 (List.mem_of_getElem? (i := 2) rfl)) rfl
set_option maxRecDepth 100000 in
theorem tw_470 : (.fieldLink R_WM 343 "WaterMen$Box" "coins" "I") ∈ TB := tw_f (tw_t1 (List.mem_of_getElem? (i := 102) rfl)) rfl
set_option maxRecDepth 100000 in
theorem tw_471 : (.code y_WM_coinsOfMen b_WM_coinsOfMen 4 (some .int)) ∈ TB := tw_f (tw_t4 (List.mem_of_getElem? (i := 114) rfl)) rfl
set_option maxRecDepth 100000 in
theorem tw_472 : (.methodLink R_WM 347 y_WM_coinsOfMen) ∈ TB := tw_f (tw_t4 (List.mem_of_getElem? (i := 111) rfl)) rfl
set_option maxRecDepth 100000 in
theorem tw_473 : (.instanceMethod y_WM_coinsOfMen) ∈ TB := tw_f (tw_t4 (List.mem_of_getElem? (i := 113) rfl)) rfl
set_option maxRecDepth 100000 in
theorem tw_474 : (.selects R_WM y_WM_coinsOfMen y_WM_coinsOfMen) ∈ TB := tw_f (tw_s2 (List.mem_of_getElem? (i := 3) rfl)) rfl
set_option maxRecDepth 100000 in
theorem tw_475 : (.fieldLink R_WM 353 "WaterMen$Box" "allPensions" "I") ∈ TB := tw_f (tw_t1 (List.mem_of_getElem? (i := 106) rfl)) rfl
