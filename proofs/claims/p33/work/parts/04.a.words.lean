set_option maxRecDepth 100000 in
theorem tw_0 : (.fieldLink "java/lang/String" 38 "java/lang/String" "COMPACT_STRINGS" "Z") ∈ TB := tw_f (tw_t3 (List.mem_of_getElem? (i := 21) rfl)) rfl
set_option maxRecDepth 100000 in
theorem tw_1 : (.fieldLink "java/lang/String" 15 "java/lang/String" "coder" "B") ∈ TB := tw_f (tw_t6 (List.mem_of_getElem? (i := 112) rfl)) rfl
set_option maxRecDepth 100000 in
theorem tw_2 : (.fieldLink "java/lang/String" 9 "java/lang/String" "value" "[B") ∈ TB := tw_f (tw_t6 (List.mem_of_getElem? (i := 111) rfl)) rfl
set_option maxRecDepth 100000 in
theorem tw_3 : (.methodLink "java/lang/String" 335 y_St_coder) ∈ TB := tw_f (tw_t3 (List.mem_of_getElem? (i := 17) rfl)) rfl
set_option maxRecDepth 100000 in
theorem tw_4 : (.instanceMethod y_St_coder) ∈ TB := tw_f (tw_t3 (List.mem_of_getElem? (i := 18) rfl)) rfl
set_option maxRecDepth 100000 in
theorem tw_5 : (.selects "java/lang/String" y_St_coder y_St_coder) ∈ TB := tw_f (tw_t3 (List.mem_of_getElem? (i := 19) rfl)) rfl
set_option maxRecDepth 100000 in
theorem tw_6 : (.initialized "java/lang/String") ∈ TB := tw_f (tw_t1 (List.mem_of_getElem? (i := 11) rfl)) rfl
set_option maxRecDepth 100000 in
theorem tw_7 : (.code y_St_coder b_St_coder 1 (some .byte)) ∈ TB := tw_f (tw_t3 (List.mem_of_getElem? (i := 20) rfl)) rfl
set_option maxRecDepth 100000 in
theorem tw_8 : (.fieldLink "java/lang/String" 1053 "jdk/internal/util/Preconditions" "SIOOBE_FORMATTER" "Ljava/util/function/BiFunction;") ∈ TB := tw_f (tw_t3 (List.mem_of_getElem? (i := 37) rfl)) rfl
set_option maxRecDepth 100000 in
theorem tw_9 : (.methodLink "java/lang/String" 1059 y_Pr_check) ∈ TB := tw_f (tw_t3 (List.mem_of_getElem? (i := 39) rfl)) rfl
set_option maxRecDepth 100000 in
theorem tw_10 : (.static y_Pr_check) ∈ TB := tw_f (tw_t3 (List.mem_of_getElem? (i := 40) rfl)) rfl
set_option maxRecDepth 100000 in
theorem tw_11 : (.initialized "jdk/internal/util/Preconditions") ∈ TB := tw_f (tw_t1 (List.mem_of_getElem? (i := 13) rfl)) rfl
set_option maxRecDepth 100000 in
theorem tw_12 : (.code y_Pr_check b_Pr_check 3 (some .int)) ∈ TB := tw_f (tw_t3 (List.mem_of_getElem? (i := 41) rfl)) rfl
set_option maxRecDepth 100000 in
theorem tw_13 : (.methodLink "java/lang/StringLatin1" 9 y_St_check) ∈ TB := tw_f (tw_t3 (List.mem_of_getElem? (i := 34) rfl)) rfl
set_option maxRecDepth 100000 in
theorem tw_14 : (.static y_St_check) ∈ TB := tw_f (tw_t3 (List.mem_of_getElem? (i := 35) rfl)) rfl
set_option maxRecDepth 100000 in
theorem tw_15 : (.code y_St_check b_St_check 2 none) ∈ TB := tw_f (tw_t3 (List.mem_of_getElem? (i := 36) rfl)) rfl
set_option maxRecDepth 100000 in
theorem tw_16 : (.methodLink "java/lang/String" 492 y_St_isLatin1) ∈ TB := tw_f (tw_t3 (List.mem_of_getElem? (i := 27) rfl)) rfl
set_option maxRecDepth 100000 in
theorem tw_17 : (.instanceMethod y_St_isLatin1) ∈ TB := tw_f (tw_t3 (List.mem_of_getElem? (i := 28) rfl)) rfl
set_option maxRecDepth 100000 in
theorem tw_18 : (.selects "java/lang/String" y_St_isLatin1 y_St_isLatin1) ∈ TB := tw_f (tw_t3 (List.mem_of_getElem? (i := 29) rfl)) rfl
set_option maxRecDepth 100000 in
theorem tw_19 : (.code y_St_isLatin1 b_St_isLatin1 1 (some .boolean)) ∈ TB := tw_f (tw_t3 (List.mem_of_getElem? (i := 30) rfl)) rfl
set_option maxRecDepth 100000 in
theorem tw_20 : (.methodLink "java/lang/String" 495 y_SL_charAt) ∈ TB := tw_f (tw_t3 (List.mem_of_getElem? (i := 31) rfl)) rfl
set_option maxRecDepth 100000 in
theorem tw_21 : (.static y_SL_charAt) ∈ TB := tw_f (tw_t3 (List.mem_of_getElem? (i := 32) rfl)) rfl
set_option maxRecDepth 100000 in
theorem tw_22 : (.initialized "java/lang/StringLatin1") ∈ TB := tw_f (tw_t1 (List.mem_of_getElem? (i := 12) rfl)) rfl
set_option maxRecDepth 100000 in
theorem tw_23 : (.code y_SL_charAt b_SL_charAt 2 (some .char)) ∈ TB := tw_f (tw_t3 (List.mem_of_getElem? (i := 33) rfl)) rfl
set_option maxRecDepth 100000 in
theorem tw_24 : (.fieldLink R_WM 18 "WaterMen" "men" "[LWaterMen$Man;") ∈ TB := tw_f (tw_t1 (List.mem_of_getElem? (i := 195) rfl)) rfl
set_option maxRecDepth 100000 in
theorem tw_25 : (.code y_WM_manAt b_WM_manAt 2 (some (.object "WaterMen$Man"))) ∈ TB := tw_f (tw_t2 (List.mem_of_getElem? (i := 63) rfl)) rfl
set_option maxRecDepth 100000 in
theorem tw_26 : (.initialized R_WM) ∈ TB := tw_f (tw_t1 (List.mem_of_getElem? (i := 1) rfl)) rfl
set_option maxRecDepth 100000 in
theorem tw_27 : (.methodLink R_WM 107 y_WM_manAt) ∈ TB := tw_f (tw_t2 (List.mem_of_getElem? (i := 60) rfl)) rfl
set_option maxRecDepth 100000 in
theorem tw_28 : (.instanceMethod y_WM_manAt) ∈ TB := tw_f (tw_t2 (List.mem_of_getElem? (i := 62) rfl)) rfl
set_option maxRecDepth 100000 in
theorem tw_29 : (.selects R_WM y_WM_manAt y_WM_manAt) ∈ TB := tw_f (tw_s1 (List.mem_of_getElem? (i := 1) rfl)) rfl
set_option maxRecDepth 100000 in
theorem tw_30 : (.fieldLink R_WM 111 "WaterMen$Man" "state" "I") ∈ TB := tw_f (tw_t1 (List.mem_of_getElem? (i := 165) rfl)) rfl
set_option maxRecDepth 100000 in
theorem tw_31 : (.fieldLink R_WM 119 "WaterMen$Man" "bond" "LWaterMen$Bond;") ∈ TB := tw_f (tw_t1 (List.mem_of_getElem? (i := 166) rfl)) rfl
set_option maxRecDepth 100000 in
theorem tw_32 : (.fieldLink R_WM 142 "WaterMen$Bond" "master" "I") ∈ TB := tw_f (tw_t2 (List.mem_of_getElem? (i := 75) rfl)) rfl
set_option maxRecDepth 100000 in
theorem tw_33 : (.fieldLink R_WM 145 "WaterMen$Man" "turnStairs" "I") ∈ TB := tw_f (tw_t1 (List.mem_of_getElem? (i := 168) rfl)) rfl
set_option maxRecDepth 100000 in
theorem tw_34 : (.fieldLink R_WM 196 "WaterMen$Man" "turnTicket" "I") ∈ TB := tw_f (tw_t1 (List.mem_of_getElem? (i := 169) rfl)) rfl
set_option maxRecDepth 100000 in
theorem tw_35 : (.code y_WM_placeInTurns b_WM_placeInTurns 5 (some .int)) ∈ TB := tw_f (tw_t2 (List.mem_of_getElem? (i := 128) rfl)) rfl
set_option maxRecDepth 100000 in
theorem tw_36 : (.methodLink R_WM 148 y_WM_placeInTurns) ∈ TB := tw_f (tw_t2 (List.mem_of_getElem? (i := 125) rfl)) rfl
set_option maxRecDepth 100000 in
theorem tw_37 : (.instanceMethod y_WM_placeInTurns) ∈ TB := tw_f (tw_t2 (List.mem_of_getElem? (i := 127) rfl)) rfl
set_option maxRecDepth 100000 in
theorem tw_38 : (.selects R_WM y_WM_placeInTurns y_WM_placeInTurns) ∈ TB := tw_f (tw_s1 (List.mem_of_getElem? (i := 2) rfl)) rfl
set_option maxRecDepth 100000 in
theorem tw_39 : (.fieldLink R_WM 152 "WaterMen$Man" "coins" "I") ∈ TB := tw_f (tw_t1 (List.mem_of_getElem? (i := 170) rfl)) rfl
set_option maxRecDepth 100000 in
theorem tw_40 : (.fieldLink R_WM 155 "WaterMen" "now" "I") ∈ TB := tw_f (tw_t1 (List.mem_of_getElem? (i := 204) rfl)) rfl
set_option maxRecDepth 100000 in
theorem tw_41 : (.fieldLink R_Mn 21 "WaterMen$Man" "busyUntil" "I") ∈ TB := tw_f (tw_t1 (List.mem_of_getElem? (i := 171) rfl)) rfl
set_option maxRecDepth 100000 in
theorem tw_42 : (.code y_Mn_isOnWay b_Mn_isOnWay 2 (some .boolean)) ∈ TB := tw_f (tw_t2 (List.mem_of_getElem? (i := 132) rfl)) rfl
set_option maxRecDepth 100000 in
theorem tw_43 : (.initialized R_Mn) ∈ TB := tw_f (tw_t1 (List.mem_of_getElem? (i := 6) rfl)) rfl
set_option maxRecDepth 100000 in
theorem tw_44 : (.methodLink R_WM 158 y_Mn_isOnWay) ∈ TB := tw_f (tw_t2 (List.mem_of_getElem? (i := 129) rfl)) rfl
set_option maxRecDepth 100000 in
theorem tw_45 : (.instanceMethod y_Mn_isOnWay) ∈ TB := tw_f (tw_t2 (List.mem_of_getElem? (i := 130) rfl)) rfl
set_option maxRecDepth 100000 in
theorem tw_46 : (.selects R_Mn y_Mn_isOnWay y_Mn_isOnWay) ∈ TB := tw_f (tw_t2 (List.mem_of_getElem? (i := 131) rfl)) rfl
set_option maxRecDepth 100000 in
theorem tw_47 : (.fieldLink R_WM 161 "WaterMen$Man" "tripCount" "I") ∈ TB := tw_f (tw_t1 (List.mem_of_getElem? (i := 174) rfl)) rfl
set_option maxRecDepth 100000 in
theorem tw_48 : (.fieldLink R_WM 50 "WaterMen" "box" "LWaterMen$Box;") ∈ TB := tw_f (tw_t1 (List.mem_of_getElem? (i := 200) rfl)) rfl
set_option maxRecDepth 100000 in
theorem tw_49 : (.code y_WM_today b_WM_today 1 (some .int)) ∈ TB := tw_f (tw_t2 (List.mem_of_getElem? (i := 50) rfl)) rfl
set_option maxRecDepth 100000 in
theorem tw_50 : (.methodLink R_WM 97 y_WM_today) ∈ TB := tw_f (tw_t2 (List.mem_of_getElem? (i := 47) rfl)) rfl
set_option maxRecDepth 100000 in
theorem tw_51 : (.instanceMethod y_WM_today) ∈ TB := tw_f (tw_t2 (List.mem_of_getElem? (i := 49) rfl)) rfl
set_option maxRecDepth 100000 in
theorem tw_52 : (.selects R_WM y_WM_today y_WM_today) ∈ TB := tw_f (tw_s1 (List.mem_of_getElem? (i := 0) rfl)) rfl
set_option maxRecDepth 100000 in
theorem tw_53 : (.methodLink R_Bx 51 Lib.Math.max.name) ∈ TB := tw_f (tw_t4 (List.mem_of_getElem? (i := 89) rfl)) rfl
set_option maxRecDepth 100000 in
theorem tw_54 : (.static Lib.Math.max.name) ∈ TB := tw_f (tw_t3 (List.mem_of_getElem? (i := 143) rfl)) rfl
set_option maxRecDepth 100000 in
theorem tw_55 : (.initialized "java/lang/Math") ∈ TB := tw_f (tw_t1 (List.mem_of_getElem? (i := 9) rfl)) rfl
set_option maxRecDepth 100000 in
theorem tw_56 : (.code Lib.Math.max.name Lib.Math.max.code 2 (some .int)) ∈ TB := tw_f (tw_t3 (List.mem_of_getElem? (i := 144) rfl)) rfl
set_option maxRecDepth 100000 in
theorem tw_57 : (.fieldLink R_Bx 21 "WaterMen$Box" "coins" "I") ∈ TB := tw_f (tw_t1 (List.mem_of_getElem? (i := 101) rfl)) rfl
set_option maxRecDepth 100000 in
theorem tw_58 : (.fieldLink R_Bx 29 "WaterMen$Box" "pensionerCount" "I") ∈ TB := tw_f (tw_t1 (List.mem_of_getElem? (i := 109) rfl)) rfl
set_option maxRecDepth 100000 in
theorem tw_59 : (.fieldLink R_Bx 17 "WaterMen$Box" "pensioners" "[LWaterMen$Pensioner;") ∈ TB := tw_f (tw_t1 (List.mem_of_getElem? (i := 108) rfl)) rfl
set_option maxRecDepth 100000 in
theorem tw_60 : (.code y_Bx_pensionerAt b_Bx_pensionerAt 2 (some (.object "WaterMen$Pensioner"))) ∈ TB := tw_f (tw_t4 (List.mem_of_getElem? (i := 21) rfl)) rfl
set_option maxRecDepth 100000 in
theorem tw_61 : (.initialized R_Bx) ∈ TB := tw_f (tw_t1 (List.mem_of_getElem? (i := 4) rfl)) rfl
set_option maxRecDepth 100000 in
theorem tw_62 : (.methodLink R_Bx 35 y_Bx_pensionerAt) ∈ TB := tw_f (tw_t4 (List.mem_of_getElem? (i := 18) rfl)) rfl
set_option maxRecDepth 100000 in
theorem tw_63 : (.instanceMethod y_Bx_pensionerAt) ∈ TB := tw_f (tw_t4 (List.mem_of_getElem? (i := 19) rfl)) rfl
set_option maxRecDepth 100000 in
theorem tw_64 : (.selects R_Bx y_Bx_pensionerAt y_Bx_pensionerAt) ∈ TB := tw_f (tw_t4 (List.mem_of_getElem? (i := 20) rfl)) rfl
set_option maxRecDepth 100000 in
theorem tw_65 : (.fieldLink R_Bx 39 "WaterMen$Pensioner" "end" "I") ∈ TB := tw_f (tw_t4 (List.mem_of_getElem? (i := 46) rfl)) rfl
set_option maxRecDepth 100000 in
theorem tw_66 : (.fieldLink R_Bx 42 "WaterMen$Pensioner" "pension" "I") ∈ TB := tw_f (tw_t4 (List.mem_of_getElem? (i := 43) rfl)) rfl
set_option maxRecDepth 100000 in
theorem tw_67 : (.code y_Bx_owedOn b_Bx_owedOn 5 (some .int)) ∈ TB := tw_f (tw_t4 (List.mem_of_getElem? (i := 93) rfl)) rfl
set_option maxRecDepth 100000 in
theorem tw_68 : (.methodLink R_Bx 57 y_Bx_owedOn) ∈ TB := tw_f (tw_t4 (List.mem_of_getElem? (i := 90) rfl)) rfl
set_option maxRecDepth 100000 in
theorem tw_69 : (.instanceMethod y_Bx_owedOn) ∈ TB := tw_f (tw_t4 (List.mem_of_getElem? (i := 91) rfl)) rfl
set_option maxRecDepth 100000 in
theorem tw_70 : (.selects R_Bx y_Bx_owedOn y_Bx_owedOn) ∈ TB := tw_f (tw_t4 (List.mem_of_getElem? (i := 92) rfl)) rfl
set_option maxRecDepth 100000 in
theorem tw_71 : (.fieldLink R_Bx 9 "WaterMen$Box" "income" "[I") ∈ TB := tw_f (tw_t1 (List.mem_of_getElem? (i := 107) rfl)) rfl
set_option maxRecDepth 100000 in
theorem tw_72 : (.code y_Bx_firstShortDay b_Bx_firstShortDay 8 (some .int)) ∈ TB := tw_f (tw_t4 (List.mem_of_getElem? (i := 88) rfl)) rfl
set_option maxRecDepth 100000 in
theorem tw_73 : (.methodLink R_WM 322 y_Bx_firstShortDay) ∈ TB := tw_f (tw_t4 (List.mem_of_getElem? (i := 85) rfl)) rfl
set_option maxRecDepth 100000 in
theorem tw_74 : (.instanceMethod y_Bx_firstShortDay) ∈ TB := tw_f (tw_t4 (List.mem_of_getElem? (i := 86) rfl)) rfl
set_option maxRecDepth 100000 in
theorem tw_75 : (.selects R_Bx y_Bx_firstShortDay y_Bx_firstShortDay) ∈ TB := tw_f (tw_t4 (List.mem_of_getElem? (i := 87) rfl)) rfl
set_option maxRecDepth 100000 in
theorem tw_76 : (.methodLink R_WM 325 y_Bx_pensionerAt) ∈ TB := tw_f (tw_t4 (List.mem_of_getElem? (i := 98) rfl)) rfl
set_option maxRecDepth 100000 in
theorem tw_77 : (.fieldLink R_WM 329 "WaterMen$Pensioner" "pension" "I") ∈ TB := tw_f (tw_t4 (List.mem_of_getElem? (i := 44) rfl)) rfl
set_option maxRecDepth 100000 in
theorem tw_78 : (.fieldLink R_WM 334 "WaterMen$Pensioner" "end" "I") ∈ TB := tw_f (tw_t4 (List.mem_of_getElem? (i := 47) rfl)) rfl
set_option maxRecDepth 100000 in
theorem tw_79 : (.fieldLink R_WM 337 "WaterMen$Pensioner" "got" "I") ∈ TB := tw_f (tw_t4 (List.mem_of_getElem? (i := 49) rfl)) rfl
set_option maxRecDepth 100000 in
theorem tw_80 : (.fieldLink R_WM 343 "WaterMen$Box" "coins" "I") ∈ TB := tw_f (tw_t1 (List.mem_of_getElem? (i := 102) rfl)) rfl
set_option maxRecDepth 100000 in
theorem tw_81 : (.fieldLink R_WM 344 "WaterMen$Box" "pot" "I") ∈ TB := tw_f (tw_t1 (List.mem_of_getElem? (i := 103) rfl)) rfl
set_option maxRecDepth 100000 in
theorem tw_82 : (.code y_WM_coinsOfMen b_WM_coinsOfMen 4 (some .int)) ∈ TB := tw_f (tw_t4 (List.mem_of_getElem? (i := 114) rfl)) rfl
set_option maxRecDepth 100000 in
theorem tw_83 : (.methodLink R_WM 347 y_WM_coinsOfMen) ∈ TB := tw_f (tw_t4 (List.mem_of_getElem? (i := 111) rfl)) rfl
set_option maxRecDepth 100000 in
theorem tw_84 : (.instanceMethod y_WM_coinsOfMen) ∈ TB := tw_f (tw_t4 (List.mem_of_getElem? (i := 113) rfl)) rfl
set_option maxRecDepth 100000 in
theorem tw_85 : (.selects R_WM y_WM_coinsOfMen y_WM_coinsOfMen) ∈ TB := tw_f (tw_s2 (List.mem_of_getElem? (i := 3) rfl)) rfl
set_option maxRecDepth 100000 in
theorem tw_86 : (.fieldLink R_WM 350 "WaterMen$Box" "allPaid" "I") ∈ TB := tw_f (tw_t1 (List.mem_of_getElem? (i := 104) rfl)) rfl
set_option maxRecDepth 100000 in
theorem tw_87 : (.fieldLink R_WM 353 "WaterMen$Box" "allPensions" "I") ∈ TB := tw_f (tw_t1 (List.mem_of_getElem? (i := 106) rfl)) rfl
