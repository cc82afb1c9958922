set_option maxRecDepth 100000 in
theorem tw_0 : (.fieldLink "java/lang/String" 38 "java/lang/String" "COMPACT_STRINGS" "Z") ∈ TB := tw_f (tw_t3 (List.mem_of_getElem? (i := 21) rfl)) rfl
set_option maxRecDepth 100000 in
theorem tw_1 : (.fieldLink "java/lang/String" 15 "java/lang/String" "coder" "B") ∈ TB := tw_f (tw_t6 (List.mem_of_getElem? (i := 112) rfl)) rfl
set_option maxRecDepth 100000 in
theorem tw_2 : (.fieldLink "java/lang/String" 9 "java/lang/String" "value" "[B") ∈ TB := tw_f (tw_t6 (List.mem_of_getElem? (i := 111) rfl)) rfl
set_option maxRecDepth 100000 in
theorem tw_3 : (.methodLink "java/lang/String" 335 y_St_coder) ∈ TB := tw_f (tw_t3 (List.mem_of_getElem? (i := 17) rfl)) rfl
set_option maxRecDepth 100000 in
theorem tw_4 : (.instanceMethod y_St_coder) ∈ TB := tw_f (tw_t3 (List.mem_of_getElem? (i := 18) rfl)) rfl
set_option maxRecDepth 100000 in
theorem tw_5 : (.selects "java/lang/String" y_St_coder y_St_coder) ∈ TB := tw_f (tw_t3 (List.mem_of_getElem? (i := 19) rfl)) rfl
set_option maxRecDepth 100000 in
theorem tw_6 : (.initialized "java/lang/String") ∈ TB := tw_f (tw_t1 (List.mem_of_getElem? (i := 11) rfl)) rfl
set_option maxRecDepth 100000 in
theorem tw_7 : (.code y_St_coder b_St_coder 1 (some .byte)) ∈ TB := tw_f (tw_t3 (List.mem_of_getElem? (i := 20) rfl)) rfl
set_option maxRecDepth 100000 in
theorem tw_8 : (.fieldLink "java/lang/String" 1053 "jdk/internal/util/Preconditions" "SIOOBE_FORMATTER" "Ljava/util/function/BiFunction;") ∈ TB := tw_f (tw_t3 (List.mem_of_getElem? (i := 37) rfl)) rfl
set_option maxRecDepth 100000 in
theorem tw_9 : (.methodLink "java/lang/String" 1059 y_Pr_check) ∈ TB := tw_f (tw_t3 (List.mem_of_getElem? (i := 39) rfl)) rfl
set_option maxRecDepth 100000 in
theorem tw_10 : (.static y_Pr_check) ∈ TB := tw_f (tw_t3 (List.mem_of_getElem? (i := 40) rfl)) rfl
set_option maxRecDepth 100000 in
theorem tw_11 : (.initialized "jdk/internal/util/Preconditions") ∈ TB := tw_f (tw_t1 (List.mem_of_getElem? (i := 13) rfl)) rfl
set_option maxRecDepth 100000 in
theorem tw_12 : (.code y_Pr_check b_Pr_check 3 (some .int)) ∈ TB := tw_f (tw_t3 (List.mem_of_getElem? (i := 41) rfl)) rfl
set_option maxRecDepth 100000 in
theorem tw_13 : (.methodLink "java/lang/StringLatin1" 9 y_St_check) ∈ TB := tw_f (tw_t3 (List.mem_of_getElem? (i := 34) rfl)) rfl
set_option maxRecDepth 100000 in
theorem tw_14 : (.static y_St_check) ∈ TB := tw_f (tw_t3 (List.mem_of_getElem? (i := 35) rfl)) rfl
set_option maxRecDepth 100000 in
theorem tw_15 : (.code y_St_check b_St_check 2 none) ∈ TB := tw_f (tw_t3 (List.mem_of_getElem? (i := 36) rfl)) rfl
set_option maxRecDepth 100000 in
theorem tw_16 : (.methodLink "java/lang/String" 492 y_St_isLatin1) ∈ TB := tw_f (tw_t3 (List.mem_of_getElem? (i := 27) rfl)) rfl
set_option maxRecDepth 100000 in
theorem tw_17 : (.instanceMethod y_St_isLatin1) ∈ TB := tw_f (tw_t3 (List.mem_of_getElem? (i := 28) rfl)) rfl
set_option maxRecDepth 100000 in
theorem tw_18 : (.selects "java/lang/String" y_St_isLatin1 y_St_isLatin1) ∈ TB := tw_f (tw_t3 (List.mem_of_getElem? (i := 29) rfl)) rfl
set_option maxRecDepth 100000 in
theorem tw_19 : (.code y_St_isLatin1 b_St_isLatin1 1 (some .boolean)) ∈ TB := tw_f (tw_t3 (List.mem_of_getElem? (i := 30) rfl)) rfl
set_option maxRecDepth 100000 in
theorem tw_20 : (.methodLink "java/lang/String" 495 y_SL_charAt) ∈ TB := tw_f (tw_t3 (List.mem_of_getElem? (i := 31) rfl)) rfl
set_option maxRecDepth 100000 in
theorem tw_21 : (.static y_SL_charAt) ∈ TB := tw_f (tw_t3 (List.mem_of_getElem? (i := 32) rfl)) rfl
set_option maxRecDepth 100000 in
theorem tw_22 : (.initialized "java/lang/StringLatin1") ∈ TB := tw_f (tw_t1 (List.mem_of_getElem? (i := 12) rfl)) rfl
set_option maxRecDepth 100000 in
theorem tw_23 : (.code y_SL_charAt b_SL_charAt 2 (some .char)) ∈ TB := tw_f (tw_t3 (List.mem_of_getElem? (i := 33) rfl)) rfl
set_option maxRecDepth 100000 in
theorem tw_24 : (.fieldLink R_WM 18 "WaterMen" "men" "[LWaterMen$Man;") ∈ TB := tw_f (tw_t1 (List.mem_of_getElem? (i := 195) rfl)) rfl
set_option maxRecDepth 100000 in
theorem tw_25 : (.code y_WM_manAt b_WM_manAt 2 (some (.object "WaterMen$Man"))) ∈ TB := tw_f (tw_t2 (List.mem_of_getElem? (i := 63) rfl)) rfl
set_option maxRecDepth 100000 in
theorem tw_26 : (.initialized R_WM) ∈ TB := tw_f (tw_t1 (List.mem_of_getElem? (i := 1) rfl)) rfl
set_option maxRecDepth 100000 in
theorem tw_27 : (.methodLink R_WM 107 y_WM_manAt) ∈ TB := tw_f (tw_t2 (List.mem_of_getElem? (i := 60) rfl)) rfl
set_option maxRecDepth 100000 in
theorem tw_28 : (.instanceMethod y_WM_manAt) ∈ TB := tw_f (tw_t2 (List.mem_of_getElem? (i := 62) rfl)) rfl
set_option maxRecDepth 100000 in
theorem tw_29 : (.selects R_WM y_WM_manAt y_WM_manAt) ∈ TB := tw_f (tw_s1 (List.mem_of_getElem? (i := 1) rfl)) rfl
set_option maxRecDepth 100000 in
theorem tw_30 : (.fieldLink R_WM 111 "WaterMen$Man" "state" "I") ∈ TB := tw_f (tw_t1 (List.mem_of_getElem? (i := 165) rfl)) rfl
set_option maxRecDepth 100000 in
theorem tw_31 : (.fieldLink R_WM 119 "WaterMen$Man" "bond" "LWaterMen$Bond;") ∈ TB := tw_f (tw_t1 (List.mem_of_getElem? (i := 166) rfl)) rfl
set_option maxRecDepth 100000 in
theorem tw_32 : (.fieldLink R_WM 142 "WaterMen$Bond" "master" "I") ∈ TB := tw_f (tw_t2 (List.mem_of_getElem? (i := 75) rfl)) rfl
set_option maxRecDepth 100000 in
theorem tw_33 : (.fieldLink R_WM 145 "WaterMen$Man" "turnStairs" "I") ∈ TB := tw_f (tw_t1 (List.mem_of_getElem? (i := 168) rfl)) rfl
set_option maxRecDepth 100000 in
theorem tw_34 : (.fieldLink R_WM 196 "WaterMen$Man" "turnTicket" "I") ∈ TB := tw_f (tw_t1 (List.mem_of_getElem? (i := 169) rfl)) rfl
set_option maxRecDepth 100000 in
theorem tw_35 : (.code y_WM_placeInTurns b_WM_placeInTurns 5 (some .int)) ∈ TB := tw_f (tw_t2 (List.mem_of_getElem? (i := 128) rfl)) rfl
set_option maxRecDepth 100000 in
theorem tw_36 : (.methodLink R_WM 148 y_WM_placeInTurns) ∈ TB := tw_f (tw_t2 (List.mem_of_getElem? (i := 125) rfl)) rfl
set_option maxRecDepth 100000 in
theorem tw_37 : (.instanceMethod y_WM_placeInTurns) ∈ TB := tw_f (tw_t2 (List.mem_of_getElem? (i := 127) rfl)) rfl
set_option maxRecDepth 100000 in
theorem tw_38 : (.selects R_WM y_WM_placeInTurns y_WM_placeInTurns) ∈ TB := tw_f (tw_s1 (List.mem_of_getElem? (i := 2) rfl)) rfl
set_option maxRecDepth 100000 in
theorem tw_39 : (.fieldLink R_WM 152 "WaterMen$Man" "coins" "I") ∈ TB := tw_f (tw_t1 (List.mem_of_getElem? (i := 170) rfl)) rfl
set_option maxRecDepth 100000 in
theorem tw_40 : (.fieldLink R_WM 155 "WaterMen" "now" "I") ∈ TB := tw_f (tw_t1 (List.mem_of_getElem? (i := 204) rfl)) rfl
set_option maxRecDepth 100000 in
theorem tw_41 : (.fieldLink R_Mn 21 "WaterMen$Man" "busyUntil" "I") ∈ TB := tw_f (tw_t1 (List.mem_of_getElem? (i := 171) rfl)) rfl
set_option maxRecDepth 100000 in
theorem tw_42 : (.code y_Mn_isOnWay b_Mn_isOnWay 2 (some .boolean)) ∈ TB := tw_f (tw_t2 (List.mem_of_getElem? (i := 132) rfl)) rfl
set_option maxRecDepth 100000 in
theorem tw_43 : (.initialized R_Mn) ∈ TB := tw_f (tw_t1 (List.mem_of_getElem? (i := 6) rfl)) rfl
set_option maxRecDepth 100000 in
theorem tw_44 : (.methodLink R_WM 158 y_Mn_isOnWay) ∈ TB := tw_f (tw_t2 (List.mem_of_getElem? (i := 129) rfl)) rfl
set_option maxRecDepth 100000 in
theorem tw_45 : (.instanceMethod y_Mn_isOnWay) ∈ TB := tw_f (tw_t2 (List.mem_of_getElem? (i := 130) rfl)) rfl
set_option maxRecDepth 100000 in
theorem tw_46 : (.selects R_Mn y_Mn_isOnWay y_Mn_isOnWay) ∈ TB := tw_f (tw_t2 (List.mem_of_getElem? (i := 131) rfl)) rfl
set_option maxRecDepth 100000 in
theorem tw_47 : (.fieldLink R_WM 161 "WaterMen$Man" "tripCount" "I") ∈ TB := tw_f (tw_t1 (List.mem_of_getElem? (i := 174) rfl)) rfl
