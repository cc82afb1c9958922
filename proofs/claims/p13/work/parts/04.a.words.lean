set_option maxRecDepth 100000 in
theorem tw_0 : (.fieldLink "java/lang/String" 38 "java/lang/String" "COMPACT_STRINGS" "Z") ∈ TB := tw_f (tw_t3 (List.mem_of_getElem? (i := 21) rfl)) rfl
set_option maxRecDepth 100000 in
theorem tw_1 : (.fieldLink "java/lang/String" 15 "java/lang/String" "coder" "B") ∈ TB := tw_f (tw_t6 (List.mem_of_getElem? (i := 112) rfl)) rfl
set_option maxRecDepth 100000 in
theorem tw_2 : (.fieldLink "java/lang/String" 9 "java/lang/String" "value" "[B") ∈ TB := tw_f (tw_t6 (List.mem_of_getElem? (i := 111) rfl)) rfl
set_option maxRecDepth 100000 in
theorem tw_3 : (.methodLink "java/lang/String" 335 y_St_coder) ∈ TB := tw_f (tw_t3 (List.mem_of_getElem? (i := 17) rfl)) rfl
set_option maxRecDepth 100000 in
theorem tw_4 : (.instanceMethod y_St_coder) ∈ TB := tw_f (tw_t3 (List.mem_of_getElem? (i := 18) rfl)) rfl
set_option maxRecDepth 100000 in
theorem tw_5 : (.selects "java/lang/String" y_St_coder y_St_coder) ∈ TB := tw_f (tw_t3 (List.mem_of_getElem? (i := 19) rfl)) rfl
set_option maxRecDepth 100000 in
theorem tw_6 : (.initialized "java/lang/String") ∈ TB := tw_f (tw_t1 (List.mem_of_getElem? (i := 11) rfl)) rfl
set_option maxRecDepth 100000 in
theorem tw_7 : (.code y_St_coder b_St_coder 1 (some .byte)) ∈ TB := tw_f (tw_t3 (List.mem_of_getElem? (i := 20) rfl)) rfl
set_option maxRecDepth 100000 in
theorem tw_8 : (.fieldLink "java/lang/String" 1053 "jdk/internal/util/Preconditions" "SIOOBE_FORMATTER" "Ljava/util/function/BiFunction;") ∈ TB := tw_f (tw_t3 (List.mem_of_getElem? (i := 37) rfl)) rfl
set_option maxRecDepth 100000 in
theorem tw_9 : (.methodLink "java/lang/String" 1059 y_Pr_check) ∈ TB := tw_f (tw_t3 (List.mem_of_getElem? (i := 39) rfl)) rfl
set_option maxRecDepth 100000 in
theorem tw_10 : (.static y_Pr_check) ∈ TB := tw_f (tw_t3 (List.mem_of_getElem? (i := 40) rfl)) rfl
set_option maxRecDepth 100000 in
theorem tw_11 : (.initialized "jdk/internal/util/Preconditions") ∈ TB := tw_f (tw_t1 (List.mem_of_getElem? (i := 13) rfl)) rfl
set_option maxRecDepth 100000 in
theorem tw_12 : (.code y_Pr_check b_Pr_check 3 (some .int)) ∈ TB := tw_f (tw_t3 (List.mem_of_getElem? (i := 41) rfl)) rfl
set_option maxRecDepth 100000 in
theorem tw_13 : (.methodLink "java/lang/StringLatin1" 9 y_St_check) ∈ TB := tw_f (tw_t3 (List.mem_of_getElem? (i := 34) rfl)) rfl
set_option maxRecDepth 100000 in
theorem tw_14 : (.static y_St_check) ∈ TB := tw_f (tw_t3 (List.mem_of_getElem? (i := 35) rfl)) rfl
set_option maxRecDepth 100000 in
theorem tw_15 : (.code y_St_check b_St_check 2 none) ∈ TB := tw_f (tw_t3 (List.mem_of_getElem? (i := 36) rfl)) rfl
set_option maxRecDepth 100000 in
theorem tw_16 : (.methodLink "java/lang/String" 492 y_St_isLatin1) ∈ TB := tw_f (tw_t3 (List.mem_of_getElem? (i := 27) rfl)) rfl
set_option maxRecDepth 100000 in
theorem tw_17 : (.instanceMethod y_St_isLatin1) ∈ TB := tw_f (tw_t3 (List.mem_of_getElem? (i := 28) rfl)) rfl
set_option maxRecDepth 100000 in
theorem tw_18 : (.selects "java/lang/String" y_St_isLatin1 y_St_isLatin1) ∈ TB := tw_f (tw_t3 (List.mem_of_getElem? (i := 29) rfl)) rfl
set_option maxRecDepth 100000 in
theorem tw_19 : (.code y_St_isLatin1 b_St_isLatin1 1 (some .boolean)) ∈ TB := tw_f (tw_t3 (List.mem_of_getElem? (i := 30) rfl)) rfl
set_option maxRecDepth 100000 in
theorem tw_20 : (.methodLink "java/lang/String" 495 y_SL_charAt) ∈ TB := tw_f (tw_t3 (List.mem_of_getElem? (i := 31) rfl)) rfl
set_option maxRecDepth 100000 in
theorem tw_21 : (.static y_SL_charAt) ∈ TB := tw_f (tw_t3 (List.mem_of_getElem? (i := 32) rfl)) rfl
set_option maxRecDepth 100000 in
theorem tw_22 : (.initialized "java/lang/StringLatin1") ∈ TB := tw_f (tw_t1 (List.mem_of_getElem? (i := 12) rfl)) rfl
set_option maxRecDepth 100000 in
theorem tw_23 : (.code y_SL_charAt b_SL_charAt 2 (some .char)) ∈ TB := tw_f (tw_t3 (List.mem_of_getElem? (i := 33) rfl)) rfl
