set_option maxRecDepth 100000 in
theorem tw_0 : (.fieldLink R_WM 12 "WaterMen" "river" "LWaterMen$River;") ∈ TB := tw_f (tw_t1 (List.mem_of_getElem? (i := 194) rfl)) rfl
set_option maxRecDepth 100000 in
theorem tw_1 : (.fieldLink R_Rv 35 "WaterMen$River" "stairCount" "I") ∈ TB := tw_f (tw_t1 (List.mem_of_getElem? (i := 40) rfl)) rfl
set_option maxRecDepth 100000 in
theorem tw_2 : (.code y_Rv_highest b_Rv_highest 1 (some .int)) ∈ TB := tw_f (tw_t2 (List.mem_of_getElem? (i := 1) rfl)) rfl
set_option maxRecDepth 100000 in
theorem tw_3 : (.initialized R_Rv) ∈ TB := tw_f (tw_t1 (List.mem_of_getElem? (i := 2) rfl)) rfl
set_option maxRecDepth 100000 in
theorem tw_4 : (.methodLink R_WM 60 y_Rv_highest) ∈ TB := tw_f (tw_t1 (List.mem_of_getElem? (i := 238) rfl)) rfl
set_option maxRecDepth 100000 in
theorem tw_5 : (.instanceMethod y_Rv_highest) ∈ TB := tw_f (tw_t1 (List.mem_of_getElem? (i := 239) rfl)) rfl
set_option maxRecDepth 100000 in
theorem tw_6 : (.selects R_Rv y_Rv_highest y_Rv_highest) ∈ TB := tw_f (tw_t2 (List.mem_of_getElem? (i := 0) rfl)) rfl
set_option maxRecDepth 100000 in
theorem tw_7 : (.fieldLink R_WM 64 "WaterMen$River" "stairCount" "I") ∈ TB := tw_f (tw_t1 (List.mem_of_getElem? (i := 39) rfl)) rfl
set_option maxRecDepth 100000 in
theorem tw_8 : (.fieldLink R_Rv 9 "WaterMen$River" "milesUp" "[I") ∈ TB := tw_f (tw_t1 (List.mem_of_getElem? (i := 33) rfl)) rfl
set_option maxRecDepth 100000 in
theorem tw_9 : (.code y_Rv_addStairs b_Rv_addStairs 2 (some .int)) ∈ TB := tw_f (tw_t2 (List.mem_of_getElem? (i := 5) rfl)) rfl
set_option maxRecDepth 100000 in
theorem tw_10 : (.methodLink R_WM 68 y_Rv_addStairs) ∈ TB := tw_f (tw_t2 (List.mem_of_getElem? (i := 2) rfl)) rfl
set_option maxRecDepth 100000 in
theorem tw_11 : (.instanceMethod y_Rv_addStairs) ∈ TB := tw_f (tw_t2 (List.mem_of_getElem? (i := 3) rfl)) rfl
set_option maxRecDepth 100000 in
theorem tw_12 : (.selects R_Rv y_Rv_addStairs y_Rv_addStairs) ∈ TB := tw_f (tw_t2 (List.mem_of_getElem? (i := 4) rfl)) rfl
set_option maxRecDepth 100000 in
theorem tw_13 : (.code y_WM_isHour b_WM_isHour 1 (some .boolean)) ∈ TB := tw_f (tw_t2 (List.mem_of_getElem? (i := 19) rfl)) rfl
set_option maxRecDepth 100000 in
theorem tw_14 : (.initialized R_WM) ∈ TB := tw_f (tw_t1 (List.mem_of_getElem? (i := 1) rfl)) rfl
set_option maxRecDepth 100000 in
theorem tw_15 : (.methodLink R_WM 79 y_WM_isHour) ∈ TB := tw_f (tw_t2 (List.mem_of_getElem? (i := 17) rfl)) rfl
set_option maxRecDepth 100000 in
theorem tw_16 : (.static y_WM_isHour) ∈ TB := tw_f (tw_t2 (List.mem_of_getElem? (i := 18) rfl)) rfl
set_option maxRecDepth 100000 in
theorem tw_17 : (.code y_WM_isLevel b_WM_isLevel 1 (some .boolean)) ∈ TB := tw_f (tw_t2 (List.mem_of_getElem? (i := 22) rfl)) rfl
set_option maxRecDepth 100000 in
theorem tw_18 : (.methodLink R_WM 82 y_WM_isLevel) ∈ TB := tw_f (tw_t2 (List.mem_of_getElem? (i := 20) rfl)) rfl
set_option maxRecDepth 100000 in
theorem tw_19 : (.static y_WM_isLevel) ∈ TB := tw_f (tw_t2 (List.mem_of_getElem? (i := 21) rfl)) rfl
set_option maxRecDepth 100000 in
theorem tw_20 : (.fieldLink R_WM 89 "WaterMen$River" "table" "[I") ∈ TB := tw_f (tw_t1 (List.mem_of_getElem? (i := 35) rfl)) rfl
set_option maxRecDepth 100000 in
theorem tw_21 : (.fieldLink R_WM 18 "WaterMen" "men" "[LWaterMen$Man;") ∈ TB := tw_f (tw_t1 (List.mem_of_getElem? (i := 195) rfl)) rfl
set_option maxRecDepth 100000 in
theorem tw_22 : (.code y_WM_manAt b_WM_manAt 2 (some (.object "WaterMen$Man"))) ∈ TB := tw_f (tw_t2 (List.mem_of_getElem? (i := 63) rfl)) rfl
set_option maxRecDepth 100000 in
theorem tw_23 : (.methodLink R_WM 107 y_WM_manAt) ∈ TB := tw_f (tw_t2 (List.mem_of_getElem? (i := 60) rfl)) rfl
set_option maxRecDepth 100000 in
theorem tw_24 : (.instanceMethod y_WM_manAt) ∈ TB := tw_f (tw_t2 (List.mem_of_getElem? (i := 62) rfl)) rfl
set_option maxRecDepth 100000 in
theorem tw_25 : (.selects R_WM y_WM_manAt y_WM_manAt) ∈ TB := tw_f (tw_s1 (List.mem_of_getElem? (i := 1) rfl)) rfl
set_option maxRecDepth 100000 in
theorem tw_26 : (.fieldLink R_WM 111 "WaterMen$Man" "state" "I") ∈ TB := tw_f (tw_t1 (List.mem_of_getElem? (i := 165) rfl)) rfl
set_option maxRecDepth 100000 in
theorem tw_27 : (.code y_Md_in b_Md_in 3 (some .boolean)) ∈ TB := tw_f (tw_t4 (List.mem_of_getElem? (i := 121) rfl)) rfl
set_option maxRecDepth 100000 in
theorem tw_28 : (.initialized R_Md) ∈ TB := tw_f (tw_t1 (List.mem_of_getElem? (i := 7) rfl)) rfl
set_option maxRecDepth 100000 in
theorem tw_29 : (.methodLink R_Md 10 y_Md_in) ∈ TB := tw_f (tw_t4 (List.mem_of_getElem? (i := 119) rfl)) rfl
set_option maxRecDepth 100000 in
theorem tw_30 : (.static y_Md_in) ∈ TB := tw_f (tw_t4 (List.mem_of_getElem? (i := 120) rfl)) rfl
set_option maxRecDepth 100000 in
theorem tw_31 : (.fieldLink R_Md 14 "WaterMenModel" "stairs" "I") ∈ TB := tw_f (tw_t4 (List.mem_of_getElem? (i := 164) rfl)) rfl
set_option maxRecDepth 100000 in
theorem tw_32 : (.fieldLink R_Md 32 "WaterMenModel" "miles" "[I") ∈ TB := tw_f (tw_t4 (List.mem_of_getElem? (i := 165) rfl)) rfl
set_option maxRecDepth 100000 in
theorem tw_33 : (.fieldLink R_Md 25 "WaterMenModel" "table" "[I") ∈ TB := tw_f (tw_t4 (List.mem_of_getElem? (i := 167) rfl)) rfl
set_option maxRecDepth 100000 in
theorem tw_34 : (.code y_Md_isMan b_Md_isMan 1 (some .boolean)) ∈ TB := tw_f (tw_t5 (List.mem_of_getElem? (i := 122) rfl)) rfl
set_option maxRecDepth 100000 in
theorem tw_35 : (.methodLink R_Md 186 y_Md_isMan) ∈ TB := tw_f (tw_t5 (List.mem_of_getElem? (i := 120) rfl)) rfl
set_option maxRecDepth 100000 in
theorem tw_36 : (.static y_Md_isMan) ∈ TB := tw_f (tw_t5 (List.mem_of_getElem? (i := 121) rfl)) rfl
set_option maxRecDepth 100000 in
theorem tw_37 : (.fieldLink R_Md 58 "WaterMenModel" "state" "[I") ∈ TB := tw_f (tw_t4 (List.mem_of_getElem? (i := 171) rfl)) rfl
