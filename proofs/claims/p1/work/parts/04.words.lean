set_option maxRecDepth 100000 in
theorem tw_0 : (.methodLink R_WM 3 objectInit) ∈ TB := tw_f (tw_t1 (List.mem_of_getElem? (i := 22) rfl)) rfl
set_option maxRecDepth 100000 in
theorem tw_1 : (.instanceMethod objectInit) ∈ TB := tw_f (tw_t1 (List.mem_of_getElem? (i := 23) rfl)) rfl
set_option maxRecDepth 100000 in
theorem tw_2 : (.code objectInit ⟨#[0xb1]⟩ 1 none) ∈ TB := tw_f (tw_t1 (List.mem_of_getElem? (i := 24) rfl)) rfl
set_option maxRecDepth 100000 in
theorem tw_3 : (.classLink R_WM 9 R_Rv) ∈ TB := tw_f (tw_t1 (List.mem_of_getElem? (i := 25) rfl)) rfl
set_option maxRecDepth 100000 in
theorem tw_4 : (.instantiable R_Rv 6) ∈ TB := tw_f (tw_t1 (List.mem_of_getElem? (i := 26) rfl)) rfl
set_option maxRecDepth 100000 in
theorem tw_5 : (.initialized R_Rv) ∈ TB := tw_f (tw_t1 (List.mem_of_getElem? (i := 2) rfl)) rfl
set_option maxRecDepth 100000 in
theorem tw_6 : (.methodLink R_Rv 3 objectInit) ∈ TB := tw_f (tw_t1 (List.mem_of_getElem? (i := 30) rfl)) rfl
set_option maxRecDepth 100000 in
theorem tw_7 : (.arrayClass .int) ∈ TB := tw_f (tw_t1 (List.mem_of_getElem? (i := 56) rfl)) rfl
set_option maxRecDepth 100000 in
theorem tw_8 : (.fieldLink R_Rv 9 "WaterMen$River" "milesUp" "[I") ∈ TB := tw_f (tw_t1 (List.mem_of_getElem? (i := 33) rfl)) rfl
set_option maxRecDepth 100000 in
theorem tw_9 : (.fieldLink R_Rv 15 "WaterMen$River" "table" "[I") ∈ TB := tw_f (tw_t1 (List.mem_of_getElem? (i := 34) rfl)) rfl
set_option maxRecDepth 100000 in
theorem tw_10 : (.classLink R_Rv 18 "[I") ∈ TB := tw_f (tw_t1 (List.mem_of_getElem? (i := 31) rfl)) rfl
set_option maxRecDepth 100000 in
theorem tw_11 : (.fieldLink R_Rv 19 "WaterMen$River" "rows" "[[I") ∈ TB := tw_f (tw_t1 (List.mem_of_getElem? (i := 36) rfl)) rfl
set_option maxRecDepth 100000 in
theorem tw_12 : (.arrayClass .boolean) ∈ TB := tw_f (tw_t1 (List.mem_of_getElem? (i := 57) rfl)) rfl
set_option maxRecDepth 100000 in
theorem tw_13 : (.fieldLink R_Rv 23 "WaterMen$River" "frozen" "[Z") ∈ TB := tw_f (tw_t1 (List.mem_of_getElem? (i := 37) rfl)) rfl
set_option maxRecDepth 100000 in
theorem tw_14 : (.fieldLink R_Rv 27 "WaterMen$River" "bridgeAbove" "I") ∈ TB := tw_f (tw_t1 (List.mem_of_getElem? (i := 41) rfl)) rfl
set_option maxRecDepth 100000 in
theorem tw_15 : (.code y_Rv_init b_Rv_init 1 none) ∈ TB := tw_f (tw_t1 (List.mem_of_getElem? (i := 29) rfl)) rfl
set_option maxRecDepth 100000 in
theorem tw_16 : (.instanceMethod y_Rv_init) ∈ TB := tw_f (tw_t1 (List.mem_of_getElem? (i := 28) rfl)) rfl
set_option maxRecDepth 100000 in
theorem tw_17 : (.fieldLink R_WM 12 "WaterMen" "river" "LWaterMen$River;") ∈ TB := tw_f (tw_t1 (List.mem_of_getElem? (i := 194) rfl)) rfl
set_option maxRecDepth 100000 in
theorem tw_18 : (.classLink R_WM 16 R_Mn) ∈ TB := tw_f (tw_t1 (List.mem_of_getElem? (i := 58) rfl)) rfl
set_option maxRecDepth 100000 in
theorem tw_19 : (.fieldLink R_WM 18 "WaterMen" "men" "[LWaterMen$Man;") ∈ TB := tw_f (tw_t1 (List.mem_of_getElem? (i := 195) rfl)) rfl
set_option maxRecDepth 100000 in
theorem tw_20 : (.classLink R_WM 22 R_Bt) ∈ TB := tw_f (tw_t1 (List.mem_of_getElem? (i := 60) rfl)) rfl
set_option maxRecDepth 100000 in
theorem tw_21 : (.fieldLink R_WM 24 "WaterMen" "boats" "[LWaterMen$Boat;") ∈ TB := tw_f (tw_t1 (List.mem_of_getElem? (i := 196) rfl)) rfl
set_option maxRecDepth 100000 in
theorem tw_22 : (.classLink R_WM 28 R_Or) ∈ TB := tw_f (tw_t1 (List.mem_of_getElem? (i := 62) rfl)) rfl
set_option maxRecDepth 100000 in
theorem tw_23 : (.fieldLink R_WM 30 "WaterMen" "orders" "[LWaterMen$Order;") ∈ TB := tw_f (tw_t1 (List.mem_of_getElem? (i := 197) rfl)) rfl
set_option maxRecDepth 100000 in
theorem tw_24 : (.classLink R_WM 34 R_Tr) ∈ TB := tw_f (tw_t1 (List.mem_of_getElem? (i := 64) rfl)) rfl
set_option maxRecDepth 100000 in
theorem tw_25 : (.fieldLink R_WM 36 "WaterMen" "trips" "[LWaterMen$Trip;") ∈ TB := tw_f (tw_t1 (List.mem_of_getElem? (i := 198) rfl)) rfl
set_option maxRecDepth 100000 in
theorem tw_26 : (.classLink R_WM 40 R_Tp) ∈ TB := tw_f (tw_t1 (List.mem_of_getElem? (i := 66) rfl)) rfl
set_option maxRecDepth 100000 in
theorem tw_27 : (.instantiable R_Tp 6) ∈ TB := tw_f (tw_t1 (List.mem_of_getElem? (i := 67) rfl)) rfl
set_option maxRecDepth 100000 in
theorem tw_28 : (.initialized R_Tp) ∈ TB := tw_f (tw_t1 (List.mem_of_getElem? (i := 3) rfl)) rfl
set_option maxRecDepth 100000 in
theorem tw_29 : (.methodLink R_Tp 3 objectInit) ∈ TB := tw_f (tw_t1 (List.mem_of_getElem? (i := 71) rfl)) rfl
set_option maxRecDepth 100000 in
theorem tw_30 : (.arrayClass .byte) ∈ TB := tw_f (tw_t1 (List.mem_of_getElem? (i := 92) rfl)) rfl
set_option maxRecDepth 100000 in
theorem tw_31 : (.fieldLink R_Tp 9 "WaterMen$Tape" "bytes" "[B") ∈ TB := tw_f (tw_t1 (List.mem_of_getElem? (i := 72) rfl)) rfl
set_option maxRecDepth 100000 in
theorem tw_32 : (.code y_Tp_init b_Tp_init 1 none) ∈ TB := tw_f (tw_t1 (List.mem_of_getElem? (i := 70) rfl)) rfl
set_option maxRecDepth 100000 in
theorem tw_33 : (.instanceMethod y_Tp_init) ∈ TB := tw_f (tw_t1 (List.mem_of_getElem? (i := 69) rfl)) rfl
set_option maxRecDepth 100000 in
theorem tw_34 : (.fieldLink R_WM 43 "WaterMen" "tape" "LWaterMen$Tape;") ∈ TB := tw_f (tw_t1 (List.mem_of_getElem? (i := 199) rfl)) rfl
set_option maxRecDepth 100000 in
theorem tw_35 : (.classLink R_WM 47 R_Bx) ∈ TB := tw_f (tw_t1 (List.mem_of_getElem? (i := 93) rfl)) rfl
set_option maxRecDepth 100000 in
theorem tw_36 : (.instantiable R_Bx 7) ∈ TB := tw_f (tw_t1 (List.mem_of_getElem? (i := 94) rfl)) rfl
set_option maxRecDepth 100000 in
theorem tw_37 : (.initialized R_Bx) ∈ TB := tw_f (tw_t1 (List.mem_of_getElem? (i := 4) rfl)) rfl
set_option maxRecDepth 100000 in
theorem tw_38 : (.methodLink R_Bx 3 objectInit) ∈ TB := tw_f (tw_t1 (List.mem_of_getElem? (i := 98) rfl)) rfl
set_option maxRecDepth 100000 in
theorem tw_39 : (.fieldLink R_Bx 9 "WaterMen$Box" "income" "[I") ∈ TB := tw_f (tw_t1 (List.mem_of_getElem? (i := 107) rfl)) rfl
set_option maxRecDepth 100000 in
theorem tw_40 : (.classLink R_Bx 15 R_Pn) ∈ TB := tw_f (tw_t1 (List.mem_of_getElem? (i := 99) rfl)) rfl
set_option maxRecDepth 100000 in
theorem tw_41 : (.fieldLink R_Bx 17 "WaterMen$Box" "pensioners" "[LWaterMen$Pensioner;") ∈ TB := tw_f (tw_t1 (List.mem_of_getElem? (i := 108) rfl)) rfl
set_option maxRecDepth 100000 in
theorem tw_42 : (.code y_Bx_init b_Bx_init 1 none) ∈ TB := tw_f (tw_t1 (List.mem_of_getElem? (i := 97) rfl)) rfl
set_option maxRecDepth 100000 in
theorem tw_43 : (.instanceMethod y_Bx_init) ∈ TB := tw_f (tw_t1 (List.mem_of_getElem? (i := 96) rfl)) rfl
set_option maxRecDepth 100000 in
theorem tw_44 : (.fieldLink R_WM 50 "WaterMen" "box" "LWaterMen$Box;") ∈ TB := tw_f (tw_t1 (List.mem_of_getElem? (i := 200) rfl)) rfl
set_option maxRecDepth 100000 in
theorem tw_45 : (.instantiable R_Or 9) ∈ TB := tw_f (tw_t1 (List.mem_of_getElem? (i := 126) rfl)) rfl
set_option maxRecDepth 100000 in
theorem tw_46 : (.initialized R_Or) ∈ TB := tw_f (tw_t1 (List.mem_of_getElem? (i := 5) rfl)) rfl
set_option maxRecDepth 100000 in
theorem tw_47 : (.methodLink R_Or 3 objectInit) ∈ TB := tw_f (tw_t1 (List.mem_of_getElem? (i := 130) rfl)) rfl
set_option maxRecDepth 100000 in
theorem tw_48 : (.fieldLink R_Or 9 "WaterMen$Order" "fares" "[I") ∈ TB := tw_f (tw_t1 (List.mem_of_getElem? (i := 133) rfl)) rfl
set_option maxRecDepth 100000 in
theorem tw_49 : (.fieldLink R_Or 15 "WaterMen$Order" "hours" "[I") ∈ TB := tw_f (tw_t1 (List.mem_of_getElem? (i := 134) rfl)) rfl
set_option maxRecDepth 100000 in
theorem tw_50 : (.fieldLink R_Or 20 "WaterMen$Order" "single" "[I") ∈ TB := tw_f (tw_t1 (List.mem_of_getElem? (i := 135) rfl)) rfl
set_option maxRecDepth 100000 in
theorem tw_51 : (.code y_Or_init b_Or_init 1 none) ∈ TB := tw_f (tw_t1 (List.mem_of_getElem? (i := 129) rfl)) rfl
set_option maxRecDepth 100000 in
theorem tw_52 : (.instanceMethod y_Or_init) ∈ TB := tw_f (tw_t1 (List.mem_of_getElem? (i := 128) rfl)) rfl
set_option maxRecDepth 100000 in
theorem tw_53 : (.fieldLink R_WM 55 "WaterMen" "draft" "LWaterMen$Order;") ∈ TB := tw_f (tw_t1 (List.mem_of_getElem? (i := 206) rfl)) rfl
set_option maxRecDepth 100000 in
theorem tw_54 : (.instantiable R_Mn 8) ∈ TB := tw_f (tw_t1 (List.mem_of_getElem? (i := 159) rfl)) rfl
set_option maxRecDepth 100000 in
theorem tw_55 : (.initialized R_Mn) ∈ TB := tw_f (tw_t1 (List.mem_of_getElem? (i := 6) rfl)) rfl
set_option maxRecDepth 100000 in
theorem tw_56 : (.methodLink R_Mn 3 objectInit) ∈ TB := tw_f (tw_t1 (List.mem_of_getElem? (i := 163) rfl)) rfl
set_option maxRecDepth 100000 in
theorem tw_57 : (.fieldLink R_Mn 9 "WaterMen$Man" "state" "I") ∈ TB := tw_f (tw_t1 (List.mem_of_getElem? (i := 164) rfl)) rfl
set_option maxRecDepth 100000 in
theorem tw_58 : (.fieldLink R_Mn 15 "WaterMen$Man" "turnStairs" "I") ∈ TB := tw_f (tw_t1 (List.mem_of_getElem? (i := 167) rfl)) rfl
set_option maxRecDepth 100000 in
theorem tw_59 : (.fieldLink R_Mn 18 "WaterMen$Man" "lastSunday" "I") ∈ TB := tw_f (tw_t1 (List.mem_of_getElem? (i := 175) rfl)) rfl
set_option maxRecDepth 100000 in
theorem tw_60 : (.code y_Mn_init b_Mn_init 1 none) ∈ TB := tw_f (tw_t1 (List.mem_of_getElem? (i := 162) rfl)) rfl
set_option maxRecDepth 100000 in
theorem tw_61 : (.instanceMethod y_Mn_init) ∈ TB := tw_f (tw_t1 (List.mem_of_getElem? (i := 161) rfl)) rfl
