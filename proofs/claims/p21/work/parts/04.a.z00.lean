set_option maxRecDepth 100000 in
theorem d_Bd_addGap_0 : decode b_Bd_addGap 0 = .ok (.aload_n 0, 1) := by decide +kernel
set_option maxRecDepth 100000 in
theorem d_Bd_addGap_1 : decode b_Bd_addGap 1 = .ok (.getfield 9, 3) := by decide +kernel
set_option maxRecDepth 100000 in
theorem d_Bd_addGap_4 : decode b_Bd_addGap 4 = .ok (.aload_n 0, 1) := by decide +kernel
set_option maxRecDepth 100000 in
theorem d_Bd_addGap_5 : decode b_Bd_addGap 5 = .ok (.getfield 25, 3) := by decide +kernel
set_option maxRecDepth 100000 in
theorem d_Bd_addGap_8 : decode b_Bd_addGap 8 = .ok (.iload_n 1, 1) := by decide +kernel
set_option maxRecDepth 100000 in
theorem d_Bd_addGap_9 : decode b_Bd_addGap 9 = .ok (.iastore, 1) := by decide +kernel
set_option maxRecDepth 100000 in
theorem d_Bd_addGap_10 : decode b_Bd_addGap 10 = .ok (.aload_n 0, 1) := by decide +kernel
set_option maxRecDepth 100000 in
theorem d_Bd_addGap_11 : decode b_Bd_addGap 11 = .ok (.getfield 15, 3) := by decide +kernel
set_option maxRecDepth 100000 in
theorem d_Bd_addGap_14 : decode b_Bd_addGap 14 = .ok (.aload_n 0, 1) := by decide +kernel
set_option maxRecDepth 100000 in
theorem d_Bd_addGap_15 : decode b_Bd_addGap 15 = .ok (.getfield 25, 3) := by decide +kernel
set_option maxRecDepth 100000 in
theorem d_Bd_addGap_18 : decode b_Bd_addGap 18 = .ok (.iload_n 2, 1) := by decide +kernel
set_option maxRecDepth 100000 in
theorem d_Bd_addGap_19 : decode b_Bd_addGap 19 = .ok (.iastore, 1) := by decide +kernel
set_option maxRecDepth 100000 in
theorem d_Bd_addGap_20 : decode b_Bd_addGap 20 = .ok (.aload_n 0, 1) := by decide +kernel
set_option maxRecDepth 100000 in
theorem d_Bd_addGap_21 : decode b_Bd_addGap 21 = .ok (.dup, 1) := by decide +kernel
set_option maxRecDepth 100000 in
theorem d_Bd_addGap_22 : decode b_Bd_addGap 22 = .ok (.getfield 25, 3) := by decide +kernel
set_option maxRecDepth 100000 in
theorem d_Bd_addGap_25 : decode b_Bd_addGap 25 = .ok (.iconst 1, 1) := by decide +kernel
set_option maxRecDepth 100000 in
theorem d_Bd_addGap_26 : decode b_Bd_addGap 26 = .ok (.iadd, 1) := by decide +kernel
set_option maxRecDepth 100000 in
theorem d_Bd_addGap_27 : decode b_Bd_addGap 27 = .ok (.putfield 25, 3) := by decide +kernel
set_option maxRecDepth 100000 in
theorem d_Bd_addGap_30 : decode b_Bd_addGap 30 = .ok (.aload_n 0, 1) := by decide +kernel
set_option maxRecDepth 100000 in
theorem d_Bd_addGap_31 : decode b_Bd_addGap 31 = .ok (.getfield 25, 3) := by decide +kernel
set_option maxRecDepth 100000 in
theorem d_Bd_addGap_34 : decode b_Bd_addGap 34 = .ok (.ireturn, 1) := by decide +kernel
set_option maxRecDepth 100000 in
theorem d_Bd_daysServed_0 : decode b_Bd_daysServed 0 = .ok (.iload_n 1, 1) := by decide +kernel
set_option maxRecDepth 100000 in
theorem d_Bd_daysServed_1 : decode b_Bd_daysServed 1 = .ok (.aload_n 0, 1) := by decide +kernel
set_option maxRecDepth 100000 in
theorem d_Bd_daysServed_2 : decode b_Bd_daysServed 2 = .ok (.getfield 22, 3) := by decide +kernel
set_option maxRecDepth 100000 in
theorem d_Bd_daysServed_5 : decode b_Bd_daysServed 5 = .ok (.isub, 1) := by decide +kernel
set_option maxRecDepth 100000 in
theorem d_Bd_daysServed_6 : decode b_Bd_daysServed 6 = .ok (.istore_n 2, 1) := by decide +kernel
set_option maxRecDepth 100000 in
theorem d_Bd_daysServed_7 : decode b_Bd_daysServed 7 = .ok (.iconst 0, 1) := by decide +kernel
set_option maxRecDepth 100000 in
theorem d_Bd_daysServed_8 : decode b_Bd_daysServed 8 = .ok (.istore_n 3, 1) := by decide +kernel
set_option maxRecDepth 100000 in
theorem d_Bd_daysServed_9 : decode b_Bd_daysServed 9 = .ok (.iload_n 3, 1) := by decide +kernel
set_option maxRecDepth 100000 in
theorem d_Bd_daysServed_10 : decode b_Bd_daysServed 10 = .ok (.aload_n 0, 1) := by decide +kernel
set_option maxRecDepth 100000 in
theorem d_Bd_daysServed_11 : decode b_Bd_daysServed 11 = .ok (.getfield 25, 3) := by decide +kernel
set_option maxRecDepth 100000 in
theorem d_Bd_daysServed_14 : decode b_Bd_daysServed 14 = .ok (.if_icmp .ge 31, 3) := by decide +kernel
set_option maxRecDepth 100000 in
theorem d_Bd_daysServed_17 : decode b_Bd_daysServed 17 = .ok (.iload_n 2, 1) := by decide +kernel
set_option maxRecDepth 100000 in
theorem d_Bd_daysServed_18 : decode b_Bd_daysServed 18 = .ok (.aload_n 0, 1) := by decide +kernel
set_option maxRecDepth 100000 in
theorem d_Bd_daysServed_19 : decode b_Bd_daysServed 19 = .ok (.getfield 15, 3) := by decide +kernel
set_option maxRecDepth 100000 in
theorem d_Bd_daysServed_22 : decode b_Bd_daysServed 22 = .ok (.iload_n 3, 1) := by decide +kernel
set_option maxRecDepth 100000 in
theorem d_Bd_daysServed_23 : decode b_Bd_daysServed 23 = .ok (.iaload, 1) := by decide +kernel
set_option maxRecDepth 100000 in
theorem d_Bd_daysServed_24 : decode b_Bd_daysServed 24 = .ok (.iconst 1, 1) := by decide +kernel
set_option maxRecDepth 100000 in
theorem d_Bd_daysServed_25 : decode b_Bd_daysServed 25 = .ok (.iadd, 1) := by decide +kernel
set_option maxRecDepth 100000 in
theorem d_Bd_daysServed_26 : decode b_Bd_daysServed 26 = .ok (.iload_n 1, 1) := by decide +kernel
set_option maxRecDepth 100000 in
theorem d_Bd_daysServed_27 : decode b_Bd_daysServed 27 = .ok (.invokestatic 28, 3) := by decide +kernel
set_option maxRecDepth 100000 in
theorem d_Bd_daysServed_30 : decode b_Bd_daysServed 30 = .ok (.aload_n 0, 1) := by decide +kernel
set_option maxRecDepth 100000 in
theorem d_Bd_daysServed_31 : decode b_Bd_daysServed 31 = .ok (.getfield 9, 3) := by decide +kernel
set_option maxRecDepth 100000 in
theorem d_Bd_daysServed_34 : decode b_Bd_daysServed 34 = .ok (.iload_n 3, 1) := by decide +kernel
set_option maxRecDepth 100000 in
theorem d_Bd_daysServed_35 : decode b_Bd_daysServed 35 = .ok (.iaload, 1) := by decide +kernel
set_option maxRecDepth 100000 in
theorem d_Bd_daysServed_36 : decode b_Bd_daysServed 36 = .ok (.isub, 1) := by decide +kernel
set_option maxRecDepth 100000 in
theorem d_Bd_daysServed_37 : decode b_Bd_daysServed 37 = .ok (.isub, 1) := by decide +kernel
set_option maxRecDepth 100000 in
theorem d_Bd_daysServed_38 : decode b_Bd_daysServed 38 = .ok (.istore_n 2, 1) := by decide +kernel
set_option maxRecDepth 100000 in
theorem d_Bd_daysServed_39 : decode b_Bd_daysServed 39 = .ok (.iinc 3 1, 3) := by decide +kernel
set_option maxRecDepth 100000 in
theorem d_Bd_daysServed_42 : decode b_Bd_daysServed 42 = .ok (.goto (-33), 3) := by decide +kernel
set_option maxRecDepth 100000 in
theorem d_Bd_daysServed_45 : decode b_Bd_daysServed 45 = .ok (.iload_n 2, 1) := by decide +kernel
set_option maxRecDepth 100000 in
theorem d_Bd_daysServed_46 : decode b_Bd_daysServed 46 = .ok (.ireturn, 1) := by decide +kernel
set_option maxRecDepth 100000 in
theorem d_Bd_init_0 : decode b_Bd_init 0 = .ok (.aload_n 0, 1) := by decide +kernel
set_option maxRecDepth 100000 in
theorem d_Bd_init_1 : decode b_Bd_init 1 = .ok (.invokespecial 3, 3) := by decide +kernel
set_option maxRecDepth 100000 in
theorem d_Bd_init_4 : decode b_Bd_init 4 = .ok (.aload_n 0, 1) := by decide +kernel
set_option maxRecDepth 100000 in
theorem d_Bd_init_5 : decode b_Bd_init 5 = .ok (.bipush 6, 2) := by decide +kernel
set_option maxRecDepth 100000 in
theorem d_Bd_init_7 : decode b_Bd_init 7 = .ok (.newarray .int, 2) := by decide +kernel
set_option maxRecDepth 100000 in
theorem d_Bd_init_9 : decode b_Bd_init 9 = .ok (.putfield 9, 3) := by decide +kernel
set_option maxRecDepth 100000 in
theorem d_Bd_init_12 : decode b_Bd_init 12 = .ok (.aload_n 0, 1) := by decide +kernel
set_option maxRecDepth 100000 in
theorem d_Bd_init_13 : decode b_Bd_init 13 = .ok (.bipush 6, 2) := by decide +kernel
set_option maxRecDepth 100000 in
theorem d_Bd_init_15 : decode b_Bd_init 15 = .ok (.newarray .int, 2) := by decide +kernel
set_option maxRecDepth 100000 in
theorem d_Bd_init_17 : decode b_Bd_init 17 = .ok (.putfield 15, 3) := by decide +kernel
set_option maxRecDepth 100000 in
theorem d_Bd_init_20 : decode b_Bd_init 20 = .ok (.aload_n 0, 1) := by decide +kernel
set_option maxRecDepth 100000 in
theorem d_Bd_init_21 : decode b_Bd_init 21 = .ok (.iload_n 1, 1) := by decide +kernel
set_option maxRecDepth 100000 in
theorem d_Bd_init_22 : decode b_Bd_init 22 = .ok (.putfield 18, 3) := by decide +kernel
set_option maxRecDepth 100000 in
theorem d_Bd_init_25 : decode b_Bd_init 25 = .ok (.aload_n 0, 1) := by decide +kernel
set_option maxRecDepth 100000 in
theorem d_Bd_init_26 : decode b_Bd_init 26 = .ok (.iload_n 2, 1) := by decide +kernel
set_option maxRecDepth 100000 in
theorem d_Bd_init_27 : decode b_Bd_init 27 = .ok (.putfield 22, 3) := by decide +kernel
set_option maxRecDepth 100000 in
theorem d_Bd_init_30 : decode b_Bd_init 30 = .ok (.return_, 1) := by decide +kernel
set_option maxRecDepth 100000 in
theorem d_Bd_meetsGap_0 : decode b_Bd_meetsGap 0 = .ok (.iconst 0, 1) := by decide +kernel
set_option maxRecDepth 100000 in
theorem d_Bd_meetsGap_1 : decode b_Bd_meetsGap 1 = .ok (.istore_n 3, 1) := by decide +kernel
set_option maxRecDepth 100000 in
theorem d_Bd_meetsGap_2 : decode b_Bd_meetsGap 2 = .ok (.iload_n 3, 1) := by decide +kernel
set_option maxRecDepth 100000 in
theorem d_Bd_meetsGap_3 : decode b_Bd_meetsGap 3 = .ok (.aload_n 0, 1) := by decide +kernel
set_option maxRecDepth 100000 in
theorem d_Bd_meetsGap_4 : decode b_Bd_meetsGap 4 = .ok (.getfield 25, 3) := by decide +kernel
set_option maxRecDepth 100000 in
theorem d_Bd_meetsGap_7 : decode b_Bd_meetsGap 7 = .ok (.if_icmp .ge 35, 3) := by decide +kernel
set_option maxRecDepth 100000 in
theorem d_Bd_meetsGap_10 : decode b_Bd_meetsGap 10 = .ok (.iload_n 1, 1) := by decide +kernel
set_option maxRecDepth 100000 in
theorem d_Bd_meetsGap_11 : decode b_Bd_meetsGap 11 = .ok (.aload_n 0, 1) := by decide +kernel
set_option maxRecDepth 100000 in
theorem d_Bd_meetsGap_12 : decode b_Bd_meetsGap 12 = .ok (.getfield 15, 3) := by decide +kernel
set_option maxRecDepth 100000 in
theorem d_Bd_meetsGap_15 : decode b_Bd_meetsGap 15 = .ok (.iload_n 3, 1) := by decide +kernel
set_option maxRecDepth 100000 in
theorem d_Bd_meetsGap_16 : decode b_Bd_meetsGap 16 = .ok (.iaload, 1) := by decide +kernel
set_option maxRecDepth 100000 in
theorem d_Bd_meetsGap_17 : decode b_Bd_meetsGap 17 = .ok (.iconst 1, 1) := by decide +kernel
set_option maxRecDepth 100000 in
theorem d_Bd_meetsGap_18 : decode b_Bd_meetsGap 18 = .ok (.iadd, 1) := by decide +kernel
set_option maxRecDepth 100000 in
theorem d_Bd_meetsGap_19 : decode b_Bd_meetsGap 19 = .ok (.if_icmp .gt 17, 3) := by decide +kernel
set_option maxRecDepth 100000 in
theorem d_Bd_meetsGap_22 : decode b_Bd_meetsGap 22 = .ok (.iload_n 2, 1) := by decide +kernel
set_option maxRecDepth 100000 in
theorem d_Bd_meetsGap_23 : decode b_Bd_meetsGap 23 = .ok (.aload_n 0, 1) := by decide +kernel
set_option maxRecDepth 100000 in
theorem d_Bd_meetsGap_24 : decode b_Bd_meetsGap 24 = .ok (.getfield 9, 3) := by decide +kernel
set_option maxRecDepth 100000 in
theorem d_Bd_meetsGap_27 : decode b_Bd_meetsGap 27 = .ok (.iload_n 3, 1) := by decide +kernel
set_option maxRecDepth 100000 in
theorem d_Bd_meetsGap_28 : decode b_Bd_meetsGap 28 = .ok (.iaload, 1) := by decide +kernel
set_option maxRecDepth 100000 in
theorem d_Bd_meetsGap_29 : decode b_Bd_meetsGap 29 = .ok (.iconst 1, 1) := by decide +kernel
set_option maxRecDepth 100000 in
theorem d_Bd_meetsGap_30 : decode b_Bd_meetsGap 30 = .ok (.isub, 1) := by decide +kernel
set_option maxRecDepth 100000 in
theorem d_Bd_meetsGap_31 : decode b_Bd_meetsGap 31 = .ok (.if_icmp .lt 5, 3) := by decide +kernel
set_option maxRecDepth 100000 in
theorem d_Bd_meetsGap_34 : decode b_Bd_meetsGap 34 = .ok (.iconst 1, 1) := by decide +kernel
set_option maxRecDepth 100000 in
theorem d_Bd_meetsGap_35 : decode b_Bd_meetsGap 35 = .ok (.ireturn, 1) := by decide +kernel
set_option maxRecDepth 100000 in
theorem d_Bd_meetsGap_36 : decode b_Bd_meetsGap 36 = .ok (.iinc 3 1, 3) := by decide +kernel
set_option maxRecDepth 100000 in
theorem d_Bd_meetsGap_39 : decode b_Bd_meetsGap 39 = .ok (.goto (-37), 3) := by decide +kernel
set_option maxRecDepth 100000 in
theorem d_Bd_meetsGap_42 : decode b_Bd_meetsGap 42 = .ok (.iconst 0, 1) := by decide +kernel
set_option maxRecDepth 100000 in
theorem d_Bd_meetsGap_43 : decode b_Bd_meetsGap 43 = .ok (.ireturn, 1) := by decide +kernel
set_option maxRecDepth 100000 in
theorem d_Bt_init_0 : decode b_Bt_init 0 = .ok (.aload_n 0, 1) := by decide +kernel
set_option maxRecDepth 100000 in
theorem d_Bt_init_1 : decode b_Bt_init 1 = .ok (.invokespecial 3, 3) := by decide +kernel
set_option maxRecDepth 100000 in
theorem d_Bt_init_4 : decode b_Bt_init 4 = .ok (.aload_n 0, 1) := by decide +kernel
set_option maxRecDepth 100000 in
theorem d_Bt_init_5 : decode b_Bt_init 5 = .ok (.iconst (-1), 1) := by decide +kernel
set_option maxRecDepth 100000 in
theorem d_Bt_init_6 : decode b_Bt_init 6 = .ok (.putfield 9, 3) := by decide +kernel
set_option maxRecDepth 100000 in
theorem d_Bt_init_9 : decode b_Bt_init 9 = .ok (.aload_n 0, 1) := by decide +kernel
set_option maxRecDepth 100000 in
theorem d_Bt_init_10 : decode b_Bt_init 10 = .ok (.iconst (-1), 1) := by decide +kernel
set_option maxRecDepth 100000 in
theorem d_Bt_init_11 : decode b_Bt_init 11 = .ok (.putfield 15, 3) := by decide +kernel
set_option maxRecDepth 100000 in
theorem d_Bt_init_14 : decode b_Bt_init 14 = .ok (.aload_n 0, 1) := by decide +kernel
set_option maxRecDepth 100000 in
theorem d_Bt_init_15 : decode b_Bt_init 15 = .ok (.iload_n 1, 1) := by decide +kernel
set_option maxRecDepth 100000 in
theorem d_Bt_init_16 : decode b_Bt_init 16 = .ok (.putfield 18, 3) := by decide +kernel
set_option maxRecDepth 100000 in
theorem d_Bt_init_19 : decode b_Bt_init 19 = .ok (.aload_n 0, 1) := by decide +kernel
set_option maxRecDepth 100000 in
theorem d_Bt_init_20 : decode b_Bt_init 20 = .ok (.iload_n 2, 1) := by decide +kernel
set_option maxRecDepth 100000 in
theorem d_Bt_init_21 : decode b_Bt_init 21 = .ok (.putfield 21, 3) := by decide +kernel
set_option maxRecDepth 100000 in
theorem d_Bt_init_24 : decode b_Bt_init 24 = .ok (.return_, 1) := by decide +kernel
set_option maxRecDepth 100000 in
theorem d_Bt_setOut_0 : decode b_Bt_setOut 0 = .ok (.aload_n 0, 1) := by decide +kernel
set_option maxRecDepth 100000 in
theorem d_Bt_setOut_1 : decode b_Bt_setOut 1 = .ok (.aload_n 1, 1) := by decide +kernel
set_option maxRecDepth 100000 in
theorem d_Bt_setOut_2 : decode b_Bt_setOut 2 = .ok (.getfield 31, 3) := by decide +kernel
set_option maxRecDepth 100000 in
theorem d_Bt_setOut_5 : decode b_Bt_setOut 5 = .ok (.putfield 21, 3) := by decide +kernel
set_option maxRecDepth 100000 in
theorem d_Bt_setOut_8 : decode b_Bt_setOut 8 = .ok (.aload_n 0, 1) := by decide +kernel
set_option maxRecDepth 100000 in
theorem d_Bt_setOut_9 : decode b_Bt_setOut 9 = .ok (.aload_n 1, 1) := by decide +kernel
set_option maxRecDepth 100000 in
theorem d_Bt_setOut_10 : decode b_Bt_setOut 10 = .ok (.getfield 36, 3) := by decide +kernel
set_option maxRecDepth 100000 in
theorem d_Bt_setOut_13 : decode b_Bt_setOut 13 = .ok (.putfield 28, 3) := by decide +kernel
set_option maxRecDepth 100000 in
theorem d_Bt_setOut_16 : decode b_Bt_setOut 16 = .ok (.aload_n 0, 1) := by decide +kernel
set_option maxRecDepth 100000 in
theorem d_Bt_setOut_17 : decode b_Bt_setOut 17 = .ok (.aload_n 1, 1) := by decide +kernel
set_option maxRecDepth 100000 in
theorem d_Bt_setOut_18 : decode b_Bt_setOut 18 = .ok (.getfield 39, 3) := by decide +kernel
set_option maxRecDepth 100000 in
theorem d_Bt_setOut_21 : decode b_Bt_setOut 21 = .ok (.putfield 9, 3) := by decide +kernel
set_option maxRecDepth 100000 in
theorem d_Bt_setOut_24 : decode b_Bt_setOut 24 = .ok (.aload_n 0, 1) := by decide +kernel
set_option maxRecDepth 100000 in
theorem d_Bt_setOut_25 : decode b_Bt_setOut 25 = .ok (.iload_n 2, 1) := by decide +kernel
set_option maxRecDepth 100000 in
theorem d_Bt_setOut_26 : decode b_Bt_setOut 26 = .ok (.putfield 15, 3) := by decide +kernel
set_option maxRecDepth 100000 in
theorem d_Bt_setOut_29 : decode b_Bt_setOut 29 = .ok (.return_, 1) := by decide +kernel
set_option maxRecDepth 100000 in
theorem d_Bt_stateAt_0 : decode b_Bt_stateAt 0 = .ok (.aload_n 0, 1) := by decide +kernel
set_option maxRecDepth 100000 in
theorem d_Bt_stateAt_1 : decode b_Bt_stateAt 1 = .ok (.getfield 24, 3) := by decide +kernel
set_option maxRecDepth 100000 in
theorem d_Bt_stateAt_4 : decode b_Bt_stateAt 4 = .ok (.ifCond .eq 5, 3) := by decide +kernel
set_option maxRecDepth 100000 in
theorem d_Bt_stateAt_7 : decode b_Bt_stateAt 7 = .ok (.iconst 2, 1) := by decide +kernel
set_option maxRecDepth 100000 in
theorem d_Bt_stateAt_8 : decode b_Bt_stateAt 8 = .ok (.ireturn, 1) := by decide +kernel
set_option maxRecDepth 100000 in
theorem d_Bt_stateAt_9 : decode b_Bt_stateAt 9 = .ok (.iload_n 1, 1) := by decide +kernel
set_option maxRecDepth 100000 in
theorem d_Bt_stateAt_10 : decode b_Bt_stateAt 10 = .ok (.aload_n 0, 1) := by decide +kernel
set_option maxRecDepth 100000 in
theorem d_Bt_stateAt_11 : decode b_Bt_stateAt 11 = .ok (.getfield 28, 3) := by decide +kernel
set_option maxRecDepth 100000 in
theorem d_Bt_stateAt_14 : decode b_Bt_stateAt 14 = .ok (.if_icmp .ge 7, 3) := by decide +kernel
set_option maxRecDepth 100000 in
theorem d_Bt_stateAt_17 : decode b_Bt_stateAt 17 = .ok (.iconst 1, 1) := by decide +kernel
set_option maxRecDepth 100000 in
theorem d_Bt_stateAt_18 : decode b_Bt_stateAt 18 = .ok (.goto 4, 3) := by decide +kernel
set_option maxRecDepth 100000 in
theorem d_Bt_stateAt_21 : decode b_Bt_stateAt 21 = .ok (.iconst 0, 1) := by decide +kernel
set_option maxRecDepth 100000 in
theorem d_Bt_stateAt_22 : decode b_Bt_stateAt 22 = .ok (.ireturn, 1) := by decide +kernel
set_option maxRecDepth 100000 in
theorem d_Bx_firstShortDay_0 : decode b_Bx_firstShortDay 0 = .ok (.lconst 0, 1) := by decide +kernel
set_option maxRecDepth 100000 in
theorem d_Bx_firstShortDay_1 : decode b_Bx_firstShortDay 1 = .ok (.lstore_n 2, 1) := by decide +kernel
set_option maxRecDepth 100000 in
theorem d_Bx_firstShortDay_2 : decode b_Bx_firstShortDay 2 = .ok (.iconst 0, 1) := by decide +kernel
set_option maxRecDepth 100000 in
theorem d_Bx_firstShortDay_3 : decode b_Bx_firstShortDay 3 = .ok (.iload_n 1, 1) := by decide +kernel
set_option maxRecDepth 100000 in
theorem d_Bx_firstShortDay_4 : decode b_Bx_firstShortDay 4 = .ok (.bipush 100, 2) := by decide +kernel
set_option maxRecDepth 100000 in
theorem d_Bx_firstShortDay_6 : decode b_Bx_firstShortDay 6 = .ok (.isub, 1) := by decide +kernel
set_option maxRecDepth 100000 in
theorem d_Bx_firstShortDay_7 : decode b_Bx_firstShortDay 7 = .ok (.invokestatic 51, 3) := by decide +kernel
set_option maxRecDepth 100000 in
theorem d_Bx_firstShortDay_10 : decode b_Bx_firstShortDay 10 = .ok (.istore 4, 2) := by decide +kernel
set_option maxRecDepth 100000 in
theorem d_Bx_firstShortDay_12 : decode b_Bx_firstShortDay 12 = .ok (.iload 4, 2) := by decide +kernel
set_option maxRecDepth 100000 in
theorem d_Bx_firstShortDay_14 : decode b_Bx_firstShortDay 14 = .ok (.iload_n 1, 1) := by decide +kernel
set_option maxRecDepth 100000 in
theorem d_Bx_firstShortDay_15 : decode b_Bx_firstShortDay 15 = .ok (.if_icmp .gt 20, 3) := by decide +kernel
set_option maxRecDepth 100000 in
theorem d_Bx_firstShortDay_18 : decode b_Bx_firstShortDay 18 = .ok (.lload_n 2, 1) := by decide +kernel
set_option maxRecDepth 100000 in
theorem d_Bx_firstShortDay_19 : decode b_Bx_firstShortDay 19 = .ok (.aload_n 0, 1) := by decide +kernel
set_option maxRecDepth 100000 in
theorem d_Bx_firstShortDay_20 : decode b_Bx_firstShortDay 20 = .ok (.getfield 9, 3) := by decide +kernel
set_option maxRecDepth 100000 in
theorem d_Bx_firstShortDay_23 : decode b_Bx_firstShortDay 23 = .ok (.iload 4, 2) := by decide +kernel
set_option maxRecDepth 100000 in
theorem d_Bx_firstShortDay_25 : decode b_Bx_firstShortDay 25 = .ok (.iaload, 1) := by decide +kernel
set_option maxRecDepth 100000 in
theorem d_Bx_firstShortDay_26 : decode b_Bx_firstShortDay 26 = .ok (.i2l, 1) := by decide +kernel
set_option maxRecDepth 100000 in
theorem d_Bx_firstShortDay_27 : decode b_Bx_firstShortDay 27 = .ok (.ladd, 1) := by decide +kernel
set_option maxRecDepth 100000 in
theorem d_Bx_firstShortDay_28 : decode b_Bx_firstShortDay 28 = .ok (.lstore_n 2, 1) := by decide +kernel
set_option maxRecDepth 100000 in
theorem d_Bx_firstShortDay_29 : decode b_Bx_firstShortDay 29 = .ok (.iinc 4 1, 3) := by decide +kernel
set_option maxRecDepth 100000 in
theorem d_Bx_firstShortDay_32 : decode b_Bx_firstShortDay 32 = .ok (.goto (-20), 3) := by decide +kernel
set_option maxRecDepth 100000 in
theorem d_Bx_firstShortDay_35 : decode b_Bx_firstShortDay 35 = .ok (.aload_n 0, 1) := by decide +kernel
set_option maxRecDepth 100000 in
theorem d_Bx_firstShortDay_36 : decode b_Bx_firstShortDay 36 = .ok (.getfield 21, 3) := by decide +kernel
set_option maxRecDepth 100000 in
theorem d_Bx_firstShortDay_39 : decode b_Bx_firstShortDay 39 = .ok (.i2l, 1) := by decide +kernel
set_option maxRecDepth 100000 in
theorem d_Bx_firstShortDay_40 : decode b_Bx_firstShortDay 40 = .ok (.lstore 4, 2) := by decide +kernel
set_option maxRecDepth 100000 in
theorem d_Bx_firstShortDay_42 : decode b_Bx_firstShortDay 42 = .ok (.iload_n 1, 1) := by decide +kernel
set_option maxRecDepth 100000 in
theorem d_Bx_firstShortDay_43 : decode b_Bx_firstShortDay 43 = .ok (.iload_n 1, 1) := by decide +kernel
set_option maxRecDepth 100000 in
theorem d_Bx_firstShortDay_44 : decode b_Bx_firstShortDay 44 = .ok (.bipush 100, 2) := by decide +kernel
set_option maxRecDepth 100000 in
theorem d_Bx_firstShortDay_46 : decode b_Bx_firstShortDay 46 = .ok (.irem, 1) := by decide +kernel
set_option maxRecDepth 100000 in
theorem d_Bx_firstShortDay_47 : decode b_Bx_firstShortDay 47 = .ok (.isub, 1) := by decide +kernel
set_option maxRecDepth 100000 in
theorem d_Bx_firstShortDay_48 : decode b_Bx_firstShortDay 48 = .ok (.istore 6, 2) := by decide +kernel
set_option maxRecDepth 100000 in
theorem d_Bx_firstShortDay_50 : decode b_Bx_firstShortDay 50 = .ok (.iconst 0, 1) := by decide +kernel
set_option maxRecDepth 100000 in
theorem d_Bx_firstShortDay_51 : decode b_Bx_firstShortDay 51 = .ok (.istore 7, 2) := by decide +kernel
set_option maxRecDepth 100000 in
theorem d_Bx_firstShortDay_53 : decode b_Bx_firstShortDay 53 = .ok (.iload 7, 2) := by decide +kernel
set_option maxRecDepth 100000 in
theorem d_Bx_firstShortDay_55 : decode b_Bx_firstShortDay 55 = .ok (.bipush 40, 2) := by decide +kernel
set_option maxRecDepth 100000 in
theorem d_Bx_firstShortDay_57 : decode b_Bx_firstShortDay 57 = .ok (.if_icmp .ge 36, 3) := by decide +kernel
set_option maxRecDepth 100000 in
theorem d_Bx_firstShortDay_60 : decode b_Bx_firstShortDay 60 = .ok (.iinc 6 100, 3) := by decide +kernel
set_option maxRecDepth 100000 in
theorem d_Bx_firstShortDay_63 : decode b_Bx_firstShortDay 63 = .ok (.lload 4, 2) := by decide +kernel
set_option maxRecDepth 100000 in
theorem d_Bx_firstShortDay_65 : decode b_Bx_firstShortDay 65 = .ok (.lload_n 2, 1) := by decide +kernel
set_option maxRecDepth 100000 in
theorem d_Bx_firstShortDay_66 : decode b_Bx_firstShortDay 66 = .ok (.aload_n 0, 1) := by decide +kernel
set_option maxRecDepth 100000 in
theorem d_Bx_firstShortDay_67 : decode b_Bx_firstShortDay 67 = .ok (.iload 6, 2) := by decide +kernel
set_option maxRecDepth 100000 in
theorem d_Bx_firstShortDay_69 : decode b_Bx_firstShortDay 69 = .ok (.invokevirtual 57, 3) := by decide +kernel
set_option maxRecDepth 100000 in
theorem d_Bx_firstShortDay_72 : decode b_Bx_firstShortDay 72 = .ok (.i2l, 1) := by decide +kernel
set_option maxRecDepth 100000 in
theorem d_Bx_firstShortDay_73 : decode b_Bx_firstShortDay 73 = .ok (.lsub, 1) := by decide +kernel
set_option maxRecDepth 100000 in
theorem d_Bx_firstShortDay_74 : decode b_Bx_firstShortDay 74 = .ok (.ladd, 1) := by decide +kernel
set_option maxRecDepth 100000 in
theorem d_Bx_firstShortDay_75 : decode b_Bx_firstShortDay 75 = .ok (.lstore 4, 2) := by decide +kernel
set_option maxRecDepth 100000 in
theorem d_Bx_firstShortDay_77 : decode b_Bx_firstShortDay 77 = .ok (.lload 4, 2) := by decide +kernel
set_option maxRecDepth 100000 in
theorem d_Bx_firstShortDay_79 : decode b_Bx_firstShortDay 79 = .ok (.lconst 0, 1) := by decide +kernel
set_option maxRecDepth 100000 in
theorem d_Bx_firstShortDay_80 : decode b_Bx_firstShortDay 80 = .ok (.lcmp, 1) := by decide +kernel
set_option maxRecDepth 100000 in
theorem d_Bx_firstShortDay_81 : decode b_Bx_firstShortDay 81 = .ok (.ifCond .ge 6, 3) := by decide +kernel
set_option maxRecDepth 100000 in
theorem d_Bx_firstShortDay_84 : decode b_Bx_firstShortDay 84 = .ok (.iload 6, 2) := by decide +kernel
set_option maxRecDepth 100000 in
theorem d_Bx_firstShortDay_86 : decode b_Bx_firstShortDay 86 = .ok (.ireturn, 1) := by decide +kernel
set_option maxRecDepth 100000 in
theorem d_Bx_firstShortDay_87 : decode b_Bx_firstShortDay 87 = .ok (.iinc 7 1, 3) := by decide +kernel
set_option maxRecDepth 100000 in
theorem d_Bx_firstShortDay_90 : decode b_Bx_firstShortDay 90 = .ok (.goto (-37), 3) := by decide +kernel
set_option maxRecDepth 100000 in
theorem d_Bx_firstShortDay_93 : decode b_Bx_firstShortDay 93 = .ok (.iconst (-1), 1) := by decide +kernel
set_option maxRecDepth 100000 in
theorem d_Bx_firstShortDay_94 : decode b_Bx_firstShortDay 94 = .ok (.ireturn, 1) := by decide +kernel
set_option maxRecDepth 100000 in
theorem d_Bx_owedOn_0 : decode b_Bx_owedOn 0 = .ok (.iconst 0, 1) := by decide +kernel
set_option maxRecDepth 100000 in
theorem d_Bx_owedOn_1 : decode b_Bx_owedOn 1 = .ok (.istore_n 2, 1) := by decide +kernel
set_option maxRecDepth 100000 in
theorem d_Bx_owedOn_2 : decode b_Bx_owedOn 2 = .ok (.iconst 0, 1) := by decide +kernel
set_option maxRecDepth 100000 in
theorem d_Bx_owedOn_3 : decode b_Bx_owedOn 3 = .ok (.istore_n 3, 1) := by decide +kernel
set_option maxRecDepth 100000 in
theorem d_Bx_owedOn_4 : decode b_Bx_owedOn 4 = .ok (.iload_n 3, 1) := by decide +kernel
set_option maxRecDepth 100000 in
theorem d_Bx_owedOn_5 : decode b_Bx_owedOn 5 = .ok (.aload_n 0, 1) := by decide +kernel
set_option maxRecDepth 100000 in
theorem d_Bx_owedOn_6 : decode b_Bx_owedOn 6 = .ok (.getfield 29, 3) := by decide +kernel
set_option maxRecDepth 100000 in
theorem d_Bx_owedOn_9 : decode b_Bx_owedOn 9 = .ok (.if_icmp .ge 38, 3) := by decide +kernel
set_option maxRecDepth 100000 in
theorem d_Bx_owedOn_12 : decode b_Bx_owedOn 12 = .ok (.aload_n 0, 1) := by decide +kernel
set_option maxRecDepth 100000 in
theorem d_Bx_owedOn_13 : decode b_Bx_owedOn 13 = .ok (.iload_n 3, 1) := by decide +kernel
set_option maxRecDepth 100000 in
theorem d_Bx_owedOn_14 : decode b_Bx_owedOn 14 = .ok (.invokevirtual 35, 3) := by decide +kernel
set_option maxRecDepth 100000 in
theorem d_Bx_owedOn_17 : decode b_Bx_owedOn 17 = .ok (.astore 4, 2) := by decide +kernel
set_option maxRecDepth 100000 in
theorem d_Bx_owedOn_19 : decode b_Bx_owedOn 19 = .ok (.aload 4, 2) := by decide +kernel
set_option maxRecDepth 100000 in
theorem d_Bx_owedOn_21 : decode b_Bx_owedOn 21 = .ok (.ifnull 20, 3) := by decide +kernel
set_option maxRecDepth 100000 in
theorem d_Bx_owedOn_24 : decode b_Bx_owedOn 24 = .ok (.iload_n 1, 1) := by decide +kernel
set_option maxRecDepth 100000 in
theorem d_Bx_owedOn_25 : decode b_Bx_owedOn 25 = .ok (.aload 4, 2) := by decide +kernel
set_option maxRecDepth 100000 in
theorem d_Bx_owedOn_27 : decode b_Bx_owedOn 27 = .ok (.getfield 39, 3) := by decide +kernel
set_option maxRecDepth 100000 in
theorem d_Bx_owedOn_30 : decode b_Bx_owedOn 30 = .ok (.if_icmp .ge 11, 3) := by decide +kernel
set_option maxRecDepth 100000 in
theorem d_Bx_owedOn_33 : decode b_Bx_owedOn 33 = .ok (.iload_n 2, 1) := by decide +kernel
set_option maxRecDepth 100000 in
theorem d_Bx_owedOn_34 : decode b_Bx_owedOn 34 = .ok (.aload 4, 2) := by decide +kernel
set_option maxRecDepth 100000 in
theorem d_Bx_owedOn_36 : decode b_Bx_owedOn 36 = .ok (.getfield 42, 3) := by decide +kernel
set_option maxRecDepth 100000 in
theorem d_Bx_owedOn_39 : decode b_Bx_owedOn 39 = .ok (.iadd, 1) := by decide +kernel
set_option maxRecDepth 100000 in
theorem d_Bx_owedOn_40 : decode b_Bx_owedOn 40 = .ok (.istore_n 2, 1) := by decide +kernel
set_option maxRecDepth 100000 in
theorem d_Bx_owedOn_41 : decode b_Bx_owedOn 41 = .ok (.iinc 3 1, 3) := by decide +kernel
set_option maxRecDepth 100000 in
theorem d_Bx_owedOn_44 : decode b_Bx_owedOn 44 = .ok (.goto (-40), 3) := by decide +kernel
set_option maxRecDepth 100000 in
theorem d_Bx_owedOn_47 : decode b_Bx_owedOn 47 = .ok (.iload_n 2, 1) := by decide +kernel
set_option maxRecDepth 100000 in
theorem d_Bx_owedOn_48 : decode b_Bx_owedOn 48 = .ok (.ireturn, 1) := by decide +kernel
set_option maxRecDepth 100000 in
theorem d_Bx_payPensions_0 : decode b_Bx_payPensions 0 = .ok (.iload_n 1, 1) := by decide +kernel
set_option maxRecDepth 100000 in
theorem d_Bx_payPensions_1 : decode b_Bx_payPensions 1 = .ok (.bipush 100, 2) := by decide +kernel
set_option maxRecDepth 100000 in
theorem d_Bx_payPensions_3 : decode b_Bx_payPensions 3 = .ok (.irem, 1) := by decide +kernel
set_option maxRecDepth 100000 in
theorem d_Bx_payPensions_4 : decode b_Bx_payPensions 4 = .ok (.ifCond .eq 4, 3) := by decide +kernel
set_option maxRecDepth 100000 in
theorem d_Bx_payPensions_7 : decode b_Bx_payPensions 7 = .ok (.return_, 1) := by decide +kernel
set_option maxRecDepth 100000 in
theorem d_Bx_payPensions_8 : decode b_Bx_payPensions 8 = .ok (.iconst 0, 1) := by decide +kernel
set_option maxRecDepth 100000 in
theorem d_Bx_payPensions_9 : decode b_Bx_payPensions 9 = .ok (.istore_n 2, 1) := by decide +kernel
set_option maxRecDepth 100000 in
theorem d_Bx_payPensions_10 : decode b_Bx_payPensions 10 = .ok (.iload_n 2, 1) := by decide +kernel
set_option maxRecDepth 100000 in
theorem d_Bx_payPensions_11 : decode b_Bx_payPensions 11 = .ok (.aload_n 0, 1) := by decide +kernel
set_option maxRecDepth 100000 in
theorem d_Bx_payPensions_12 : decode b_Bx_payPensions 12 = .ok (.getfield 29, 3) := by decide +kernel
set_option maxRecDepth 100000 in
theorem d_Bx_payPensions_15 : decode b_Bx_payPensions 15 = .ok (.if_icmp .ge 77, 3) := by decide +kernel
set_option maxRecDepth 100000 in
theorem d_Bx_payPensions_18 : decode b_Bx_payPensions 18 = .ok (.aload_n 0, 1) := by decide +kernel
set_option maxRecDepth 100000 in
theorem d_Bx_payPensions_19 : decode b_Bx_payPensions 19 = .ok (.iload_n 2, 1) := by decide +kernel
set_option maxRecDepth 100000 in
theorem d_Bx_payPensions_20 : decode b_Bx_payPensions 20 = .ok (.invokevirtual 35, 3) := by decide +kernel
set_option maxRecDepth 100000 in
theorem d_Bx_payPensions_23 : decode b_Bx_payPensions 23 = .ok (.astore_n 3, 1) := by decide +kernel
set_option maxRecDepth 100000 in
theorem d_Bx_payPensions_24 : decode b_Bx_payPensions 24 = .ok (.aload_n 3, 1) := by decide +kernel
set_option maxRecDepth 100000 in
theorem d_Bx_payPensions_25 : decode b_Bx_payPensions 25 = .ok (.ifnull 61, 3) := by decide +kernel
set_option maxRecDepth 100000 in
theorem d_Bx_payPensions_28 : decode b_Bx_payPensions 28 = .ok (.iload_n 1, 1) := by decide +kernel
set_option maxRecDepth 100000 in
theorem d_Bx_payPensions_29 : decode b_Bx_payPensions 29 = .ok (.aload_n 3, 1) := by decide +kernel
set_option maxRecDepth 100000 in
theorem d_Bx_payPensions_30 : decode b_Bx_payPensions 30 = .ok (.getfield 39, 3) := by decide +kernel
set_option maxRecDepth 100000 in
theorem d_Bx_payPensions_33 : decode b_Bx_payPensions 33 = .ok (.if_icmp .ge 53, 3) := by decide +kernel
set_option maxRecDepth 100000 in
theorem d_Bx_payPensions_36 : decode b_Bx_payPensions 36 = .ok (.aload_n 3, 1) := by decide +kernel
set_option maxRecDepth 100000 in
theorem d_Bx_payPensions_37 : decode b_Bx_payPensions 37 = .ok (.getfield 42, 3) := by decide +kernel
set_option maxRecDepth 100000 in
theorem d_Bx_payPensions_40 : decode b_Bx_payPensions 40 = .ok (.aload_n 0, 1) := by decide +kernel
set_option maxRecDepth 100000 in
theorem d_Bx_payPensions_41 : decode b_Bx_payPensions 41 = .ok (.getfield 21, 3) := by decide +kernel
set_option maxRecDepth 100000 in
theorem d_Bx_payPensions_44 : decode b_Bx_payPensions 44 = .ok (.if_icmp .gt 42, 3) := by decide +kernel
set_option maxRecDepth 100000 in
theorem d_Bx_payPensions_47 : decode b_Bx_payPensions 47 = .ok (.aload_n 0, 1) := by decide +kernel
set_option maxRecDepth 100000 in
theorem d_Bx_payPensions_48 : decode b_Bx_payPensions 48 = .ok (.dup, 1) := by decide +kernel
set_option maxRecDepth 100000 in
theorem d_Bx_payPensions_49 : decode b_Bx_payPensions 49 = .ok (.getfield 21, 3) := by decide +kernel
set_option maxRecDepth 100000 in
theorem d_Bx_payPensions_52 : decode b_Bx_payPensions 52 = .ok (.aload_n 3, 1) := by decide +kernel
set_option maxRecDepth 100000 in
theorem d_Bx_payPensions_53 : decode b_Bx_payPensions 53 = .ok (.getfield 42, 3) := by decide +kernel
set_option maxRecDepth 100000 in
theorem d_Bx_payPensions_56 : decode b_Bx_payPensions 56 = .ok (.isub, 1) := by decide +kernel
set_option maxRecDepth 100000 in
theorem d_Bx_payPensions_57 : decode b_Bx_payPensions 57 = .ok (.putfield 21, 3) := by decide +kernel
set_option maxRecDepth 100000 in
theorem d_Bx_payPensions_60 : decode b_Bx_payPensions 60 = .ok (.aload_n 3, 1) := by decide +kernel
set_option maxRecDepth 100000 in
theorem d_Bx_payPensions_61 : decode b_Bx_payPensions 61 = .ok (.dup, 1) := by decide +kernel
set_option maxRecDepth 100000 in
theorem d_Bx_payPensions_62 : decode b_Bx_payPensions 62 = .ok (.getfield 45, 3) := by decide +kernel
set_option maxRecDepth 100000 in
theorem d_Bx_payPensions_65 : decode b_Bx_payPensions 65 = .ok (.aload_n 3, 1) := by decide +kernel
set_option maxRecDepth 100000 in
theorem d_Bx_payPensions_66 : decode b_Bx_payPensions 66 = .ok (.getfield 42, 3) := by decide +kernel
set_option maxRecDepth 100000 in
theorem d_Bx_payPensions_69 : decode b_Bx_payPensions 69 = .ok (.iadd, 1) := by decide +kernel
set_option maxRecDepth 100000 in
theorem d_Bx_payPensions_70 : decode b_Bx_payPensions 70 = .ok (.putfield 45, 3) := by decide +kernel
set_option maxRecDepth 100000 in
theorem d_Bx_payPensions_73 : decode b_Bx_payPensions 73 = .ok (.aload_n 0, 1) := by decide +kernel
set_option maxRecDepth 100000 in
theorem d_Bx_payPensions_74 : decode b_Bx_payPensions 74 = .ok (.dup, 1) := by decide +kernel
set_option maxRecDepth 100000 in
theorem d_Bx_payPensions_75 : decode b_Bx_payPensions 75 = .ok (.getfield 48, 3) := by decide +kernel
set_option maxRecDepth 100000 in
theorem d_Bx_payPensions_78 : decode b_Bx_payPensions 78 = .ok (.aload_n 3, 1) := by decide +kernel
set_option maxRecDepth 100000 in
theorem d_Bx_payPensions_79 : decode b_Bx_payPensions 79 = .ok (.getfield 42, 3) := by decide +kernel
set_option maxRecDepth 100000 in
theorem d_Bx_payPensions_82 : decode b_Bx_payPensions 82 = .ok (.iadd, 1) := by decide +kernel
set_option maxRecDepth 100000 in
theorem d_Bx_payPensions_83 : decode b_Bx_payPensions 83 = .ok (.putfield 48, 3) := by decide +kernel
set_option maxRecDepth 100000 in
theorem d_Bx_payPensions_86 : decode b_Bx_payPensions 86 = .ok (.iinc 2 1, 3) := by decide +kernel
set_option maxRecDepth 100000 in
theorem d_Bx_payPensions_89 : decode b_Bx_payPensions 89 = .ok (.goto (-79), 3) := by decide +kernel
set_option maxRecDepth 100000 in
theorem d_Bx_payPensions_92 : decode b_Bx_payPensions 92 = .ok (.return_, 1) := by decide +kernel
set_option maxRecDepth 100000 in
theorem d_Bx_pensionerAt_0 : decode b_Bx_pensionerAt 0 = .ok (.iload_n 1, 1) := by decide +kernel
set_option maxRecDepth 100000 in
theorem d_Bx_pensionerAt_1 : decode b_Bx_pensionerAt 1 = .ok (.ifCond .lt 20, 3) := by decide +kernel
set_option maxRecDepth 100000 in
theorem d_Bx_pensionerAt_4 : decode b_Bx_pensionerAt 4 = .ok (.iload_n 1, 1) := by decide +kernel
set_option maxRecDepth 100000 in
theorem d_Bx_pensionerAt_5 : decode b_Bx_pensionerAt 5 = .ok (.aload_n 0, 1) := by decide +kernel
set_option maxRecDepth 100000 in
theorem d_Bx_pensionerAt_6 : decode b_Bx_pensionerAt 6 = .ok (.getfield 29, 3) := by decide +kernel
set_option maxRecDepth 100000 in
theorem d_Bx_pensionerAt_9 : decode b_Bx_pensionerAt 9 = .ok (.if_icmp .ge 12, 3) := by decide +kernel
set_option maxRecDepth 100000 in
theorem d_Bx_pensionerAt_12 : decode b_Bx_pensionerAt 12 = .ok (.aload_n 0, 1) := by decide +kernel
set_option maxRecDepth 100000 in
theorem d_Bx_pensionerAt_13 : decode b_Bx_pensionerAt 13 = .ok (.getfield 17, 3) := by decide +kernel
set_option maxRecDepth 100000 in
theorem d_Bx_pensionerAt_16 : decode b_Bx_pensionerAt 16 = .ok (.iload_n 1, 1) := by decide +kernel
set_option maxRecDepth 100000 in
theorem d_Bx_pensionerAt_17 : decode b_Bx_pensionerAt 17 = .ok (.aaload, 1) := by decide +kernel
set_option maxRecDepth 100000 in
theorem d_Bx_pensionerAt_18 : decode b_Bx_pensionerAt 18 = .ok (.goto 4, 3) := by decide +kernel
set_option maxRecDepth 100000 in
theorem d_Bx_pensionerAt_21 : decode b_Bx_pensionerAt 21 = .ok (.aconst_null, 1) := by decide +kernel
set_option maxRecDepth 100000 in
theorem d_Bx_pensionerAt_22 : decode b_Bx_pensionerAt 22 = .ok (.areturn, 1) := by decide +kernel
set_option maxRecDepth 100000 in
theorem d_Bx_receive_0 : decode b_Bx_receive 0 = .ok (.aload_n 0, 1) := by decide +kernel
set_option maxRecDepth 100000 in
theorem d_Bx_receive_1 : decode b_Bx_receive 1 = .ok (.dup, 1) := by decide +kernel
set_option maxRecDepth 100000 in
theorem d_Bx_receive_2 : decode b_Bx_receive 2 = .ok (.getfield 21, 3) := by decide +kernel
set_option maxRecDepth 100000 in
theorem d_Bx_receive_5 : decode b_Bx_receive 5 = .ok (.iload_n 2, 1) := by decide +kernel
set_option maxRecDepth 100000 in
theorem d_Bx_receive_6 : decode b_Bx_receive 6 = .ok (.iadd, 1) := by decide +kernel
set_option maxRecDepth 100000 in
theorem d_Bx_receive_7 : decode b_Bx_receive 7 = .ok (.putfield 21, 3) := by decide +kernel
set_option maxRecDepth 100000 in
theorem d_Bx_receive_10 : decode b_Bx_receive 10 = .ok (.iload_n 1, 1) := by decide +kernel
set_option maxRecDepth 100000 in
theorem d_Bx_receive_11 : decode b_Bx_receive 11 = .ok (.invokestatic 25, 3) := by decide +kernel
set_option maxRecDepth 100000 in
theorem d_Bx_receive_14 : decode b_Bx_receive 14 = .ok (.ifCond .eq 13, 3) := by decide +kernel
set_option maxRecDepth 100000 in
theorem d_Bx_receive_17 : decode b_Bx_receive 17 = .ok (.aload_n 0, 1) := by decide +kernel
set_option maxRecDepth 100000 in
theorem d_Bx_receive_18 : decode b_Bx_receive 18 = .ok (.getfield 9, 3) := by decide +kernel
set_option maxRecDepth 100000 in
theorem d_Bx_receive_21 : decode b_Bx_receive 21 = .ok (.iload_n 1, 1) := by decide +kernel
set_option maxRecDepth 100000 in
theorem d_Bx_receive_22 : decode b_Bx_receive 22 = .ok (.dup2, 1) := by decide +kernel
set_option maxRecDepth 100000 in
theorem d_Bx_receive_23 : decode b_Bx_receive 23 = .ok (.iaload, 1) := by decide +kernel
set_option maxRecDepth 100000 in
theorem d_Bx_receive_24 : decode b_Bx_receive 24 = .ok (.iload_n 2, 1) := by decide +kernel
set_option maxRecDepth 100000 in
theorem d_Bx_receive_25 : decode b_Bx_receive 25 = .ok (.iadd, 1) := by decide +kernel
set_option maxRecDepth 100000 in
theorem d_Bx_receive_26 : decode b_Bx_receive 26 = .ok (.iastore, 1) := by decide +kernel
set_option maxRecDepth 100000 in
theorem d_Bx_receive_27 : decode b_Bx_receive 27 = .ok (.return_, 1) := by decide +kernel
set_option maxRecDepth 100000 in
theorem d_Bx_take_0 : decode b_Bx_take 0 = .ok (.aload_n 0, 1) := by decide +kernel
set_option maxRecDepth 100000 in
theorem d_Bx_take_1 : decode b_Bx_take 1 = .ok (.getfield 17, 3) := by decide +kernel
set_option maxRecDepth 100000 in
theorem d_Bx_take_4 : decode b_Bx_take 4 = .ok (.aload_n 0, 1) := by decide +kernel
set_option maxRecDepth 100000 in
theorem d_Bx_take_5 : decode b_Bx_take 5 = .ok (.getfield 29, 3) := by decide +kernel
set_option maxRecDepth 100000 in
theorem d_Bx_take_8 : decode b_Bx_take 8 = .ok (.new 15, 3) := by decide +kernel
set_option maxRecDepth 100000 in
theorem d_Bx_take_11 : decode b_Bx_take 11 = .ok (.dup, 1) := by decide +kernel
set_option maxRecDepth 100000 in
theorem d_Bx_take_12 : decode b_Bx_take 12 = .ok (.iload_n 1, 1) := by decide +kernel
set_option maxRecDepth 100000 in
theorem d_Bx_take_13 : decode b_Bx_take 13 = .ok (.iload_n 2, 1) := by decide +kernel
set_option maxRecDepth 100000 in
theorem d_Bx_take_14 : decode b_Bx_take 14 = .ok (.invokespecial 32, 3) := by decide +kernel
set_option maxRecDepth 100000 in
theorem d_Bx_take_17 : decode b_Bx_take 17 = .ok (.aastore, 1) := by decide +kernel
set_option maxRecDepth 100000 in
theorem d_Bx_take_18 : decode b_Bx_take 18 = .ok (.aload_n 0, 1) := by decide +kernel
set_option maxRecDepth 100000 in
theorem d_Bx_take_19 : decode b_Bx_take 19 = .ok (.dup, 1) := by decide +kernel
set_option maxRecDepth 100000 in
theorem d_Bx_take_20 : decode b_Bx_take 20 = .ok (.getfield 29, 3) := by decide +kernel
set_option maxRecDepth 100000 in
theorem d_Bx_take_23 : decode b_Bx_take 23 = .ok (.iconst 1, 1) := by decide +kernel
set_option maxRecDepth 100000 in
theorem d_Bx_take_24 : decode b_Bx_take 24 = .ok (.iadd, 1) := by decide +kernel
set_option maxRecDepth 100000 in
theorem d_Bx_take_25 : decode b_Bx_take 25 = .ok (.putfield 29, 3) := by decide +kernel
set_option maxRecDepth 100000 in
theorem d_Bx_take_28 : decode b_Bx_take 28 = .ok (.aload_n 0, 1) := by decide +kernel
set_option maxRecDepth 100000 in
theorem d_Bx_take_29 : decode b_Bx_take 29 = .ok (.getfield 29, 3) := by decide +kernel
set_option maxRecDepth 100000 in
theorem d_Bx_take_32 : decode b_Bx_take 32 = .ok (.iconst 1, 1) := by decide +kernel
set_option maxRecDepth 100000 in
theorem d_Bx_take_33 : decode b_Bx_take 33 = .ok (.isub, 1) := by decide +kernel
set_option maxRecDepth 100000 in
theorem d_Bx_take_34 : decode b_Bx_take 34 = .ok (.ireturn, 1) := by decide +kernel
set_option maxRecDepth 100000 in
theorem d_Mn_isOnWay_0 : decode b_Mn_isOnWay 0 = .ok (.iload_n 1, 1) := by decide +kernel
set_option maxRecDepth 100000 in
theorem d_Mn_isOnWay_1 : decode b_Mn_isOnWay 1 = .ok (.aload_n 0, 1) := by decide +kernel
set_option maxRecDepth 100000 in
theorem d_Mn_isOnWay_2 : decode b_Mn_isOnWay 2 = .ok (.getfield 21, 3) := by decide +kernel
set_option maxRecDepth 100000 in
theorem d_Mn_isOnWay_5 : decode b_Mn_isOnWay 5 = .ok (.if_icmp .ge 7, 3) := by decide +kernel
set_option maxRecDepth 100000 in
theorem d_Mn_isOnWay_8 : decode b_Mn_isOnWay 8 = .ok (.iconst 1, 1) := by decide +kernel
set_option maxRecDepth 100000 in
theorem d_Mn_isOnWay_9 : decode b_Mn_isOnWay 9 = .ok (.goto 4, 3) := by decide +kernel
set_option maxRecDepth 100000 in
theorem d_Mn_isOnWay_12 : decode b_Mn_isOnWay 12 = .ok (.iconst 0, 1) := by decide +kernel
set_option maxRecDepth 100000 in
theorem d_Mn_isOnWay_13 : decode b_Mn_isOnWay 13 = .ok (.ireturn, 1) := by decide +kernel
set_option maxRecDepth 100000 in
theorem d_Mn_setOut_0 : decode b_Mn_setOut 0 = .ok (.aload_n 0, 1) := by decide +kernel
set_option maxRecDepth 100000 in
theorem d_Mn_setOut_1 : decode b_Mn_setOut 1 = .ok (.iload_n 1, 1) := by decide +kernel
set_option maxRecDepth 100000 in
theorem d_Mn_setOut_2 : decode b_Mn_setOut 2 = .ok (.putfield 21, 3) := by decide +kernel
set_option maxRecDepth 100000 in
theorem d_Mn_setOut_5 : decode b_Mn_setOut 5 = .ok (.aload_n 0, 1) := by decide +kernel
set_option maxRecDepth 100000 in
theorem d_Mn_setOut_6 : decode b_Mn_setOut 6 = .ok (.iconst (-1), 1) := by decide +kernel
set_option maxRecDepth 100000 in
theorem d_Mn_setOut_7 : decode b_Mn_setOut 7 = .ok (.putfield 15, 3) := by decide +kernel
set_option maxRecDepth 100000 in
theorem d_Mn_setOut_10 : decode b_Mn_setOut 10 = .ok (.aload_n 0, 1) := by decide +kernel
set_option maxRecDepth 100000 in
theorem d_Mn_setOut_11 : decode b_Mn_setOut 11 = .ok (.dup, 1) := by decide +kernel
set_option maxRecDepth 100000 in
theorem d_Mn_setOut_12 : decode b_Mn_setOut 12 = .ok (.getfield 24, 3) := by decide +kernel
set_option maxRecDepth 100000 in
theorem d_Mn_setOut_15 : decode b_Mn_setOut 15 = .ok (.iconst 1, 1) := by decide +kernel
set_option maxRecDepth 100000 in
theorem d_Mn_setOut_16 : decode b_Mn_setOut 16 = .ok (.iadd, 1) := by decide +kernel
set_option maxRecDepth 100000 in
theorem d_Mn_setOut_17 : decode b_Mn_setOut 17 = .ok (.putfield 24, 3) := by decide +kernel
set_option maxRecDepth 100000 in
theorem d_Mn_setOut_20 : decode b_Mn_setOut 20 = .ok (.return_, 1) := by decide +kernel
set_option maxRecDepth 100000 in
theorem d_Or_addLine_0 : decode b_Or_addLine 0 = .ok (.iload_n 1, 1) := by decide +kernel
set_option maxRecDepth 100000 in
theorem d_Or_addLine_1 : decode b_Or_addLine 1 = .ok (.ifCond .ne 31, 3) := by decide +kernel
set_option maxRecDepth 100000 in
theorem d_Or_addLine_4 : decode b_Or_addLine 4 = .ok (.aload_n 0, 1) := by decide +kernel
set_option maxRecDepth 100000 in
theorem d_Or_addLine_5 : decode b_Or_addLine 5 = .ok (.getfield 9, 3) := by decide +kernel
set_option maxRecDepth 100000 in
theorem d_Or_addLine_8 : decode b_Or_addLine 8 = .ok (.aload_n 0, 1) := by decide +kernel
set_option maxRecDepth 100000 in
theorem d_Or_addLine_9 : decode b_Or_addLine 9 = .ok (.getfield 23, 3) := by decide +kernel
set_option maxRecDepth 100000 in
theorem d_Or_addLine_12 : decode b_Or_addLine 12 = .ok (.iload_n 2, 1) := by decide +kernel
set_option maxRecDepth 100000 in
theorem d_Or_addLine_13 : decode b_Or_addLine 13 = .ok (.iload_n 3, 1) := by decide +kernel
set_option maxRecDepth 100000 in
theorem d_Or_addLine_14 : decode b_Or_addLine 14 = .ok (.iload 4, 2) := by decide +kernel
set_option maxRecDepth 100000 in
theorem d_Or_addLine_16 : decode b_Or_addLine 16 = .ok (.invokestatic 30, 3) := by decide +kernel
set_option maxRecDepth 100000 in
theorem d_Or_addLine_19 : decode b_Or_addLine 19 = .ok (.aload_n 0, 1) := by decide +kernel
set_option maxRecDepth 100000 in
theorem d_Or_addLine_20 : decode b_Or_addLine 20 = .ok (.dup, 1) := by decide +kernel
set_option maxRecDepth 100000 in
theorem d_Or_addLine_21 : decode b_Or_addLine 21 = .ok (.getfield 23, 3) := by decide +kernel
set_option maxRecDepth 100000 in
theorem d_Or_addLine_24 : decode b_Or_addLine 24 = .ok (.iconst 1, 1) := by decide +kernel
set_option maxRecDepth 100000 in
theorem d_Or_addLine_25 : decode b_Or_addLine 25 = .ok (.iadd, 1) := by decide +kernel
set_option maxRecDepth 100000 in
theorem d_Or_addLine_26 : decode b_Or_addLine 26 = .ok (.putfield 23, 3) := by decide +kernel
set_option maxRecDepth 100000 in
theorem d_Or_addLine_29 : decode b_Or_addLine 29 = .ok (.goto 59, 3) := by decide +kernel
set_option maxRecDepth 100000 in
theorem d_Or_addLine_32 : decode b_Or_addLine 32 = .ok (.iload_n 1, 1) := by decide +kernel
set_option maxRecDepth 100000 in
theorem d_Or_addLine_33 : decode b_Or_addLine 33 = .ok (.iconst 1, 1) := by decide +kernel
set_option maxRecDepth 100000 in
theorem d_Or_addLine_34 : decode b_Or_addLine 34 = .ok (.if_icmp .ne 31, 3) := by decide +kernel
set_option maxRecDepth 100000 in
theorem d_Or_addLine_37 : decode b_Or_addLine 37 = .ok (.aload_n 0, 1) := by decide +kernel
set_option maxRecDepth 100000 in
theorem d_Or_addLine_38 : decode b_Or_addLine 38 = .ok (.getfield 15, 3) := by decide +kernel
set_option maxRecDepth 100000 in
theorem d_Or_addLine_41 : decode b_Or_addLine 41 = .ok (.aload_n 0, 1) := by decide +kernel
set_option maxRecDepth 100000 in
theorem d_Or_addLine_42 : decode b_Or_addLine 42 = .ok (.getfield 27, 3) := by decide +kernel
set_option maxRecDepth 100000 in
theorem d_Or_addLine_45 : decode b_Or_addLine 45 = .ok (.iload_n 2, 1) := by decide +kernel
set_option maxRecDepth 100000 in
theorem d_Or_addLine_46 : decode b_Or_addLine 46 = .ok (.iload_n 3, 1) := by decide +kernel
set_option maxRecDepth 100000 in
theorem d_Or_addLine_47 : decode b_Or_addLine 47 = .ok (.iload 4, 2) := by decide +kernel
set_option maxRecDepth 100000 in
theorem d_Or_addLine_49 : decode b_Or_addLine 49 = .ok (.invokestatic 30, 3) := by decide +kernel
set_option maxRecDepth 100000 in
theorem d_Or_addLine_52 : decode b_Or_addLine 52 = .ok (.aload_n 0, 1) := by decide +kernel
set_option maxRecDepth 100000 in
theorem d_Or_addLine_53 : decode b_Or_addLine 53 = .ok (.dup, 1) := by decide +kernel
set_option maxRecDepth 100000 in
theorem d_Or_addLine_54 : decode b_Or_addLine 54 = .ok (.getfield 27, 3) := by decide +kernel
set_option maxRecDepth 100000 in
theorem d_Or_addLine_57 : decode b_Or_addLine 57 = .ok (.iconst 1, 1) := by decide +kernel
set_option maxRecDepth 100000 in
theorem d_Or_addLine_58 : decode b_Or_addLine 58 = .ok (.iadd, 1) := by decide +kernel
set_option maxRecDepth 100000 in
theorem d_Or_addLine_59 : decode b_Or_addLine 59 = .ok (.putfield 27, 3) := by decide +kernel
set_option maxRecDepth 100000 in
theorem d_Or_addLine_62 : decode b_Or_addLine 62 = .ok (.goto 26, 3) := by decide +kernel
set_option maxRecDepth 100000 in
theorem d_Or_addLine_65 : decode b_Or_addLine 65 = .ok (.aload_n 0, 1) := by decide +kernel
set_option maxRecDepth 100000 in
theorem d_Or_addLine_66 : decode b_Or_addLine 66 = .ok (.getfield 20, 3) := by decide +kernel
set_option maxRecDepth 100000 in
theorem d_Or_addLine_69 : decode b_Or_addLine 69 = .ok (.iload_n 1, 1) := by decide +kernel
set_option maxRecDepth 100000 in
theorem d_Or_addLine_70 : decode b_Or_addLine 70 = .ok (.iload_n 2, 1) := by decide +kernel
set_option maxRecDepth 100000 in
theorem d_Or_addLine_71 : decode b_Or_addLine 71 = .ok (.iastore, 1) := by decide +kernel
set_option maxRecDepth 100000 in
theorem d_Or_addLine_72 : decode b_Or_addLine 72 = .ok (.iload_n 1, 1) := by decide +kernel
set_option maxRecDepth 100000 in
theorem d_Or_addLine_73 : decode b_Or_addLine 73 = .ok (.bipush 6, 2) := by decide +kernel
set_option maxRecDepth 100000 in
theorem d_Or_addLine_75 : decode b_Or_addLine 75 = .ok (.if_icmp .ne 13, 3) := by decide +kernel
set_option maxRecDepth 100000 in
theorem d_Or_addLine_78 : decode b_Or_addLine 78 = .ok (.aload_n 0, 1) := by decide +kernel
set_option maxRecDepth 100000 in
theorem d_Or_addLine_79 : decode b_Or_addLine 79 = .ok (.iload_n 2, 1) := by decide +kernel
set_option maxRecDepth 100000 in
theorem d_Or_addLine_80 : decode b_Or_addLine 80 = .ok (.putfield 34, 3) := by decide +kernel
set_option maxRecDepth 100000 in
theorem d_Or_addLine_83 : decode b_Or_addLine 83 = .ok (.aload_n 0, 1) := by decide +kernel
set_option maxRecDepth 100000 in
theorem d_Or_addLine_84 : decode b_Or_addLine 84 = .ok (.iload_n 3, 1) := by decide +kernel
set_option maxRecDepth 100000 in
theorem d_Or_addLine_85 : decode b_Or_addLine 85 = .ok (.putfield 37, 3) := by decide +kernel
set_option maxRecDepth 100000 in
theorem d_Or_addLine_88 : decode b_Or_addLine 88 = .ok (.return_, 1) := by decide +kernel
set_option maxRecDepth 100000 in
theorem d_Or_basePrice_0 : decode b_Or_basePrice 0 = .ok (.iconst 0, 1) := by decide +kernel
set_option maxRecDepth 100000 in
theorem d_Or_basePrice_1 : decode b_Or_basePrice 1 = .ok (.istore_n 2, 1) := by decide +kernel
set_option maxRecDepth 100000 in
theorem d_Or_basePrice_2 : decode b_Or_basePrice 2 = .ok (.iload_n 2, 1) := by decide +kernel
