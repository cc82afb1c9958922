set_option maxRecDepth 100000 in
theorem d_Bx_init_0 : decode b_Bx_init 0 = .ok (.aload_n 0, 1) := by decide +kernel
set_option maxRecDepth 100000 in
theorem d_Bx_init_1 : decode b_Bx_init 1 = .ok (.invokespecial 3, 3) := by decide +kernel
set_option maxRecDepth 100000 in
theorem d_Bx_init_4 : decode b_Bx_init 4 = .ok (.aload_n 0, 1) := by decide +kernel
set_option maxRecDepth 100000 in
theorem d_Bx_init_5 : decode b_Bx_init 5 = .ok (.sipush 500, 3) := by decide +kernel
set_option maxRecDepth 100000 in
theorem d_Bx_init_8 : decode b_Bx_init 8 = .ok (.newarray .int, 2) := by decide +kernel
set_option maxRecDepth 100000 in
theorem d_Bx_init_10 : decode b_Bx_init 10 = .ok (.putfield 9, 3) := by decide +kernel
set_option maxRecDepth 100000 in
theorem d_Bx_init_13 : decode b_Bx_init 13 = .ok (.aload_n 0, 1) := by decide +kernel
set_option maxRecDepth 100000 in
theorem d_Bx_init_14 : decode b_Bx_init 14 = .ok (.bipush 30, 2) := by decide +kernel
set_option maxRecDepth 100000 in
theorem d_Bx_init_16 : decode b_Bx_init 16 = .ok (.anewarray 15, 3) := by decide +kernel
set_option maxRecDepth 100000 in
theorem d_Bx_init_19 : decode b_Bx_init 19 = .ok (.putfield 17, 3) := by decide +kernel
set_option maxRecDepth 100000 in
theorem d_Bx_init_22 : decode b_Bx_init 22 = .ok (.return_, 1) := by decide +kernel
set_option maxRecDepth 100000 in
theorem d_Mn_init_0 : decode b_Mn_init 0 = .ok (.aload_n 0, 1) := by decide +kernel
set_option maxRecDepth 100000 in
theorem d_Mn_init_1 : decode b_Mn_init 1 = .ok (.invokespecial 3, 3) := by decide +kernel
set_option maxRecDepth 100000 in
theorem d_Mn_init_4 : decode b_Mn_init 4 = .ok (.aload_n 0, 1) := by decide +kernel
set_option maxRecDepth 100000 in
theorem d_Mn_init_5 : decode b_Mn_init 5 = .ok (.iconst 0, 1) := by decide +kernel
set_option maxRecDepth 100000 in
theorem d_Mn_init_6 : decode b_Mn_init 6 = .ok (.putfield 9, 3) := by decide +kernel
set_option maxRecDepth 100000 in
theorem d_Mn_init_9 : decode b_Mn_init 9 = .ok (.aload_n 0, 1) := by decide +kernel
set_option maxRecDepth 100000 in
theorem d_Mn_init_10 : decode b_Mn_init 10 = .ok (.iconst (-1), 1) := by decide +kernel
set_option maxRecDepth 100000 in
theorem d_Mn_init_11 : decode b_Mn_init 11 = .ok (.putfield 15, 3) := by decide +kernel
set_option maxRecDepth 100000 in
theorem d_Mn_init_14 : decode b_Mn_init 14 = .ok (.aload_n 0, 1) := by decide +kernel
set_option maxRecDepth 100000 in
theorem d_Mn_init_15 : decode b_Mn_init 15 = .ok (.iconst (-1), 1) := by decide +kernel
set_option maxRecDepth 100000 in
theorem d_Mn_init_16 : decode b_Mn_init 16 = .ok (.putfield 18, 3) := by decide +kernel
set_option maxRecDepth 100000 in
theorem d_Mn_init_19 : decode b_Mn_init 19 = .ok (.return_, 1) := by decide +kernel
set_option maxRecDepth 100000 in
theorem d_Or_init_0 : decode b_Or_init 0 = .ok (.aload_n 0, 1) := by decide +kernel
set_option maxRecDepth 100000 in
theorem d_Or_init_1 : decode b_Or_init 1 = .ok (.invokespecial 3, 3) := by decide +kernel
set_option maxRecDepth 100000 in
theorem d_Or_init_4 : decode b_Or_init 4 = .ok (.aload_n 0, 1) := by decide +kernel
set_option maxRecDepth 100000 in
theorem d_Or_init_5 : decode b_Or_init 5 = .ok (.bipush 36, 2) := by decide +kernel
set_option maxRecDepth 100000 in
theorem d_Or_init_7 : decode b_Or_init 7 = .ok (.newarray .int, 2) := by decide +kernel
set_option maxRecDepth 100000 in
theorem d_Or_init_9 : decode b_Or_init 9 = .ok (.putfield 9, 3) := by decide +kernel
set_option maxRecDepth 100000 in
theorem d_Or_init_12 : decode b_Or_init 12 = .ok (.aload_n 0, 1) := by decide +kernel
set_option maxRecDepth 100000 in
theorem d_Or_init_13 : decode b_Or_init 13 = .ok (.bipush 36, 2) := by decide +kernel
set_option maxRecDepth 100000 in
theorem d_Or_init_15 : decode b_Or_init 15 = .ok (.newarray .int, 2) := by decide +kernel
set_option maxRecDepth 100000 in
theorem d_Or_init_17 : decode b_Or_init 17 = .ok (.putfield 15, 3) := by decide +kernel
set_option maxRecDepth 100000 in
theorem d_Or_init_20 : decode b_Or_init 20 = .ok (.aload_n 0, 1) := by decide +kernel
set_option maxRecDepth 100000 in
theorem d_Or_init_21 : decode b_Or_init 21 = .ok (.bipush 9, 2) := by decide +kernel
set_option maxRecDepth 100000 in
theorem d_Or_init_23 : decode b_Or_init 23 = .ok (.newarray .int, 2) := by decide +kernel
set_option maxRecDepth 100000 in
theorem d_Or_init_25 : decode b_Or_init 25 = .ok (.putfield 20, 3) := by decide +kernel
set_option maxRecDepth 100000 in
theorem d_Or_init_28 : decode b_Or_init 28 = .ok (.return_, 1) := by decide +kernel
set_option maxRecDepth 100000 in
theorem d_Rv_init_0 : decode b_Rv_init 0 = .ok (.aload_n 0, 1) := by decide +kernel
set_option maxRecDepth 100000 in
theorem d_Rv_init_1 : decode b_Rv_init 1 = .ok (.invokespecial 3, 3) := by decide +kernel
set_option maxRecDepth 100000 in
theorem d_Rv_init_4 : decode b_Rv_init 4 = .ok (.aload_n 0, 1) := by decide +kernel
set_option maxRecDepth 100000 in
theorem d_Rv_init_5 : decode b_Rv_init 5 = .ok (.bipush 12, 2) := by decide +kernel
set_option maxRecDepth 100000 in
theorem d_Rv_init_7 : decode b_Rv_init 7 = .ok (.newarray .int, 2) := by decide +kernel
set_option maxRecDepth 100000 in
theorem d_Rv_init_9 : decode b_Rv_init 9 = .ok (.putfield 9, 3) := by decide +kernel
set_option maxRecDepth 100000 in
theorem d_Rv_init_12 : decode b_Rv_init 12 = .ok (.aload_n 0, 1) := by decide +kernel
set_option maxRecDepth 100000 in
theorem d_Rv_init_13 : decode b_Rv_init 13 = .ok (.bipush 12, 2) := by decide +kernel
set_option maxRecDepth 100000 in
theorem d_Rv_init_15 : decode b_Rv_init 15 = .ok (.newarray .int, 2) := by decide +kernel
set_option maxRecDepth 100000 in
theorem d_Rv_init_17 : decode b_Rv_init 17 = .ok (.putfield 15, 3) := by decide +kernel
set_option maxRecDepth 100000 in
theorem d_Rv_init_20 : decode b_Rv_init 20 = .ok (.aload_n 0, 1) := by decide +kernel
set_option maxRecDepth 100000 in
theorem d_Rv_init_21 : decode b_Rv_init 21 = .ok (.sipush 500, 3) := by decide +kernel
set_option maxRecDepth 100000 in
theorem d_Rv_init_24 : decode b_Rv_init 24 = .ok (.anewarray 18, 3) := by decide +kernel
set_option maxRecDepth 100000 in
theorem d_Rv_init_27 : decode b_Rv_init 27 = .ok (.putfield 19, 3) := by decide +kernel
set_option maxRecDepth 100000 in
theorem d_Rv_init_30 : decode b_Rv_init 30 = .ok (.aload_n 0, 1) := by decide +kernel
set_option maxRecDepth 100000 in
theorem d_Rv_init_31 : decode b_Rv_init 31 = .ok (.sipush 500, 3) := by decide +kernel
set_option maxRecDepth 100000 in
theorem d_Rv_init_34 : decode b_Rv_init 34 = .ok (.newarray .boolean, 2) := by decide +kernel
set_option maxRecDepth 100000 in
theorem d_Rv_init_36 : decode b_Rv_init 36 = .ok (.putfield 23, 3) := by decide +kernel
set_option maxRecDepth 100000 in
theorem d_Rv_init_39 : decode b_Rv_init 39 = .ok (.aload_n 0, 1) := by decide +kernel
set_option maxRecDepth 100000 in
theorem d_Rv_init_40 : decode b_Rv_init 40 = .ok (.iconst (-1), 1) := by decide +kernel
set_option maxRecDepth 100000 in
theorem d_Rv_init_41 : decode b_Rv_init 41 = .ok (.putfield 27, 3) := by decide +kernel
set_option maxRecDepth 100000 in
theorem d_Rv_init_44 : decode b_Rv_init 44 = .ok (.return_, 1) := by decide +kernel
set_option maxRecDepth 100000 in
theorem d_Tp_init_0 : decode b_Tp_init 0 = .ok (.aload_n 0, 1) := by decide +kernel
set_option maxRecDepth 100000 in
theorem d_Tp_init_1 : decode b_Tp_init 1 = .ok (.invokespecial 3, 3) := by decide +kernel
set_option maxRecDepth 100000 in
theorem d_Tp_init_4 : decode b_Tp_init 4 = .ok (.aload_n 0, 1) := by decide +kernel
set_option maxRecDepth 100000 in
theorem d_Tp_init_5 : decode b_Tp_init 5 = .ok (.sipush 400, 3) := by decide +kernel
set_option maxRecDepth 100000 in
theorem d_Tp_init_8 : decode b_Tp_init 8 = .ok (.newarray .byte, 2) := by decide +kernel
set_option maxRecDepth 100000 in
theorem d_Tp_init_10 : decode b_Tp_init 10 = .ok (.putfield 9, 3) := by decide +kernel
set_option maxRecDepth 100000 in
theorem d_Tp_init_13 : decode b_Tp_init 13 = .ok (.return_, 1) := by decide +kernel
set_option maxRecDepth 100000 in
theorem d_WM_init_0 : decode b_WM_init 0 = .ok (.aload_n 0, 1) := by decide +kernel
set_option maxRecDepth 100000 in
theorem d_WM_init_1 : decode b_WM_init 1 = .ok (.invokespecial 3, 3) := by decide +kernel
set_option maxRecDepth 100000 in
theorem d_WM_init_4 : decode b_WM_init 4 = .ok (.aload_n 0, 1) := by decide +kernel
set_option maxRecDepth 100000 in
theorem d_WM_init_5 : decode b_WM_init 5 = .ok (.new 9, 3) := by decide +kernel
set_option maxRecDepth 100000 in
theorem d_WM_init_8 : decode b_WM_init 8 = .ok (.dup, 1) := by decide +kernel
set_option maxRecDepth 100000 in
theorem d_WM_init_9 : decode b_WM_init 9 = .ok (.invokespecial 11, 3) := by decide +kernel
set_option maxRecDepth 100000 in
theorem d_WM_init_12 : decode b_WM_init 12 = .ok (.putfield 12, 3) := by decide +kernel
set_option maxRecDepth 100000 in
theorem d_WM_init_15 : decode b_WM_init 15 = .ok (.aload_n 0, 1) := by decide +kernel
set_option maxRecDepth 100000 in
theorem d_WM_init_16 : decode b_WM_init 16 = .ok (.bipush 40, 2) := by decide +kernel
set_option maxRecDepth 100000 in
theorem d_WM_init_18 : decode b_WM_init 18 = .ok (.anewarray 16, 3) := by decide +kernel
set_option maxRecDepth 100000 in
theorem d_WM_init_21 : decode b_WM_init 21 = .ok (.putfield 18, 3) := by decide +kernel
set_option maxRecDepth 100000 in
theorem d_WM_init_24 : decode b_WM_init 24 = .ok (.aload_n 0, 1) := by decide +kernel
set_option maxRecDepth 100000 in
theorem d_WM_init_25 : decode b_WM_init 25 = .ok (.bipush 20, 2) := by decide +kernel
set_option maxRecDepth 100000 in
theorem d_WM_init_27 : decode b_WM_init 27 = .ok (.anewarray 22, 3) := by decide +kernel
set_option maxRecDepth 100000 in
theorem d_WM_init_30 : decode b_WM_init 30 = .ok (.putfield 24, 3) := by decide +kernel
set_option maxRecDepth 100000 in
theorem d_WM_init_33 : decode b_WM_init 33 = .ok (.aload_n 0, 1) := by decide +kernel
set_option maxRecDepth 100000 in
theorem d_WM_init_34 : decode b_WM_init 34 = .ok (.bipush 20, 2) := by decide +kernel
set_option maxRecDepth 100000 in
theorem d_WM_init_36 : decode b_WM_init 36 = .ok (.anewarray 28, 3) := by decide +kernel
set_option maxRecDepth 100000 in
theorem d_WM_init_39 : decode b_WM_init 39 = .ok (.putfield 30, 3) := by decide +kernel
set_option maxRecDepth 100000 in
theorem d_WM_init_42 : decode b_WM_init 42 = .ok (.aload_n 0, 1) := by decide +kernel
set_option maxRecDepth 100000 in
theorem d_WM_init_43 : decode b_WM_init 43 = .ok (.sipush 600, 3) := by decide +kernel
set_option maxRecDepth 100000 in
theorem d_WM_init_46 : decode b_WM_init 46 = .ok (.anewarray 34, 3) := by decide +kernel
set_option maxRecDepth 100000 in
theorem d_WM_init_49 : decode b_WM_init 49 = .ok (.putfield 36, 3) := by decide +kernel
set_option maxRecDepth 100000 in
theorem d_WM_init_52 : decode b_WM_init 52 = .ok (.aload_n 0, 1) := by decide +kernel
set_option maxRecDepth 100000 in
theorem d_WM_init_53 : decode b_WM_init 53 = .ok (.new 40, 3) := by decide +kernel
set_option maxRecDepth 100000 in
theorem d_WM_init_56 : decode b_WM_init 56 = .ok (.dup, 1) := by decide +kernel
set_option maxRecDepth 100000 in
theorem d_WM_init_57 : decode b_WM_init 57 = .ok (.invokespecial 42, 3) := by decide +kernel
set_option maxRecDepth 100000 in
theorem d_WM_init_60 : decode b_WM_init 60 = .ok (.putfield 43, 3) := by decide +kernel
set_option maxRecDepth 100000 in
theorem d_WM_init_63 : decode b_WM_init 63 = .ok (.aload_n 0, 1) := by decide +kernel
set_option maxRecDepth 100000 in
theorem d_WM_init_64 : decode b_WM_init 64 = .ok (.new 47, 3) := by decide +kernel
set_option maxRecDepth 100000 in
theorem d_WM_init_67 : decode b_WM_init 67 = .ok (.dup, 1) := by decide +kernel
set_option maxRecDepth 100000 in
theorem d_WM_init_68 : decode b_WM_init 68 = .ok (.invokespecial 49, 3) := by decide +kernel
set_option maxRecDepth 100000 in
theorem d_WM_init_71 : decode b_WM_init 71 = .ok (.putfield 50, 3) := by decide +kernel
set_option maxRecDepth 100000 in
theorem d_WM_init_74 : decode b_WM_init 74 = .ok (.aload_n 0, 1) := by decide +kernel
set_option maxRecDepth 100000 in
theorem d_WM_init_75 : decode b_WM_init 75 = .ok (.new 28, 3) := by decide +kernel
set_option maxRecDepth 100000 in
theorem d_WM_init_78 : decode b_WM_init 78 = .ok (.dup, 1) := by decide +kernel
set_option maxRecDepth 100000 in
theorem d_WM_init_79 : decode b_WM_init 79 = .ok (.invokespecial 54, 3) := by decide +kernel
set_option maxRecDepth 100000 in
theorem d_WM_init_82 : decode b_WM_init 82 = .ok (.putfield 55, 3) := by decide +kernel
set_option maxRecDepth 100000 in
theorem d_WM_init_85 : decode b_WM_init 85 = .ok (.iconst 0, 1) := by decide +kernel
set_option maxRecDepth 100000 in
theorem d_WM_init_86 : decode b_WM_init 86 = .ok (.istore_n 1, 1) := by decide +kernel
set_option maxRecDepth 100000 in
theorem d_WM_init_87 : decode b_WM_init 87 = .ok (.iload_n 1, 1) := by decide +kernel
set_option maxRecDepth 100000 in
theorem d_WM_init_88 : decode b_WM_init 88 = .ok (.bipush 40, 2) := by decide +kernel
set_option maxRecDepth 100000 in
theorem d_WM_init_90 : decode b_WM_init 90 = .ok (.if_icmp .ge 22, 3) := by decide +kernel
set_option maxRecDepth 100000 in
theorem d_WM_init_93 : decode b_WM_init 93 = .ok (.aload_n 0, 1) := by decide +kernel
set_option maxRecDepth 100000 in
theorem d_WM_init_94 : decode b_WM_init 94 = .ok (.getfield 18, 3) := by decide +kernel
set_option maxRecDepth 100000 in
theorem d_WM_init_97 : decode b_WM_init 97 = .ok (.iload_n 1, 1) := by decide +kernel
set_option maxRecDepth 100000 in
theorem d_WM_init_98 : decode b_WM_init 98 = .ok (.new 16, 3) := by decide +kernel
set_option maxRecDepth 100000 in
theorem d_WM_init_101 : decode b_WM_init 101 = .ok (.dup, 1) := by decide +kernel
set_option maxRecDepth 100000 in
theorem d_WM_init_102 : decode b_WM_init 102 = .ok (.invokespecial 59, 3) := by decide +kernel
set_option maxRecDepth 100000 in
theorem d_WM_init_105 : decode b_WM_init 105 = .ok (.aastore, 1) := by decide +kernel
set_option maxRecDepth 100000 in
theorem d_WM_init_106 : decode b_WM_init 106 = .ok (.iinc 1 1, 3) := by decide +kernel
set_option maxRecDepth 100000 in
theorem d_WM_init_109 : decode b_WM_init 109 = .ok (.goto (-22), 3) := by decide +kernel
set_option maxRecDepth 100000 in
theorem d_WM_init_112 : decode b_WM_init 112 = .ok (.return_, 1) := by decide +kernel
