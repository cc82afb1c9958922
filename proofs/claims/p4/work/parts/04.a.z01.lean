set_option maxRecDepth 100000 in
theorem d_Or_lineHolds_11 : decode b_Or_lineHolds 11 = .ok (.iload_n 1, 1) := by decide +kernel
set_option maxRecDepth 100000 in
theorem d_Or_lineHolds_12 : decode b_Or_lineHolds 12 = .ok (.iconst 3, 1) := by decide +kernel
set_option maxRecDepth 100000 in
theorem d_Or_lineHolds_13 : decode b_Or_lineHolds 13 = .ok (.imul, 1) := by decide +kernel
set_option maxRecDepth 100000 in
theorem d_Or_lineHolds_14 : decode b_Or_lineHolds 14 = .ok (.iconst 1, 1) := by decide +kernel
set_option maxRecDepth 100000 in
theorem d_Or_lineHolds_15 : decode b_Or_lineHolds 15 = .ok (.iadd, 1) := by decide +kernel
set_option maxRecDepth 100000 in
theorem d_Or_lineHolds_16 : decode b_Or_lineHolds 16 = .ok (.iaload, 1) := by decide +kernel
set_option maxRecDepth 100000 in
theorem d_Or_lineHolds_17 : decode b_Or_lineHolds 17 = .ok (.if_icmp .gt 7, 3) := by decide +kernel
set_option maxRecDepth 100000 in
theorem d_Or_lineHolds_20 : decode b_Or_lineHolds 20 = .ok (.iconst 1, 1) := by decide +kernel
set_option maxRecDepth 100000 in
theorem d_Or_lineHolds_21 : decode b_Or_lineHolds 21 = .ok (.goto 4, 3) := by decide +kernel
set_option maxRecDepth 100000 in
theorem d_Or_lineHolds_24 : decode b_Or_lineHolds 24 = .ok (.iconst 0, 1) := by decide +kernel
set_option maxRecDepth 100000 in
theorem d_Or_lineHolds_25 : decode b_Or_lineHolds 25 = .ok (.ireturn, 1) := by decide +kernel
set_option maxRecDepth 100000 in
theorem d_Or_price_0 : decode b_Or_price 0 = .ok (.aload_n 0, 1) := by decide +kernel
set_option maxRecDepth 100000 in
theorem d_Or_price_1 : decode b_Or_price 1 = .ok (.iload_n 1, 1) := by decide +kernel
set_option maxRecDepth 100000 in
theorem d_Or_price_2 : decode b_Or_price 2 = .ok (.invokevirtual 40, 3) := by decide +kernel
set_option maxRecDepth 100000 in
theorem d_Or_price_5 : decode b_Or_price 5 = .ok (.istore 6, 2) := by decide +kernel
set_option maxRecDepth 100000 in
theorem d_Or_price_7 : decode b_Or_price 7 = .ok (.iload 6, 2) := by decide +kernel
set_option maxRecDepth 100000 in
theorem d_Or_price_9 : decode b_Or_price 9 = .ok (.iconst (-1), 1) := by decide +kernel
set_option maxRecDepth 100000 in
theorem d_Or_price_10 : decode b_Or_price 10 = .ok (.if_icmp .ne 5, 3) := by decide +kernel
set_option maxRecDepth 100000 in
theorem d_Or_price_13 : decode b_Or_price 13 = .ok (.iconst (-1), 1) := by decide +kernel
set_option maxRecDepth 100000 in
theorem d_Or_price_14 : decode b_Or_price 14 = .ok (.ireturn, 1) := by decide +kernel
set_option maxRecDepth 100000 in
theorem d_Or_price_15 : decode b_Or_price 15 = .ok (.iload_n 2, 1) := by decide +kernel
set_option maxRecDepth 100000 in
theorem d_Or_price_16 : decode b_Or_price 16 = .ok (.ifCond .le 19, 3) := by decide +kernel
set_option maxRecDepth 100000 in
theorem d_Or_price_19 : decode b_Or_price 19 = .ok (.iload 6, 2) := by decide +kernel
set_option maxRecDepth 100000 in
theorem d_Or_price_21 : decode b_Or_price 21 = .ok (.aload_n 0, 1) := by decide +kernel
set_option maxRecDepth 100000 in
theorem d_Or_price_22 : decode b_Or_price 22 = .ok (.getfield 20, 3) := by decide +kernel
set_option maxRecDepth 100000 in
theorem d_Or_price_25 : decode b_Or_price 25 = .ok (.iconst 2, 1) := by decide +kernel
set_option maxRecDepth 100000 in
theorem d_Or_price_26 : decode b_Or_price 26 = .ok (.iaload, 1) := by decide +kernel
set_option maxRecDepth 100000 in
theorem d_Or_price_27 : decode b_Or_price 27 = .ok (.invokestatic 44, 3) := by decide +kernel
set_option maxRecDepth 100000 in
theorem d_Or_price_30 : decode b_Or_price 30 = .ok (.istore 6, 2) := by decide +kernel
set_option maxRecDepth 100000 in
theorem d_Or_price_32 : decode b_Or_price 32 = .ok (.goto 20, 3) := by decide +kernel
set_option maxRecDepth 100000 in
theorem d_Or_price_35 : decode b_Or_price 35 = .ok (.iload_n 2, 1) := by decide +kernel
set_option maxRecDepth 100000 in
theorem d_Or_price_36 : decode b_Or_price 36 = .ok (.ifCond .ge 16, 3) := by decide +kernel
set_option maxRecDepth 100000 in
theorem d_Or_price_39 : decode b_Or_price 39 = .ok (.iload 6, 2) := by decide +kernel
set_option maxRecDepth 100000 in
theorem d_Or_price_41 : decode b_Or_price 41 = .ok (.aload_n 0, 1) := by decide +kernel
set_option maxRecDepth 100000 in
theorem d_Or_price_42 : decode b_Or_price 42 = .ok (.getfield 20, 3) := by decide +kernel
set_option maxRecDepth 100000 in
theorem d_Or_price_45 : decode b_Or_price 45 = .ok (.iconst 3, 1) := by decide +kernel
set_option maxRecDepth 100000 in
theorem d_Or_price_46 : decode b_Or_price 46 = .ok (.iaload, 1) := by decide +kernel
set_option maxRecDepth 100000 in
theorem d_Or_price_47 : decode b_Or_price 47 = .ok (.invokestatic 44, 3) := by decide +kernel
set_option maxRecDepth 100000 in
theorem d_Or_price_50 : decode b_Or_price 50 = .ok (.istore 6, 2) := by decide +kernel
set_option maxRecDepth 100000 in
theorem d_Or_price_52 : decode b_Or_price 52 = .ok (.iconst 0, 1) := by decide +kernel
set_option maxRecDepth 100000 in
theorem d_Or_price_53 : decode b_Or_price 53 = .ok (.istore 7, 2) := by decide +kernel
set_option maxRecDepth 100000 in
theorem d_Or_price_55 : decode b_Or_price 55 = .ok (.iload 7, 2) := by decide +kernel
set_option maxRecDepth 100000 in
theorem d_Or_price_57 : decode b_Or_price 57 = .ok (.aload_n 0, 1) := by decide +kernel
set_option maxRecDepth 100000 in
theorem d_Or_price_58 : decode b_Or_price 58 = .ok (.getfield 27, 3) := by decide +kernel
set_option maxRecDepth 100000 in
theorem d_Or_price_61 : decode b_Or_price 61 = .ok (.if_icmp .ge 41, 3) := by decide +kernel
set_option maxRecDepth 100000 in
theorem d_Or_price_64 : decode b_Or_price 64 = .ok (.aload_n 0, 1) := by decide +kernel
set_option maxRecDepth 100000 in
theorem d_Or_price_65 : decode b_Or_price 65 = .ok (.getfield 15, 3) := by decide +kernel
set_option maxRecDepth 100000 in
theorem d_Or_price_68 : decode b_Or_price 68 = .ok (.iload 7, 2) := by decide +kernel
set_option maxRecDepth 100000 in
theorem d_Or_price_70 : decode b_Or_price 70 = .ok (.iload 4, 2) := by decide +kernel
set_option maxRecDepth 100000 in
theorem d_Or_price_72 : decode b_Or_price 72 = .ok (.invokestatic 48, 3) := by decide +kernel
set_option maxRecDepth 100000 in
theorem d_Or_price_75 : decode b_Or_price 75 = .ok (.ifCond .eq 21, 3) := by decide +kernel
set_option maxRecDepth 100000 in
theorem d_Or_price_78 : decode b_Or_price 78 = .ok (.iload 6, 2) := by decide +kernel
set_option maxRecDepth 100000 in
theorem d_Or_price_80 : decode b_Or_price 80 = .ok (.aload_n 0, 1) := by decide +kernel
set_option maxRecDepth 100000 in
theorem d_Or_price_81 : decode b_Or_price 81 = .ok (.getfield 15, 3) := by decide +kernel
set_option maxRecDepth 100000 in
theorem d_Or_price_84 : decode b_Or_price 84 = .ok (.iload 7, 2) := by decide +kernel
set_option maxRecDepth 100000 in
theorem d_Or_price_86 : decode b_Or_price 86 = .ok (.iconst 3, 1) := by decide +kernel
set_option maxRecDepth 100000 in
theorem d_Or_price_87 : decode b_Or_price 87 = .ok (.imul, 1) := by decide +kernel
set_option maxRecDepth 100000 in
theorem d_Or_price_88 : decode b_Or_price 88 = .ok (.iconst 2, 1) := by decide +kernel
set_option maxRecDepth 100000 in
theorem d_Or_price_89 : decode b_Or_price 89 = .ok (.iadd, 1) := by decide +kernel
set_option maxRecDepth 100000 in
theorem d_Or_price_90 : decode b_Or_price 90 = .ok (.iaload, 1) := by decide +kernel
set_option maxRecDepth 100000 in
theorem d_Or_price_91 : decode b_Or_price 91 = .ok (.invokestatic 44, 3) := by decide +kernel
set_option maxRecDepth 100000 in
theorem d_Or_price_94 : decode b_Or_price 94 = .ok (.istore 6, 2) := by decide +kernel
set_option maxRecDepth 100000 in
theorem d_Or_price_96 : decode b_Or_price 96 = .ok (.iinc 7 1, 3) := by decide +kernel
set_option maxRecDepth 100000 in
theorem d_Or_price_99 : decode b_Or_price 99 = .ok (.goto (-44), 3) := by decide +kernel
set_option maxRecDepth 100000 in
theorem d_Or_price_102 : decode b_Or_price 102 = .ok (.iload_n 3, 1) := by decide +kernel
set_option maxRecDepth 100000 in
theorem d_Or_price_103 : decode b_Or_price 103 = .ok (.invokestatic 52, 3) := by decide +kernel
set_option maxRecDepth 100000 in
theorem d_Or_price_106 : decode b_Or_price 106 = .ok (.ifCond .eq 16, 3) := by decide +kernel
set_option maxRecDepth 100000 in
theorem d_Or_price_109 : decode b_Or_price 109 = .ok (.iload 6, 2) := by decide +kernel
set_option maxRecDepth 100000 in
theorem d_Or_price_111 : decode b_Or_price 111 = .ok (.aload_n 0, 1) := by decide +kernel
set_option maxRecDepth 100000 in
theorem d_Or_price_112 : decode b_Or_price 112 = .ok (.getfield 20, 3) := by decide +kernel
set_option maxRecDepth 100000 in
theorem d_Or_price_115 : decode b_Or_price 115 = .ok (.iconst 4, 1) := by decide +kernel
set_option maxRecDepth 100000 in
theorem d_Or_price_116 : decode b_Or_price 116 = .ok (.iaload, 1) := by decide +kernel
set_option maxRecDepth 100000 in
theorem d_Or_price_117 : decode b_Or_price 117 = .ok (.invokestatic 44, 3) := by decide +kernel
set_option maxRecDepth 100000 in
theorem d_Or_price_120 : decode b_Or_price 120 = .ok (.istore 6, 2) := by decide +kernel
set_option maxRecDepth 100000 in
theorem d_Or_price_122 : decode b_Or_price 122 = .ok (.iload 5, 2) := by decide +kernel
set_option maxRecDepth 100000 in
theorem d_Or_price_124 : decode b_Or_price 124 = .ok (.iconst 2, 1) := by decide +kernel
set_option maxRecDepth 100000 in
theorem d_Or_price_125 : decode b_Or_price 125 = .ok (.if_icmp .ne 17, 3) := by decide +kernel
set_option maxRecDepth 100000 in
theorem d_Or_price_128 : decode b_Or_price 128 = .ok (.iload 6, 2) := by decide +kernel
set_option maxRecDepth 100000 in
theorem d_Or_price_130 : decode b_Or_price 130 = .ok (.aload_n 0, 1) := by decide +kernel
set_option maxRecDepth 100000 in
theorem d_Or_price_131 : decode b_Or_price 131 = .ok (.getfield 20, 3) := by decide +kernel
set_option maxRecDepth 100000 in
theorem d_Or_price_134 : decode b_Or_price 134 = .ok (.bipush 8, 2) := by decide +kernel
set_option maxRecDepth 100000 in
theorem d_Or_price_136 : decode b_Or_price 136 = .ok (.iaload, 1) := by decide +kernel
set_option maxRecDepth 100000 in
theorem d_Or_price_137 : decode b_Or_price 137 = .ok (.invokestatic 44, 3) := by decide +kernel
set_option maxRecDepth 100000 in
theorem d_Or_price_140 : decode b_Or_price 140 = .ok (.istore 6, 2) := by decide +kernel
set_option maxRecDepth 100000 in
theorem d_Or_price_142 : decode b_Or_price 142 = .ok (.iload 6, 2) := by decide +kernel
set_option maxRecDepth 100000 in
theorem d_Or_price_144 : decode b_Or_price 144 = .ok (.aload_n 0, 1) := by decide +kernel
set_option maxRecDepth 100000 in
theorem d_Or_price_145 : decode b_Or_price 145 = .ok (.getfield 20, 3) := by decide +kernel
set_option maxRecDepth 100000 in
theorem d_Or_price_148 : decode b_Or_price 148 = .ok (.iconst 5, 1) := by decide +kernel
set_option maxRecDepth 100000 in
theorem d_Or_price_149 : decode b_Or_price 149 = .ok (.iaload, 1) := by decide +kernel
set_option maxRecDepth 100000 in
theorem d_Or_price_150 : decode b_Or_price 150 = .ok (.invokestatic 56, 3) := by decide +kernel
set_option maxRecDepth 100000 in
theorem d_Or_price_153 : decode b_Or_price 153 = .ok (.ireturn, 1) := by decide +kernel
set_option maxRecDepth 100000 in
theorem d_Or_scaled_0 : decode b_Or_scaled 0 = .ok (.iload_n 1, 1) := by decide +kernel
set_option maxRecDepth 100000 in
theorem d_Or_scaled_1 : decode b_Or_scaled 1 = .ok (.iconst (-1), 1) := by decide +kernel
set_option maxRecDepth 100000 in
theorem d_Or_scaled_2 : decode b_Or_scaled 2 = .ok (.if_icmp .ne 5, 3) := by decide +kernel
set_option maxRecDepth 100000 in
theorem d_Or_scaled_5 : decode b_Or_scaled 5 = .ok (.iload_n 0, 1) := by decide +kernel
set_option maxRecDepth 100000 in
theorem d_Or_scaled_6 : decode b_Or_scaled 6 = .ok (.ireturn, 1) := by decide +kernel
set_option maxRecDepth 100000 in
theorem d_Or_scaled_7 : decode b_Or_scaled 7 = .ok (.iload_n 0, 1) := by decide +kernel
set_option maxRecDepth 100000 in
theorem d_Or_scaled_8 : decode b_Or_scaled 8 = .ok (.i2l, 1) := by decide +kernel
set_option maxRecDepth 100000 in
theorem d_Or_scaled_9 : decode b_Or_scaled 9 = .ok (.iload_n 1, 1) := by decide +kernel
set_option maxRecDepth 100000 in
theorem d_Or_scaled_10 : decode b_Or_scaled 10 = .ok (.i2l, 1) := by decide +kernel
set_option maxRecDepth 100000 in
theorem d_Or_scaled_11 : decode b_Or_scaled 11 = .ok (.lmul, 1) := by decide +kernel
set_option maxRecDepth 100000 in
theorem d_Or_scaled_12 : decode b_Or_scaled 12 = .ok (.ldc2_w 61, 3) := by decide +kernel
set_option maxRecDepth 100000 in
theorem d_Or_scaled_15 : decode b_Or_scaled 15 = .ok (.ldiv, 1) := by decide +kernel
set_option maxRecDepth 100000 in
theorem d_Or_scaled_16 : decode b_Or_scaled 16 = .ok (.lstore_n 2, 1) := by decide +kernel
set_option maxRecDepth 100000 in
theorem d_Or_scaled_17 : decode b_Or_scaled 17 = .ok (.lload_n 2, 1) := by decide +kernel
set_option maxRecDepth 100000 in
theorem d_Or_scaled_18 : decode b_Or_scaled 18 = .ok (.ldc2_w 63, 3) := by decide +kernel
set_option maxRecDepth 100000 in
theorem d_Or_scaled_21 : decode b_Or_scaled 21 = .ok (.lcmp, 1) := by decide +kernel
set_option maxRecDepth 100000 in
theorem d_Or_scaled_22 : decode b_Or_scaled 22 = .ok (.ifCond .le 8, 3) := by decide +kernel
set_option maxRecDepth 100000 in
theorem d_Or_scaled_25 : decode b_Or_scaled 25 = .ok (.ldc 65, 2) := by decide +kernel
set_option maxRecDepth 100000 in
theorem d_Or_scaled_27 : decode b_Or_scaled 27 = .ok (.goto 5, 3) := by decide +kernel
set_option maxRecDepth 100000 in
theorem d_Or_scaled_30 : decode b_Or_scaled 30 = .ok (.lload_n 2, 1) := by decide +kernel
set_option maxRecDepth 100000 in
theorem d_Or_scaled_31 : decode b_Or_scaled 31 = .ok (.l2i, 1) := by decide +kernel
set_option maxRecDepth 100000 in
theorem d_Or_scaled_32 : decode b_Or_scaled 32 = .ok (.ireturn, 1) := by decide +kernel
set_option maxRecDepth 100000 in
theorem d_Or_shutsBridge_0 : decode b_Or_shutsBridge 0 = .ok (.aload_n 0, 1) := by decide +kernel
set_option maxRecDepth 100000 in
theorem d_Or_shutsBridge_1 : decode b_Or_shutsBridge 1 = .ok (.getfield 20, 3) := by decide +kernel
set_option maxRecDepth 100000 in
theorem d_Or_shutsBridge_4 : decode b_Or_shutsBridge 4 = .ok (.bipush 6, 2) := by decide +kernel
set_option maxRecDepth 100000 in
theorem d_Or_shutsBridge_6 : decode b_Or_shutsBridge 6 = .ok (.iaload, 1) := by decide +kernel
set_option maxRecDepth 100000 in
theorem d_Or_shutsBridge_7 : decode b_Or_shutsBridge 7 = .ok (.iconst (-1), 1) := by decide +kernel
set_option maxRecDepth 100000 in
theorem d_Or_shutsBridge_8 : decode b_Or_shutsBridge 8 = .ok (.if_icmp .eq 21, 3) := by decide +kernel
set_option maxRecDepth 100000 in
theorem d_Or_shutsBridge_11 : decode b_Or_shutsBridge 11 = .ok (.iload_n 1, 1) := by decide +kernel
set_option maxRecDepth 100000 in
theorem d_Or_shutsBridge_12 : decode b_Or_shutsBridge 12 = .ok (.aload_n 0, 1) := by decide +kernel
set_option maxRecDepth 100000 in
theorem d_Or_shutsBridge_13 : decode b_Or_shutsBridge 13 = .ok (.getfield 34, 3) := by decide +kernel
set_option maxRecDepth 100000 in
theorem d_Or_shutsBridge_16 : decode b_Or_shutsBridge 16 = .ok (.if_icmp .lt 11, 3) := by decide +kernel
set_option maxRecDepth 100000 in
theorem d_Or_shutsBridge_19 : decode b_Or_shutsBridge 19 = .ok (.iload_n 1, 1) := by decide +kernel
set_option maxRecDepth 100000 in
theorem d_Or_shutsBridge_20 : decode b_Or_shutsBridge 20 = .ok (.aload_n 0, 1) := by decide +kernel
set_option maxRecDepth 100000 in
theorem d_Or_shutsBridge_21 : decode b_Or_shutsBridge 21 = .ok (.getfield 37, 3) := by decide +kernel
set_option maxRecDepth 100000 in
theorem d_Or_shutsBridge_24 : decode b_Or_shutsBridge 24 = .ok (.if_icmp .le 5, 3) := by decide +kernel
set_option maxRecDepth 100000 in
theorem d_Or_shutsBridge_27 : decode b_Or_shutsBridge 27 = .ok (.iconst 1, 1) := by decide +kernel
set_option maxRecDepth 100000 in
theorem d_Or_shutsBridge_28 : decode b_Or_shutsBridge 28 = .ok (.ireturn, 1) := by decide +kernel
set_option maxRecDepth 100000 in
theorem d_Or_shutsBridge_29 : decode b_Or_shutsBridge 29 = .ok (.aload_n 0, 1) := by decide +kernel
set_option maxRecDepth 100000 in
theorem d_Or_shutsBridge_30 : decode b_Or_shutsBridge 30 = .ok (.getfield 20, 3) := by decide +kernel
set_option maxRecDepth 100000 in
theorem d_Or_shutsBridge_33 : decode b_Or_shutsBridge 33 = .ok (.bipush 7, 2) := by decide +kernel
set_option maxRecDepth 100000 in
theorem d_Or_shutsBridge_35 : decode b_Or_shutsBridge 35 = .ok (.iaload, 1) := by decide +kernel
set_option maxRecDepth 100000 in
theorem d_Or_shutsBridge_36 : decode b_Or_shutsBridge 36 = .ok (.istore_n 3, 1) := by decide +kernel
set_option maxRecDepth 100000 in
theorem d_Or_shutsBridge_37 : decode b_Or_shutsBridge 37 = .ok (.iload_n 3, 1) := by decide +kernel
set_option maxRecDepth 100000 in
theorem d_Or_shutsBridge_38 : decode b_Or_shutsBridge 38 = .ok (.iconst (-1), 1) := by decide +kernel
set_option maxRecDepth 100000 in
theorem d_Or_shutsBridge_39 : decode b_Or_shutsBridge 39 = .ok (.if_icmp .eq 15, 3) := by decide +kernel
set_option maxRecDepth 100000 in
theorem d_Or_shutsBridge_42 : decode b_Or_shutsBridge 42 = .ok (.iload_n 2, 1) := by decide +kernel
set_option maxRecDepth 100000 in
theorem d_Or_shutsBridge_43 : decode b_Or_shutsBridge 43 = .ok (.invokestatic 66, 3) := by decide +kernel
set_option maxRecDepth 100000 in
theorem d_Or_shutsBridge_46 : decode b_Or_shutsBridge 46 = .ok (.iload_n 3, 1) := by decide +kernel
set_option maxRecDepth 100000 in
theorem d_Or_shutsBridge_47 : decode b_Or_shutsBridge 47 = .ok (.if_icmp .le 7, 3) := by decide +kernel
set_option maxRecDepth 100000 in
theorem d_Or_shutsBridge_50 : decode b_Or_shutsBridge 50 = .ok (.iconst 1, 1) := by decide +kernel
set_option maxRecDepth 100000 in
theorem d_Or_shutsBridge_51 : decode b_Or_shutsBridge 51 = .ok (.goto 4, 3) := by decide +kernel
set_option maxRecDepth 100000 in
theorem d_Or_shutsBridge_54 : decode b_Or_shutsBridge 54 = .ok (.iconst 0, 1) := by decide +kernel
set_option maxRecDepth 100000 in
theorem d_Or_shutsBridge_55 : decode b_Or_shutsBridge 55 = .ok (.ireturn, 1) := by decide +kernel
set_option maxRecDepth 100000 in
theorem d_Pn_init_0 : decode b_Pn_init 0 = .ok (.aload_n 0, 1) := by decide +kernel
set_option maxRecDepth 100000 in
theorem d_Pn_init_1 : decode b_Pn_init 1 = .ok (.invokespecial 1, 3) := by decide +kernel
set_option maxRecDepth 100000 in
theorem d_Pn_init_4 : decode b_Pn_init 4 = .ok (.aload_n 0, 1) := by decide +kernel
set_option maxRecDepth 100000 in
theorem d_Pn_init_5 : decode b_Pn_init 5 = .ok (.iload_n 1, 1) := by decide +kernel
set_option maxRecDepth 100000 in
theorem d_Pn_init_6 : decode b_Pn_init 6 = .ok (.putfield 7, 3) := by decide +kernel
set_option maxRecDepth 100000 in
theorem d_Pn_init_9 : decode b_Pn_init 9 = .ok (.aload_n 0, 1) := by decide +kernel
set_option maxRecDepth 100000 in
theorem d_Pn_init_10 : decode b_Pn_init 10 = .ok (.iload_n 2, 1) := by decide +kernel
set_option maxRecDepth 100000 in
theorem d_Pn_init_11 : decode b_Pn_init 11 = .ok (.putfield 13, 3) := by decide +kernel
set_option maxRecDepth 100000 in
theorem d_Pn_init_14 : decode b_Pn_init 14 = .ok (.return_, 1) := by decide +kernel
set_option maxRecDepth 100000 in
theorem d_Rv_addStairs_0 : decode b_Rv_addStairs 0 = .ok (.aload_n 0, 1) := by decide +kernel
set_option maxRecDepth 100000 in
theorem d_Rv_addStairs_1 : decode b_Rv_addStairs 1 = .ok (.getfield 9, 3) := by decide +kernel
set_option maxRecDepth 100000 in
theorem d_Rv_addStairs_4 : decode b_Rv_addStairs 4 = .ok (.aload_n 0, 1) := by decide +kernel
set_option maxRecDepth 100000 in
theorem d_Rv_addStairs_5 : decode b_Rv_addStairs 5 = .ok (.getfield 35, 3) := by decide +kernel
set_option maxRecDepth 100000 in
theorem d_Rv_addStairs_8 : decode b_Rv_addStairs 8 = .ok (.iload_n 1, 1) := by decide +kernel
set_option maxRecDepth 100000 in
theorem d_Rv_addStairs_9 : decode b_Rv_addStairs 9 = .ok (.iastore, 1) := by decide +kernel
set_option maxRecDepth 100000 in
theorem d_Rv_addStairs_10 : decode b_Rv_addStairs 10 = .ok (.aload_n 0, 1) := by decide +kernel
set_option maxRecDepth 100000 in
theorem d_Rv_addStairs_11 : decode b_Rv_addStairs 11 = .ok (.dup, 1) := by decide +kernel
set_option maxRecDepth 100000 in
theorem d_Rv_addStairs_12 : decode b_Rv_addStairs 12 = .ok (.getfield 35, 3) := by decide +kernel
set_option maxRecDepth 100000 in
theorem d_Rv_addStairs_15 : decode b_Rv_addStairs 15 = .ok (.iconst 1, 1) := by decide +kernel
set_option maxRecDepth 100000 in
theorem d_Rv_addStairs_16 : decode b_Rv_addStairs 16 = .ok (.iadd, 1) := by decide +kernel
set_option maxRecDepth 100000 in
theorem d_Rv_addStairs_17 : decode b_Rv_addStairs 17 = .ok (.putfield 35, 3) := by decide +kernel
set_option maxRecDepth 100000 in
theorem d_Rv_addStairs_20 : decode b_Rv_addStairs 20 = .ok (.aload_n 0, 1) := by decide +kernel
set_option maxRecDepth 100000 in
theorem d_Rv_addStairs_21 : decode b_Rv_addStairs 21 = .ok (.getfield 35, 3) := by decide +kernel
set_option maxRecDepth 100000 in
theorem d_Rv_addStairs_24 : decode b_Rv_addStairs 24 = .ok (.iconst 1, 1) := by decide +kernel
set_option maxRecDepth 100000 in
theorem d_Rv_addStairs_25 : decode b_Rv_addStairs 25 = .ok (.isub, 1) := by decide +kernel
set_option maxRecDepth 100000 in
theorem d_Rv_addStairs_26 : decode b_Rv_addStairs 26 = .ok (.ireturn, 1) := by decide +kernel
set_option maxRecDepth 100000 in
theorem d_Rv_distance_0 : decode b_Rv_distance 0 = .ok (.aload_n 0, 1) := by decide +kernel
set_option maxRecDepth 100000 in
theorem d_Rv_distance_1 : decode b_Rv_distance 1 = .ok (.getfield 9, 3) := by decide +kernel
set_option maxRecDepth 100000 in
theorem d_Rv_distance_4 : decode b_Rv_distance 4 = .ok (.iload_n 2, 1) := by decide +kernel
set_option maxRecDepth 100000 in
theorem d_Rv_distance_5 : decode b_Rv_distance 5 = .ok (.iaload, 1) := by decide +kernel
set_option maxRecDepth 100000 in
theorem d_Rv_distance_6 : decode b_Rv_distance 6 = .ok (.aload_n 0, 1) := by decide +kernel
set_option maxRecDepth 100000 in
theorem d_Rv_distance_7 : decode b_Rv_distance 7 = .ok (.getfield 9, 3) := by decide +kernel
set_option maxRecDepth 100000 in
theorem d_Rv_distance_10 : decode b_Rv_distance 10 = .ok (.iload_n 1, 1) := by decide +kernel
set_option maxRecDepth 100000 in
theorem d_Rv_distance_11 : decode b_Rv_distance 11 = .ok (.iaload, 1) := by decide +kernel
set_option maxRecDepth 100000 in
theorem d_Rv_distance_12 : decode b_Rv_distance 12 = .ok (.isub, 1) := by decide +kernel
set_option maxRecDepth 100000 in
theorem d_Rv_distance_13 : decode b_Rv_distance 13 = .ok (.invokestatic 38, 3) := by decide +kernel
set_option maxRecDepth 100000 in
theorem d_Rv_distance_16 : decode b_Rv_distance 16 = .ok (.ireturn, 1) := by decide +kernel
set_option maxRecDepth 100000 in
theorem d_Rv_drift_0 : decode b_Rv_drift 0 = .ok (.aload_n 0, 1) := by decide +kernel
set_option maxRecDepth 100000 in
theorem d_Rv_drift_1 : decode b_Rv_drift 1 = .ok (.iload_n 3, 1) := by decide +kernel
set_option maxRecDepth 100000 in
theorem d_Rv_drift_2 : decode b_Rv_drift 2 = .ok (.iload 4, 2) := by decide +kernel
set_option maxRecDepth 100000 in
theorem d_Rv_drift_4 : decode b_Rv_drift 4 = .ok (.invokevirtual 54, 3) := by decide +kernel
set_option maxRecDepth 100000 in
theorem d_Rv_drift_7 : decode b_Rv_drift 7 = .ok (.istore 5, 2) := by decide +kernel
set_option maxRecDepth 100000 in
theorem d_Rv_drift_9 : decode b_Rv_drift 9 = .ok (.iload 5, 2) := by decide +kernel
set_option maxRecDepth 100000 in
theorem d_Rv_drift_11 : decode b_Rv_drift 11 = .ok (.ifCond .ne 5, 3) := by decide +kernel
set_option maxRecDepth 100000 in
theorem d_Rv_drift_14 : decode b_Rv_drift 14 = .ok (.iconst 0, 1) := by decide +kernel
set_option maxRecDepth 100000 in
theorem d_Rv_drift_15 : decode b_Rv_drift 15 = .ok (.ireturn, 1) := by decide +kernel
set_option maxRecDepth 100000 in
theorem d_Rv_drift_16 : decode b_Rv_drift 16 = .ok (.iload 5, 2) := by decide +kernel
set_option maxRecDepth 100000 in
theorem d_Rv_drift_18 : decode b_Rv_drift 18 = .ok (.ifCond .le 7, 3) := by decide +kernel
set_option maxRecDepth 100000 in
theorem d_Rv_drift_21 : decode b_Rv_drift 21 = .ok (.iconst 1, 1) := by decide +kernel
set_option maxRecDepth 100000 in
theorem d_Rv_drift_22 : decode b_Rv_drift 22 = .ok (.goto 4, 3) := by decide +kernel
set_option maxRecDepth 100000 in
theorem d_Rv_drift_25 : decode b_Rv_drift 25 = .ok (.iconst 0, 1) := by decide +kernel
set_option maxRecDepth 100000 in
theorem d_Rv_drift_26 : decode b_Rv_drift 26 = .ok (.iload_n 2, 1) := by decide +kernel
set_option maxRecDepth 100000 in
theorem d_Rv_drift_27 : decode b_Rv_drift 27 = .ok (.iload_n 1, 1) := by decide +kernel
set_option maxRecDepth 100000 in
theorem d_Rv_drift_28 : decode b_Rv_drift 28 = .ok (.if_icmp .le 7, 3) := by decide +kernel
set_option maxRecDepth 100000 in
theorem d_Rv_drift_31 : decode b_Rv_drift 31 = .ok (.iconst 1, 1) := by decide +kernel
set_option maxRecDepth 100000 in
theorem d_Rv_drift_32 : decode b_Rv_drift 32 = .ok (.goto 4, 3) := by decide +kernel
set_option maxRecDepth 100000 in
theorem d_Rv_drift_35 : decode b_Rv_drift 35 = .ok (.iconst 0, 1) := by decide +kernel
set_option maxRecDepth 100000 in
theorem d_Rv_drift_36 : decode b_Rv_drift 36 = .ok (.if_icmp .ne 7, 3) := by decide +kernel
set_option maxRecDepth 100000 in
theorem d_Rv_drift_39 : decode b_Rv_drift 39 = .ok (.iconst 1, 1) := by decide +kernel
set_option maxRecDepth 100000 in
theorem d_Rv_drift_40 : decode b_Rv_drift 40 = .ok (.goto 4, 3) := by decide +kernel
set_option maxRecDepth 100000 in
theorem d_Rv_drift_43 : decode b_Rv_drift 43 = .ok (.iconst (-1), 1) := by decide +kernel
set_option maxRecDepth 100000 in
theorem d_Rv_drift_44 : decode b_Rv_drift 44 = .ok (.ireturn, 1) := by decide +kernel
set_option maxRecDepth 100000 in
theorem d_Rv_flowIn_0 : decode b_Rv_flowIn 0 = .ok (.iload_n 2, 1) := by decide +kernel
set_option maxRecDepth 100000 in
theorem d_Rv_flowIn_1 : decode b_Rv_flowIn 1 = .ok (.bipush 11, 2) := by decide +kernel
set_option maxRecDepth 100000 in
theorem d_Rv_flowIn_3 : decode b_Rv_flowIn 3 = .ok (.if_icmp .ne 14, 3) := by decide +kernel
set_option maxRecDepth 100000 in
theorem d_Rv_flowIn_6 : decode b_Rv_flowIn 6 = .ok (.aload_n 0, 1) := by decide +kernel
set_option maxRecDepth 100000 in
theorem d_Rv_flowIn_7 : decode b_Rv_flowIn 7 = .ok (.iload_n 1, 1) := by decide +kernel
set_option maxRecDepth 100000 in
theorem d_Rv_flowIn_8 : decode b_Rv_flowIn 8 = .ok (.iconst 1, 1) := by decide +kernel
set_option maxRecDepth 100000 in
theorem d_Rv_flowIn_9 : decode b_Rv_flowIn 9 = .ok (.iadd, 1) := by decide +kernel
set_option maxRecDepth 100000 in
theorem d_Rv_flowIn_10 : decode b_Rv_flowIn 10 = .ok (.iconst 0, 1) := by decide +kernel
set_option maxRecDepth 100000 in
theorem d_Rv_flowIn_11 : decode b_Rv_flowIn 11 = .ok (.invokevirtual 51, 3) := by decide +kernel
set_option maxRecDepth 100000 in
theorem d_Rv_flowIn_14 : decode b_Rv_flowIn 14 = .ok (.goto 11, 3) := by decide +kernel
set_option maxRecDepth 100000 in
theorem d_Rv_flowIn_17 : decode b_Rv_flowIn 17 = .ok (.aload_n 0, 1) := by decide +kernel
set_option maxRecDepth 100000 in
theorem d_Rv_flowIn_18 : decode b_Rv_flowIn 18 = .ok (.iload_n 1, 1) := by decide +kernel
set_option maxRecDepth 100000 in
theorem d_Rv_flowIn_19 : decode b_Rv_flowIn 19 = .ok (.iload_n 2, 1) := by decide +kernel
set_option maxRecDepth 100000 in
theorem d_Rv_flowIn_20 : decode b_Rv_flowIn 20 = .ok (.iconst 1, 1) := by decide +kernel
set_option maxRecDepth 100000 in
theorem d_Rv_flowIn_21 : decode b_Rv_flowIn 21 = .ok (.iadd, 1) := by decide +kernel
set_option maxRecDepth 100000 in
theorem d_Rv_flowIn_22 : decode b_Rv_flowIn 22 = .ok (.invokevirtual 51, 3) := by decide +kernel
set_option maxRecDepth 100000 in
theorem d_Rv_flowIn_25 : decode b_Rv_flowIn 25 = .ok (.istore_n 3, 1) := by decide +kernel
set_option maxRecDepth 100000 in
theorem d_Rv_flowIn_26 : decode b_Rv_flowIn 26 = .ok (.iload_n 3, 1) := by decide +kernel
set_option maxRecDepth 100000 in
theorem d_Rv_flowIn_27 : decode b_Rv_flowIn 27 = .ok (.aload_n 0, 1) := by decide +kernel
set_option maxRecDepth 100000 in
theorem d_Rv_flowIn_28 : decode b_Rv_flowIn 28 = .ok (.iload_n 1, 1) := by decide +kernel
set_option maxRecDepth 100000 in
theorem d_Rv_flowIn_29 : decode b_Rv_flowIn 29 = .ok (.iload_n 2, 1) := by decide +kernel
set_option maxRecDepth 100000 in
theorem d_Rv_flowIn_30 : decode b_Rv_flowIn 30 = .ok (.invokevirtual 51, 3) := by decide +kernel
set_option maxRecDepth 100000 in
theorem d_Rv_flowIn_33 : decode b_Rv_flowIn 33 = .ok (.isub, 1) := by decide +kernel
set_option maxRecDepth 100000 in
theorem d_Rv_flowIn_34 : decode b_Rv_flowIn 34 = .ok (.ireturn, 1) := by decide +kernel
set_option maxRecDepth 100000 in
theorem d_Rv_hasStairs_0 : decode b_Rv_hasStairs 0 = .ok (.iload_n 1, 1) := by decide +kernel
set_option maxRecDepth 100000 in
theorem d_Rv_hasStairs_1 : decode b_Rv_hasStairs 1 = .ok (.ifCond .lt 15, 3) := by decide +kernel
set_option maxRecDepth 100000 in
theorem d_Rv_hasStairs_4 : decode b_Rv_hasStairs 4 = .ok (.iload_n 1, 1) := by decide +kernel
set_option maxRecDepth 100000 in
theorem d_Rv_hasStairs_5 : decode b_Rv_hasStairs 5 = .ok (.aload_n 0, 1) := by decide +kernel
set_option maxRecDepth 100000 in
theorem d_Rv_hasStairs_6 : decode b_Rv_hasStairs 6 = .ok (.getfield 35, 3) := by decide +kernel
set_option maxRecDepth 100000 in
theorem d_Rv_hasStairs_9 : decode b_Rv_hasStairs 9 = .ok (.if_icmp .ge 7, 3) := by decide +kernel
set_option maxRecDepth 100000 in
theorem d_Rv_hasStairs_12 : decode b_Rv_hasStairs 12 = .ok (.iconst 1, 1) := by decide +kernel
set_option maxRecDepth 100000 in
theorem d_Rv_hasStairs_13 : decode b_Rv_hasStairs 13 = .ok (.goto 4, 3) := by decide +kernel
set_option maxRecDepth 100000 in
theorem d_Rv_hasStairs_16 : decode b_Rv_hasStairs 16 = .ok (.iconst 0, 1) := by decide +kernel
set_option maxRecDepth 100000 in
theorem d_Rv_hasStairs_17 : decode b_Rv_hasStairs 17 = .ok (.ireturn, 1) := by decide +kernel
set_option maxRecDepth 100000 in
theorem d_Rv_height_0 : decode b_Rv_height 0 = .ok (.iload_n 1, 1) := by decide +kernel
set_option maxRecDepth 100000 in
theorem d_Rv_height_1 : decode b_Rv_height 1 = .ok (.sipush 500, 3) := by decide +kernel
set_option maxRecDepth 100000 in
theorem d_Rv_height_4 : decode b_Rv_height 4 = .ok (.if_icmp .ge 12, 3) := by decide +kernel
set_option maxRecDepth 100000 in
theorem d_Rv_height_7 : decode b_Rv_height 7 = .ok (.aload_n 0, 1) := by decide +kernel
set_option maxRecDepth 100000 in
theorem d_Rv_height_8 : decode b_Rv_height 8 = .ok (.getfield 19, 3) := by decide +kernel
set_option maxRecDepth 100000 in
theorem d_Rv_height_11 : decode b_Rv_height 11 = .ok (.iload_n 1, 1) := by decide +kernel
set_option maxRecDepth 100000 in
theorem d_Rv_height_12 : decode b_Rv_height 12 = .ok (.aaload, 1) := by decide +kernel
set_option maxRecDepth 100000 in
theorem d_Rv_height_13 : decode b_Rv_height 13 = .ok (.goto 4, 3) := by decide +kernel
set_option maxRecDepth 100000 in
theorem d_Rv_height_16 : decode b_Rv_height 16 = .ok (.aconst_null, 1) := by decide +kernel
set_option maxRecDepth 100000 in
theorem d_Rv_height_17 : decode b_Rv_height 17 = .ok (.astore_n 3, 1) := by decide +kernel
set_option maxRecDepth 100000 in
theorem d_Rv_height_18 : decode b_Rv_height 18 = .ok (.aload_n 3, 1) := by decide +kernel
set_option maxRecDepth 100000 in
theorem d_Rv_height_19 : decode b_Rv_height 19 = .ok (.ifnonnull 17, 3) := by decide +kernel
set_option maxRecDepth 100000 in
theorem d_Rv_height_22 : decode b_Rv_height 22 = .ok (.aload_n 0, 1) := by decide +kernel
set_option maxRecDepth 100000 in
theorem d_Rv_height_23 : decode b_Rv_height 23 = .ok (.getfield 15, 3) := by decide +kernel
set_option maxRecDepth 100000 in
theorem d_Rv_height_26 : decode b_Rv_height 26 = .ok (.iload_n 2, 1) := by decide +kernel
set_option maxRecDepth 100000 in
theorem d_Rv_height_27 : decode b_Rv_height 27 = .ok (.iload_n 1, 1) := by decide +kernel
set_option maxRecDepth 100000 in
theorem d_Rv_height_28 : decode b_Rv_height 28 = .ok (.iadd, 1) := by decide +kernel
set_option maxRecDepth 100000 in
theorem d_Rv_height_29 : decode b_Rv_height 29 = .ok (.bipush 12, 2) := by decide +kernel
set_option maxRecDepth 100000 in
theorem d_Rv_height_31 : decode b_Rv_height 31 = .ok (.irem, 1) := by decide +kernel
set_option maxRecDepth 100000 in
theorem d_Rv_height_32 : decode b_Rv_height 32 = .ok (.iaload, 1) := by decide +kernel
set_option maxRecDepth 100000 in
theorem d_Rv_height_33 : decode b_Rv_height 33 = .ok (.goto 6, 3) := by decide +kernel
set_option maxRecDepth 100000 in
theorem d_Rv_height_36 : decode b_Rv_height 36 = .ok (.aload_n 3, 1) := by decide +kernel
set_option maxRecDepth 100000 in
theorem d_Rv_height_37 : decode b_Rv_height 37 = .ok (.iload_n 2, 1) := by decide +kernel
set_option maxRecDepth 100000 in
theorem d_Rv_height_38 : decode b_Rv_height 38 = .ok (.iaload, 1) := by decide +kernel
set_option maxRecDepth 100000 in
theorem d_Rv_height_39 : decode b_Rv_height 39 = .ok (.ireturn, 1) := by decide +kernel
set_option maxRecDepth 100000 in
theorem d_Rv_highest_0 : decode b_Rv_highest 0 = .ok (.aload_n 0, 1) := by decide +kernel
set_option maxRecDepth 100000 in
theorem d_Rv_highest_1 : decode b_Rv_highest 1 = .ok (.getfield 35, 3) := by decide +kernel
set_option maxRecDepth 100000 in
theorem d_Rv_highest_4 : decode b_Rv_highest 4 = .ok (.ifCond .ne 7, 3) := by decide +kernel
set_option maxRecDepth 100000 in
theorem d_Rv_highest_7 : decode b_Rv_highest 7 = .ok (.iconst (-1), 1) := by decide +kernel
set_option maxRecDepth 100000 in
theorem d_Rv_highest_8 : decode b_Rv_highest 8 = .ok (.goto 14, 3) := by decide +kernel
set_option maxRecDepth 100000 in
theorem d_Rv_highest_11 : decode b_Rv_highest 11 = .ok (.aload_n 0, 1) := by decide +kernel
set_option maxRecDepth 100000 in
theorem d_Rv_highest_12 : decode b_Rv_highest 12 = .ok (.getfield 9, 3) := by decide +kernel
set_option maxRecDepth 100000 in
theorem d_Rv_highest_15 : decode b_Rv_highest 15 = .ok (.aload_n 0, 1) := by decide +kernel
set_option maxRecDepth 100000 in
theorem d_Rv_highest_16 : decode b_Rv_highest 16 = .ok (.getfield 35, 3) := by decide +kernel
set_option maxRecDepth 100000 in
theorem d_Rv_highest_19 : decode b_Rv_highest 19 = .ok (.iconst 1, 1) := by decide +kernel
set_option maxRecDepth 100000 in
theorem d_Rv_highest_20 : decode b_Rv_highest 20 = .ok (.isub, 1) := by decide +kernel
set_option maxRecDepth 100000 in
theorem d_Rv_highest_21 : decode b_Rv_highest 21 = .ok (.iaload, 1) := by decide +kernel
set_option maxRecDepth 100000 in
theorem d_Rv_highest_22 : decode b_Rv_highest 22 = .ok (.ireturn, 1) := by decide +kernel
set_option maxRecDepth 100000 in
theorem d_Rv_isFrozen_0 : decode b_Rv_isFrozen 0 = .ok (.iload_n 1, 1) := by decide +kernel
set_option maxRecDepth 100000 in
theorem d_Rv_isFrozen_1 : decode b_Rv_isFrozen 1 = .ok (.invokestatic 31, 3) := by decide +kernel
set_option maxRecDepth 100000 in
theorem d_Rv_isFrozen_4 : decode b_Rv_isFrozen 4 = .ok (.ifCond .eq 16, 3) := by decide +kernel
set_option maxRecDepth 100000 in
theorem d_Rv_isFrozen_7 : decode b_Rv_isFrozen 7 = .ok (.aload_n 0, 1) := by decide +kernel
set_option maxRecDepth 100000 in
theorem d_Rv_isFrozen_8 : decode b_Rv_isFrozen 8 = .ok (.getfield 23, 3) := by decide +kernel
set_option maxRecDepth 100000 in
theorem d_Rv_isFrozen_11 : decode b_Rv_isFrozen 11 = .ok (.iload_n 1, 1) := by decide +kernel
set_option maxRecDepth 100000 in
theorem d_Rv_isFrozen_12 : decode b_Rv_isFrozen 12 = .ok (.baload, 1) := by decide +kernel
set_option maxRecDepth 100000 in
theorem d_Rv_isFrozen_13 : decode b_Rv_isFrozen 13 = .ok (.ifCond .eq 7, 3) := by decide +kernel
set_option maxRecDepth 100000 in
theorem d_Rv_isFrozen_16 : decode b_Rv_isFrozen 16 = .ok (.iconst 1, 1) := by decide +kernel
set_option maxRecDepth 100000 in
theorem d_Rv_isFrozen_17 : decode b_Rv_isFrozen 17 = .ok (.goto 4, 3) := by decide +kernel
set_option maxRecDepth 100000 in
theorem d_Rv_isFrozen_20 : decode b_Rv_isFrozen 20 = .ok (.iconst 0, 1) := by decide +kernel
set_option maxRecDepth 100000 in
theorem d_Rv_isFrozen_21 : decode b_Rv_isFrozen 21 = .ok (.ireturn, 1) := by decide +kernel
set_option maxRecDepth 100000 in
theorem d_Rv_passesBridge_0 : decode b_Rv_passesBridge 0 = .ok (.aload_n 0, 1) := by decide +kernel
set_option maxRecDepth 100000 in
theorem d_Rv_passesBridge_1 : decode b_Rv_passesBridge 1 = .ok (.getfield 27, 3) := by decide +kernel
set_option maxRecDepth 100000 in
theorem d_Rv_passesBridge_4 : decode b_Rv_passesBridge 4 = .ok (.iconst (-1), 1) := by decide +kernel
set_option maxRecDepth 100000 in
theorem d_Rv_passesBridge_5 : decode b_Rv_passesBridge 5 = .ok (.if_icmp .eq 31, 3) := by decide +kernel
set_option maxRecDepth 100000 in
theorem d_Rv_passesBridge_8 : decode b_Rv_passesBridge 8 = .ok (.iload_n 1, 1) := by decide +kernel
set_option maxRecDepth 100000 in
theorem d_Rv_passesBridge_9 : decode b_Rv_passesBridge 9 = .ok (.iload_n 2, 1) := by decide +kernel
set_option maxRecDepth 100000 in
theorem d_Rv_passesBridge_10 : decode b_Rv_passesBridge 10 = .ok (.invokestatic 44, 3) := by decide +kernel
set_option maxRecDepth 100000 in
theorem d_Rv_passesBridge_13 : decode b_Rv_passesBridge 13 = .ok (.aload_n 0, 1) := by decide +kernel
set_option maxRecDepth 100000 in
theorem d_Rv_passesBridge_14 : decode b_Rv_passesBridge 14 = .ok (.getfield 27, 3) := by decide +kernel
set_option maxRecDepth 100000 in
theorem d_Rv_passesBridge_17 : decode b_Rv_passesBridge 17 = .ok (.if_icmp .gt 19, 3) := by decide +kernel
set_option maxRecDepth 100000 in
theorem d_Rv_passesBridge_20 : decode b_Rv_passesBridge 20 = .ok (.iload_n 1, 1) := by decide +kernel
set_option maxRecDepth 100000 in
theorem d_Rv_passesBridge_21 : decode b_Rv_passesBridge 21 = .ok (.iload_n 2, 1) := by decide +kernel
set_option maxRecDepth 100000 in
theorem d_Rv_passesBridge_22 : decode b_Rv_passesBridge 22 = .ok (.invokestatic 48, 3) := by decide +kernel
set_option maxRecDepth 100000 in
theorem d_Rv_passesBridge_25 : decode b_Rv_passesBridge 25 = .ok (.aload_n 0, 1) := by decide +kernel
set_option maxRecDepth 100000 in
theorem d_Rv_passesBridge_26 : decode b_Rv_passesBridge 26 = .ok (.getfield 27, 3) := by decide +kernel
set_option maxRecDepth 100000 in
theorem d_Rv_passesBridge_29 : decode b_Rv_passesBridge 29 = .ok (.if_icmp .le 7, 3) := by decide +kernel
set_option maxRecDepth 100000 in
theorem d_Rv_passesBridge_32 : decode b_Rv_passesBridge 32 = .ok (.iconst 1, 1) := by decide +kernel
set_option maxRecDepth 100000 in
theorem d_Rv_passesBridge_33 : decode b_Rv_passesBridge 33 = .ok (.goto 4, 3) := by decide +kernel
set_option maxRecDepth 100000 in
theorem d_Rv_passesBridge_36 : decode b_Rv_passesBridge 36 = .ok (.iconst 0, 1) := by decide +kernel
set_option maxRecDepth 100000 in
theorem d_Rv_passesBridge_37 : decode b_Rv_passesBridge 37 = .ok (.ireturn, 1) := by decide +kernel
set_option maxRecDepth 100000 in
theorem d_Rv_tell_0 : decode b_Rv_tell 0 = .ok (.aload_n 0, 1) := by decide +kernel
set_option maxRecDepth 100000 in
theorem d_Rv_tell_1 : decode b_Rv_tell 1 = .ok (.getfield 19, 3) := by decide +kernel
set_option maxRecDepth 100000 in
theorem d_Rv_tell_4 : decode b_Rv_tell 4 = .ok (.iload_n 1, 1) := by decide +kernel
set_option maxRecDepth 100000 in
theorem d_Rv_tell_5 : decode b_Rv_tell 5 = .ok (.aaload, 1) := by decide +kernel
set_option maxRecDepth 100000 in
theorem d_Rv_tell_6 : decode b_Rv_tell 6 = .ok (.astore 4, 2) := by decide +kernel
set_option maxRecDepth 100000 in
theorem d_Rv_tell_8 : decode b_Rv_tell 8 = .ok (.aload 4, 2) := by decide +kernel
set_option maxRecDepth 100000 in
theorem d_Rv_tell_10 : decode b_Rv_tell 10 = .ok (.ifnonnull 50, 3) := by decide +kernel
set_option maxRecDepth 100000 in
theorem d_Rv_tell_13 : decode b_Rv_tell 13 = .ok (.bipush 12, 2) := by decide +kernel
set_option maxRecDepth 100000 in
theorem d_Rv_tell_15 : decode b_Rv_tell 15 = .ok (.newarray .int, 2) := by decide +kernel
set_option maxRecDepth 100000 in
theorem d_Rv_tell_17 : decode b_Rv_tell 17 = .ok (.astore 4, 2) := by decide +kernel
set_option maxRecDepth 100000 in
theorem d_Rv_tell_19 : decode b_Rv_tell 19 = .ok (.iconst 0, 1) := by decide +kernel
set_option maxRecDepth 100000 in
theorem d_Rv_tell_20 : decode b_Rv_tell 20 = .ok (.istore 5, 2) := by decide +kernel
set_option maxRecDepth 100000 in
theorem d_Rv_tell_22 : decode b_Rv_tell 22 = .ok (.iload 5, 2) := by decide +kernel
set_option maxRecDepth 100000 in
theorem d_Rv_tell_24 : decode b_Rv_tell 24 = .ok (.bipush 12, 2) := by decide +kernel
set_option maxRecDepth 100000 in
theorem d_Rv_tell_26 : decode b_Rv_tell 26 = .ok (.if_icmp .ge 26, 3) := by decide +kernel
set_option maxRecDepth 100000 in
theorem d_Rv_tell_29 : decode b_Rv_tell 29 = .ok (.aload 4, 2) := by decide +kernel
set_option maxRecDepth 100000 in
theorem d_Rv_tell_31 : decode b_Rv_tell 31 = .ok (.iload 5, 2) := by decide +kernel
set_option maxRecDepth 100000 in
theorem d_Rv_tell_33 : decode b_Rv_tell 33 = .ok (.aload_n 0, 1) := by decide +kernel
set_option maxRecDepth 100000 in
theorem d_Rv_tell_34 : decode b_Rv_tell 34 = .ok (.getfield 15, 3) := by decide +kernel
set_option maxRecDepth 100000 in
theorem d_Rv_tell_37 : decode b_Rv_tell 37 = .ok (.iload 5, 2) := by decide +kernel
set_option maxRecDepth 100000 in
theorem d_Rv_tell_39 : decode b_Rv_tell 39 = .ok (.iload_n 1, 1) := by decide +kernel
set_option maxRecDepth 100000 in
theorem d_Rv_tell_40 : decode b_Rv_tell 40 = .ok (.iadd, 1) := by decide +kernel
set_option maxRecDepth 100000 in
theorem d_Rv_tell_41 : decode b_Rv_tell 41 = .ok (.bipush 12, 2) := by decide +kernel
set_option maxRecDepth 100000 in
theorem d_Rv_tell_43 : decode b_Rv_tell 43 = .ok (.irem, 1) := by decide +kernel
set_option maxRecDepth 100000 in
theorem d_Rv_tell_44 : decode b_Rv_tell 44 = .ok (.iaload, 1) := by decide +kernel
set_option maxRecDepth 100000 in
theorem d_Rv_tell_45 : decode b_Rv_tell 45 = .ok (.iastore, 1) := by decide +kernel
set_option maxRecDepth 100000 in
theorem d_Rv_tell_46 : decode b_Rv_tell 46 = .ok (.iinc 5 1, 3) := by decide +kernel
set_option maxRecDepth 100000 in
theorem d_Rv_tell_49 : decode b_Rv_tell 49 = .ok (.goto (-27), 3) := by decide +kernel
set_option maxRecDepth 100000 in
theorem d_Rv_tell_52 : decode b_Rv_tell 52 = .ok (.aload_n 0, 1) := by decide +kernel
set_option maxRecDepth 100000 in
theorem d_Rv_tell_53 : decode b_Rv_tell 53 = .ok (.getfield 19, 3) := by decide +kernel
set_option maxRecDepth 100000 in
theorem d_Rv_tell_56 : decode b_Rv_tell 56 = .ok (.iload_n 1, 1) := by decide +kernel
set_option maxRecDepth 100000 in
theorem d_Rv_tell_57 : decode b_Rv_tell 57 = .ok (.aload 4, 2) := by decide +kernel
set_option maxRecDepth 100000 in
theorem d_Rv_tell_59 : decode b_Rv_tell 59 = .ok (.aastore, 1) := by decide +kernel
set_option maxRecDepth 100000 in
theorem d_Rv_tell_60 : decode b_Rv_tell 60 = .ok (.aload 4, 2) := by decide +kernel
set_option maxRecDepth 100000 in
theorem d_Rv_tell_62 : decode b_Rv_tell 62 = .ok (.iload_n 2, 1) := by decide +kernel
set_option maxRecDepth 100000 in
theorem d_Rv_tell_63 : decode b_Rv_tell 63 = .ok (.iload_n 3, 1) := by decide +kernel
set_option maxRecDepth 100000 in
theorem d_Rv_tell_64 : decode b_Rv_tell 64 = .ok (.iastore, 1) := by decide +kernel
set_option maxRecDepth 100000 in
theorem d_Rv_tell_65 : decode b_Rv_tell 65 = .ok (.return_, 1) := by decide +kernel
set_option maxRecDepth 100000 in
theorem d_Tp_append_0 : decode b_Tp_append 0 = .ok (.aload_n 0, 1) := by decide +kernel
set_option maxRecDepth 100000 in
theorem d_Tp_append_1 : decode b_Tp_append 1 = .ok (.getfield 15, 3) := by decide +kernel
set_option maxRecDepth 100000 in
theorem d_Tp_append_4 : decode b_Tp_append 4 = .ok (.sipush 396, 3) := by decide +kernel
set_option maxRecDepth 100000 in
theorem d_Tp_append_7 : decode b_Tp_append 7 = .ok (.if_icmp .le 4, 3) := by decide +kernel
set_option maxRecDepth 100000 in
theorem d_Tp_append_10 : decode b_Tp_append 10 = .ok (.return_, 1) := by decide +kernel
set_option maxRecDepth 100000 in
theorem d_Tp_append_11 : decode b_Tp_append 11 = .ok (.aload_n 0, 1) := by decide +kernel
set_option maxRecDepth 100000 in
theorem d_Tp_append_12 : decode b_Tp_append 12 = .ok (.getfield 9, 3) := by decide +kernel
set_option maxRecDepth 100000 in
theorem d_Tp_append_15 : decode b_Tp_append 15 = .ok (.aload_n 0, 1) := by decide +kernel
set_option maxRecDepth 100000 in
theorem d_Tp_append_16 : decode b_Tp_append 16 = .ok (.getfield 15, 3) := by decide +kernel
set_option maxRecDepth 100000 in
theorem d_Tp_append_19 : decode b_Tp_append 19 = .ok (.iload_n 1, 1) := by decide +kernel
set_option maxRecDepth 100000 in
theorem d_Tp_append_20 : decode b_Tp_append 20 = .ok (.bipush 24, 2) := by decide +kernel
set_option maxRecDepth 100000 in
theorem d_Tp_append_22 : decode b_Tp_append 22 = .ok (.iushr, 1) := by decide +kernel
set_option maxRecDepth 100000 in
theorem d_Tp_append_23 : decode b_Tp_append 23 = .ok (.i2b, 1) := by decide +kernel
set_option maxRecDepth 100000 in
theorem d_Tp_append_24 : decode b_Tp_append 24 = .ok (.bastore, 1) := by decide +kernel
set_option maxRecDepth 100000 in
theorem d_Tp_append_25 : decode b_Tp_append 25 = .ok (.aload_n 0, 1) := by decide +kernel
set_option maxRecDepth 100000 in
theorem d_Tp_append_26 : decode b_Tp_append 26 = .ok (.getfield 9, 3) := by decide +kernel
set_option maxRecDepth 100000 in
theorem d_Tp_append_29 : decode b_Tp_append 29 = .ok (.aload_n 0, 1) := by decide +kernel
set_option maxRecDepth 100000 in
theorem d_Tp_append_30 : decode b_Tp_append 30 = .ok (.getfield 15, 3) := by decide +kernel
set_option maxRecDepth 100000 in
theorem d_Tp_append_33 : decode b_Tp_append 33 = .ok (.iconst 1, 1) := by decide +kernel
set_option maxRecDepth 100000 in
theorem d_Tp_append_34 : decode b_Tp_append 34 = .ok (.iadd, 1) := by decide +kernel
set_option maxRecDepth 100000 in
theorem d_Tp_append_35 : decode b_Tp_append 35 = .ok (.iload_n 1, 1) := by decide +kernel
set_option maxRecDepth 100000 in
theorem d_Tp_append_36 : decode b_Tp_append 36 = .ok (.bipush 16, 2) := by decide +kernel
set_option maxRecDepth 100000 in
theorem d_Tp_append_38 : decode b_Tp_append 38 = .ok (.iushr, 1) := by decide +kernel
set_option maxRecDepth 100000 in
theorem d_Tp_append_39 : decode b_Tp_append 39 = .ok (.i2b, 1) := by decide +kernel
set_option maxRecDepth 100000 in
theorem d_Tp_append_40 : decode b_Tp_append 40 = .ok (.bastore, 1) := by decide +kernel
set_option maxRecDepth 100000 in
theorem d_Tp_append_41 : decode b_Tp_append 41 = .ok (.aload_n 0, 1) := by decide +kernel
set_option maxRecDepth 100000 in
theorem d_Tp_append_42 : decode b_Tp_append 42 = .ok (.getfield 9, 3) := by decide +kernel
set_option maxRecDepth 100000 in
theorem d_Tp_append_45 : decode b_Tp_append 45 = .ok (.aload_n 0, 1) := by decide +kernel
set_option maxRecDepth 100000 in
theorem d_Tp_append_46 : decode b_Tp_append 46 = .ok (.getfield 15, 3) := by decide +kernel
set_option maxRecDepth 100000 in
theorem d_Tp_append_49 : decode b_Tp_append 49 = .ok (.iconst 2, 1) := by decide +kernel
set_option maxRecDepth 100000 in
theorem d_Tp_append_50 : decode b_Tp_append 50 = .ok (.iadd, 1) := by decide +kernel
set_option maxRecDepth 100000 in
theorem d_Tp_append_51 : decode b_Tp_append 51 = .ok (.iload_n 1, 1) := by decide +kernel
set_option maxRecDepth 100000 in
theorem d_Tp_append_52 : decode b_Tp_append 52 = .ok (.bipush 8, 2) := by decide +kernel
set_option maxRecDepth 100000 in
theorem d_Tp_append_54 : decode b_Tp_append 54 = .ok (.iushr, 1) := by decide +kernel
set_option maxRecDepth 100000 in
theorem d_Tp_append_55 : decode b_Tp_append 55 = .ok (.i2b, 1) := by decide +kernel
set_option maxRecDepth 100000 in
theorem d_Tp_append_56 : decode b_Tp_append 56 = .ok (.bastore, 1) := by decide +kernel
set_option maxRecDepth 100000 in
theorem d_Tp_append_57 : decode b_Tp_append 57 = .ok (.aload_n 0, 1) := by decide +kernel
set_option maxRecDepth 100000 in
theorem d_Tp_append_58 : decode b_Tp_append 58 = .ok (.getfield 9, 3) := by decide +kernel
set_option maxRecDepth 100000 in
theorem d_Tp_append_61 : decode b_Tp_append 61 = .ok (.aload_n 0, 1) := by decide +kernel
set_option maxRecDepth 100000 in
theorem d_Tp_append_62 : decode b_Tp_append 62 = .ok (.getfield 15, 3) := by decide +kernel
set_option maxRecDepth 100000 in
theorem d_Tp_append_65 : decode b_Tp_append 65 = .ok (.iconst 3, 1) := by decide +kernel
set_option maxRecDepth 100000 in
theorem d_Tp_append_66 : decode b_Tp_append 66 = .ok (.iadd, 1) := by decide +kernel
set_option maxRecDepth 100000 in
theorem d_Tp_append_67 : decode b_Tp_append 67 = .ok (.iload_n 1, 1) := by decide +kernel
set_option maxRecDepth 100000 in
theorem d_Tp_append_68 : decode b_Tp_append 68 = .ok (.i2b, 1) := by decide +kernel
set_option maxRecDepth 100000 in
theorem d_Tp_append_69 : decode b_Tp_append 69 = .ok (.bastore, 1) := by decide +kernel
set_option maxRecDepth 100000 in
theorem d_Tp_append_70 : decode b_Tp_append 70 = .ok (.aload_n 0, 1) := by decide +kernel
set_option maxRecDepth 100000 in
theorem d_Tp_append_71 : decode b_Tp_append 71 = .ok (.dup, 1) := by decide +kernel
set_option maxRecDepth 100000 in
theorem d_Tp_append_72 : decode b_Tp_append 72 = .ok (.getfield 15, 3) := by decide +kernel
set_option maxRecDepth 100000 in
theorem d_Tp_append_75 : decode b_Tp_append 75 = .ok (.iconst 4, 1) := by decide +kernel
set_option maxRecDepth 100000 in
theorem d_Tp_append_76 : decode b_Tp_append 76 = .ok (.iadd, 1) := by decide +kernel
set_option maxRecDepth 100000 in
theorem d_Tp_append_77 : decode b_Tp_append 77 = .ok (.putfield 15, 3) := by decide +kernel
