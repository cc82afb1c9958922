set_option maxRecDepth 100000 in
theorem d_WM_order_41 : decode b_WM_order 41 = .ok (.iload_n 2, 1) := by decide +kernel
set_option maxRecDepth 100000 in
theorem d_WM_order_42 : decode b_WM_order 42 = .ok (.iconst (-1), 1) := by decide +kernel
set_option maxRecDepth 100000 in
theorem d_WM_order_43 : decode b_WM_order 43 = .ok (.if_icmp .eq 8, 3) := by decide +kernel
set_option maxRecDepth 100000 in
theorem d_WM_order_46 : decode b_WM_order 46 = .ok (.bipush (-100), 2) := by decide +kernel
set_option maxRecDepth 100000 in
theorem d_WM_order_48 : decode b_WM_order 48 = .ok (.iload_n 2, 1) := by decide +kernel
set_option maxRecDepth 100000 in
theorem d_WM_order_49 : decode b_WM_order 49 = .ok (.isub, 1) := by decide +kernel
set_option maxRecDepth 100000 in
theorem d_WM_order_50 : decode b_WM_order 50 = .ok (.ireturn, 1) := by decide +kernel
set_option maxRecDepth 100000 in
theorem d_WM_order_51 : decode b_WM_order 51 = .ok (.aload_n 0, 1) := by decide +kernel
set_option maxRecDepth 100000 in
theorem d_WM_order_52 : decode b_WM_order 52 = .ok (.getfield 55, 3) := by decide +kernel
set_option maxRecDepth 100000 in
theorem d_WM_order_55 : decode b_WM_order 55 = .ok (.iload_n 1, 1) := by decide +kernel
set_option maxRecDepth 100000 in
theorem d_WM_order_56 : decode b_WM_order 56 = .ok (.putfield 217, 3) := by decide +kernel
set_option maxRecDepth 100000 in
theorem d_WM_order_59 : decode b_WM_order 59 = .ok (.aload_n 0, 1) := by decide +kernel
set_option maxRecDepth 100000 in
theorem d_WM_order_60 : decode b_WM_order 60 = .ok (.getfield 55, 3) := by decide +kernel
set_option maxRecDepth 100000 in
theorem d_WM_order_63 : decode b_WM_order 63 = .ok (.aload_n 0, 1) := by decide +kernel
set_option maxRecDepth 100000 in
theorem d_WM_order_64 : decode b_WM_order 64 = .ok (.invokevirtual 97, 3) := by decide +kernel
set_option maxRecDepth 100000 in
theorem d_WM_order_67 : decode b_WM_order 67 = .ok (.putfield 220, 3) := by decide +kernel
set_option maxRecDepth 100000 in
theorem d_WM_order_70 : decode b_WM_order 70 = .ok (.aload_n 0, 1) := by decide +kernel
set_option maxRecDepth 100000 in
theorem d_WM_order_71 : decode b_WM_order 71 = .ok (.getfield 30, 3) := by decide +kernel
set_option maxRecDepth 100000 in
theorem d_WM_order_74 : decode b_WM_order 74 = .ok (.aload_n 0, 1) := by decide +kernel
set_option maxRecDepth 100000 in
theorem d_WM_order_75 : decode b_WM_order 75 = .ok (.getfield 210, 3) := by decide +kernel
set_option maxRecDepth 100000 in
theorem d_WM_order_78 : decode b_WM_order 78 = .ok (.aload_n 0, 1) := by decide +kernel
set_option maxRecDepth 100000 in
theorem d_WM_order_79 : decode b_WM_order 79 = .ok (.getfield 55, 3) := by decide +kernel
set_option maxRecDepth 100000 in
theorem d_WM_order_82 : decode b_WM_order 82 = .ok (.aastore, 1) := by decide +kernel
set_option maxRecDepth 100000 in
theorem d_WM_order_83 : decode b_WM_order 83 = .ok (.aload_n 0, 1) := by decide +kernel
set_option maxRecDepth 100000 in
theorem d_WM_order_84 : decode b_WM_order 84 = .ok (.dup, 1) := by decide +kernel
set_option maxRecDepth 100000 in
theorem d_WM_order_85 : decode b_WM_order 85 = .ok (.getfield 210, 3) := by decide +kernel
set_option maxRecDepth 100000 in
theorem d_WM_order_88 : decode b_WM_order 88 = .ok (.iconst 1, 1) := by decide +kernel
set_option maxRecDepth 100000 in
theorem d_WM_order_89 : decode b_WM_order 89 = .ok (.iadd, 1) := by decide +kernel
set_option maxRecDepth 100000 in
theorem d_WM_order_90 : decode b_WM_order 90 = .ok (.putfield 210, 3) := by decide +kernel
set_option maxRecDepth 100000 in
theorem d_WM_order_93 : decode b_WM_order 93 = .ok (.aload_n 0, 1) := by decide +kernel
set_option maxRecDepth 100000 in
theorem d_WM_order_94 : decode b_WM_order 94 = .ok (.new 28, 3) := by decide +kernel
set_option maxRecDepth 100000 in
theorem d_WM_order_97 : decode b_WM_order 97 = .ok (.dup, 1) := by decide +kernel
set_option maxRecDepth 100000 in
theorem d_WM_order_98 : decode b_WM_order 98 = .ok (.invokespecial 54, 3) := by decide +kernel
set_option maxRecDepth 100000 in
theorem d_WM_order_101 : decode b_WM_order 101 = .ok (.putfield 55, 3) := by decide +kernel
set_option maxRecDepth 100000 in
theorem d_WM_order_104 : decode b_WM_order 104 = .ok (.aload_n 0, 1) := by decide +kernel
set_option maxRecDepth 100000 in
theorem d_WM_order_105 : decode b_WM_order 105 = .ok (.getfield 210, 3) := by decide +kernel
set_option maxRecDepth 100000 in
theorem d_WM_order_108 : decode b_WM_order 108 = .ok (.iconst 1, 1) := by decide +kernel
set_option maxRecDepth 100000 in
theorem d_WM_order_109 : decode b_WM_order 109 = .ok (.isub, 1) := by decide +kernel
set_option maxRecDepth 100000 in
theorem d_WM_order_110 : decode b_WM_order 110 = .ok (.ireturn, 1) := by decide +kernel
set_option maxRecDepth 100000 in
theorem d_WM_orderAt_0 : decode b_WM_orderAt 0 = .ok (.iload_n 1, 1) := by decide +kernel
set_option maxRecDepth 100000 in
theorem d_WM_orderAt_1 : decode b_WM_orderAt 1 = .ok (.ifCond .lt 20, 3) := by decide +kernel
set_option maxRecDepth 100000 in
theorem d_WM_orderAt_4 : decode b_WM_orderAt 4 = .ok (.iload_n 1, 1) := by decide +kernel
set_option maxRecDepth 100000 in
theorem d_WM_orderAt_5 : decode b_WM_orderAt 5 = .ok (.aload_n 0, 1) := by decide +kernel
set_option maxRecDepth 100000 in
theorem d_WM_orderAt_6 : decode b_WM_orderAt 6 = .ok (.getfield 210, 3) := by decide +kernel
set_option maxRecDepth 100000 in
theorem d_WM_orderAt_9 : decode b_WM_orderAt 9 = .ok (.if_icmp .ge 12, 3) := by decide +kernel
set_option maxRecDepth 100000 in
theorem d_WM_orderAt_12 : decode b_WM_orderAt 12 = .ok (.aload_n 0, 1) := by decide +kernel
set_option maxRecDepth 100000 in
theorem d_WM_orderAt_13 : decode b_WM_orderAt 13 = .ok (.getfield 30, 3) := by decide +kernel
set_option maxRecDepth 100000 in
theorem d_WM_orderAt_16 : decode b_WM_orderAt 16 = .ok (.iload_n 1, 1) := by decide +kernel
set_option maxRecDepth 100000 in
theorem d_WM_orderAt_17 : decode b_WM_orderAt 17 = .ok (.aaload, 1) := by decide +kernel
set_option maxRecDepth 100000 in
theorem d_WM_orderAt_18 : decode b_WM_orderAt 18 = .ok (.goto 4, 3) := by decide +kernel
set_option maxRecDepth 100000 in
theorem d_WM_orderAt_21 : decode b_WM_orderAt 21 = .ok (.aconst_null, 1) := by decide +kernel
set_option maxRecDepth 100000 in
theorem d_WM_orderAt_22 : decode b_WM_orderAt 22 = .ok (.areturn, 1) := by decide +kernel
set_option maxRecDepth 100000 in
theorem d_WM_over_0 : decode b_WM_over 0 = .ok (.aload_n 0, 1) := by decide +kernel
set_option maxRecDepth 100000 in
theorem d_WM_over_1 : decode b_WM_over 1 = .ok (.iload_n 1, 1) := by decide +kernel
set_option maxRecDepth 100000 in
theorem d_WM_over_2 : decode b_WM_over 2 = .ok (.invokevirtual 107, 3) := by decide +kernel
set_option maxRecDepth 100000 in
theorem d_WM_over_5 : decode b_WM_over 5 = .ok (.ifnull 10, 3) := by decide +kernel
set_option maxRecDepth 100000 in
theorem d_WM_over_8 : decode b_WM_over 8 = .ok (.iload_n 2, 1) := by decide +kernel
set_option maxRecDepth 100000 in
theorem d_WM_over_9 : decode b_WM_over 9 = .ok (.invokestatic 75, 3) := by decide +kernel
set_option maxRecDepth 100000 in
theorem d_WM_over_12 : decode b_WM_over 12 = .ok (.ifCond .ne 5, 3) := by decide +kernel
set_option maxRecDepth 100000 in
theorem d_WM_over_15 : decode b_WM_over 15 = .ok (.iconst (-1), 1) := by decide +kernel
set_option maxRecDepth 100000 in
theorem d_WM_over_16 : decode b_WM_over 16 = .ok (.ireturn, 1) := by decide +kernel
set_option maxRecDepth 100000 in
theorem d_WM_over_17 : decode b_WM_over 17 = .ok (.iconst 0, 1) := by decide +kernel
set_option maxRecDepth 100000 in
theorem d_WM_over_18 : decode b_WM_over 18 = .ok (.istore_n 3, 1) := by decide +kernel
set_option maxRecDepth 100000 in
theorem d_WM_over_19 : decode b_WM_over 19 = .ok (.iconst 0, 1) := by decide +kernel
set_option maxRecDepth 100000 in
theorem d_WM_over_20 : decode b_WM_over 20 = .ok (.istore 4, 2) := by decide +kernel
set_option maxRecDepth 100000 in
theorem d_WM_over_22 : decode b_WM_over 22 = .ok (.iload 4, 2) := by decide +kernel
set_option maxRecDepth 100000 in
theorem d_WM_over_24 : decode b_WM_over 24 = .ok (.aload_n 0, 1) := by decide +kernel
set_option maxRecDepth 100000 in
theorem d_WM_over_25 : decode b_WM_over 25 = .ok (.getfield 243, 3) := by decide +kernel
set_option maxRecDepth 100000 in
theorem d_WM_over_28 : decode b_WM_over 28 = .ok (.if_icmp .ge 41, 3) := by decide +kernel
set_option maxRecDepth 100000 in
theorem d_WM_over_31 : decode b_WM_over 31 = .ok (.aload_n 0, 1) := by decide +kernel
set_option maxRecDepth 100000 in
theorem d_WM_over_32 : decode b_WM_over 32 = .ok (.iload 4, 2) := by decide +kernel
set_option maxRecDepth 100000 in
theorem d_WM_over_34 : decode b_WM_over 34 = .ok (.invokevirtual 293, 3) := by decide +kernel
set_option maxRecDepth 100000 in
theorem d_WM_over_37 : decode b_WM_over 37 = .ok (.astore 5, 2) := by decide +kernel
set_option maxRecDepth 100000 in
theorem d_WM_over_39 : decode b_WM_over 39 = .ok (.aload 5, 2) := by decide +kernel
set_option maxRecDepth 100000 in
theorem d_WM_over_41 : decode b_WM_over 41 = .ok (.ifnull 22, 3) := by decide +kernel
set_option maxRecDepth 100000 in
theorem d_WM_over_44 : decode b_WM_over 44 = .ok (.aload 5, 2) := by decide +kernel
set_option maxRecDepth 100000 in
theorem d_WM_over_46 : decode b_WM_over 46 = .ok (.getfield 306, 3) := by decide +kernel
set_option maxRecDepth 100000 in
theorem d_WM_over_49 : decode b_WM_over 49 = .ok (.iload_n 1, 1) := by decide +kernel
set_option maxRecDepth 100000 in
theorem d_WM_over_50 : decode b_WM_over 50 = .ok (.if_icmp .ne 13, 3) := by decide +kernel
set_option maxRecDepth 100000 in
theorem d_WM_over_53 : decode b_WM_over 53 = .ok (.iload_n 3, 1) := by decide +kernel
set_option maxRecDepth 100000 in
theorem d_WM_over_54 : decode b_WM_over 54 = .ok (.aload_n 0, 1) := by decide +kernel
set_option maxRecDepth 100000 in
theorem d_WM_over_55 : decode b_WM_over 55 = .ok (.aload 5, 2) := by decide +kernel
set_option maxRecDepth 100000 in
theorem d_WM_over_57 : decode b_WM_over 57 = .ok (.iload_n 2, 1) := by decide +kernel
set_option maxRecDepth 100000 in
theorem d_WM_over_58 : decode b_WM_over 58 = .ok (.invokevirtual 319, 3) := by decide +kernel
set_option maxRecDepth 100000 in
theorem d_WM_over_61 : decode b_WM_over 61 = .ok (.iadd, 1) := by decide +kernel
set_option maxRecDepth 100000 in
theorem d_WM_over_62 : decode b_WM_over 62 = .ok (.istore_n 3, 1) := by decide +kernel
set_option maxRecDepth 100000 in
theorem d_WM_over_63 : decode b_WM_over 63 = .ok (.iinc 4 1, 3) := by decide +kernel
set_option maxRecDepth 100000 in
theorem d_WM_over_66 : decode b_WM_over 66 = .ok (.goto (-44), 3) := by decide +kernel
set_option maxRecDepth 100000 in
theorem d_WM_over_69 : decode b_WM_over 69 = .ok (.iload_n 3, 1) := by decide +kernel
set_option maxRecDepth 100000 in
theorem d_WM_over_70 : decode b_WM_over 70 = .ok (.ireturn, 1) := by decide +kernel
set_option maxRecDepth 100000 in
theorem d_WM_overpaid_0 : decode b_WM_overpaid 0 = .ok (.aload_n 0, 1) := by decide +kernel
set_option maxRecDepth 100000 in
theorem d_WM_overpaid_1 : decode b_WM_overpaid 1 = .ok (.aload_n 1, 1) := by decide +kernel
set_option maxRecDepth 100000 in
theorem d_WM_overpaid_2 : decode b_WM_overpaid 2 = .ok (.iload_n 2, 1) := by decide +kernel
set_option maxRecDepth 100000 in
theorem d_WM_overpaid_3 : decode b_WM_overpaid 3 = .ok (.invokevirtual 315, 3) := by decide +kernel
set_option maxRecDepth 100000 in
theorem d_WM_overpaid_6 : decode b_WM_overpaid 6 = .ok (.istore_n 3, 1) := by decide +kernel
set_option maxRecDepth 100000 in
theorem d_WM_overpaid_7 : decode b_WM_overpaid 7 = .ok (.iload_n 3, 1) := by decide +kernel
set_option maxRecDepth 100000 in
theorem d_WM_overpaid_8 : decode b_WM_overpaid 8 = .ok (.iconst (-1), 1) := by decide +kernel
set_option maxRecDepth 100000 in
theorem d_WM_overpaid_9 : decode b_WM_overpaid 9 = .ok (.if_icmp .ne 7, 3) := by decide +kernel
set_option maxRecDepth 100000 in
theorem d_WM_overpaid_12 : decode b_WM_overpaid 12 = .ok (.iconst 0, 1) := by decide +kernel
set_option maxRecDepth 100000 in
theorem d_WM_overpaid_13 : decode b_WM_overpaid 13 = .ok (.goto 13, 3) := by decide +kernel
set_option maxRecDepth 100000 in
theorem d_WM_overpaid_16 : decode b_WM_overpaid 16 = .ok (.iconst 0, 1) := by decide +kernel
set_option maxRecDepth 100000 in
theorem d_WM_overpaid_17 : decode b_WM_overpaid 17 = .ok (.aload_n 1, 1) := by decide +kernel
set_option maxRecDepth 100000 in
theorem d_WM_overpaid_18 : decode b_WM_overpaid 18 = .ok (.getfield 312, 3) := by decide +kernel
set_option maxRecDepth 100000 in
theorem d_WM_overpaid_21 : decode b_WM_overpaid 21 = .ok (.iload_n 3, 1) := by decide +kernel
set_option maxRecDepth 100000 in
theorem d_WM_overpaid_22 : decode b_WM_overpaid 22 = .ok (.isub, 1) := by decide +kernel
set_option maxRecDepth 100000 in
theorem d_WM_overpaid_23 : decode b_WM_overpaid 23 = .ok (.invokestatic 370, 3) := by decide +kernel
set_option maxRecDepth 100000 in
theorem d_WM_overpaid_26 : decode b_WM_overpaid 26 = .ok (.ireturn, 1) := by decide +kernel
set_option maxRecDepth 100000 in
theorem d_WM_partPot_0 : decode b_WM_partPot 0 = .ok (.iload_n 1, 1) := by decide +kernel
set_option maxRecDepth 100000 in
theorem d_WM_partPot_1 : decode b_WM_partPot 1 = .ok (.invokestatic 391, 3) := by decide +kernel
set_option maxRecDepth 100000 in
theorem d_WM_partPot_4 : decode b_WM_partPot 4 = .ok (.ifCond .ne 4, 3) := by decide +kernel
set_option maxRecDepth 100000 in
theorem d_WM_partPot_7 : decode b_WM_partPot 7 = .ok (.return_, 1) := by decide +kernel
set_option maxRecDepth 100000 in
theorem d_WM_partPot_8 : decode b_WM_partPot 8 = .ok (.iconst 0, 1) := by decide +kernel
set_option maxRecDepth 100000 in
theorem d_WM_partPot_9 : decode b_WM_partPot 9 = .ok (.istore_n 2, 1) := by decide +kernel
set_option maxRecDepth 100000 in
theorem d_WM_partPot_10 : decode b_WM_partPot 10 = .ok (.iconst 0, 1) := by decide +kernel
set_option maxRecDepth 100000 in
theorem d_WM_partPot_11 : decode b_WM_partPot 11 = .ok (.istore_n 3, 1) := by decide +kernel
set_option maxRecDepth 100000 in
theorem d_WM_partPot_12 : decode b_WM_partPot 12 = .ok (.iload_n 3, 1) := by decide +kernel
set_option maxRecDepth 100000 in
theorem d_WM_partPot_13 : decode b_WM_partPot 13 = .ok (.bipush 40, 2) := by decide +kernel
set_option maxRecDepth 100000 in
theorem d_WM_partPot_15 : decode b_WM_partPot 15 = .ok (.if_icmp .ge 34, 3) := by decide +kernel
set_option maxRecDepth 100000 in
theorem d_WM_partPot_18 : decode b_WM_partPot 18 = .ok (.aload_n 0, 1) := by decide +kernel
set_option maxRecDepth 100000 in
theorem d_WM_partPot_19 : decode b_WM_partPot 19 = .ok (.getfield 18, 3) := by decide +kernel
set_option maxRecDepth 100000 in
theorem d_WM_partPot_22 : decode b_WM_partPot 22 = .ok (.iload_n 3, 1) := by decide +kernel
set_option maxRecDepth 100000 in
theorem d_WM_partPot_23 : decode b_WM_partPot 23 = .ok (.aaload, 1) := by decide +kernel
set_option maxRecDepth 100000 in
theorem d_WM_partPot_24 : decode b_WM_partPot 24 = .ok (.astore 4, 2) := by decide +kernel
set_option maxRecDepth 100000 in
theorem d_WM_partPot_26 : decode b_WM_partPot 26 = .ok (.aload 4, 2) := by decide +kernel
set_option maxRecDepth 100000 in
theorem d_WM_partPot_28 : decode b_WM_partPot 28 = .ok (.ifnull 15, 3) := by decide +kernel
set_option maxRecDepth 100000 in
theorem d_WM_partPot_31 : decode b_WM_partPot 31 = .ok (.aload 4, 2) := by decide +kernel
set_option maxRecDepth 100000 in
theorem d_WM_partPot_33 : decode b_WM_partPot 33 = .ok (.getfield 394, 3) := by decide +kernel
set_option maxRecDepth 100000 in
theorem d_WM_partPot_36 : decode b_WM_partPot 36 = .ok (.iload_n 1, 1) := by decide +kernel
set_option maxRecDepth 100000 in
theorem d_WM_partPot_37 : decode b_WM_partPot 37 = .ok (.if_icmp .ne 6, 3) := by decide +kernel
set_option maxRecDepth 100000 in
theorem d_WM_partPot_40 : decode b_WM_partPot 40 = .ok (.iinc 2 1, 3) := by decide +kernel
set_option maxRecDepth 100000 in
theorem d_WM_partPot_43 : decode b_WM_partPot 43 = .ok (.iinc 3 1, 3) := by decide +kernel
set_option maxRecDepth 100000 in
theorem d_WM_partPot_46 : decode b_WM_partPot 46 = .ok (.goto (-34), 3) := by decide +kernel
set_option maxRecDepth 100000 in
theorem d_WM_partPot_49 : decode b_WM_partPot 49 = .ok (.iload_n 2, 1) := by decide +kernel
set_option maxRecDepth 100000 in
theorem d_WM_partPot_50 : decode b_WM_partPot 50 = .ok (.ifCond .ne 4, 3) := by decide +kernel
set_option maxRecDepth 100000 in
theorem d_WM_partPot_53 : decode b_WM_partPot 53 = .ok (.return_, 1) := by decide +kernel
set_option maxRecDepth 100000 in
theorem d_WM_partPot_54 : decode b_WM_partPot 54 = .ok (.aload_n 0, 1) := by decide +kernel
set_option maxRecDepth 100000 in
theorem d_WM_partPot_55 : decode b_WM_partPot 55 = .ok (.getfield 50, 3) := by decide +kernel
set_option maxRecDepth 100000 in
theorem d_WM_partPot_58 : decode b_WM_partPot 58 = .ok (.getfield 344, 3) := by decide +kernel
set_option maxRecDepth 100000 in
theorem d_WM_partPot_61 : decode b_WM_partPot 61 = .ok (.iload_n 2, 1) := by decide +kernel
set_option maxRecDepth 100000 in
theorem d_WM_partPot_62 : decode b_WM_partPot 62 = .ok (.idiv, 1) := by decide +kernel
set_option maxRecDepth 100000 in
theorem d_WM_partPot_63 : decode b_WM_partPot 63 = .ok (.istore_n 3, 1) := by decide +kernel
set_option maxRecDepth 100000 in
theorem d_WM_partPot_64 : decode b_WM_partPot 64 = .ok (.iconst 0, 1) := by decide +kernel
set_option maxRecDepth 100000 in
theorem d_WM_partPot_65 : decode b_WM_partPot 65 = .ok (.istore 4, 2) := by decide +kernel
set_option maxRecDepth 100000 in
theorem d_WM_partPot_67 : decode b_WM_partPot 67 = .ok (.iload 4, 2) := by decide +kernel
set_option maxRecDepth 100000 in
theorem d_WM_partPot_69 : decode b_WM_partPot 69 = .ok (.bipush 40, 2) := by decide +kernel
set_option maxRecDepth 100000 in
theorem d_WM_partPot_71 : decode b_WM_partPot 71 = .ok (.if_icmp .ge 43, 3) := by decide +kernel
set_option maxRecDepth 100000 in
theorem d_WM_partPot_74 : decode b_WM_partPot 74 = .ok (.aload_n 0, 1) := by decide +kernel
set_option maxRecDepth 100000 in
theorem d_WM_partPot_75 : decode b_WM_partPot 75 = .ok (.getfield 18, 3) := by decide +kernel
set_option maxRecDepth 100000 in
theorem d_WM_partPot_78 : decode b_WM_partPot 78 = .ok (.iload 4, 2) := by decide +kernel
set_option maxRecDepth 100000 in
theorem d_WM_partPot_80 : decode b_WM_partPot 80 = .ok (.aaload, 1) := by decide +kernel
set_option maxRecDepth 100000 in
theorem d_WM_partPot_81 : decode b_WM_partPot 81 = .ok (.astore 5, 2) := by decide +kernel
set_option maxRecDepth 100000 in
theorem d_WM_partPot_83 : decode b_WM_partPot 83 = .ok (.aload 5, 2) := by decide +kernel
set_option maxRecDepth 100000 in
theorem d_WM_partPot_85 : decode b_WM_partPot 85 = .ok (.ifnull 23, 3) := by decide +kernel
set_option maxRecDepth 100000 in
theorem d_WM_partPot_88 : decode b_WM_partPot 88 = .ok (.aload 5, 2) := by decide +kernel
set_option maxRecDepth 100000 in
theorem d_WM_partPot_90 : decode b_WM_partPot 90 = .ok (.getfield 394, 3) := by decide +kernel
set_option maxRecDepth 100000 in
theorem d_WM_partPot_93 : decode b_WM_partPot 93 = .ok (.iload_n 1, 1) := by decide +kernel
set_option maxRecDepth 100000 in
theorem d_WM_partPot_94 : decode b_WM_partPot 94 = .ok (.if_icmp .ne 14, 3) := by decide +kernel
set_option maxRecDepth 100000 in
theorem d_WM_partPot_97 : decode b_WM_partPot 97 = .ok (.aload 5, 2) := by decide +kernel
set_option maxRecDepth 100000 in
theorem d_WM_partPot_99 : decode b_WM_partPot 99 = .ok (.dup, 1) := by decide +kernel
set_option maxRecDepth 100000 in
theorem d_WM_partPot_100 : decode b_WM_partPot 100 = .ok (.getfield 152, 3) := by decide +kernel
set_option maxRecDepth 100000 in
theorem d_WM_partPot_103 : decode b_WM_partPot 103 = .ok (.iload_n 3, 1) := by decide +kernel
set_option maxRecDepth 100000 in
theorem d_WM_partPot_104 : decode b_WM_partPot 104 = .ok (.iadd, 1) := by decide +kernel
set_option maxRecDepth 100000 in
theorem d_WM_partPot_105 : decode b_WM_partPot 105 = .ok (.putfield 152, 3) := by decide +kernel
set_option maxRecDepth 100000 in
theorem d_WM_partPot_108 : decode b_WM_partPot 108 = .ok (.iinc 4 1, 3) := by decide +kernel
set_option maxRecDepth 100000 in
theorem d_WM_partPot_111 : decode b_WM_partPot 111 = .ok (.goto (-44), 3) := by decide +kernel
set_option maxRecDepth 100000 in
theorem d_WM_partPot_114 : decode b_WM_partPot 114 = .ok (.aload_n 0, 1) := by decide +kernel
set_option maxRecDepth 100000 in
theorem d_WM_partPot_115 : decode b_WM_partPot 115 = .ok (.getfield 50, 3) := by decide +kernel
set_option maxRecDepth 100000 in
theorem d_WM_partPot_118 : decode b_WM_partPot 118 = .ok (.iload_n 1, 1) := by decide +kernel
set_option maxRecDepth 100000 in
theorem d_WM_partPot_119 : decode b_WM_partPot 119 = .ok (.aload_n 0, 1) := by decide +kernel
set_option maxRecDepth 100000 in
theorem d_WM_partPot_120 : decode b_WM_partPot 120 = .ok (.getfield 50, 3) := by decide +kernel
set_option maxRecDepth 100000 in
theorem d_WM_partPot_123 : decode b_WM_partPot 123 = .ok (.getfield 344, 3) := by decide +kernel
set_option maxRecDepth 100000 in
theorem d_WM_partPot_126 : decode b_WM_partPot 126 = .ok (.iload_n 3, 1) := by decide +kernel
set_option maxRecDepth 100000 in
theorem d_WM_partPot_127 : decode b_WM_partPot 127 = .ok (.iload_n 2, 1) := by decide +kernel
set_option maxRecDepth 100000 in
theorem d_WM_partPot_128 : decode b_WM_partPot 128 = .ok (.imul, 1) := by decide +kernel
set_option maxRecDepth 100000 in
theorem d_WM_partPot_129 : decode b_WM_partPot 129 = .ok (.isub, 1) := by decide +kernel
set_option maxRecDepth 100000 in
theorem d_WM_partPot_130 : decode b_WM_partPot 130 = .ok (.invokevirtual 388, 3) := by decide +kernel
set_option maxRecDepth 100000 in
theorem d_WM_partPot_133 : decode b_WM_partPot 133 = .ok (.aload_n 0, 1) := by decide +kernel
set_option maxRecDepth 100000 in
theorem d_WM_partPot_134 : decode b_WM_partPot 134 = .ok (.getfield 50, 3) := by decide +kernel
set_option maxRecDepth 100000 in
theorem d_WM_partPot_137 : decode b_WM_partPot 137 = .ok (.iconst 0, 1) := by decide +kernel
set_option maxRecDepth 100000 in
theorem d_WM_partPot_138 : decode b_WM_partPot 138 = .ok (.putfield 344, 3) := by decide +kernel
set_option maxRecDepth 100000 in
theorem d_WM_partPot_141 : decode b_WM_partPot 141 = .ok (.return_, 1) := by decide +kernel
set_option maxRecDepth 100000 in
theorem d_WM_pass_0 : decode b_WM_pass 0 = .ok (.aload_n 0, 1) := by decide +kernel
set_option maxRecDepth 100000 in
theorem d_WM_pass_1 : decode b_WM_pass 1 = .ok (.iload_n 1, 1) := by decide +kernel
set_option maxRecDepth 100000 in
theorem d_WM_pass_2 : decode b_WM_pass 2 = .ok (.invokevirtual 139, 3) := by decide +kernel
set_option maxRecDepth 100000 in
theorem d_WM_pass_5 : decode b_WM_pass 5 = .ok (.istore_n 2, 1) := by decide +kernel
set_option maxRecDepth 100000 in
theorem d_WM_pass_6 : decode b_WM_pass 6 = .ok (.aload_n 0, 1) := by decide +kernel
set_option maxRecDepth 100000 in
theorem d_WM_pass_7 : decode b_WM_pass 7 = .ok (.iload_n 1, 1) := by decide +kernel
set_option maxRecDepth 100000 in
theorem d_WM_pass_8 : decode b_WM_pass 8 = .ok (.invokevirtual 107, 3) := by decide +kernel
set_option maxRecDepth 100000 in
theorem d_WM_pass_11 : decode b_WM_pass 11 = .ok (.astore_n 3, 1) := by decide +kernel
set_option maxRecDepth 100000 in
theorem d_WM_pass_12 : decode b_WM_pass 12 = .ok (.iload_n 2, 1) := by decide +kernel
set_option maxRecDepth 100000 in
theorem d_WM_pass_13 : decode b_WM_pass 13 = .ok (.ifCond .lt 7, 3) := by decide +kernel
set_option maxRecDepth 100000 in
theorem d_WM_pass_16 : decode b_WM_pass 16 = .ok (.aload_n 3, 1) := by decide +kernel
set_option maxRecDepth 100000 in
theorem d_WM_pass_17 : decode b_WM_pass 17 = .ok (.ifnonnull 5, 3) := by decide +kernel
set_option maxRecDepth 100000 in
theorem d_WM_pass_20 : decode b_WM_pass 20 = .ok (.iload_n 2, 1) := by decide +kernel
set_option maxRecDepth 100000 in
theorem d_WM_pass_21 : decode b_WM_pass 21 = .ok (.ireturn, 1) := by decide +kernel
set_option maxRecDepth 100000 in
theorem d_WM_pass_22 : decode b_WM_pass 22 = .ok (.iload_n 2, 1) := by decide +kernel
set_option maxRecDepth 100000 in
theorem d_WM_pass_23 : decode b_WM_pass 23 = .ok (.sipush 300, 3) := by decide +kernel
set_option maxRecDepth 100000 in
theorem d_WM_pass_26 : decode b_WM_pass 26 = .ok (.if_icmp .ge 12, 3) := by decide +kernel
set_option maxRecDepth 100000 in
theorem d_WM_pass_29 : decode b_WM_pass 29 = .ok (.bipush (-100), 2) := by decide +kernel
set_option maxRecDepth 100000 in
theorem d_WM_pass_31 : decode b_WM_pass 31 = .ok (.sipush 300, 3) := by decide +kernel
set_option maxRecDepth 100000 in
theorem d_WM_pass_34 : decode b_WM_pass 34 = .ok (.iload_n 2, 1) := by decide +kernel
set_option maxRecDepth 100000 in
theorem d_WM_pass_35 : decode b_WM_pass 35 = .ok (.isub, 1) := by decide +kernel
set_option maxRecDepth 100000 in
theorem d_WM_pass_36 : decode b_WM_pass 36 = .ok (.isub, 1) := by decide +kernel
set_option maxRecDepth 100000 in
theorem d_WM_pass_37 : decode b_WM_pass 37 = .ok (.ireturn, 1) := by decide +kernel
set_option maxRecDepth 100000 in
theorem d_WM_pass_38 : decode b_WM_pass 38 = .ok (.aload_n 3, 1) := by decide +kernel
set_option maxRecDepth 100000 in
theorem d_WM_pass_39 : decode b_WM_pass 39 = .ok (.iconst 2, 1) := by decide +kernel
set_option maxRecDepth 100000 in
theorem d_WM_pass_40 : decode b_WM_pass 40 = .ok (.putfield 111, 3) := by decide +kernel
set_option maxRecDepth 100000 in
theorem d_WM_pass_43 : decode b_WM_pass 43 = .ok (.iconst 1, 1) := by decide +kernel
set_option maxRecDepth 100000 in
theorem d_WM_pass_44 : decode b_WM_pass 44 = .ok (.ireturn, 1) := by decide +kernel
set_option maxRecDepth 100000 in
theorem d_WM_pension_0 : decode b_WM_pension 0 = .ok (.iload_n 1, 1) := by decide +kernel
set_option maxRecDepth 100000 in
theorem d_WM_pension_1 : decode b_WM_pension 1 = .ok (.iload_n 2, 1) := by decide +kernel
set_option maxRecDepth 100000 in
theorem d_WM_pension_2 : decode b_WM_pension 2 = .ok (.invokestatic 277, 3) := by decide +kernel
set_option maxRecDepth 100000 in
theorem d_WM_pension_5 : decode b_WM_pension 5 = .ok (.ifCond .ne 5, 3) := by decide +kernel
set_option maxRecDepth 100000 in
theorem d_WM_pension_8 : decode b_WM_pension 8 = .ok (.iconst (-1), 1) := by decide +kernel
set_option maxRecDepth 100000 in
theorem d_WM_pension_9 : decode b_WM_pension 9 = .ok (.ireturn, 1) := by decide +kernel
set_option maxRecDepth 100000 in
theorem d_WM_pension_10 : decode b_WM_pension 10 = .ok (.aload_n 0, 1) := by decide +kernel
set_option maxRecDepth 100000 in
theorem d_WM_pension_11 : decode b_WM_pension 11 = .ok (.getfield 50, 3) := by decide +kernel
set_option maxRecDepth 100000 in
theorem d_WM_pension_14 : decode b_WM_pension 14 = .ok (.getfield 280, 3) := by decide +kernel
set_option maxRecDepth 100000 in
theorem d_WM_pension_17 : decode b_WM_pension 17 = .ok (.bipush 30, 2) := by decide +kernel
set_option maxRecDepth 100000 in
theorem d_WM_pension_19 : decode b_WM_pension 19 = .ok (.if_icmp .lt 8, 3) := by decide +kernel
set_option maxRecDepth 100000 in
theorem d_WM_pension_22 : decode b_WM_pension 22 = .ok (.bipush (-3), 2) := by decide +kernel
set_option maxRecDepth 100000 in
theorem d_WM_pension_24 : decode b_WM_pension 24 = .ok (.goto 12, 3) := by decide +kernel
set_option maxRecDepth 100000 in
theorem d_WM_pension_27 : decode b_WM_pension 27 = .ok (.aload_n 0, 1) := by decide +kernel
set_option maxRecDepth 100000 in
theorem d_WM_pension_28 : decode b_WM_pension 28 = .ok (.getfield 50, 3) := by decide +kernel
set_option maxRecDepth 100000 in
theorem d_WM_pension_31 : decode b_WM_pension 31 = .ok (.iload_n 1, 1) := by decide +kernel
set_option maxRecDepth 100000 in
theorem d_WM_pension_32 : decode b_WM_pension 32 = .ok (.iload_n 2, 1) := by decide +kernel
set_option maxRecDepth 100000 in
theorem d_WM_pension_33 : decode b_WM_pension 33 = .ok (.invokevirtual 300, 3) := by decide +kernel
set_option maxRecDepth 100000 in
theorem d_WM_pension_36 : decode b_WM_pension 36 = .ok (.ireturn, 1) := by decide +kernel
set_option maxRecDepth 100000 in
theorem d_WM_pensioner_0 : decode b_WM_pensioner 0 = .ok (.aload_n 0, 1) := by decide +kernel
set_option maxRecDepth 100000 in
theorem d_WM_pensioner_1 : decode b_WM_pensioner 1 = .ok (.getfield 50, 3) := by decide +kernel
set_option maxRecDepth 100000 in
theorem d_WM_pensioner_4 : decode b_WM_pensioner 4 = .ok (.iload_n 1, 1) := by decide +kernel
set_option maxRecDepth 100000 in
theorem d_WM_pensioner_5 : decode b_WM_pensioner 5 = .ok (.invokevirtual 325, 3) := by decide +kernel
set_option maxRecDepth 100000 in
theorem d_WM_pensioner_8 : decode b_WM_pensioner 8 = .ok (.astore_n 3, 1) := by decide +kernel
set_option maxRecDepth 100000 in
theorem d_WM_pensioner_9 : decode b_WM_pensioner 9 = .ok (.aload_n 3, 1) := by decide +kernel
set_option maxRecDepth 100000 in
theorem d_WM_pensioner_10 : decode b_WM_pensioner 10 = .ok (.ifnonnull 5, 3) := by decide +kernel
set_option maxRecDepth 100000 in
theorem d_WM_pensioner_13 : decode b_WM_pensioner 13 = .ok (.iconst (-1), 1) := by decide +kernel
set_option maxRecDepth 100000 in
theorem d_WM_pensioner_14 : decode b_WM_pensioner 14 = .ok (.ireturn, 1) := by decide +kernel
set_option maxRecDepth 100000 in
theorem d_WM_pensioner_15 : decode b_WM_pensioner 15 = .ok (.iload_n 2, 1) := by decide +kernel
set_option maxRecDepth 100000 in
theorem d_WM_pensioner_16 : decode b_WM_pensioner 16 = .ok (.tableswitch 43 0 2 #[28, 33, 38], 28) := by decide +kernel
set_option maxRecDepth 100000 in
theorem d_WM_pensioner_44 : decode b_WM_pensioner 44 = .ok (.aload_n 3, 1) := by decide +kernel
set_option maxRecDepth 100000 in
theorem d_WM_pensioner_45 : decode b_WM_pensioner 45 = .ok (.getfield 329, 3) := by decide +kernel
set_option maxRecDepth 100000 in
theorem d_WM_pensioner_48 : decode b_WM_pensioner 48 = .ok (.ireturn, 1) := by decide +kernel
set_option maxRecDepth 100000 in
theorem d_WM_pensioner_49 : decode b_WM_pensioner 49 = .ok (.aload_n 3, 1) := by decide +kernel
set_option maxRecDepth 100000 in
theorem d_WM_pensioner_50 : decode b_WM_pensioner 50 = .ok (.getfield 334, 3) := by decide +kernel
set_option maxRecDepth 100000 in
theorem d_WM_pensioner_53 : decode b_WM_pensioner 53 = .ok (.ireturn, 1) := by decide +kernel
set_option maxRecDepth 100000 in
theorem d_WM_pensioner_54 : decode b_WM_pensioner 54 = .ok (.aload_n 3, 1) := by decide +kernel
set_option maxRecDepth 100000 in
theorem d_WM_pensioner_55 : decode b_WM_pensioner 55 = .ok (.getfield 337, 3) := by decide +kernel
set_option maxRecDepth 100000 in
theorem d_WM_pensioner_58 : decode b_WM_pensioner 58 = .ok (.ireturn, 1) := by decide +kernel
set_option maxRecDepth 100000 in
theorem d_WM_pensioner_59 : decode b_WM_pensioner 59 = .ok (.iconst (-1), 1) := by decide +kernel
set_option maxRecDepth 100000 in
theorem d_WM_pensioner_60 : decode b_WM_pensioner 60 = .ok (.ireturn, 1) := by decide +kernel
set_option maxRecDepth 100000 in
theorem d_WM_placeInTurns_0 : decode b_WM_placeInTurns 0 = .ok (.aload_n 1, 1) := by decide +kernel
set_option maxRecDepth 100000 in
theorem d_WM_placeInTurns_1 : decode b_WM_placeInTurns 1 = .ok (.getfield 145, 3) := by decide +kernel
set_option maxRecDepth 100000 in
theorem d_WM_placeInTurns_4 : decode b_WM_placeInTurns 4 = .ok (.iconst (-1), 1) := by decide +kernel
set_option maxRecDepth 100000 in
theorem d_WM_placeInTurns_5 : decode b_WM_placeInTurns 5 = .ok (.if_icmp .ne 5, 3) := by decide +kernel
set_option maxRecDepth 100000 in
theorem d_WM_placeInTurns_8 : decode b_WM_placeInTurns 8 = .ok (.iconst (-1), 1) := by decide +kernel
set_option maxRecDepth 100000 in
theorem d_WM_placeInTurns_9 : decode b_WM_placeInTurns 9 = .ok (.ireturn, 1) := by decide +kernel
set_option maxRecDepth 100000 in
theorem d_WM_placeInTurns_10 : decode b_WM_placeInTurns 10 = .ok (.iconst 0, 1) := by decide +kernel
set_option maxRecDepth 100000 in
theorem d_WM_placeInTurns_11 : decode b_WM_placeInTurns 11 = .ok (.istore_n 2, 1) := by decide +kernel
set_option maxRecDepth 100000 in
theorem d_WM_placeInTurns_12 : decode b_WM_placeInTurns 12 = .ok (.iconst 0, 1) := by decide +kernel
set_option maxRecDepth 100000 in
theorem d_WM_placeInTurns_13 : decode b_WM_placeInTurns 13 = .ok (.istore_n 3, 1) := by decide +kernel
set_option maxRecDepth 100000 in
theorem d_WM_placeInTurns_14 : decode b_WM_placeInTurns 14 = .ok (.iload_n 3, 1) := by decide +kernel
set_option maxRecDepth 100000 in
theorem d_WM_placeInTurns_15 : decode b_WM_placeInTurns 15 = .ok (.bipush 40, 2) := by decide +kernel
set_option maxRecDepth 100000 in
theorem d_WM_placeInTurns_17 : decode b_WM_placeInTurns 17 = .ok (.if_icmp .ge 49, 3) := by decide +kernel
set_option maxRecDepth 100000 in
theorem d_WM_placeInTurns_20 : decode b_WM_placeInTurns 20 = .ok (.aload_n 0, 1) := by decide +kernel
set_option maxRecDepth 100000 in
theorem d_WM_placeInTurns_21 : decode b_WM_placeInTurns 21 = .ok (.getfield 18, 3) := by decide +kernel
set_option maxRecDepth 100000 in
theorem d_WM_placeInTurns_24 : decode b_WM_placeInTurns 24 = .ok (.iload_n 3, 1) := by decide +kernel
set_option maxRecDepth 100000 in
theorem d_WM_placeInTurns_25 : decode b_WM_placeInTurns 25 = .ok (.aaload, 1) := by decide +kernel
set_option maxRecDepth 100000 in
theorem d_WM_placeInTurns_26 : decode b_WM_placeInTurns 26 = .ok (.astore 4, 2) := by decide +kernel
set_option maxRecDepth 100000 in
theorem d_WM_placeInTurns_28 : decode b_WM_placeInTurns 28 = .ok (.aload 4, 2) := by decide +kernel
set_option maxRecDepth 100000 in
theorem d_WM_placeInTurns_30 : decode b_WM_placeInTurns 30 = .ok (.ifnull 30, 3) := by decide +kernel
set_option maxRecDepth 100000 in
theorem d_WM_placeInTurns_33 : decode b_WM_placeInTurns 33 = .ok (.aload 4, 2) := by decide +kernel
set_option maxRecDepth 100000 in
theorem d_WM_placeInTurns_35 : decode b_WM_placeInTurns 35 = .ok (.getfield 145, 3) := by decide +kernel
set_option maxRecDepth 100000 in
theorem d_WM_placeInTurns_38 : decode b_WM_placeInTurns 38 = .ok (.aload_n 1, 1) := by decide +kernel
set_option maxRecDepth 100000 in
theorem d_WM_placeInTurns_39 : decode b_WM_placeInTurns 39 = .ok (.getfield 145, 3) := by decide +kernel
set_option maxRecDepth 100000 in
theorem d_WM_placeInTurns_42 : decode b_WM_placeInTurns 42 = .ok (.if_icmp .ne 18, 3) := by decide +kernel
set_option maxRecDepth 100000 in
theorem d_WM_placeInTurns_45 : decode b_WM_placeInTurns 45 = .ok (.aload 4, 2) := by decide +kernel
set_option maxRecDepth 100000 in
theorem d_WM_placeInTurns_47 : decode b_WM_placeInTurns 47 = .ok (.getfield 196, 3) := by decide +kernel
set_option maxRecDepth 100000 in
theorem d_WM_placeInTurns_50 : decode b_WM_placeInTurns 50 = .ok (.aload_n 1, 1) := by decide +kernel
set_option maxRecDepth 100000 in
theorem d_WM_placeInTurns_51 : decode b_WM_placeInTurns 51 = .ok (.getfield 196, 3) := by decide +kernel
set_option maxRecDepth 100000 in
theorem d_WM_placeInTurns_54 : decode b_WM_placeInTurns 54 = .ok (.if_icmp .ge 6, 3) := by decide +kernel
set_option maxRecDepth 100000 in
theorem d_WM_placeInTurns_57 : decode b_WM_placeInTurns 57 = .ok (.iinc 2 1, 3) := by decide +kernel
set_option maxRecDepth 100000 in
theorem d_WM_placeInTurns_60 : decode b_WM_placeInTurns 60 = .ok (.iinc 3 1, 3) := by decide +kernel
set_option maxRecDepth 100000 in
theorem d_WM_placeInTurns_63 : decode b_WM_placeInTurns 63 = .ok (.goto (-49), 3) := by decide +kernel
set_option maxRecDepth 100000 in
theorem d_WM_placeInTurns_66 : decode b_WM_placeInTurns 66 = .ok (.iload_n 2, 1) := by decide +kernel
set_option maxRecDepth 100000 in
theorem d_WM_placeInTurns_67 : decode b_WM_placeInTurns 67 = .ok (.ireturn, 1) := by decide +kernel
set_option maxRecDepth 100000 in
theorem d_WM_priceOf_0 : decode b_WM_priceOf 0 = .ok (.iload 4, 2) := by decide +kernel
set_option maxRecDepth 100000 in
theorem d_WM_priceOf_2 : decode b_WM_priceOf 2 = .ok (.bipush 12, 2) := by decide +kernel
set_option maxRecDepth 100000 in
theorem d_WM_priceOf_4 : decode b_WM_priceOf 4 = .ok (.idiv, 1) := by decide +kernel
set_option maxRecDepth 100000 in
theorem d_WM_priceOf_5 : decode b_WM_priceOf 5 = .ok (.istore 6, 2) := by decide +kernel
set_option maxRecDepth 100000 in
theorem d_WM_priceOf_7 : decode b_WM_priceOf 7 = .ok (.iload 4, 2) := by decide +kernel
set_option maxRecDepth 100000 in
theorem d_WM_priceOf_9 : decode b_WM_priceOf 9 = .ok (.bipush 12, 2) := by decide +kernel
set_option maxRecDepth 100000 in
theorem d_WM_priceOf_11 : decode b_WM_priceOf 11 = .ok (.irem, 1) := by decide +kernel
set_option maxRecDepth 100000 in
theorem d_WM_priceOf_12 : decode b_WM_priceOf 12 = .ok (.istore 7, 2) := by decide +kernel
set_option maxRecDepth 100000 in
theorem d_WM_priceOf_14 : decode b_WM_priceOf 14 = .ok (.aload_n 0, 1) := by decide +kernel
set_option maxRecDepth 100000 in
theorem d_WM_priceOf_15 : decode b_WM_priceOf 15 = .ok (.getfield 12, 3) := by decide +kernel
set_option maxRecDepth 100000 in
theorem d_WM_priceOf_18 : decode b_WM_priceOf 18 = .ok (.iload_n 2, 1) := by decide +kernel
set_option maxRecDepth 100000 in
theorem d_WM_priceOf_19 : decode b_WM_priceOf 19 = .ok (.iload_n 3, 1) := by decide +kernel
set_option maxRecDepth 100000 in
theorem d_WM_priceOf_20 : decode b_WM_priceOf 20 = .ok (.iload 6, 2) := by decide +kernel
set_option maxRecDepth 100000 in
theorem d_WM_priceOf_22 : decode b_WM_priceOf 22 = .ok (.iload 7, 2) := by decide +kernel
set_option maxRecDepth 100000 in
theorem d_WM_priceOf_24 : decode b_WM_priceOf 24 = .ok (.invokevirtual 359, 3) := by decide +kernel
set_option maxRecDepth 100000 in
theorem d_WM_priceOf_27 : decode b_WM_priceOf 27 = .ok (.istore 8, 2) := by decide +kernel
set_option maxRecDepth 100000 in
theorem d_WM_priceOf_29 : decode b_WM_priceOf 29 = .ok (.aload_n 1, 1) := by decide +kernel
set_option maxRecDepth 100000 in
theorem d_WM_priceOf_30 : decode b_WM_priceOf 30 = .ok (.aload_n 0, 1) := by decide +kernel
set_option maxRecDepth 100000 in
theorem d_WM_priceOf_31 : decode b_WM_priceOf 31 = .ok (.getfield 12, 3) := by decide +kernel
set_option maxRecDepth 100000 in
theorem d_WM_priceOf_34 : decode b_WM_priceOf 34 = .ok (.iload_n 2, 1) := by decide +kernel
set_option maxRecDepth 100000 in
theorem d_WM_priceOf_35 : decode b_WM_priceOf 35 = .ok (.iload_n 3, 1) := by decide +kernel
set_option maxRecDepth 100000 in
theorem d_WM_priceOf_36 : decode b_WM_priceOf 36 = .ok (.invokevirtual 363, 3) := by decide +kernel
set_option maxRecDepth 100000 in
theorem d_WM_priceOf_39 : decode b_WM_priceOf 39 = .ok (.iload 8, 2) := by decide +kernel
set_option maxRecDepth 100000 in
theorem d_WM_priceOf_41 : decode b_WM_priceOf 41 = .ok (.iload 6, 2) := by decide +kernel
set_option maxRecDepth 100000 in
theorem d_WM_priceOf_43 : decode b_WM_priceOf 43 = .ok (.iload 7, 2) := by decide +kernel
set_option maxRecDepth 100000 in
theorem d_WM_priceOf_45 : decode b_WM_priceOf 45 = .ok (.iload 5, 2) := by decide +kernel
set_option maxRecDepth 100000 in
theorem d_WM_priceOf_47 : decode b_WM_priceOf 47 = .ok (.invokevirtual 366, 3) := by decide +kernel
set_option maxRecDepth 100000 in
theorem d_WM_priceOf_50 : decode b_WM_priceOf 50 = .ok (.ireturn, 1) := by decide +kernel
set_option maxRecDepth 100000 in
theorem d_WM_row_0 : decode b_WM_row 0 = .ok (.aload_n 0, 1) := by decide +kernel
set_option maxRecDepth 100000 in
theorem d_WM_row_1 : decode b_WM_row 1 = .ok (.iload_n 1, 1) := by decide +kernel
set_option maxRecDepth 100000 in
theorem d_WM_row_2 : decode b_WM_row 2 = .ok (.invokevirtual 174, 3) := by decide +kernel
set_option maxRecDepth 100000 in
theorem d_WM_row_5 : decode b_WM_row 5 = .ok (.astore 5, 2) := by decide +kernel
set_option maxRecDepth 100000 in
theorem d_WM_row_7 : decode b_WM_row 7 = .ok (.aload_n 0, 1) := by decide +kernel
set_option maxRecDepth 100000 in
theorem d_WM_row_8 : decode b_WM_row 8 = .ok (.iload_n 2, 1) := by decide +kernel
set_option maxRecDepth 100000 in
theorem d_WM_row_9 : decode b_WM_row 9 = .ok (.invokevirtual 107, 3) := by decide +kernel
set_option maxRecDepth 100000 in
theorem d_WM_row_12 : decode b_WM_row 12 = .ok (.astore 6, 2) := by decide +kernel
set_option maxRecDepth 100000 in
theorem d_WM_row_14 : decode b_WM_row 14 = .ok (.aload 5, 2) := by decide +kernel
set_option maxRecDepth 100000 in
theorem d_WM_row_16 : decode b_WM_row 16 = .ok (.ifnull 30, 3) := by decide +kernel
set_option maxRecDepth 100000 in
theorem d_WM_row_19 : decode b_WM_row 19 = .ok (.aload 6, 2) := by decide +kernel
set_option maxRecDepth 100000 in
theorem d_WM_row_21 : decode b_WM_row 21 = .ok (.ifnull 25, 3) := by decide +kernel
set_option maxRecDepth 100000 in
theorem d_WM_row_24 : decode b_WM_row 24 = .ok (.aload_n 0, 1) := by decide +kernel
set_option maxRecDepth 100000 in
theorem d_WM_row_25 : decode b_WM_row 25 = .ok (.aload 5, 2) := by decide +kernel
set_option maxRecDepth 100000 in
theorem d_WM_row_27 : decode b_WM_row 27 = .ok (.iload_n 3, 1) := by decide +kernel
set_option maxRecDepth 100000 in
theorem d_WM_row_28 : decode b_WM_row 28 = .ok (.invokevirtual 234, 3) := by decide +kernel
set_option maxRecDepth 100000 in
theorem d_WM_row_31 : decode b_WM_row 31 = .ok (.ifCond .eq 15, 3) := by decide +kernel
set_option maxRecDepth 100000 in
theorem d_WM_row_34 : decode b_WM_row 34 = .ok (.iload 4, 2) := by decide +kernel
set_option maxRecDepth 100000 in
theorem d_WM_row_36 : decode b_WM_row 36 = .ok (.ifCond .lt 10, 3) := by decide +kernel
set_option maxRecDepth 100000 in
theorem d_WM_row_39 : decode b_WM_row 39 = .ok (.iload 4, 2) := by decide +kernel
set_option maxRecDepth 100000 in
theorem d_WM_row_41 : decode b_WM_row 41 = .ok (.ldc 242, 2) := by decide +kernel
set_option maxRecDepth 100000 in
theorem d_WM_row_43 : decode b_WM_row 43 = .ok (.if_icmp .le 5, 3) := by decide +kernel
set_option maxRecDepth 100000 in
theorem d_WM_row_46 : decode b_WM_row 46 = .ok (.iconst (-1), 1) := by decide +kernel
set_option maxRecDepth 100000 in
theorem d_WM_row_47 : decode b_WM_row 47 = .ok (.ireturn, 1) := by decide +kernel
set_option maxRecDepth 100000 in
theorem d_WM_row_48 : decode b_WM_row 48 = .ok (.aload_n 0, 1) := by decide +kernel
set_option maxRecDepth 100000 in
theorem d_WM_row_49 : decode b_WM_row 49 = .ok (.aload 5, 2) := by decide +kernel
set_option maxRecDepth 100000 in
theorem d_WM_row_51 : decode b_WM_row 51 = .ok (.aload 6, 2) := by decide +kernel
set_option maxRecDepth 100000 in
theorem d_WM_row_53 : decode b_WM_row 53 = .ok (.iload_n 3, 1) := by decide +kernel
set_option maxRecDepth 100000 in
theorem d_WM_row_54 : decode b_WM_row 54 = .ok (.invokevirtual 238, 3) := by decide +kernel
set_option maxRecDepth 100000 in
theorem d_WM_row_57 : decode b_WM_row 57 = .ok (.istore 7, 2) := by decide +kernel
set_option maxRecDepth 100000 in
theorem d_WM_row_59 : decode b_WM_row 59 = .ok (.iload 7, 2) := by decide +kernel
set_option maxRecDepth 100000 in
theorem d_WM_row_61 : decode b_WM_row 61 = .ok (.ifCond .eq 9, 3) := by decide +kernel
set_option maxRecDepth 100000 in
theorem d_WM_row_64 : decode b_WM_row 64 = .ok (.bipush (-10), 2) := by decide +kernel
set_option maxRecDepth 100000 in
theorem d_WM_row_66 : decode b_WM_row 66 = .ok (.iload 7, 2) := by decide +kernel
set_option maxRecDepth 100000 in
theorem d_WM_row_68 : decode b_WM_row 68 = .ok (.isub, 1) := by decide +kernel
set_option maxRecDepth 100000 in
theorem d_WM_row_69 : decode b_WM_row 69 = .ok (.ireturn, 1) := by decide +kernel
set_option maxRecDepth 100000 in
theorem d_WM_row_70 : decode b_WM_row 70 = .ok (.aload_n 0, 1) := by decide +kernel
set_option maxRecDepth 100000 in
theorem d_WM_row_71 : decode b_WM_row 71 = .ok (.getfield 243, 3) := by decide +kernel
set_option maxRecDepth 100000 in
theorem d_WM_row_74 : decode b_WM_row 74 = .ok (.sipush 600, 3) := by decide +kernel
set_option maxRecDepth 100000 in
theorem d_WM_row_77 : decode b_WM_row 77 = .ok (.if_icmp .lt 6, 3) := by decide +kernel
set_option maxRecDepth 100000 in
theorem d_WM_row_80 : decode b_WM_row 80 = .ok (.bipush (-3), 2) := by decide +kernel
set_option maxRecDepth 100000 in
theorem d_WM_row_82 : decode b_WM_row 82 = .ok (.ireturn, 1) := by decide +kernel
set_option maxRecDepth 100000 in
theorem d_WM_row_83 : decode b_WM_row 83 = .ok (.new 34, 3) := by decide +kernel
set_option maxRecDepth 100000 in
theorem d_WM_row_86 : decode b_WM_row 86 = .ok (.dup, 1) := by decide +kernel
set_option maxRecDepth 100000 in
theorem d_WM_row_87 : decode b_WM_row 87 = .ok (.iload_n 1, 1) := by decide +kernel
set_option maxRecDepth 100000 in
theorem d_WM_row_88 : decode b_WM_row 88 = .ok (.iload_n 2, 1) := by decide +kernel
set_option maxRecDepth 100000 in
theorem d_WM_row_89 : decode b_WM_row 89 = .ok (.aload_n 0, 1) := by decide +kernel
set_option maxRecDepth 100000 in
theorem d_WM_row_90 : decode b_WM_row 90 = .ok (.getfield 155, 3) := by decide +kernel
set_option maxRecDepth 100000 in
theorem d_WM_row_93 : decode b_WM_row 93 = .ok (.iload 4, 2) := by decide +kernel
set_option maxRecDepth 100000 in
theorem d_WM_row_95 : decode b_WM_row 95 = .ok (.invokespecial 244, 3) := by decide +kernel
set_option maxRecDepth 100000 in
theorem d_WM_row_98 : decode b_WM_row 98 = .ok (.astore 8, 2) := by decide +kernel
set_option maxRecDepth 100000 in
theorem d_WM_row_100 : decode b_WM_row 100 = .ok (.aload 8, 2) := by decide +kernel
set_option maxRecDepth 100000 in
theorem d_WM_row_102 : decode b_WM_row 102 = .ok (.aload 5, 2) := by decide +kernel
set_option maxRecDepth 100000 in
theorem d_WM_row_104 : decode b_WM_row 104 = .ok (.getfield 178, 3) := by decide +kernel
set_option maxRecDepth 100000 in
theorem d_WM_row_107 : decode b_WM_row 107 = .ok (.putfield 247, 3) := by decide +kernel
set_option maxRecDepth 100000 in
theorem d_WM_row_110 : decode b_WM_row 110 = .ok (.aload 8, 2) := by decide +kernel
set_option maxRecDepth 100000 in
theorem d_WM_row_112 : decode b_WM_row 112 = .ok (.iload_n 3, 1) := by decide +kernel
set_option maxRecDepth 100000 in
theorem d_WM_row_113 : decode b_WM_row 113 = .ok (.putfield 250, 3) := by decide +kernel
set_option maxRecDepth 100000 in
theorem d_WM_row_116 : decode b_WM_row 116 = .ok (.aload 8, 2) := by decide +kernel
set_option maxRecDepth 100000 in
theorem d_WM_row_118 : decode b_WM_row 118 = .ok (.aload_n 0, 1) := by decide +kernel
set_option maxRecDepth 100000 in
theorem d_WM_row_119 : decode b_WM_row 119 = .ok (.getfield 155, 3) := by decide +kernel
set_option maxRecDepth 100000 in
theorem d_WM_row_122 : decode b_WM_row 122 = .ok (.aload_n 0, 1) := by decide +kernel
set_option maxRecDepth 100000 in
theorem d_WM_row_123 : decode b_WM_row 123 = .ok (.aload 5, 2) := by decide +kernel
set_option maxRecDepth 100000 in
theorem d_WM_row_125 : decode b_WM_row 125 = .ok (.iload_n 3, 1) := by decide +kernel
set_option maxRecDepth 100000 in
theorem d_WM_row_126 : decode b_WM_row 126 = .ok (.invokevirtual 253, 3) := by decide +kernel
set_option maxRecDepth 100000 in
theorem d_WM_row_129 : decode b_WM_row 129 = .ok (.iadd, 1) := by decide +kernel
set_option maxRecDepth 100000 in
theorem d_WM_row_130 : decode b_WM_row 130 = .ok (.putfield 257, 3) := by decide +kernel
set_option maxRecDepth 100000 in
theorem d_WM_row_133 : decode b_WM_row 133 = .ok (.aload_n 0, 1) := by decide +kernel
set_option maxRecDepth 100000 in
theorem d_WM_row_134 : decode b_WM_row 134 = .ok (.getfield 36, 3) := by decide +kernel
set_option maxRecDepth 100000 in
theorem d_WM_row_137 : decode b_WM_row 137 = .ok (.aload_n 0, 1) := by decide +kernel
set_option maxRecDepth 100000 in
theorem d_WM_row_138 : decode b_WM_row 138 = .ok (.getfield 243, 3) := by decide +kernel
set_option maxRecDepth 100000 in
theorem d_WM_row_141 : decode b_WM_row 141 = .ok (.aload 8, 2) := by decide +kernel
set_option maxRecDepth 100000 in
theorem d_WM_row_143 : decode b_WM_row 143 = .ok (.aastore, 1) := by decide +kernel
set_option maxRecDepth 100000 in
theorem d_WM_row_144 : decode b_WM_row 144 = .ok (.aload 5, 2) := by decide +kernel
set_option maxRecDepth 100000 in
theorem d_WM_row_146 : decode b_WM_row 146 = .ok (.aload 8, 2) := by decide +kernel
set_option maxRecDepth 100000 in
theorem d_WM_row_148 : decode b_WM_row 148 = .ok (.aload_n 0, 1) := by decide +kernel
set_option maxRecDepth 100000 in
theorem d_WM_row_149 : decode b_WM_row 149 = .ok (.getfield 243, 3) := by decide +kernel
set_option maxRecDepth 100000 in
theorem d_WM_row_152 : decode b_WM_row 152 = .ok (.invokevirtual 260, 3) := by decide +kernel
set_option maxRecDepth 100000 in
theorem d_WM_row_155 : decode b_WM_row 155 = .ok (.aload 6, 2) := by decide +kernel
set_option maxRecDepth 100000 in
theorem d_WM_row_157 : decode b_WM_row 157 = .ok (.aload 8, 2) := by decide +kernel
set_option maxRecDepth 100000 in
theorem d_WM_row_159 : decode b_WM_row 159 = .ok (.getfield 257, 3) := by decide +kernel
set_option maxRecDepth 100000 in
theorem d_WM_row_162 : decode b_WM_row 162 = .ok (.invokevirtual 264, 3) := by decide +kernel
set_option maxRecDepth 100000 in
theorem d_WM_row_165 : decode b_WM_row 165 = .ok (.aload_n 0, 1) := by decide +kernel
set_option maxRecDepth 100000 in
theorem d_WM_row_166 : decode b_WM_row 166 = .ok (.aload 6, 2) := by decide +kernel
set_option maxRecDepth 100000 in
theorem d_WM_row_168 : decode b_WM_row 168 = .ok (.iload 4, 2) := by decide +kernel
set_option maxRecDepth 100000 in
theorem d_WM_row_170 : decode b_WM_row 170 = .ok (.invokevirtual 266, 3) := by decide +kernel
set_option maxRecDepth 100000 in
theorem d_WM_row_173 : decode b_WM_row 173 = .ok (.aload_n 0, 1) := by decide +kernel
