set_option maxRecDepth 100000 in
theorem d_Md_pay_80 : decode b_Md_pay 80 = .ok (.i2l, 1) := by decide +kernel
set_option maxRecDepth 100000 in
theorem d_Md_pay_81 : decode b_Md_pay 81 = .ok (.ladd, 1) := by decide +kernel
set_option maxRecDepth 100000 in
theorem d_Md_pay_82 : decode b_Md_pay 82 = .ok (.putfield 326, 3) := by decide +kernel
set_option maxRecDepth 100000 in
theorem d_Md_pay_85 : decode b_Md_pay 85 = .ok (.iinc 2 1, 3) := by decide +kernel
set_option maxRecDepth 100000 in
theorem d_Md_pay_88 : decode b_Md_pay 88 = .ok (.goto (-86), 3) := by decide +kernel
set_option maxRecDepth 100000 in
theorem d_Md_pay_91 : decode b_Md_pay 91 = .ok (.return_, 1) := by decide +kernel
set_option maxRecDepth 100000 in
theorem d_Md_pension_0 : decode b_Md_pension 0 = .ok (.iload_n 1, 1) := by decide +kernel
set_option maxRecDepth 100000 in
theorem d_Md_pension_1 : decode b_Md_pension 1 = .ok (.iload_n 2, 1) := by decide +kernel
set_option maxRecDepth 100000 in
theorem d_Md_pension_2 : decode b_Md_pension 2 = .ok (.invokestatic 338, 3) := by decide +kernel
set_option maxRecDepth 100000 in
theorem d_Md_pension_5 : decode b_Md_pension 5 = .ok (.ifCond .ne 5, 3) := by decide +kernel
set_option maxRecDepth 100000 in
theorem d_Md_pension_8 : decode b_Md_pension 8 = .ok (.iconst (-1), 1) := by decide +kernel
set_option maxRecDepth 100000 in
theorem d_Md_pension_9 : decode b_Md_pension 9 = .ok (.ireturn, 1) := by decide +kernel
set_option maxRecDepth 100000 in
theorem d_Md_pension_10 : decode b_Md_pension 10 = .ok (.aload_n 0, 1) := by decide +kernel
set_option maxRecDepth 100000 in
theorem d_Md_pension_11 : decode b_Md_pension 11 = .ok (.getfield 323, 3) := by decide +kernel
set_option maxRecDepth 100000 in
theorem d_Md_pension_14 : decode b_Md_pension 14 = .ok (.bipush 30, 2) := by decide +kernel
set_option maxRecDepth 100000 in
theorem d_Md_pension_16 : decode b_Md_pension 16 = .ok (.if_icmp .ne 8, 3) := by decide +kernel
set_option maxRecDepth 100000 in
theorem d_Md_pension_19 : decode b_Md_pension 19 = .ok (.bipush (-3), 2) := by decide +kernel
set_option maxRecDepth 100000 in
theorem d_Md_pension_21 : decode b_Md_pension 21 = .ok (.goto 9, 3) := by decide +kernel
set_option maxRecDepth 100000 in
theorem d_Md_pension_24 : decode b_Md_pension 24 = .ok (.aload_n 0, 1) := by decide +kernel
set_option maxRecDepth 100000 in
theorem d_Md_pension_25 : decode b_Md_pension 25 = .ok (.iload_n 1, 1) := by decide +kernel
set_option maxRecDepth 100000 in
theorem d_Md_pension_26 : decode b_Md_pension 26 = .ok (.iload_n 2, 1) := by decide +kernel
set_option maxRecDepth 100000 in
theorem d_Md_pension_27 : decode b_Md_pension 27 = .ok (.invokevirtual 342, 3) := by decide +kernel
set_option maxRecDepth 100000 in
theorem d_Md_pension_30 : decode b_Md_pension 30 = .ok (.ireturn, 1) := by decide +kernel
set_option maxRecDepth 100000 in
theorem d_Md_pensioner_0 : decode b_Md_pensioner 0 = .ok (.iload_n 1, 1) := by decide +kernel
set_option maxRecDepth 100000 in
theorem d_Md_pensioner_1 : decode b_Md_pensioner 1 = .ok (.iconst 0, 1) := by decide +kernel
set_option maxRecDepth 100000 in
theorem d_Md_pensioner_2 : decode b_Md_pensioner 2 = .ok (.aload_n 0, 1) := by decide +kernel
set_option maxRecDepth 100000 in
theorem d_Md_pensioner_3 : decode b_Md_pensioner 3 = .ok (.getfield 323, 3) := by decide +kernel
set_option maxRecDepth 100000 in
theorem d_Md_pensioner_6 : decode b_Md_pensioner 6 = .ok (.iconst 1, 1) := by decide +kernel
set_option maxRecDepth 100000 in
theorem d_Md_pensioner_7 : decode b_Md_pensioner 7 = .ok (.isub, 1) := by decide +kernel
set_option maxRecDepth 100000 in
theorem d_Md_pensioner_8 : decode b_Md_pensioner 8 = .ok (.invokestatic 10, 3) := by decide +kernel
set_option maxRecDepth 100000 in
theorem d_Md_pensioner_11 : decode b_Md_pensioner 11 = .ok (.ifCond .ne 5, 3) := by decide +kernel
set_option maxRecDepth 100000 in
theorem d_Md_pensioner_14 : decode b_Md_pensioner 14 = .ok (.iconst (-1), 1) := by decide +kernel
set_option maxRecDepth 100000 in
theorem d_Md_pensioner_15 : decode b_Md_pensioner 15 = .ok (.ireturn, 1) := by decide +kernel
set_option maxRecDepth 100000 in
theorem d_Md_pensioner_16 : decode b_Md_pensioner 16 = .ok (.iload_n 2, 1) := by decide +kernel
set_option maxRecDepth 100000 in
theorem d_Md_pensioner_17 : decode b_Md_pensioner 17 = .ok (.tableswitch 48 0 2 #[27, 34, 41], 27) := by decide +kernel
set_option maxRecDepth 100000 in
theorem d_Md_pensioner_44 : decode b_Md_pensioner 44 = .ok (.aload_n 0, 1) := by decide +kernel
set_option maxRecDepth 100000 in
theorem d_Md_pensioner_45 : decode b_Md_pensioner 45 = .ok (.getfield 177, 3) := by decide +kernel
set_option maxRecDepth 100000 in
theorem d_Md_pensioner_48 : decode b_Md_pensioner 48 = .ok (.iload_n 1, 1) := by decide +kernel
set_option maxRecDepth 100000 in
theorem d_Md_pensioner_49 : decode b_Md_pensioner 49 = .ok (.iaload, 1) := by decide +kernel
set_option maxRecDepth 100000 in
theorem d_Md_pensioner_50 : decode b_Md_pensioner 50 = .ok (.ireturn, 1) := by decide +kernel
set_option maxRecDepth 100000 in
theorem d_Md_pensioner_51 : decode b_Md_pensioner 51 = .ok (.aload_n 0, 1) := by decide +kernel
set_option maxRecDepth 100000 in
theorem d_Md_pensioner_52 : decode b_Md_pensioner 52 = .ok (.getfield 180, 3) := by decide +kernel
set_option maxRecDepth 100000 in
theorem d_Md_pensioner_55 : decode b_Md_pensioner 55 = .ok (.iload_n 1, 1) := by decide +kernel
set_option maxRecDepth 100000 in
theorem d_Md_pensioner_56 : decode b_Md_pensioner 56 = .ok (.iaload, 1) := by decide +kernel
set_option maxRecDepth 100000 in
theorem d_Md_pensioner_57 : decode b_Md_pensioner 57 = .ok (.ireturn, 1) := by decide +kernel
set_option maxRecDepth 100000 in
theorem d_Md_pensioner_58 : decode b_Md_pensioner 58 = .ok (.aload_n 0, 1) := by decide +kernel
set_option maxRecDepth 100000 in
theorem d_Md_pensioner_59 : decode b_Md_pensioner 59 = .ok (.getfield 183, 3) := by decide +kernel
set_option maxRecDepth 100000 in
theorem d_Md_pensioner_62 : decode b_Md_pensioner 62 = .ok (.iload_n 1, 1) := by decide +kernel
set_option maxRecDepth 100000 in
theorem d_Md_pensioner_63 : decode b_Md_pensioner 63 = .ok (.iaload, 1) := by decide +kernel
set_option maxRecDepth 100000 in
theorem d_Md_pensioner_64 : decode b_Md_pensioner 64 = .ok (.ireturn, 1) := by decide +kernel
set_option maxRecDepth 100000 in
theorem d_Md_pensioner_65 : decode b_Md_pensioner 65 = .ok (.iconst (-1), 1) := by decide +kernel
set_option maxRecDepth 100000 in
theorem d_Md_pensioner_66 : decode b_Md_pensioner 66 = .ok (.ireturn, 1) := by decide +kernel
set_option maxRecDepth 100000 in
theorem d_Md_placeOf_0 : decode b_Md_placeOf 0 = .ok (.aload_n 0, 1) := by decide +kernel
set_option maxRecDepth 100000 in
theorem d_Md_placeOf_1 : decode b_Md_placeOf 1 = .ok (.iload_n 1, 1) := by decide +kernel
set_option maxRecDepth 100000 in
theorem d_Md_placeOf_2 : decode b_Md_placeOf 2 = .ok (.invokevirtual 193, 3) := by decide +kernel
set_option maxRecDepth 100000 in
theorem d_Md_placeOf_5 : decode b_Md_placeOf 5 = .ok (.istore_n 2, 1) := by decide +kernel
set_option maxRecDepth 100000 in
theorem d_Md_placeOf_6 : decode b_Md_placeOf 6 = .ok (.iconst 0, 1) := by decide +kernel
set_option maxRecDepth 100000 in
theorem d_Md_placeOf_7 : decode b_Md_placeOf 7 = .ok (.istore_n 3, 1) := by decide +kernel
set_option maxRecDepth 100000 in
theorem d_Md_placeOf_8 : decode b_Md_placeOf 8 = .ok (.iload_n 2, 1) := by decide +kernel
set_option maxRecDepth 100000 in
theorem d_Md_placeOf_9 : decode b_Md_placeOf 9 = .ok (.ifCond .lt 24, 3) := by decide +kernel
set_option maxRecDepth 100000 in
theorem d_Md_placeOf_12 : decode b_Md_placeOf 12 = .ok (.aload_n 0, 1) := by decide +kernel
set_option maxRecDepth 100000 in
theorem d_Md_placeOf_13 : decode b_Md_placeOf 13 = .ok (.getfield 91, 3) := by decide +kernel
set_option maxRecDepth 100000 in
theorem d_Md_placeOf_16 : decode b_Md_placeOf 16 = .ok (.bipush 40, 2) := by decide +kernel
set_option maxRecDepth 100000 in
theorem d_Md_placeOf_18 : decode b_Md_placeOf 18 = .ok (.iload_n 2, 1) := by decide +kernel
set_option maxRecDepth 100000 in
theorem d_Md_placeOf_19 : decode b_Md_placeOf 19 = .ok (.imul, 1) := by decide +kernel
set_option maxRecDepth 100000 in
theorem d_Md_placeOf_20 : decode b_Md_placeOf 20 = .ok (.iload_n 3, 1) := by decide +kernel
set_option maxRecDepth 100000 in
theorem d_Md_placeOf_21 : decode b_Md_placeOf 21 = .ok (.iadd, 1) := by decide +kernel
set_option maxRecDepth 100000 in
theorem d_Md_placeOf_22 : decode b_Md_placeOf 22 = .ok (.iaload, 1) := by decide +kernel
set_option maxRecDepth 100000 in
theorem d_Md_placeOf_23 : decode b_Md_placeOf 23 = .ok (.iload_n 1, 1) := by decide +kernel
set_option maxRecDepth 100000 in
theorem d_Md_placeOf_24 : decode b_Md_placeOf 24 = .ok (.if_icmp .eq 9, 3) := by decide +kernel
set_option maxRecDepth 100000 in
theorem d_Md_placeOf_27 : decode b_Md_placeOf 27 = .ok (.iinc 3 1, 3) := by decide +kernel
set_option maxRecDepth 100000 in
theorem d_Md_placeOf_30 : decode b_Md_placeOf 30 = .ok (.goto (-22), 3) := by decide +kernel
set_option maxRecDepth 100000 in
theorem d_Md_placeOf_33 : decode b_Md_placeOf 33 = .ok (.iload_n 2, 1) := by decide +kernel
set_option maxRecDepth 100000 in
theorem d_Md_placeOf_34 : decode b_Md_placeOf 34 = .ok (.ifCond .ge 7, 3) := by decide +kernel
set_option maxRecDepth 100000 in
theorem d_Md_placeOf_37 : decode b_Md_placeOf 37 = .ok (.iconst (-1), 1) := by decide +kernel
set_option maxRecDepth 100000 in
theorem d_Md_placeOf_38 : decode b_Md_placeOf 38 = .ok (.goto 4, 3) := by decide +kernel
set_option maxRecDepth 100000 in
theorem d_Md_placeOf_41 : decode b_Md_placeOf 41 = .ok (.iload_n 3, 1) := by decide +kernel
set_option maxRecDepth 100000 in
theorem d_Md_placeOf_42 : decode b_Md_placeOf 42 = .ok (.ireturn, 1) := by decide +kernel
set_option maxRecDepth 100000 in
theorem d_Md_row_0 : decode b_Md_row 0 = .ok (.aload_n 0, 1) := by decide +kernel
set_option maxRecDepth 100000 in
theorem d_Md_row_1 : decode b_Md_row 1 = .ok (.iload_n 1, 1) := by decide +kernel
set_option maxRecDepth 100000 in
theorem d_Md_row_2 : decode b_Md_row 2 = .ok (.iload_n 2, 1) := by decide +kernel
set_option maxRecDepth 100000 in
theorem d_Md_row_3 : decode b_Md_row 3 = .ok (.iload_n 3, 1) := by decide +kernel
set_option maxRecDepth 100000 in
theorem d_Md_row_4 : decode b_Md_row 4 = .ok (.invokevirtual 306, 3) := by decide +kernel
set_option maxRecDepth 100000 in
theorem d_Md_row_7 : decode b_Md_row 7 = .ok (.ifCond .eq 15, 3) := by decide +kernel
set_option maxRecDepth 100000 in
theorem d_Md_row_10 : decode b_Md_row 10 = .ok (.iload 4, 2) := by decide +kernel
set_option maxRecDepth 100000 in
theorem d_Md_row_12 : decode b_Md_row 12 = .ok (.iconst 0, 1) := by decide +kernel
set_option maxRecDepth 100000 in
theorem d_Md_row_13 : decode b_Md_row 13 = .ok (.ldc_w 288, 3) := by decide +kernel
set_option maxRecDepth 100000 in
theorem d_Md_row_16 : decode b_Md_row 16 = .ok (.invokestatic 10, 3) := by decide +kernel
set_option maxRecDepth 100000 in
theorem d_Md_row_19 : decode b_Md_row 19 = .ok (.ifCond .ne 5, 3) := by decide +kernel
set_option maxRecDepth 100000 in
theorem d_Md_row_22 : decode b_Md_row 22 = .ok (.iconst (-1), 1) := by decide +kernel
set_option maxRecDepth 100000 in
theorem d_Md_row_23 : decode b_Md_row 23 = .ok (.ireturn, 1) := by decide +kernel
set_option maxRecDepth 100000 in
theorem d_Md_row_24 : decode b_Md_row 24 = .ok (.aload_n 0, 1) := by decide +kernel
set_option maxRecDepth 100000 in
theorem d_Md_row_25 : decode b_Md_row 25 = .ok (.iload_n 1, 1) := by decide +kernel
set_option maxRecDepth 100000 in
theorem d_Md_row_26 : decode b_Md_row 26 = .ok (.iload_n 2, 1) := by decide +kernel
set_option maxRecDepth 100000 in
theorem d_Md_row_27 : decode b_Md_row 27 = .ok (.iload_n 3, 1) := by decide +kernel
set_option maxRecDepth 100000 in
theorem d_Md_row_28 : decode b_Md_row 28 = .ok (.invokevirtual 309, 3) := by decide +kernel
set_option maxRecDepth 100000 in
theorem d_Md_row_31 : decode b_Md_row 31 = .ok (.istore 5, 2) := by decide +kernel
set_option maxRecDepth 100000 in
theorem d_Md_row_33 : decode b_Md_row 33 = .ok (.iload 5, 2) := by decide +kernel
set_option maxRecDepth 100000 in
theorem d_Md_row_35 : decode b_Md_row 35 = .ok (.ifCond .le 9, 3) := by decide +kernel
set_option maxRecDepth 100000 in
theorem d_Md_row_38 : decode b_Md_row 38 = .ok (.bipush (-10), 2) := by decide +kernel
set_option maxRecDepth 100000 in
theorem d_Md_row_40 : decode b_Md_row 40 = .ok (.iload 5, 2) := by decide +kernel
set_option maxRecDepth 100000 in
theorem d_Md_row_42 : decode b_Md_row 42 = .ok (.isub, 1) := by decide +kernel
set_option maxRecDepth 100000 in
theorem d_Md_row_43 : decode b_Md_row 43 = .ok (.ireturn, 1) := by decide +kernel
set_option maxRecDepth 100000 in
theorem d_Md_row_44 : decode b_Md_row 44 = .ok (.aload_n 0, 1) := by decide +kernel
set_option maxRecDepth 100000 in
theorem d_Md_row_45 : decode b_Md_row 45 = .ok (.getfield 313, 3) := by decide +kernel
set_option maxRecDepth 100000 in
theorem d_Md_row_48 : decode b_Md_row 48 = .ok (.sipush 600, 3) := by decide +kernel
set_option maxRecDepth 100000 in
theorem d_Md_row_51 : decode b_Md_row 51 = .ok (.if_icmp .ne 6, 3) := by decide +kernel
set_option maxRecDepth 100000 in
theorem d_Md_row_54 : decode b_Md_row 54 = .ok (.bipush (-3), 2) := by decide +kernel
set_option maxRecDepth 100000 in
theorem d_Md_row_56 : decode b_Md_row 56 = .ok (.ireturn, 1) := by decide +kernel
set_option maxRecDepth 100000 in
theorem d_Md_row_57 : decode b_Md_row 57 = .ok (.aload_n 0, 1) := by decide +kernel
set_option maxRecDepth 100000 in
theorem d_Md_row_58 : decode b_Md_row 58 = .ok (.getfield 313, 3) := by decide +kernel
set_option maxRecDepth 100000 in
theorem d_Md_row_61 : decode b_Md_row 61 = .ok (.istore 6, 2) := by decide +kernel
set_option maxRecDepth 100000 in
theorem d_Md_row_63 : decode b_Md_row 63 = .ok (.aload_n 0, 1) := by decide +kernel
set_option maxRecDepth 100000 in
theorem d_Md_row_64 : decode b_Md_row 64 = .ok (.getfield 149, 3) := by decide +kernel
set_option maxRecDepth 100000 in
theorem d_Md_row_67 : decode b_Md_row 67 = .ok (.iload 6, 2) := by decide +kernel
set_option maxRecDepth 100000 in
theorem d_Md_row_69 : decode b_Md_row 69 = .ok (.iload_n 1, 1) := by decide +kernel
set_option maxRecDepth 100000 in
theorem d_Md_row_70 : decode b_Md_row 70 = .ok (.iastore, 1) := by decide +kernel
set_option maxRecDepth 100000 in
theorem d_Md_row_71 : decode b_Md_row 71 = .ok (.aload_n 0, 1) := by decide +kernel
set_option maxRecDepth 100000 in
theorem d_Md_row_72 : decode b_Md_row 72 = .ok (.getfield 152, 3) := by decide +kernel
set_option maxRecDepth 100000 in
theorem d_Md_row_75 : decode b_Md_row 75 = .ok (.iload 6, 2) := by decide +kernel
set_option maxRecDepth 100000 in
theorem d_Md_row_77 : decode b_Md_row 77 = .ok (.iload_n 2, 1) := by decide +kernel
set_option maxRecDepth 100000 in
theorem d_Md_row_78 : decode b_Md_row 78 = .ok (.iastore, 1) := by decide +kernel
set_option maxRecDepth 100000 in
theorem d_Md_row_79 : decode b_Md_row 79 = .ok (.aload_n 0, 1) := by decide +kernel
set_option maxRecDepth 100000 in
theorem d_Md_row_80 : decode b_Md_row 80 = .ok (.getfield 155, 3) := by decide +kernel
set_option maxRecDepth 100000 in
theorem d_Md_row_83 : decode b_Md_row 83 = .ok (.iload 6, 2) := by decide +kernel
set_option maxRecDepth 100000 in
theorem d_Md_row_85 : decode b_Md_row 85 = .ok (.aload_n 0, 1) := by decide +kernel
set_option maxRecDepth 100000 in
theorem d_Md_row_86 : decode b_Md_row 86 = .ok (.getfield 97, 3) := by decide +kernel
set_option maxRecDepth 100000 in
theorem d_Md_row_89 : decode b_Md_row 89 = .ok (.iload_n 1, 1) := by decide +kernel
set_option maxRecDepth 100000 in
theorem d_Md_row_90 : decode b_Md_row 90 = .ok (.iaload, 1) := by decide +kernel
set_option maxRecDepth 100000 in
theorem d_Md_row_91 : decode b_Md_row 91 = .ok (.iastore, 1) := by decide +kernel
set_option maxRecDepth 100000 in
theorem d_Md_row_92 : decode b_Md_row 92 = .ok (.aload_n 0, 1) := by decide +kernel
set_option maxRecDepth 100000 in
theorem d_Md_row_93 : decode b_Md_row 93 = .ok (.getfield 158, 3) := by decide +kernel
set_option maxRecDepth 100000 in
theorem d_Md_row_96 : decode b_Md_row 96 = .ok (.iload 6, 2) := by decide +kernel
set_option maxRecDepth 100000 in
theorem d_Md_row_98 : decode b_Md_row 98 = .ok (.iload_n 3, 1) := by decide +kernel
set_option maxRecDepth 100000 in
theorem d_Md_row_99 : decode b_Md_row 99 = .ok (.iastore, 1) := by decide +kernel
set_option maxRecDepth 100000 in
theorem d_Md_row_100 : decode b_Md_row 100 = .ok (.aload_n 0, 1) := by decide +kernel
set_option maxRecDepth 100000 in
theorem d_Md_row_101 : decode b_Md_row 101 = .ok (.getfield 161, 3) := by decide +kernel
set_option maxRecDepth 100000 in
theorem d_Md_row_104 : decode b_Md_row 104 = .ok (.iload 6, 2) := by decide +kernel
set_option maxRecDepth 100000 in
theorem d_Md_row_106 : decode b_Md_row 106 = .ok (.aload_n 0, 1) := by decide +kernel
set_option maxRecDepth 100000 in
theorem d_Md_row_107 : decode b_Md_row 107 = .ok (.getfield 7, 3) := by decide +kernel
set_option maxRecDepth 100000 in
theorem d_Md_row_110 : decode b_Md_row 110 = .ok (.iastore, 1) := by decide +kernel
set_option maxRecDepth 100000 in
theorem d_Md_row_111 : decode b_Md_row 111 = .ok (.aload_n 0, 1) := by decide +kernel
set_option maxRecDepth 100000 in
theorem d_Md_row_112 : decode b_Md_row 112 = .ok (.getfield 164, 3) := by decide +kernel
set_option maxRecDepth 100000 in
theorem d_Md_row_115 : decode b_Md_row 115 = .ok (.iload 6, 2) := by decide +kernel
set_option maxRecDepth 100000 in
theorem d_Md_row_117 : decode b_Md_row 117 = .ok (.aload_n 0, 1) := by decide +kernel
set_option maxRecDepth 100000 in
theorem d_Md_row_118 : decode b_Md_row 118 = .ok (.getfield 7, 3) := by decide +kernel
set_option maxRecDepth 100000 in
theorem d_Md_row_121 : decode b_Md_row 121 = .ok (.aload_n 0, 1) := by decide +kernel
set_option maxRecDepth 100000 in
theorem d_Md_row_122 : decode b_Md_row 122 = .ok (.iload_n 1, 1) := by decide +kernel
set_option maxRecDepth 100000 in
theorem d_Md_row_123 : decode b_Md_row 123 = .ok (.iload_n 3, 1) := by decide +kernel
set_option maxRecDepth 100000 in
theorem d_Md_row_124 : decode b_Md_row 124 = .ok (.invokevirtual 302, 3) := by decide +kernel
set_option maxRecDepth 100000 in
theorem d_Md_row_127 : decode b_Md_row 127 = .ok (.iadd, 1) := by decide +kernel
set_option maxRecDepth 100000 in
theorem d_Md_row_128 : decode b_Md_row 128 = .ok (.iastore, 1) := by decide +kernel
set_option maxRecDepth 100000 in
theorem d_Md_row_129 : decode b_Md_row 129 = .ok (.aload_n 0, 1) := by decide +kernel
set_option maxRecDepth 100000 in
theorem d_Md_row_130 : decode b_Md_row 130 = .ok (.getfield 167, 3) := by decide +kernel
set_option maxRecDepth 100000 in
theorem d_Md_row_133 : decode b_Md_row 133 = .ok (.iload 6, 2) := by decide +kernel
set_option maxRecDepth 100000 in
theorem d_Md_row_135 : decode b_Md_row 135 = .ok (.iload 4, 2) := by decide +kernel
set_option maxRecDepth 100000 in
theorem d_Md_row_137 : decode b_Md_row 137 = .ok (.iastore, 1) := by decide +kernel
set_option maxRecDepth 100000 in
theorem d_Md_row_138 : decode b_Md_row 138 = .ok (.aload_n 0, 1) := by decide +kernel
set_option maxRecDepth 100000 in
theorem d_Md_row_139 : decode b_Md_row 139 = .ok (.getfield 170, 3) := by decide +kernel
set_option maxRecDepth 100000 in
theorem d_Md_row_142 : decode b_Md_row 142 = .ok (.iload 6, 2) := by decide +kernel
set_option maxRecDepth 100000 in
theorem d_Md_row_144 : decode b_Md_row 144 = .ok (.iconst 0, 1) := by decide +kernel
set_option maxRecDepth 100000 in
theorem d_Md_row_145 : decode b_Md_row 145 = .ok (.bastore, 1) := by decide +kernel
set_option maxRecDepth 100000 in
theorem d_Md_row_146 : decode b_Md_row 146 = .ok (.aload_n 0, 1) := by decide +kernel
set_option maxRecDepth 100000 in
theorem d_Md_row_147 : decode b_Md_row 147 = .ok (.dup, 1) := by decide +kernel
set_option maxRecDepth 100000 in
theorem d_Md_row_148 : decode b_Md_row 148 = .ok (.getfield 313, 3) := by decide +kernel
set_option maxRecDepth 100000 in
theorem d_Md_row_151 : decode b_Md_row 151 = .ok (.iconst 1, 1) := by decide +kernel
set_option maxRecDepth 100000 in
theorem d_Md_row_152 : decode b_Md_row 152 = .ok (.iadd, 1) := by decide +kernel
set_option maxRecDepth 100000 in
theorem d_Md_row_153 : decode b_Md_row 153 = .ok (.putfield 313, 3) := by decide +kernel
set_option maxRecDepth 100000 in
theorem d_Md_row_156 : decode b_Md_row 156 = .ok (.aload_n 0, 1) := by decide +kernel
set_option maxRecDepth 100000 in
theorem d_Md_row_157 : decode b_Md_row 157 = .ok (.iload_n 2, 1) := by decide +kernel
set_option maxRecDepth 100000 in
theorem d_Md_row_158 : decode b_Md_row 158 = .ok (.invokevirtual 202, 3) := by decide +kernel
set_option maxRecDepth 100000 in
theorem d_Md_row_161 : decode b_Md_row 161 = .ok (.aload_n 0, 1) := by decide +kernel
set_option maxRecDepth 100000 in
theorem d_Md_row_162 : decode b_Md_row 162 = .ok (.getfield 103, 3) := by decide +kernel
set_option maxRecDepth 100000 in
theorem d_Md_row_165 : decode b_Md_row 165 = .ok (.iload_n 1, 1) := by decide +kernel
set_option maxRecDepth 100000 in
theorem d_Md_row_166 : decode b_Md_row 166 = .ok (.iload 6, 2) := by decide +kernel
set_option maxRecDepth 100000 in
theorem d_Md_row_168 : decode b_Md_row 168 = .ok (.iastore, 1) := by decide +kernel
set_option maxRecDepth 100000 in
theorem d_Md_row_169 : decode b_Md_row 169 = .ok (.aload_n 0, 1) := by decide +kernel
set_option maxRecDepth 100000 in
theorem d_Md_row_170 : decode b_Md_row 170 = .ok (.getfield 97, 3) := by decide +kernel
set_option maxRecDepth 100000 in
theorem d_Md_row_173 : decode b_Md_row 173 = .ok (.iload_n 1, 1) := by decide +kernel
set_option maxRecDepth 100000 in
theorem d_Md_row_174 : decode b_Md_row 174 = .ok (.iload_n 3, 1) := by decide +kernel
set_option maxRecDepth 100000 in
theorem d_Md_row_175 : decode b_Md_row 175 = .ok (.iastore, 1) := by decide +kernel
set_option maxRecDepth 100000 in
theorem d_Md_row_176 : decode b_Md_row 176 = .ok (.aload_n 0, 1) := by decide +kernel
set_option maxRecDepth 100000 in
theorem d_Md_row_177 : decode b_Md_row 177 = .ok (.getfield 100, 3) := by decide +kernel
set_option maxRecDepth 100000 in
theorem d_Md_row_180 : decode b_Md_row 180 = .ok (.iload_n 1, 1) := by decide +kernel
set_option maxRecDepth 100000 in
theorem d_Md_row_181 : decode b_Md_row 181 = .ok (.aload_n 0, 1) := by decide +kernel
set_option maxRecDepth 100000 in
theorem d_Md_row_182 : decode b_Md_row 182 = .ok (.getfield 164, 3) := by decide +kernel
set_option maxRecDepth 100000 in
theorem d_Md_row_185 : decode b_Md_row 185 = .ok (.iload 6, 2) := by decide +kernel
set_option maxRecDepth 100000 in
theorem d_Md_row_187 : decode b_Md_row 187 = .ok (.iaload, 1) := by decide +kernel
set_option maxRecDepth 100000 in
theorem d_Md_row_188 : decode b_Md_row 188 = .ok (.iastore, 1) := by decide +kernel
set_option maxRecDepth 100000 in
theorem d_Md_row_189 : decode b_Md_row 189 = .ok (.aload_n 0, 1) := by decide +kernel
set_option maxRecDepth 100000 in
theorem d_Md_row_190 : decode b_Md_row 190 = .ok (.getfield 79, 3) := by decide +kernel
set_option maxRecDepth 100000 in
theorem d_Md_row_193 : decode b_Md_row 193 = .ok (.iload_n 2, 1) := by decide +kernel
set_option maxRecDepth 100000 in
theorem d_Md_row_194 : decode b_Md_row 194 = .ok (.iload 6, 2) := by decide +kernel
set_option maxRecDepth 100000 in
theorem d_Md_row_196 : decode b_Md_row 196 = .ok (.iastore, 1) := by decide +kernel
set_option maxRecDepth 100000 in
theorem d_Md_row_197 : decode b_Md_row 197 = .ok (.aload_n 0, 1) := by decide +kernel
set_option maxRecDepth 100000 in
theorem d_Md_row_198 : decode b_Md_row 198 = .ok (.getfield 82, 3) := by decide +kernel
set_option maxRecDepth 100000 in
theorem d_Md_row_201 : decode b_Md_row 201 = .ok (.iload_n 2, 1) := by decide +kernel
set_option maxRecDepth 100000 in
theorem d_Md_row_202 : decode b_Md_row 202 = .ok (.dup2, 1) := by decide +kernel
set_option maxRecDepth 100000 in
theorem d_Md_row_203 : decode b_Md_row 203 = .ok (.iaload, 1) := by decide +kernel
set_option maxRecDepth 100000 in
theorem d_Md_row_204 : decode b_Md_row 204 = .ok (.iconst 1, 1) := by decide +kernel
set_option maxRecDepth 100000 in
theorem d_Md_row_205 : decode b_Md_row 205 = .ok (.iadd, 1) := by decide +kernel
set_option maxRecDepth 100000 in
theorem d_Md_row_206 : decode b_Md_row 206 = .ok (.iastore, 1) := by decide +kernel
set_option maxRecDepth 100000 in
theorem d_Md_row_207 : decode b_Md_row 207 = .ok (.aload_n 0, 1) := by decide +kernel
set_option maxRecDepth 100000 in
theorem d_Md_row_208 : decode b_Md_row 208 = .ok (.dup, 1) := by decide +kernel
set_option maxRecDepth 100000 in
theorem d_Md_row_209 : decode b_Md_row 209 = .ok (.getfield 316, 3) := by decide +kernel
set_option maxRecDepth 100000 in
theorem d_Md_row_212 : decode b_Md_row 212 = .ok (.iload 4, 2) := by decide +kernel
set_option maxRecDepth 100000 in
theorem d_Md_row_214 : decode b_Md_row 214 = .ok (.bipush 20, 2) := by decide +kernel
set_option maxRecDepth 100000 in
theorem d_Md_row_216 : decode b_Md_row 216 = .ok (.idiv, 1) := by decide +kernel
set_option maxRecDepth 100000 in
theorem d_Md_row_217 : decode b_Md_row 217 = .ok (.i2l, 1) := by decide +kernel
set_option maxRecDepth 100000 in
theorem d_Md_row_218 : decode b_Md_row 218 = .ok (.ladd, 1) := by decide +kernel
set_option maxRecDepth 100000 in
theorem d_Md_row_219 : decode b_Md_row 219 = .ok (.putfield 316, 3) := by decide +kernel
set_option maxRecDepth 100000 in
theorem d_Md_row_222 : decode b_Md_row 222 = .ok (.aload_n 0, 1) := by decide +kernel
set_option maxRecDepth 100000 in
theorem d_Md_row_223 : decode b_Md_row 223 = .ok (.getfield 173, 3) := by decide +kernel
set_option maxRecDepth 100000 in
theorem d_Md_row_226 : decode b_Md_row 226 = .ok (.aload_n 0, 1) := by decide +kernel
set_option maxRecDepth 100000 in
theorem d_Md_row_227 : decode b_Md_row 227 = .ok (.invokevirtual 45, 3) := by decide +kernel
set_option maxRecDepth 100000 in
theorem d_Md_row_230 : decode b_Md_row 230 = .ok (.dup2, 1) := by decide +kernel
set_option maxRecDepth 100000 in
theorem d_Md_row_231 : decode b_Md_row 231 = .ok (.laload, 1) := by decide +kernel
set_option maxRecDepth 100000 in
theorem d_Md_row_232 : decode b_Md_row 232 = .ok (.iload 4, 2) := by decide +kernel
set_option maxRecDepth 100000 in
theorem d_Md_row_234 : decode b_Md_row 234 = .ok (.bipush 20, 2) := by decide +kernel
set_option maxRecDepth 100000 in
theorem d_Md_row_236 : decode b_Md_row 236 = .ok (.idiv, 1) := by decide +kernel
set_option maxRecDepth 100000 in
theorem d_Md_row_237 : decode b_Md_row 237 = .ok (.i2l, 1) := by decide +kernel
set_option maxRecDepth 100000 in
theorem d_Md_row_238 : decode b_Md_row 238 = .ok (.ladd, 1) := by decide +kernel
set_option maxRecDepth 100000 in
theorem d_Md_row_239 : decode b_Md_row 239 = .ok (.lastore, 1) := by decide +kernel
set_option maxRecDepth 100000 in
theorem d_Md_row_240 : decode b_Md_row 240 = .ok (.aload_n 0, 1) := by decide +kernel
set_option maxRecDepth 100000 in
theorem d_Md_row_241 : decode b_Md_row 241 = .ok (.invokevirtual 45, 3) := by decide +kernel
set_option maxRecDepth 100000 in
theorem d_Md_row_244 : decode b_Md_row 244 = .ok (.bipush 7, 2) := by decide +kernel
set_option maxRecDepth 100000 in
theorem d_Md_row_246 : decode b_Md_row 246 = .ok (.irem, 1) := by decide +kernel
set_option maxRecDepth 100000 in
theorem d_Md_row_247 : decode b_Md_row 247 = .ok (.ifCond .ne 31, 3) := by decide +kernel
set_option maxRecDepth 100000 in
theorem d_Md_row_250 : decode b_Md_row 250 = .ok (.aload_n 0, 1) := by decide +kernel
set_option maxRecDepth 100000 in
theorem d_Md_row_251 : decode b_Md_row 251 = .ok (.dup, 1) := by decide +kernel
set_option maxRecDepth 100000 in
theorem d_Md_row_252 : decode b_Md_row 252 = .ok (.getfield 320, 3) := by decide +kernel
set_option maxRecDepth 100000 in
theorem d_Md_row_255 : decode b_Md_row 255 = .ok (.iload 4, 2) := by decide +kernel
set_option maxRecDepth 100000 in
theorem d_Md_row_257 : decode b_Md_row 257 = .ok (.iload 4, 2) := by decide +kernel
set_option maxRecDepth 100000 in
theorem d_Md_row_259 : decode b_Md_row 259 = .ok (.bipush 20, 2) := by decide +kernel
set_option maxRecDepth 100000 in
theorem d_Md_row_261 : decode b_Md_row 261 = .ok (.idiv, 1) := by decide +kernel
set_option maxRecDepth 100000 in
theorem d_Md_row_262 : decode b_Md_row 262 = .ok (.isub, 1) := by decide +kernel
set_option maxRecDepth 100000 in
theorem d_Md_row_263 : decode b_Md_row 263 = .ok (.i2l, 1) := by decide +kernel
set_option maxRecDepth 100000 in
theorem d_Md_row_264 : decode b_Md_row 264 = .ok (.ladd, 1) := by decide +kernel
set_option maxRecDepth 100000 in
theorem d_Md_row_265 : decode b_Md_row 265 = .ok (.putfield 320, 3) := by decide +kernel
set_option maxRecDepth 100000 in
theorem d_Md_row_268 : decode b_Md_row 268 = .ok (.aload_n 0, 1) := by decide +kernel
set_option maxRecDepth 100000 in
theorem d_Md_row_269 : decode b_Md_row 269 = .ok (.getfield 85, 3) := by decide +kernel
set_option maxRecDepth 100000 in
theorem d_Md_row_272 : decode b_Md_row 272 = .ok (.iload_n 2, 1) := by decide +kernel
set_option maxRecDepth 100000 in
theorem d_Md_row_273 : decode b_Md_row 273 = .ok (.iconst 1, 1) := by decide +kernel
set_option maxRecDepth 100000 in
theorem d_Md_row_274 : decode b_Md_row 274 = .ok (.bastore, 1) := by decide +kernel
set_option maxRecDepth 100000 in
theorem d_Md_row_275 : decode b_Md_row 275 = .ok (.goto 20, 3) := by decide +kernel
set_option maxRecDepth 100000 in
theorem d_Md_row_278 : decode b_Md_row 278 = .ok (.aload_n 0, 1) := by decide +kernel
set_option maxRecDepth 100000 in
theorem d_Md_row_279 : decode b_Md_row 279 = .ok (.getfield 76, 3) := by decide +kernel
set_option maxRecDepth 100000 in
theorem d_Md_row_282 : decode b_Md_row 282 = .ok (.iload_n 2, 1) := by decide +kernel
set_option maxRecDepth 100000 in
theorem d_Md_row_283 : decode b_Md_row 283 = .ok (.dup2, 1) := by decide +kernel
set_option maxRecDepth 100000 in
theorem d_Md_row_284 : decode b_Md_row 284 = .ok (.iaload, 1) := by decide +kernel
set_option maxRecDepth 100000 in
theorem d_Md_row_285 : decode b_Md_row 285 = .ok (.iload 4, 2) := by decide +kernel
set_option maxRecDepth 100000 in
theorem d_Md_row_287 : decode b_Md_row 287 = .ok (.iload 4, 2) := by decide +kernel
set_option maxRecDepth 100000 in
theorem d_Md_row_289 : decode b_Md_row 289 = .ok (.bipush 20, 2) := by decide +kernel
set_option maxRecDepth 100000 in
theorem d_Md_row_291 : decode b_Md_row 291 = .ok (.idiv, 1) := by decide +kernel
set_option maxRecDepth 100000 in
theorem d_Md_row_292 : decode b_Md_row 292 = .ok (.isub, 1) := by decide +kernel
set_option maxRecDepth 100000 in
theorem d_Md_row_293 : decode b_Md_row 293 = .ok (.iadd, 1) := by decide +kernel
set_option maxRecDepth 100000 in
theorem d_Md_row_294 : decode b_Md_row 294 = .ok (.iastore, 1) := by decide +kernel
set_option maxRecDepth 100000 in
theorem d_Md_row_295 : decode b_Md_row 295 = .ok (.iload 6, 2) := by decide +kernel
set_option maxRecDepth 100000 in
theorem d_Md_row_297 : decode b_Md_row 297 = .ok (.ireturn, 1) := by decide +kernel
set_option maxRecDepth 100000 in
theorem d_Md_rowOf_0 : decode b_Md_rowOf 0 = .ok (.iconst 0, 1) := by decide +kernel
set_option maxRecDepth 100000 in
theorem d_Md_rowOf_1 : decode b_Md_rowOf 1 = .ok (.istore_n 2, 1) := by decide +kernel
set_option maxRecDepth 100000 in
theorem d_Md_rowOf_2 : decode b_Md_rowOf 2 = .ok (.iload_n 2, 1) := by decide +kernel
set_option maxRecDepth 100000 in
theorem d_Md_rowOf_3 : decode b_Md_rowOf 3 = .ok (.aload_n 0, 1) := by decide +kernel
set_option maxRecDepth 100000 in
theorem d_Md_rowOf_4 : decode b_Md_rowOf 4 = .ok (.getfield 14, 3) := by decide +kernel
set_option maxRecDepth 100000 in
theorem d_Md_rowOf_7 : decode b_Md_rowOf 7 = .ok (.if_icmp .ge 44, 3) := by decide +kernel
set_option maxRecDepth 100000 in
theorem d_Md_rowOf_10 : decode b_Md_rowOf 10 = .ok (.iconst 0, 1) := by decide +kernel
set_option maxRecDepth 100000 in
theorem d_Md_rowOf_11 : decode b_Md_rowOf 11 = .ok (.istore_n 3, 1) := by decide +kernel
set_option maxRecDepth 100000 in
theorem d_Md_rowOf_12 : decode b_Md_rowOf 12 = .ok (.iload_n 3, 1) := by decide +kernel
set_option maxRecDepth 100000 in
theorem d_Md_rowOf_13 : decode b_Md_rowOf 13 = .ok (.aload_n 0, 1) := by decide +kernel
set_option maxRecDepth 100000 in
theorem d_Md_rowOf_14 : decode b_Md_rowOf 14 = .ok (.getfield 88, 3) := by decide +kernel
set_option maxRecDepth 100000 in
theorem d_Md_rowOf_17 : decode b_Md_rowOf 17 = .ok (.iload_n 2, 1) := by decide +kernel
set_option maxRecDepth 100000 in
theorem d_Md_rowOf_18 : decode b_Md_rowOf 18 = .ok (.iaload, 1) := by decide +kernel
set_option maxRecDepth 100000 in
theorem d_Md_rowOf_19 : decode b_Md_rowOf 19 = .ok (.if_icmp .ge 26, 3) := by decide +kernel
set_option maxRecDepth 100000 in
theorem d_Md_rowOf_22 : decode b_Md_rowOf 22 = .ok (.aload_n 0, 1) := by decide +kernel
set_option maxRecDepth 100000 in
theorem d_Md_rowOf_23 : decode b_Md_rowOf 23 = .ok (.getfield 91, 3) := by decide +kernel
set_option maxRecDepth 100000 in
theorem d_Md_rowOf_26 : decode b_Md_rowOf 26 = .ok (.bipush 40, 2) := by decide +kernel
set_option maxRecDepth 100000 in
theorem d_Md_rowOf_28 : decode b_Md_rowOf 28 = .ok (.iload_n 2, 1) := by decide +kernel
set_option maxRecDepth 100000 in
theorem d_Md_rowOf_29 : decode b_Md_rowOf 29 = .ok (.imul, 1) := by decide +kernel
set_option maxRecDepth 100000 in
theorem d_Md_rowOf_30 : decode b_Md_rowOf 30 = .ok (.iload_n 3, 1) := by decide +kernel
set_option maxRecDepth 100000 in
theorem d_Md_rowOf_31 : decode b_Md_rowOf 31 = .ok (.iadd, 1) := by decide +kernel
set_option maxRecDepth 100000 in
theorem d_Md_rowOf_32 : decode b_Md_rowOf 32 = .ok (.iaload, 1) := by decide +kernel
set_option maxRecDepth 100000 in
theorem d_Md_rowOf_33 : decode b_Md_rowOf 33 = .ok (.iload_n 1, 1) := by decide +kernel
set_option maxRecDepth 100000 in
theorem d_Md_rowOf_34 : decode b_Md_rowOf 34 = .ok (.if_icmp .ne 5, 3) := by decide +kernel
set_option maxRecDepth 100000 in
theorem d_Md_rowOf_37 : decode b_Md_rowOf 37 = .ok (.iload_n 2, 1) := by decide +kernel
set_option maxRecDepth 100000 in
theorem d_Md_rowOf_38 : decode b_Md_rowOf 38 = .ok (.ireturn, 1) := by decide +kernel
set_option maxRecDepth 100000 in
theorem d_Md_rowOf_39 : decode b_Md_rowOf 39 = .ok (.iinc 3 1, 3) := by decide +kernel
set_option maxRecDepth 100000 in
theorem d_Md_rowOf_42 : decode b_Md_rowOf 42 = .ok (.goto (-30), 3) := by decide +kernel
set_option maxRecDepth 100000 in
theorem d_Md_rowOf_45 : decode b_Md_rowOf 45 = .ok (.iinc 2 1, 3) := by decide +kernel
set_option maxRecDepth 100000 in
theorem d_Md_rowOf_48 : decode b_Md_rowOf 48 = .ok (.goto (-46), 3) := by decide +kernel
set_option maxRecDepth 100000 in
theorem d_Md_rowOf_51 : decode b_Md_rowOf 51 = .ok (.iconst (-1), 1) := by decide +kernel
set_option maxRecDepth 100000 in
theorem d_Md_rowOf_52 : decode b_Md_rowOf 52 = .ok (.ireturn, 1) := by decide +kernel
set_option maxRecDepth 100000 in
theorem d_Md_served_0 : decode b_Md_served 0 = .ok (.iload_n 1, 1) := by decide +kernel
set_option maxRecDepth 100000 in
theorem d_Md_served_1 : decode b_Md_served 1 = .ok (.invokestatic 186, 3) := by decide +kernel
set_option maxRecDepth 100000 in
theorem d_Md_served_4 : decode b_Md_served 4 = .ok (.ifCond .ne 7, 3) := by decide +kernel
set_option maxRecDepth 100000 in
theorem d_Md_served_7 : decode b_Md_served 7 = .ok (.iconst (-1), 1) := by decide +kernel
set_option maxRecDepth 100000 in
theorem d_Md_served_8 : decode b_Md_served 8 = .ok (.goto 23, 3) := by decide +kernel
set_option maxRecDepth 100000 in
theorem d_Md_served_11 : decode b_Md_served 11 = .ok (.aload_n 0, 1) := by decide +kernel
set_option maxRecDepth 100000 in
theorem d_Md_served_12 : decode b_Md_served 12 = .ok (.getfield 58, 3) := by decide +kernel
set_option maxRecDepth 100000 in
theorem d_Md_served_15 : decode b_Md_served 15 = .ok (.iload_n 1, 1) := by decide +kernel
set_option maxRecDepth 100000 in
theorem d_Md_served_16 : decode b_Md_served 16 = .ok (.iaload, 1) := by decide +kernel
set_option maxRecDepth 100000 in
theorem d_Md_served_17 : decode b_Md_served 17 = .ok (.iconst 1, 1) := by decide +kernel
set_option maxRecDepth 100000 in
theorem d_Md_served_18 : decode b_Md_served 18 = .ok (.if_icmp .eq 8, 3) := by decide +kernel
set_option maxRecDepth 100000 in
theorem d_Md_served_21 : decode b_Md_served 21 = .ok (.bipush (-2), 2) := by decide +kernel
set_option maxRecDepth 100000 in
theorem d_Md_served_23 : decode b_Md_served 23 = .ok (.goto 8, 3) := by decide +kernel
set_option maxRecDepth 100000 in
theorem d_Md_served_26 : decode b_Md_served 26 = .ok (.aload_n 0, 1) := by decide +kernel
set_option maxRecDepth 100000 in
theorem d_Md_served_27 : decode b_Md_served 27 = .ok (.iload_n 1, 1) := by decide +kernel
set_option maxRecDepth 100000 in
theorem d_Md_served_28 : decode b_Md_served 28 = .ok (.invokevirtual 189, 3) := by decide +kernel
set_option maxRecDepth 100000 in
theorem d_Md_served_31 : decode b_Md_served 31 = .ok (.ireturn, 1) := by decide +kernel
set_option maxRecDepth 100000 in
theorem d_Md_servedOf_0 : decode b_Md_servedOf 0 = .ok (.aload_n 0, 1) := by decide +kernel
set_option maxRecDepth 100000 in
theorem d_Md_servedOf_1 : decode b_Md_servedOf 1 = .ok (.invokevirtual 45, 3) := by decide +kernel
set_option maxRecDepth 100000 in
theorem d_Md_servedOf_4 : decode b_Md_servedOf 4 = .ok (.aload_n 0, 1) := by decide +kernel
set_option maxRecDepth 100000 in
theorem d_Md_servedOf_5 : decode b_Md_servedOf 5 = .ok (.getfield 64, 3) := by decide +kernel
set_option maxRecDepth 100000 in
theorem d_Md_servedOf_8 : decode b_Md_servedOf 8 = .ok (.iload_n 1, 1) := by decide +kernel
set_option maxRecDepth 100000 in
theorem d_Md_servedOf_9 : decode b_Md_servedOf 9 = .ok (.iaload, 1) := by decide +kernel
set_option maxRecDepth 100000 in
theorem d_Md_servedOf_10 : decode b_Md_servedOf 10 = .ok (.isub, 1) := by decide +kernel
set_option maxRecDepth 100000 in
theorem d_Md_servedOf_11 : decode b_Md_servedOf 11 = .ok (.istore_n 2, 1) := by decide +kernel
set_option maxRecDepth 100000 in
theorem d_Md_servedOf_12 : decode b_Md_servedOf 12 = .ok (.iconst 0, 1) := by decide +kernel
set_option maxRecDepth 100000 in
theorem d_Md_servedOf_13 : decode b_Md_servedOf 13 = .ok (.istore_n 3, 1) := by decide +kernel
set_option maxRecDepth 100000 in
theorem d_Md_servedOf_14 : decode b_Md_servedOf 14 = .ok (.iload_n 3, 1) := by decide +kernel
set_option maxRecDepth 100000 in
theorem d_Md_servedOf_15 : decode b_Md_servedOf 15 = .ok (.aload_n 0, 1) := by decide +kernel
set_option maxRecDepth 100000 in
theorem d_Md_servedOf_16 : decode b_Md_servedOf 16 = .ok (.getfield 67, 3) := by decide +kernel
set_option maxRecDepth 100000 in
theorem d_Md_servedOf_19 : decode b_Md_servedOf 19 = .ok (.iload_n 1, 1) := by decide +kernel
set_option maxRecDepth 100000 in
theorem d_Md_servedOf_20 : decode b_Md_servedOf 20 = .ok (.iaload, 1) := by decide +kernel
set_option maxRecDepth 100000 in
theorem d_Md_servedOf_21 : decode b_Md_servedOf 21 = .ok (.if_icmp .ge 68, 3) := by decide +kernel
set_option maxRecDepth 100000 in
theorem d_Md_servedOf_24 : decode b_Md_servedOf 24 = .ok (.aload_n 0, 1) := by decide +kernel
set_option maxRecDepth 100000 in
theorem d_Md_servedOf_25 : decode b_Md_servedOf 25 = .ok (.getfield 73, 3) := by decide +kernel
set_option maxRecDepth 100000 in
theorem d_Md_servedOf_28 : decode b_Md_servedOf 28 = .ok (.bipush 6, 2) := by decide +kernel
set_option maxRecDepth 100000 in
theorem d_Md_servedOf_30 : decode b_Md_servedOf 30 = .ok (.iload_n 1, 1) := by decide +kernel
set_option maxRecDepth 100000 in
theorem d_Md_servedOf_31 : decode b_Md_servedOf 31 = .ok (.imul, 1) := by decide +kernel
set_option maxRecDepth 100000 in
theorem d_Md_servedOf_32 : decode b_Md_servedOf 32 = .ok (.iload_n 3, 1) := by decide +kernel
set_option maxRecDepth 100000 in
theorem d_Md_servedOf_33 : decode b_Md_servedOf 33 = .ok (.iadd, 1) := by decide +kernel
set_option maxRecDepth 100000 in
theorem d_Md_servedOf_34 : decode b_Md_servedOf 34 = .ok (.iaload, 1) := by decide +kernel
set_option maxRecDepth 100000 in
theorem d_Md_servedOf_35 : decode b_Md_servedOf 35 = .ok (.aload_n 0, 1) := by decide +kernel
set_option maxRecDepth 100000 in
theorem d_Md_servedOf_36 : decode b_Md_servedOf 36 = .ok (.invokevirtual 45, 3) := by decide +kernel
set_option maxRecDepth 100000 in
theorem d_Md_servedOf_39 : decode b_Md_servedOf 39 = .ok (.if_icmp .ge 17, 3) := by decide +kernel
set_option maxRecDepth 100000 in
theorem d_Md_servedOf_42 : decode b_Md_servedOf 42 = .ok (.aload_n 0, 1) := by decide +kernel
set_option maxRecDepth 100000 in
theorem d_Md_servedOf_43 : decode b_Md_servedOf 43 = .ok (.getfield 73, 3) := by decide +kernel
set_option maxRecDepth 100000 in
theorem d_Md_servedOf_46 : decode b_Md_servedOf 46 = .ok (.bipush 6, 2) := by decide +kernel
set_option maxRecDepth 100000 in
theorem d_Md_servedOf_48 : decode b_Md_servedOf 48 = .ok (.iload_n 1, 1) := by decide +kernel
set_option maxRecDepth 100000 in
theorem d_Md_servedOf_49 : decode b_Md_servedOf 49 = .ok (.imul, 1) := by decide +kernel
set_option maxRecDepth 100000 in
theorem d_Md_servedOf_50 : decode b_Md_servedOf 50 = .ok (.iload_n 3, 1) := by decide +kernel
set_option maxRecDepth 100000 in
theorem d_Md_servedOf_51 : decode b_Md_servedOf 51 = .ok (.iadd, 1) := by decide +kernel
set_option maxRecDepth 100000 in
theorem d_Md_servedOf_52 : decode b_Md_servedOf 52 = .ok (.iaload, 1) := by decide +kernel
set_option maxRecDepth 100000 in
theorem d_Md_servedOf_53 : decode b_Md_servedOf 53 = .ok (.goto 9, 3) := by decide +kernel
set_option maxRecDepth 100000 in
theorem d_Md_servedOf_56 : decode b_Md_servedOf 56 = .ok (.aload_n 0, 1) := by decide +kernel
set_option maxRecDepth 100000 in
theorem d_Md_servedOf_57 : decode b_Md_servedOf 57 = .ok (.invokevirtual 45, 3) := by decide +kernel
set_option maxRecDepth 100000 in
theorem d_Md_servedOf_60 : decode b_Md_servedOf 60 = .ok (.iconst 1, 1) := by decide +kernel
set_option maxRecDepth 100000 in
theorem d_Md_servedOf_61 : decode b_Md_servedOf 61 = .ok (.isub, 1) := by decide +kernel
set_option maxRecDepth 100000 in
theorem d_Md_servedOf_62 : decode b_Md_servedOf 62 = .ok (.istore 4, 2) := by decide +kernel
set_option maxRecDepth 100000 in
theorem d_Md_servedOf_64 : decode b_Md_servedOf 64 = .ok (.iload_n 2, 1) := by decide +kernel
set_option maxRecDepth 100000 in
theorem d_Md_servedOf_65 : decode b_Md_servedOf 65 = .ok (.iload 4, 2) := by decide +kernel
set_option maxRecDepth 100000 in
theorem d_Md_servedOf_67 : decode b_Md_servedOf 67 = .ok (.aload_n 0, 1) := by decide +kernel
set_option maxRecDepth 100000 in
theorem d_Md_servedOf_68 : decode b_Md_servedOf 68 = .ok (.getfield 70, 3) := by decide +kernel
set_option maxRecDepth 100000 in
theorem d_Md_servedOf_71 : decode b_Md_servedOf 71 = .ok (.bipush 6, 2) := by decide +kernel
set_option maxRecDepth 100000 in
theorem d_Md_servedOf_73 : decode b_Md_servedOf 73 = .ok (.iload_n 1, 1) := by decide +kernel
set_option maxRecDepth 100000 in
theorem d_Md_servedOf_74 : decode b_Md_servedOf 74 = .ok (.imul, 1) := by decide +kernel
set_option maxRecDepth 100000 in
theorem d_Md_servedOf_75 : decode b_Md_servedOf 75 = .ok (.iload_n 3, 1) := by decide +kernel
set_option maxRecDepth 100000 in
theorem d_Md_servedOf_76 : decode b_Md_servedOf 76 = .ok (.iadd, 1) := by decide +kernel
set_option maxRecDepth 100000 in
theorem d_Md_servedOf_77 : decode b_Md_servedOf 77 = .ok (.iaload, 1) := by decide +kernel
set_option maxRecDepth 100000 in
theorem d_Md_servedOf_78 : decode b_Md_servedOf 78 = .ok (.isub, 1) := by decide +kernel
set_option maxRecDepth 100000 in
theorem d_Md_servedOf_79 : decode b_Md_servedOf 79 = .ok (.iconst 1, 1) := by decide +kernel
set_option maxRecDepth 100000 in
theorem d_Md_servedOf_80 : decode b_Md_servedOf 80 = .ok (.iadd, 1) := by decide +kernel
set_option maxRecDepth 100000 in
theorem d_Md_servedOf_81 : decode b_Md_servedOf 81 = .ok (.isub, 1) := by decide +kernel
set_option maxRecDepth 100000 in
theorem d_Md_servedOf_82 : decode b_Md_servedOf 82 = .ok (.istore_n 2, 1) := by decide +kernel
set_option maxRecDepth 100000 in
theorem d_Md_servedOf_83 : decode b_Md_servedOf 83 = .ok (.iinc 3 1, 3) := by decide +kernel
set_option maxRecDepth 100000 in
theorem d_Md_servedOf_86 : decode b_Md_servedOf 86 = .ok (.goto (-72), 3) := by decide +kernel
set_option maxRecDepth 100000 in
theorem d_Md_servedOf_89 : decode b_Md_servedOf 89 = .ok (.iload_n 2, 1) := by decide +kernel
set_option maxRecDepth 100000 in
theorem d_Md_servedOf_90 : decode b_Md_servedOf 90 = .ok (.ireturn, 1) := by decide +kernel
set_option maxRecDepth 100000 in
theorem d_Md_sink_0 : decode b_Md_sink 0 = .ok (.aload_n 0, 1) := by decide +kernel
set_option maxRecDepth 100000 in
theorem d_Md_sink_1 : decode b_Md_sink 1 = .ok (.iload_n 1, 1) := by decide +kernel
set_option maxRecDepth 100000 in
theorem d_Md_sink_2 : decode b_Md_sink 2 = .ok (.invokevirtual 209, 3) := by decide +kernel
set_option maxRecDepth 100000 in
theorem d_Md_sink_5 : decode b_Md_sink 5 = .ok (.ifCond .eq 11, 3) := by decide +kernel
set_option maxRecDepth 100000 in
theorem d_Md_sink_8 : decode b_Md_sink 8 = .ok (.iload_n 2, 1) := by decide +kernel
set_option maxRecDepth 100000 in
theorem d_Md_sink_9 : decode b_Md_sink 9 = .ok (.iload_n 3, 1) := by decide +kernel
set_option maxRecDepth 100000 in
theorem d_Md_sink_10 : decode b_Md_sink 10 = .ok (.invokestatic 338, 3) := by decide +kernel
set_option maxRecDepth 100000 in
theorem d_Md_sink_13 : decode b_Md_sink 13 = .ok (.ifCond .ne 5, 3) := by decide +kernel
set_option maxRecDepth 100000 in
theorem d_Md_sink_16 : decode b_Md_sink 16 = .ok (.iconst (-1), 1) := by decide +kernel
set_option maxRecDepth 100000 in
theorem d_Md_sink_17 : decode b_Md_sink 17 = .ok (.ireturn, 1) := by decide +kernel
set_option maxRecDepth 100000 in
theorem d_Md_sink_18 : decode b_Md_sink 18 = .ok (.aload_n 0, 1) := by decide +kernel
set_option maxRecDepth 100000 in
theorem d_Md_sink_19 : decode b_Md_sink 19 = .ok (.getfield 103, 3) := by decide +kernel
set_option maxRecDepth 100000 in
theorem d_Md_sink_22 : decode b_Md_sink 22 = .ok (.iload_n 1, 1) := by decide +kernel
set_option maxRecDepth 100000 in
theorem d_Md_sink_23 : decode b_Md_sink 23 = .ok (.iaload, 1) := by decide +kernel
set_option maxRecDepth 100000 in
theorem d_Md_sink_24 : decode b_Md_sink 24 = .ok (.ifCond .ge 6, 3) := by decide +kernel
set_option maxRecDepth 100000 in
theorem d_Md_sink_27 : decode b_Md_sink 27 = .ok (.bipush (-2), 2) := by decide +kernel
set_option maxRecDepth 100000 in
theorem d_Md_sink_29 : decode b_Md_sink 29 = .ok (.ireturn, 1) := by decide +kernel
set_option maxRecDepth 100000 in
theorem d_Md_sink_30 : decode b_Md_sink 30 = .ok (.aload_n 0, 1) := by decide +kernel
set_option maxRecDepth 100000 in
theorem d_Md_sink_31 : decode b_Md_sink 31 = .ok (.getfield 323, 3) := by decide +kernel
set_option maxRecDepth 100000 in
theorem d_Md_sink_34 : decode b_Md_sink 34 = .ok (.bipush 30, 2) := by decide +kernel
set_option maxRecDepth 100000 in
theorem d_Md_sink_36 : decode b_Md_sink 36 = .ok (.if_icmp .ne 6, 3) := by decide +kernel
set_option maxRecDepth 100000 in
theorem d_Md_sink_39 : decode b_Md_sink 39 = .ok (.bipush (-3), 2) := by decide +kernel
set_option maxRecDepth 100000 in
theorem d_Md_sink_41 : decode b_Md_sink 41 = .ok (.ireturn, 1) := by decide +kernel
set_option maxRecDepth 100000 in
theorem d_Md_sink_42 : decode b_Md_sink 42 = .ok (.aload_n 0, 1) := by decide +kernel
set_option maxRecDepth 100000 in
theorem d_Md_sink_43 : decode b_Md_sink 43 = .ok (.getfield 103, 3) := by decide +kernel
set_option maxRecDepth 100000 in
theorem d_Md_sink_46 : decode b_Md_sink 46 = .ok (.iload_n 1, 1) := by decide +kernel
set_option maxRecDepth 100000 in
theorem d_Md_sink_47 : decode b_Md_sink 47 = .ok (.iaload, 1) := by decide +kernel
set_option maxRecDepth 100000 in
theorem d_Md_sink_48 : decode b_Md_sink 48 = .ok (.istore 4, 2) := by decide +kernel
set_option maxRecDepth 100000 in
theorem d_Md_sink_50 : decode b_Md_sink 50 = .ok (.aload_n 0, 1) := by decide +kernel
set_option maxRecDepth 100000 in
theorem d_Md_sink_51 : decode b_Md_sink 51 = .ok (.getfield 170, 3) := by decide +kernel
set_option maxRecDepth 100000 in
theorem d_Md_sink_54 : decode b_Md_sink 54 = .ok (.iload 4, 2) := by decide +kernel
set_option maxRecDepth 100000 in
theorem d_Md_sink_56 : decode b_Md_sink 56 = .ok (.iconst 1, 1) := by decide +kernel
