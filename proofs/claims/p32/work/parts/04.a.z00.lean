set_option maxRecDepth 100000 in
theorem d_Mn_isOnWay_0 : decode b_Mn_isOnWay 0 = .ok (.iload_n 1, 1) := by decide +kernel
set_option maxRecDepth 100000 in
theorem d_Mn_isOnWay_1 : decode b_Mn_isOnWay 1 = .ok (.aload_n 0, 1) := by decide +kernel
set_option maxRecDepth 100000 in
theorem d_Mn_isOnWay_2 : decode b_Mn_isOnWay 2 = .ok (.getfield 21, 3) := by decide +kernel
set_option maxRecDepth 100000 in
theorem d_Mn_isOnWay_5 : decode b_Mn_isOnWay 5 = .ok (.if_icmp .ge 7, 3) := by decide +kernel
set_option maxRecDepth 100000 in
theorem d_Mn_isOnWay_8 : decode b_Mn_isOnWay 8 = .ok (.iconst 1, 1) := by decide +kernel
set_option maxRecDepth 100000 in
theorem d_Mn_isOnWay_9 : decode b_Mn_isOnWay 9 = .ok (.goto 4, 3) := by decide +kernel
set_option maxRecDepth 100000 in
theorem d_Mn_isOnWay_12 : decode b_Mn_isOnWay 12 = .ok (.iconst 0, 1) := by decide +kernel
set_option maxRecDepth 100000 in
theorem d_Mn_isOnWay_13 : decode b_Mn_isOnWay 13 = .ok (.ireturn, 1) := by decide +kernel
set_option maxRecDepth 100000 in
theorem d_WM_man_0 : decode b_WM_man 0 = .ok (.aload_n 0, 1) := by decide +kernel
set_option maxRecDepth 100000 in
theorem d_WM_man_1 : decode b_WM_man 1 = .ok (.iload_n 1, 1) := by decide +kernel
set_option maxRecDepth 100000 in
theorem d_WM_man_2 : decode b_WM_man 2 = .ok (.invokevirtual 107, 3) := by decide +kernel
set_option maxRecDepth 100000 in
theorem d_WM_man_5 : decode b_WM_man 5 = .ok (.astore_n 3, 1) := by decide +kernel
set_option maxRecDepth 100000 in
theorem d_WM_man_6 : decode b_WM_man 6 = .ok (.aload_n 3, 1) := by decide +kernel
set_option maxRecDepth 100000 in
theorem d_WM_man_7 : decode b_WM_man 7 = .ok (.ifnonnull 6, 3) := by decide +kernel
set_option maxRecDepth 100000 in
theorem d_WM_man_10 : decode b_WM_man 10 = .ok (.bipush (-2), 2) := by decide +kernel
set_option maxRecDepth 100000 in
theorem d_WM_man_12 : decode b_WM_man 12 = .ok (.ireturn, 1) := by decide +kernel
set_option maxRecDepth 100000 in
theorem d_WM_man_13 : decode b_WM_man 13 = .ok (.iload_n 2, 1) := by decide +kernel
set_option maxRecDepth 100000 in
theorem d_WM_man_14 : decode b_WM_man 14 = .ok (.tableswitch 112 0 6 #[42, 47, 74, 79, 85, 90, 107], 42) := by decide +kernel
set_option maxRecDepth 100000 in
theorem d_WM_man_56 : decode b_WM_man 56 = .ok (.aload_n 3, 1) := by decide +kernel
set_option maxRecDepth 100000 in
theorem d_WM_man_57 : decode b_WM_man 57 = .ok (.getfield 111, 3) := by decide +kernel
set_option maxRecDepth 100000 in
theorem d_WM_man_60 : decode b_WM_man 60 = .ok (.ireturn, 1) := by decide +kernel
set_option maxRecDepth 100000 in
theorem d_WM_man_61 : decode b_WM_man 61 = .ok (.aload_n 3, 1) := by decide +kernel
set_option maxRecDepth 100000 in
theorem d_WM_man_62 : decode b_WM_man 62 = .ok (.getfield 119, 3) := by decide +kernel
set_option maxRecDepth 100000 in
theorem d_WM_man_65 : decode b_WM_man 65 = .ok (.ifnull 21, 3) := by decide +kernel
set_option maxRecDepth 100000 in
theorem d_WM_man_68 : decode b_WM_man 68 = .ok (.aload_n 3, 1) := by decide +kernel
set_option maxRecDepth 100000 in
theorem d_WM_man_69 : decode b_WM_man 69 = .ok (.getfield 111, 3) := by decide +kernel
set_option maxRecDepth 100000 in
theorem d_WM_man_72 : decode b_WM_man 72 = .ok (.iconst 1, 1) := by decide +kernel
set_option maxRecDepth 100000 in
theorem d_WM_man_73 : decode b_WM_man 73 = .ok (.if_icmp .ne 13, 3) := by decide +kernel
set_option maxRecDepth 100000 in
theorem d_WM_man_76 : decode b_WM_man 76 = .ok (.aload_n 3, 1) := by decide +kernel
set_option maxRecDepth 100000 in
theorem d_WM_man_77 : decode b_WM_man 77 = .ok (.getfield 119, 3) := by decide +kernel
set_option maxRecDepth 100000 in
theorem d_WM_man_80 : decode b_WM_man 80 = .ok (.getfield 142, 3) := by decide +kernel
set_option maxRecDepth 100000 in
theorem d_WM_man_83 : decode b_WM_man 83 = .ok (.goto 4, 3) := by decide +kernel
set_option maxRecDepth 100000 in
theorem d_WM_man_86 : decode b_WM_man 86 = .ok (.iconst (-1), 1) := by decide +kernel
set_option maxRecDepth 100000 in
theorem d_WM_man_87 : decode b_WM_man 87 = .ok (.ireturn, 1) := by decide +kernel
set_option maxRecDepth 100000 in
theorem d_WM_man_88 : decode b_WM_man 88 = .ok (.aload_n 3, 1) := by decide +kernel
set_option maxRecDepth 100000 in
theorem d_WM_man_89 : decode b_WM_man 89 = .ok (.getfield 145, 3) := by decide +kernel
set_option maxRecDepth 100000 in
theorem d_WM_man_92 : decode b_WM_man 92 = .ok (.ireturn, 1) := by decide +kernel
set_option maxRecDepth 100000 in
theorem d_WM_man_93 : decode b_WM_man 93 = .ok (.aload_n 0, 1) := by decide +kernel
set_option maxRecDepth 100000 in
theorem d_WM_man_94 : decode b_WM_man 94 = .ok (.aload_n 3, 1) := by decide +kernel
set_option maxRecDepth 100000 in
theorem d_WM_man_95 : decode b_WM_man 95 = .ok (.invokevirtual 148, 3) := by decide +kernel
set_option maxRecDepth 100000 in
theorem d_WM_man_98 : decode b_WM_man 98 = .ok (.ireturn, 1) := by decide +kernel
set_option maxRecDepth 100000 in
theorem d_WM_man_99 : decode b_WM_man 99 = .ok (.aload_n 3, 1) := by decide +kernel
set_option maxRecDepth 100000 in
theorem d_WM_man_100 : decode b_WM_man 100 = .ok (.getfield 152, 3) := by decide +kernel
set_option maxRecDepth 100000 in
theorem d_WM_man_103 : decode b_WM_man 103 = .ok (.ireturn, 1) := by decide +kernel
set_option maxRecDepth 100000 in
theorem d_WM_man_104 : decode b_WM_man 104 = .ok (.aload_n 3, 1) := by decide +kernel
set_option maxRecDepth 100000 in
theorem d_WM_man_105 : decode b_WM_man 105 = .ok (.aload_n 0, 1) := by decide +kernel
set_option maxRecDepth 100000 in
theorem d_WM_man_106 : decode b_WM_man 106 = .ok (.getfield 155, 3) := by decide +kernel
set_option maxRecDepth 100000 in
theorem d_WM_man_109 : decode b_WM_man 109 = .ok (.invokevirtual 158, 3) := by decide +kernel
set_option maxRecDepth 100000 in
theorem d_WM_man_112 : decode b_WM_man 112 = .ok (.ifCond .eq 7, 3) := by decide +kernel
set_option maxRecDepth 100000 in
theorem d_WM_man_115 : decode b_WM_man 115 = .ok (.iconst 1, 1) := by decide +kernel
set_option maxRecDepth 100000 in
theorem d_WM_man_116 : decode b_WM_man 116 = .ok (.goto 4, 3) := by decide +kernel
set_option maxRecDepth 100000 in
theorem d_WM_man_119 : decode b_WM_man 119 = .ok (.iconst 0, 1) := by decide +kernel
set_option maxRecDepth 100000 in
theorem d_WM_man_120 : decode b_WM_man 120 = .ok (.ireturn, 1) := by decide +kernel
set_option maxRecDepth 100000 in
theorem d_WM_man_121 : decode b_WM_man 121 = .ok (.aload_n 3, 1) := by decide +kernel
set_option maxRecDepth 100000 in
theorem d_WM_man_122 : decode b_WM_man 122 = .ok (.getfield 161, 3) := by decide +kernel
set_option maxRecDepth 100000 in
theorem d_WM_man_125 : decode b_WM_man 125 = .ok (.ireturn, 1) := by decide +kernel
set_option maxRecDepth 100000 in
theorem d_WM_man_126 : decode b_WM_man 126 = .ok (.bipush (-2), 2) := by decide +kernel
set_option maxRecDepth 100000 in
theorem d_WM_man_128 : decode b_WM_man 128 = .ok (.ireturn, 1) := by decide +kernel
set_option maxRecDepth 100000 in
theorem d_WM_manAt_0 : decode b_WM_manAt 0 = .ok (.iload_n 1, 1) := by decide +kernel
set_option maxRecDepth 100000 in
theorem d_WM_manAt_1 : decode b_WM_manAt 1 = .ok (.ifCond .lt 18, 3) := by decide +kernel
set_option maxRecDepth 100000 in
theorem d_WM_manAt_4 : decode b_WM_manAt 4 = .ok (.iload_n 1, 1) := by decide +kernel
set_option maxRecDepth 100000 in
theorem d_WM_manAt_5 : decode b_WM_manAt 5 = .ok (.bipush 40, 2) := by decide +kernel
set_option maxRecDepth 100000 in
theorem d_WM_manAt_7 : decode b_WM_manAt 7 = .ok (.if_icmp .ge 12, 3) := by decide +kernel
set_option maxRecDepth 100000 in
theorem d_WM_manAt_10 : decode b_WM_manAt 10 = .ok (.aload_n 0, 1) := by decide +kernel
set_option maxRecDepth 100000 in
theorem d_WM_manAt_11 : decode b_WM_manAt 11 = .ok (.getfield 18, 3) := by decide +kernel
set_option maxRecDepth 100000 in
theorem d_WM_manAt_14 : decode b_WM_manAt 14 = .ok (.iload_n 1, 1) := by decide +kernel
set_option maxRecDepth 100000 in
theorem d_WM_manAt_15 : decode b_WM_manAt 15 = .ok (.aaload, 1) := by decide +kernel
set_option maxRecDepth 100000 in
theorem d_WM_manAt_16 : decode b_WM_manAt 16 = .ok (.goto 4, 3) := by decide +kernel
set_option maxRecDepth 100000 in
theorem d_WM_manAt_19 : decode b_WM_manAt 19 = .ok (.aconst_null, 1) := by decide +kernel
set_option maxRecDepth 100000 in
theorem d_WM_manAt_20 : decode b_WM_manAt 20 = .ok (.areturn, 1) := by decide +kernel
set_option maxRecDepth 100000 in
theorem d_WM_placeInTurns_0 : decode b_WM_placeInTurns 0 = .ok (.aload_n 1, 1) := by decide +kernel
set_option maxRecDepth 100000 in
theorem d_WM_placeInTurns_1 : decode b_WM_placeInTurns 1 = .ok (.getfield 145, 3) := by decide +kernel
set_option maxRecDepth 100000 in
theorem d_WM_placeInTurns_4 : decode b_WM_placeInTurns 4 = .ok (.iconst (-1), 1) := by decide +kernel
set_option maxRecDepth 100000 in
theorem d_WM_placeInTurns_5 : decode b_WM_placeInTurns 5 = .ok (.if_icmp .ne 5, 3) := by decide +kernel
set_option maxRecDepth 100000 in
theorem d_WM_placeInTurns_8 : decode b_WM_placeInTurns 8 = .ok (.iconst (-1), 1) := by decide +kernel
set_option maxRecDepth 100000 in
theorem d_WM_placeInTurns_9 : decode b_WM_placeInTurns 9 = .ok (.ireturn, 1) := by decide +kernel
set_option maxRecDepth 100000 in
theorem d_WM_placeInTurns_10 : decode b_WM_placeInTurns 10 = .ok (.iconst 0, 1) := by decide +kernel
set_option maxRecDepth 100000 in
theorem d_WM_placeInTurns_11 : decode b_WM_placeInTurns 11 = .ok (.istore_n 2, 1) := by decide +kernel
set_option maxRecDepth 100000 in
theorem d_WM_placeInTurns_12 : decode b_WM_placeInTurns 12 = .ok (.iconst 0, 1) := by decide +kernel
set_option maxRecDepth 100000 in
theorem d_WM_placeInTurns_13 : decode b_WM_placeInTurns 13 = .ok (.istore_n 3, 1) := by decide +kernel
set_option maxRecDepth 100000 in
theorem d_WM_placeInTurns_14 : decode b_WM_placeInTurns 14 = .ok (.iload_n 3, 1) := by decide +kernel
set_option maxRecDepth 100000 in
theorem d_WM_placeInTurns_15 : decode b_WM_placeInTurns 15 = .ok (.bipush 40, 2) := by decide +kernel
set_option maxRecDepth 100000 in
theorem d_WM_placeInTurns_17 : decode b_WM_placeInTurns 17 = .ok (.if_icmp .ge 49, 3) := by decide +kernel
set_option maxRecDepth 100000 in
theorem d_WM_placeInTurns_20 : decode b_WM_placeInTurns 20 = .ok (.aload_n 0, 1) := by decide +kernel
set_option maxRecDepth 100000 in
theorem d_WM_placeInTurns_21 : decode b_WM_placeInTurns 21 = .ok (.getfield 18, 3) := by decide +kernel
set_option maxRecDepth 100000 in
theorem d_WM_placeInTurns_24 : decode b_WM_placeInTurns 24 = .ok (.iload_n 3, 1) := by decide +kernel
set_option maxRecDepth 100000 in
theorem d_WM_placeInTurns_25 : decode b_WM_placeInTurns 25 = .ok (.aaload, 1) := by decide +kernel
set_option maxRecDepth 100000 in
theorem d_WM_placeInTurns_26 : decode b_WM_placeInTurns 26 = .ok (.astore 4, 2) := by decide +kernel
set_option maxRecDepth 100000 in
theorem d_WM_placeInTurns_28 : decode b_WM_placeInTurns 28 = .ok (.aload 4, 2) := by decide +kernel
set_option maxRecDepth 100000 in
theorem d_WM_placeInTurns_30 : decode b_WM_placeInTurns 30 = .ok (.ifnull 30, 3) := by decide +kernel
set_option maxRecDepth 100000 in
theorem d_WM_placeInTurns_33 : decode b_WM_placeInTurns 33 = .ok (.aload 4, 2) := by decide +kernel
set_option maxRecDepth 100000 in
theorem d_WM_placeInTurns_35 : decode b_WM_placeInTurns 35 = .ok (.getfield 145, 3) := by decide +kernel
set_option maxRecDepth 100000 in
theorem d_WM_placeInTurns_38 : decode b_WM_placeInTurns 38 = .ok (.aload_n 1, 1) := by decide +kernel
set_option maxRecDepth 100000 in
theorem d_WM_placeInTurns_39 : decode b_WM_placeInTurns 39 = .ok (.getfield 145, 3) := by decide +kernel
set_option maxRecDepth 100000 in
theorem d_WM_placeInTurns_42 : decode b_WM_placeInTurns 42 = .ok (.if_icmp .ne 18, 3) := by decide +kernel
set_option maxRecDepth 100000 in
theorem d_WM_placeInTurns_45 : decode b_WM_placeInTurns 45 = .ok (.aload 4, 2) := by decide +kernel
set_option maxRecDepth 100000 in
theorem d_WM_placeInTurns_47 : decode b_WM_placeInTurns 47 = .ok (.getfield 196, 3) := by decide +kernel
set_option maxRecDepth 100000 in
theorem d_WM_placeInTurns_50 : decode b_WM_placeInTurns 50 = .ok (.aload_n 1, 1) := by decide +kernel
set_option maxRecDepth 100000 in
theorem d_WM_placeInTurns_51 : decode b_WM_placeInTurns 51 = .ok (.getfield 196, 3) := by decide +kernel
set_option maxRecDepth 100000 in
theorem d_WM_placeInTurns_54 : decode b_WM_placeInTurns 54 = .ok (.if_icmp .ge 6, 3) := by decide +kernel
set_option maxRecDepth 100000 in
theorem d_WM_placeInTurns_57 : decode b_WM_placeInTurns 57 = .ok (.iinc 2 1, 3) := by decide +kernel
set_option maxRecDepth 100000 in
theorem d_WM_placeInTurns_60 : decode b_WM_placeInTurns 60 = .ok (.iinc 3 1, 3) := by decide +kernel
set_option maxRecDepth 100000 in
theorem d_WM_placeInTurns_63 : decode b_WM_placeInTurns 63 = .ok (.goto (-49), 3) := by decide +kernel
set_option maxRecDepth 100000 in
theorem d_WM_placeInTurns_66 : decode b_WM_placeInTurns 66 = .ok (.iload_n 2, 1) := by decide +kernel
set_option maxRecDepth 100000 in
theorem d_WM_placeInTurns_67 : decode b_WM_placeInTurns 67 = .ok (.ireturn, 1) := by decide +kernel
