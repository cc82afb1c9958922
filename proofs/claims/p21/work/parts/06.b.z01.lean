set_option maxRecDepth 100000 in
theorem d_Md_boat_73 : decode b_Md_boat 73 = .ok (.getfield 206, 3) := by decide +kernel
set_option maxRecDepth 100000 in
theorem d_Md_boat_76 : decode b_Md_boat 76 = .ok (.iconst 1, 1) := by decide +kernel
set_option maxRecDepth 100000 in
theorem d_Md_boat_77 : decode b_Md_boat 77 = .ok (.iadd, 1) := by decide +kernel
set_option maxRecDepth 100000 in
theorem d_Md_boat_78 : decode b_Md_boat 78 = .ok (.putfield 206, 3) := by decide +kernel
set_option maxRecDepth 100000 in
theorem d_Md_boat_81 : decode b_Md_boat 81 = .ok (.aload_n 0, 1) := by decide +kernel
set_option maxRecDepth 100000 in
theorem d_Md_boat_82 : decode b_Md_boat 82 = .ok (.getfield 206, 3) := by decide +kernel
set_option maxRecDepth 100000 in
theorem d_Md_boat_85 : decode b_Md_boat 85 = .ok (.iconst 1, 1) := by decide +kernel
set_option maxRecDepth 100000 in
theorem d_Md_boat_86 : decode b_Md_boat 86 = .ok (.isub, 1) := by decide +kernel
set_option maxRecDepth 100000 in
theorem d_Md_boat_87 : decode b_Md_boat 87 = .ok (.ireturn, 1) := by decide +kernel
set_option maxRecDepth 100000 in
theorem d_Md_bridge_0 : decode b_Md_bridge 0 = .ok (.iload_n 1, 1) := by decide +kernel
set_option maxRecDepth 100000 in
theorem d_Md_bridge_1 : decode b_Md_bridge 1 = .ok (.iconst (-1), 1) := by decide +kernel
set_option maxRecDepth 100000 in
theorem d_Md_bridge_2 : decode b_Md_bridge 2 = .ok (.if_icmp .eq 19, 3) := by decide +kernel
set_option maxRecDepth 100000 in
theorem d_Md_bridge_5 : decode b_Md_bridge 5 = .ok (.iload_n 1, 1) := by decide +kernel
set_option maxRecDepth 100000 in
theorem d_Md_bridge_6 : decode b_Md_bridge 6 = .ok (.iconst 0, 1) := by decide +kernel
set_option maxRecDepth 100000 in
theorem d_Md_bridge_7 : decode b_Md_bridge 7 = .ok (.aload_n 0, 1) := by decide +kernel
set_option maxRecDepth 100000 in
theorem d_Md_bridge_8 : decode b_Md_bridge 8 = .ok (.getfield 14, 3) := by decide +kernel
set_option maxRecDepth 100000 in
theorem d_Md_bridge_11 : decode b_Md_bridge 11 = .ok (.iconst 2, 1) := by decide +kernel
set_option maxRecDepth 100000 in
theorem d_Md_bridge_12 : decode b_Md_bridge 12 = .ok (.isub, 1) := by decide +kernel
set_option maxRecDepth 100000 in
theorem d_Md_bridge_13 : decode b_Md_bridge 13 = .ok (.invokestatic 10, 3) := by decide +kernel
set_option maxRecDepth 100000 in
theorem d_Md_bridge_16 : decode b_Md_bridge 16 = .ok (.ifCond .ne 5, 3) := by decide +kernel
set_option maxRecDepth 100000 in
theorem d_Md_bridge_19 : decode b_Md_bridge 19 = .ok (.iconst (-1), 1) := by decide +kernel
set_option maxRecDepth 100000 in
theorem d_Md_bridge_20 : decode b_Md_bridge 20 = .ok (.ireturn, 1) := by decide +kernel
set_option maxRecDepth 100000 in
theorem d_Md_bridge_21 : decode b_Md_bridge 21 = .ok (.aload_n 0, 1) := by decide +kernel
set_option maxRecDepth 100000 in
theorem d_Md_bridge_22 : decode b_Md_bridge 22 = .ok (.iload_n 1, 1) := by decide +kernel
set_option maxRecDepth 100000 in
theorem d_Md_bridge_23 : decode b_Md_bridge 23 = .ok (.putfield 35, 3) := by decide +kernel
set_option maxRecDepth 100000 in
theorem d_Md_bridge_26 : decode b_Md_bridge 26 = .ok (.iconst 1, 1) := by decide +kernel
set_option maxRecDepth 100000 in
theorem d_Md_bridge_27 : decode b_Md_bridge 27 = .ok (.ireturn, 1) := by decide +kernel
set_option maxRecDepth 100000 in
theorem d_Md_by_0 : decode b_Md_by 0 = .ok (.iload_n 0, 1) := by decide +kernel
set_option maxRecDepth 100000 in
theorem d_Md_by_1 : decode b_Md_by 1 = .ok (.i2l, 1) := by decide +kernel
set_option maxRecDepth 100000 in
theorem d_Md_by_2 : decode b_Md_by 2 = .ok (.iload_n 1, 1) := by decide +kernel
set_option maxRecDepth 100000 in
theorem d_Md_by_3 : decode b_Md_by 3 = .ok (.i2l, 1) := by decide +kernel
set_option maxRecDepth 100000 in
theorem d_Md_by_4 : decode b_Md_by 4 = .ok (.lmul, 1) := by decide +kernel
set_option maxRecDepth 100000 in
theorem d_Md_by_5 : decode b_Md_by 5 = .ok (.ldc2_w 284, 3) := by decide +kernel
set_option maxRecDepth 100000 in
theorem d_Md_by_8 : decode b_Md_by 8 = .ok (.ldiv, 1) := by decide +kernel
set_option maxRecDepth 100000 in
theorem d_Md_by_9 : decode b_Md_by 9 = .ok (.lstore_n 2, 1) := by decide +kernel
set_option maxRecDepth 100000 in
theorem d_Md_by_10 : decode b_Md_by 10 = .ok (.lload_n 2, 1) := by decide +kernel
set_option maxRecDepth 100000 in
theorem d_Md_by_11 : decode b_Md_by 11 = .ok (.ldc2_w 286, 3) := by decide +kernel
set_option maxRecDepth 100000 in
theorem d_Md_by_14 : decode b_Md_by 14 = .ok (.lcmp, 1) := by decide +kernel
set_option maxRecDepth 100000 in
theorem d_Md_by_15 : decode b_Md_by 15 = .ok (.ifCond .le 9, 3) := by decide +kernel
set_option maxRecDepth 100000 in
theorem d_Md_by_18 : decode b_Md_by 18 = .ok (.ldc_w 288, 3) := by decide +kernel
set_option maxRecDepth 100000 in
theorem d_Md_by_21 : decode b_Md_by 21 = .ok (.goto 5, 3) := by decide +kernel
set_option maxRecDepth 100000 in
theorem d_Md_by_24 : decode b_Md_by 24 = .ok (.lload_n 2, 1) := by decide +kernel
set_option maxRecDepth 100000 in
theorem d_Md_by_25 : decode b_Md_by 25 = .ok (.l2i, 1) := by decide +kernel
set_option maxRecDepth 100000 in
theorem d_Md_by_26 : decode b_Md_by 26 = .ok (.ireturn, 1) := by decide +kernel
set_option maxRecDepth 100000 in
theorem d_Md_coins_0 : decode b_Md_coins 0 = .ok (.lconst 0, 1) := by decide +kernel
set_option maxRecDepth 100000 in
theorem d_Md_coins_1 : decode b_Md_coins 1 = .ok (.lstore_n 2, 1) := by decide +kernel
set_option maxRecDepth 100000 in
theorem d_Md_coins_2 : decode b_Md_coins 2 = .ok (.iload_n 1, 1) := by decide +kernel
set_option maxRecDepth 100000 in
theorem d_Md_coins_3 : decode b_Md_coins 3 = .ok (.tableswitch 113 0 4 #[33, 39, 45, 75, 107], 33) := by decide +kernel
set_option maxRecDepth 100000 in
theorem d_Md_coins_36 : decode b_Md_coins 36 = .ok (.aload_n 0, 1) := by decide +kernel
set_option maxRecDepth 100000 in
theorem d_Md_coins_37 : decode b_Md_coins 37 = .ok (.getfield 316, 3) := by decide +kernel
set_option maxRecDepth 100000 in
theorem d_Md_coins_40 : decode b_Md_coins 40 = .ok (.l2i, 1) := by decide +kernel
set_option maxRecDepth 100000 in
theorem d_Md_coins_41 : decode b_Md_coins 41 = .ok (.ireturn, 1) := by decide +kernel
set_option maxRecDepth 100000 in
theorem d_Md_coins_42 : decode b_Md_coins 42 = .ok (.aload_n 0, 1) := by decide +kernel
set_option maxRecDepth 100000 in
theorem d_Md_coins_43 : decode b_Md_coins 43 = .ok (.getfield 320, 3) := by decide +kernel
set_option maxRecDepth 100000 in
theorem d_Md_coins_46 : decode b_Md_coins 46 = .ok (.l2i, 1) := by decide +kernel
set_option maxRecDepth 100000 in
theorem d_Md_coins_47 : decode b_Md_coins 47 = .ok (.ireturn, 1) := by decide +kernel
set_option maxRecDepth 100000 in
theorem d_Md_coins_48 : decode b_Md_coins 48 = .ok (.iconst 0, 1) := by decide +kernel
set_option maxRecDepth 100000 in
theorem d_Md_coins_49 : decode b_Md_coins 49 = .ok (.istore 4, 2) := by decide +kernel
set_option maxRecDepth 100000 in
theorem d_Md_coins_51 : decode b_Md_coins 51 = .ok (.iload 4, 2) := by decide +kernel
set_option maxRecDepth 100000 in
theorem d_Md_coins_53 : decode b_Md_coins 53 = .ok (.bipush 40, 2) := by decide +kernel
set_option maxRecDepth 100000 in
theorem d_Md_coins_55 : decode b_Md_coins 55 = .ok (.if_icmp .ge 20, 3) := by decide +kernel
set_option maxRecDepth 100000 in
theorem d_Md_coins_58 : decode b_Md_coins 58 = .ok (.lload_n 2, 1) := by decide +kernel
set_option maxRecDepth 100000 in
theorem d_Md_coins_59 : decode b_Md_coins 59 = .ok (.aload_n 0, 1) := by decide +kernel
set_option maxRecDepth 100000 in
theorem d_Md_coins_60 : decode b_Md_coins 60 = .ok (.getfield 76, 3) := by decide +kernel
set_option maxRecDepth 100000 in
theorem d_Md_coins_63 : decode b_Md_coins 63 = .ok (.iload 4, 2) := by decide +kernel
set_option maxRecDepth 100000 in
theorem d_Md_coins_65 : decode b_Md_coins 65 = .ok (.iaload, 1) := by decide +kernel
set_option maxRecDepth 100000 in
theorem d_Md_coins_66 : decode b_Md_coins 66 = .ok (.i2l, 1) := by decide +kernel
set_option maxRecDepth 100000 in
theorem d_Md_coins_67 : decode b_Md_coins 67 = .ok (.ladd, 1) := by decide +kernel
set_option maxRecDepth 100000 in
theorem d_Md_coins_68 : decode b_Md_coins 68 = .ok (.lstore_n 2, 1) := by decide +kernel
set_option maxRecDepth 100000 in
theorem d_Md_coins_69 : decode b_Md_coins 69 = .ok (.iinc 4 1, 3) := by decide +kernel
set_option maxRecDepth 100000 in
theorem d_Md_coins_72 : decode b_Md_coins 72 = .ok (.goto (-21), 3) := by decide +kernel
set_option maxRecDepth 100000 in
theorem d_Md_coins_75 : decode b_Md_coins 75 = .ok (.lload_n 2, 1) := by decide +kernel
set_option maxRecDepth 100000 in
theorem d_Md_coins_76 : decode b_Md_coins 76 = .ok (.l2i, 1) := by decide +kernel
set_option maxRecDepth 100000 in
theorem d_Md_coins_77 : decode b_Md_coins 77 = .ok (.ireturn, 1) := by decide +kernel
set_option maxRecDepth 100000 in
theorem d_Md_coins_78 : decode b_Md_coins 78 = .ok (.iconst 0, 1) := by decide +kernel
set_option maxRecDepth 100000 in
theorem d_Md_coins_79 : decode b_Md_coins 79 = .ok (.istore 4, 2) := by decide +kernel
set_option maxRecDepth 100000 in
theorem d_Md_coins_81 : decode b_Md_coins 81 = .ok (.iload 4, 2) := by decide +kernel
set_option maxRecDepth 100000 in
theorem d_Md_coins_83 : decode b_Md_coins 83 = .ok (.aload_n 0, 1) := by decide +kernel
set_option maxRecDepth 100000 in
theorem d_Md_coins_84 : decode b_Md_coins 84 = .ok (.getfield 313, 3) := by decide +kernel
set_option maxRecDepth 100000 in
theorem d_Md_coins_87 : decode b_Md_coins 87 = .ok (.if_icmp .ge 20, 3) := by decide +kernel
set_option maxRecDepth 100000 in
theorem d_Md_coins_90 : decode b_Md_coins 90 = .ok (.lload_n 2, 1) := by decide +kernel
set_option maxRecDepth 100000 in
theorem d_Md_coins_91 : decode b_Md_coins 91 = .ok (.aload_n 0, 1) := by decide +kernel
set_option maxRecDepth 100000 in
theorem d_Md_coins_92 : decode b_Md_coins 92 = .ok (.getfield 167, 3) := by decide +kernel
set_option maxRecDepth 100000 in
theorem d_Md_coins_95 : decode b_Md_coins 95 = .ok (.iload 4, 2) := by decide +kernel
set_option maxRecDepth 100000 in
theorem d_Md_coins_97 : decode b_Md_coins 97 = .ok (.iaload, 1) := by decide +kernel
set_option maxRecDepth 100000 in
theorem d_Md_coins_98 : decode b_Md_coins 98 = .ok (.i2l, 1) := by decide +kernel
set_option maxRecDepth 100000 in
theorem d_Md_coins_99 : decode b_Md_coins 99 = .ok (.ladd, 1) := by decide +kernel
set_option maxRecDepth 100000 in
theorem d_Md_coins_100 : decode b_Md_coins 100 = .ok (.lstore_n 2, 1) := by decide +kernel
set_option maxRecDepth 100000 in
theorem d_Md_coins_101 : decode b_Md_coins 101 = .ok (.iinc 4 1, 3) := by decide +kernel
set_option maxRecDepth 100000 in
theorem d_Md_coins_104 : decode b_Md_coins 104 = .ok (.goto (-23), 3) := by decide +kernel
set_option maxRecDepth 100000 in
theorem d_Md_coins_107 : decode b_Md_coins 107 = .ok (.lload_n 2, 1) := by decide +kernel
set_option maxRecDepth 100000 in
theorem d_Md_coins_108 : decode b_Md_coins 108 = .ok (.l2i, 1) := by decide +kernel
set_option maxRecDepth 100000 in
theorem d_Md_coins_109 : decode b_Md_coins 109 = .ok (.ireturn, 1) := by decide +kernel
set_option maxRecDepth 100000 in
theorem d_Md_coins_110 : decode b_Md_coins 110 = .ok (.aload_n 0, 1) := by decide +kernel
set_option maxRecDepth 100000 in
theorem d_Md_coins_111 : decode b_Md_coins 111 = .ok (.getfield 326, 3) := by decide +kernel
set_option maxRecDepth 100000 in
theorem d_Md_coins_114 : decode b_Md_coins 114 = .ok (.l2i, 1) := by decide +kernel
set_option maxRecDepth 100000 in
theorem d_Md_coins_115 : decode b_Md_coins 115 = .ok (.ireturn, 1) := by decide +kernel
set_option maxRecDepth 100000 in
theorem d_Md_coins_116 : decode b_Md_coins 116 = .ok (.iconst (-1), 1) := by decide +kernel
set_option maxRecDepth 100000 in
theorem d_Md_coins_117 : decode b_Md_coins 117 = .ok (.ireturn, 1) := by decide +kernel
set_option maxRecDepth 100000 in
theorem d_Md_count_0 : decode b_Md_count 0 = .ok (.iload_n 1, 1) := by decide +kernel
set_option maxRecDepth 100000 in
theorem d_Md_count_1 : decode b_Md_count 1 = .ok (.tableswitch 108 0 9 #[55, 60, 65, 70, 75, 80, 86, 92, 98, 103], 55) := by decide +kernel
set_option maxRecDepth 100000 in
theorem d_Md_count_56 : decode b_Md_count 56 = .ok (.aload_n 0, 1) := by decide +kernel
set_option maxRecDepth 100000 in
theorem d_Md_count_57 : decode b_Md_count 57 = .ok (.getfield 14, 3) := by decide +kernel
set_option maxRecDepth 100000 in
theorem d_Md_count_60 : decode b_Md_count 60 = .ok (.ireturn, 1) := by decide +kernel
set_option maxRecDepth 100000 in
theorem d_Md_count_61 : decode b_Md_count 61 = .ok (.aload_n 0, 1) := by decide +kernel
set_option maxRecDepth 100000 in
theorem d_Md_count_62 : decode b_Md_count 62 = .ok (.getfield 206, 3) := by decide +kernel
set_option maxRecDepth 100000 in
theorem d_Md_count_65 : decode b_Md_count 65 = .ok (.ireturn, 1) := by decide +kernel
set_option maxRecDepth 100000 in
theorem d_Md_count_66 : decode b_Md_count 66 = .ok (.aload_n 0, 1) := by decide +kernel
set_option maxRecDepth 100000 in
theorem d_Md_count_67 : decode b_Md_count 67 = .ok (.getfield 313, 3) := by decide +kernel
set_option maxRecDepth 100000 in
theorem d_Md_count_70 : decode b_Md_count 70 = .ok (.ireturn, 1) := by decide +kernel
set_option maxRecDepth 100000 in
theorem d_Md_count_71 : decode b_Md_count 71 = .ok (.aload_n 0, 1) := by decide +kernel
set_option maxRecDepth 100000 in
theorem d_Md_count_72 : decode b_Md_count 72 = .ok (.getfield 275, 3) := by decide +kernel
set_option maxRecDepth 100000 in
theorem d_Md_count_75 : decode b_Md_count 75 = .ok (.ireturn, 1) := by decide +kernel
set_option maxRecDepth 100000 in
theorem d_Md_count_76 : decode b_Md_count 76 = .ok (.aload_n 0, 1) := by decide +kernel
set_option maxRecDepth 100000 in
theorem d_Md_count_77 : decode b_Md_count 77 = .ok (.getfield 7, 3) := by decide +kernel
set_option maxRecDepth 100000 in
theorem d_Md_count_80 : decode b_Md_count 80 = .ok (.ireturn, 1) := by decide +kernel
set_option maxRecDepth 100000 in
theorem d_Md_count_81 : decode b_Md_count 81 = .ok (.aload_n 0, 1) := by decide +kernel
set_option maxRecDepth 100000 in
theorem d_Md_count_82 : decode b_Md_count 82 = .ok (.iconst 2, 1) := by decide +kernel
set_option maxRecDepth 100000 in
theorem d_Md_count_83 : decode b_Md_count 83 = .ok (.invokevirtual 348, 3) := by decide +kernel
set_option maxRecDepth 100000 in
theorem d_Md_count_86 : decode b_Md_count 86 = .ok (.ireturn, 1) := by decide +kernel
set_option maxRecDepth 100000 in
theorem d_Md_count_87 : decode b_Md_count 87 = .ok (.aload_n 0, 1) := by decide +kernel
set_option maxRecDepth 100000 in
theorem d_Md_count_88 : decode b_Md_count 88 = .ok (.iconst 1, 1) := by decide +kernel
set_option maxRecDepth 100000 in
theorem d_Md_count_89 : decode b_Md_count 89 = .ok (.invokevirtual 348, 3) := by decide +kernel
set_option maxRecDepth 100000 in
theorem d_Md_count_92 : decode b_Md_count 92 = .ok (.ireturn, 1) := by decide +kernel
set_option maxRecDepth 100000 in
theorem d_Md_count_93 : decode b_Md_count 93 = .ok (.aload_n 0, 1) := by decide +kernel
set_option maxRecDepth 100000 in
theorem d_Md_count_94 : decode b_Md_count 94 = .ok (.iconst 3, 1) := by decide +kernel
set_option maxRecDepth 100000 in
theorem d_Md_count_95 : decode b_Md_count 95 = .ok (.invokevirtual 348, 3) := by decide +kernel
set_option maxRecDepth 100000 in
theorem d_Md_count_98 : decode b_Md_count 98 = .ok (.ireturn, 1) := by decide +kernel
set_option maxRecDepth 100000 in
theorem d_Md_count_99 : decode b_Md_count 99 = .ok (.aload_n 0, 1) := by decide +kernel
set_option maxRecDepth 100000 in
theorem d_Md_count_100 : decode b_Md_count 100 = .ok (.getfield 323, 3) := by decide +kernel
set_option maxRecDepth 100000 in
theorem d_Md_count_103 : decode b_Md_count 103 = .ok (.ireturn, 1) := by decide +kernel
set_option maxRecDepth 100000 in
theorem d_Md_count_104 : decode b_Md_count 104 = .ok (.aload_n 0, 1) := by decide +kernel
set_option maxRecDepth 100000 in
theorem d_Md_count_105 : decode b_Md_count 105 = .ok (.getfield 212, 3) := by decide +kernel
set_option maxRecDepth 100000 in
theorem d_Md_count_108 : decode b_Md_count 108 = .ok (.ireturn, 1) := by decide +kernel
set_option maxRecDepth 100000 in
theorem d_Md_count_109 : decode b_Md_count 109 = .ok (.iconst (-1), 1) := by decide +kernel
set_option maxRecDepth 100000 in
theorem d_Md_count_110 : decode b_Md_count 110 = .ok (.ireturn, 1) := by decide +kernel
set_option maxRecDepth 100000 in
theorem d_Md_craft_0 : decode b_Md_craft 0 = .ok (.aload_n 0, 1) := by decide +kernel
set_option maxRecDepth 100000 in
theorem d_Md_craft_1 : decode b_Md_craft 1 = .ok (.iload_n 1, 1) := by decide +kernel
set_option maxRecDepth 100000 in
theorem d_Md_craft_2 : decode b_Md_craft 2 = .ok (.invokevirtual 209, 3) := by decide +kernel
set_option maxRecDepth 100000 in
theorem d_Md_craft_5 : decode b_Md_craft 5 = .ok (.ifCond .ne 5, 3) := by decide +kernel
set_option maxRecDepth 100000 in
theorem d_Md_craft_8 : decode b_Md_craft 8 = .ok (.iconst (-1), 1) := by decide +kernel
set_option maxRecDepth 100000 in
theorem d_Md_craft_9 : decode b_Md_craft 9 = .ok (.ireturn, 1) := by decide +kernel
set_option maxRecDepth 100000 in
theorem d_Md_craft_10 : decode b_Md_craft 10 = .ok (.iload_n 2, 1) := by decide +kernel
set_option maxRecDepth 100000 in
theorem d_Md_craft_11 : decode b_Md_craft 11 = .ok (.tableswitch 107 0 4 #[33, 40, 47, 54, 79], 33) := by decide +kernel
set_option maxRecDepth 100000 in
theorem d_Md_craft_44 : decode b_Md_craft 44 = .ok (.aload_n 0, 1) := by decide +kernel
set_option maxRecDepth 100000 in
theorem d_Md_craft_45 : decode b_Md_craft 45 = .ok (.getfield 97, 3) := by decide +kernel
set_option maxRecDepth 100000 in
theorem d_Md_craft_48 : decode b_Md_craft 48 = .ok (.iload_n 1, 1) := by decide +kernel
set_option maxRecDepth 100000 in
theorem d_Md_craft_49 : decode b_Md_craft 49 = .ok (.iaload, 1) := by decide +kernel
set_option maxRecDepth 100000 in
theorem d_Md_craft_50 : decode b_Md_craft 50 = .ok (.ireturn, 1) := by decide +kernel
set_option maxRecDepth 100000 in
theorem d_Md_craft_51 : decode b_Md_craft 51 = .ok (.aload_n 0, 1) := by decide +kernel
set_option maxRecDepth 100000 in
theorem d_Md_craft_52 : decode b_Md_craft 52 = .ok (.getfield 94, 3) := by decide +kernel
set_option maxRecDepth 100000 in
theorem d_Md_craft_55 : decode b_Md_craft 55 = .ok (.iload_n 1, 1) := by decide +kernel
set_option maxRecDepth 100000 in
theorem d_Md_craft_56 : decode b_Md_craft 56 = .ok (.iaload, 1) := by decide +kernel
set_option maxRecDepth 100000 in
theorem d_Md_craft_57 : decode b_Md_craft 57 = .ok (.ireturn, 1) := by decide +kernel
set_option maxRecDepth 100000 in
theorem d_Md_craft_58 : decode b_Md_craft 58 = .ok (.aload_n 0, 1) := by decide +kernel
set_option maxRecDepth 100000 in
theorem d_Md_craft_59 : decode b_Md_craft 59 = .ok (.getfield 100, 3) := by decide +kernel
set_option maxRecDepth 100000 in
theorem d_Md_craft_62 : decode b_Md_craft 62 = .ok (.iload_n 1, 1) := by decide +kernel
set_option maxRecDepth 100000 in
theorem d_Md_craft_63 : decode b_Md_craft 63 = .ok (.iaload, 1) := by decide +kernel
set_option maxRecDepth 100000 in
theorem d_Md_craft_64 : decode b_Md_craft 64 = .ok (.ireturn, 1) := by decide +kernel
set_option maxRecDepth 100000 in
theorem d_Md_craft_65 : decode b_Md_craft 65 = .ok (.aload_n 0, 1) := by decide +kernel
set_option maxRecDepth 100000 in
theorem d_Md_craft_66 : decode b_Md_craft 66 = .ok (.getfield 103, 3) := by decide +kernel
set_option maxRecDepth 100000 in
theorem d_Md_craft_69 : decode b_Md_craft 69 = .ok (.iload_n 1, 1) := by decide +kernel
set_option maxRecDepth 100000 in
theorem d_Md_craft_70 : decode b_Md_craft 70 = .ok (.iaload, 1) := by decide +kernel
set_option maxRecDepth 100000 in
theorem d_Md_craft_71 : decode b_Md_craft 71 = .ok (.ifCond .ge 7, 3) := by decide +kernel
set_option maxRecDepth 100000 in
theorem d_Md_craft_74 : decode b_Md_craft 74 = .ok (.iconst (-1), 1) := by decide +kernel
set_option maxRecDepth 100000 in
theorem d_Md_craft_75 : decode b_Md_craft 75 = .ok (.goto 14, 3) := by decide +kernel
set_option maxRecDepth 100000 in
theorem d_Md_craft_78 : decode b_Md_craft 78 = .ok (.aload_n 0, 1) := by decide +kernel
set_option maxRecDepth 100000 in
theorem d_Md_craft_79 : decode b_Md_craft 79 = .ok (.getfield 152, 3) := by decide +kernel
set_option maxRecDepth 100000 in
theorem d_Md_craft_82 : decode b_Md_craft 82 = .ok (.aload_n 0, 1) := by decide +kernel
set_option maxRecDepth 100000 in
theorem d_Md_craft_83 : decode b_Md_craft 83 = .ok (.getfield 103, 3) := by decide +kernel
set_option maxRecDepth 100000 in
theorem d_Md_craft_86 : decode b_Md_craft 86 = .ok (.iload_n 1, 1) := by decide +kernel
set_option maxRecDepth 100000 in
theorem d_Md_craft_87 : decode b_Md_craft 87 = .ok (.iaload, 1) := by decide +kernel
set_option maxRecDepth 100000 in
theorem d_Md_craft_88 : decode b_Md_craft 88 = .ok (.iaload, 1) := by decide +kernel
set_option maxRecDepth 100000 in
theorem d_Md_craft_89 : decode b_Md_craft 89 = .ok (.ireturn, 1) := by decide +kernel
set_option maxRecDepth 100000 in
theorem d_Md_craft_90 : decode b_Md_craft 90 = .ok (.aload_n 0, 1) := by decide +kernel
set_option maxRecDepth 100000 in
theorem d_Md_craft_91 : decode b_Md_craft 91 = .ok (.getfield 106, 3) := by decide +kernel
set_option maxRecDepth 100000 in
theorem d_Md_craft_94 : decode b_Md_craft 94 = .ok (.iload_n 1, 1) := by decide +kernel
set_option maxRecDepth 100000 in
theorem d_Md_craft_95 : decode b_Md_craft 95 = .ok (.baload, 1) := by decide +kernel
set_option maxRecDepth 100000 in
theorem d_Md_craft_96 : decode b_Md_craft 96 = .ok (.ifCond .eq 7, 3) := by decide +kernel
set_option maxRecDepth 100000 in
theorem d_Md_craft_99 : decode b_Md_craft 99 = .ok (.iconst 2, 1) := by decide +kernel
set_option maxRecDepth 100000 in
theorem d_Md_craft_100 : decode b_Md_craft 100 = .ok (.goto 17, 3) := by decide +kernel
set_option maxRecDepth 100000 in
theorem d_Md_craft_103 : decode b_Md_craft 103 = .ok (.aload_n 0, 1) := by decide +kernel
set_option maxRecDepth 100000 in
theorem d_Md_craft_104 : decode b_Md_craft 104 = .ok (.getfield 103, 3) := by decide +kernel
set_option maxRecDepth 100000 in
theorem d_Md_craft_107 : decode b_Md_craft 107 = .ok (.iload_n 1, 1) := by decide +kernel
set_option maxRecDepth 100000 in
theorem d_Md_craft_108 : decode b_Md_craft 108 = .ok (.iaload, 1) := by decide +kernel
set_option maxRecDepth 100000 in
theorem d_Md_craft_109 : decode b_Md_craft 109 = .ok (.ifCond .lt 7, 3) := by decide +kernel
set_option maxRecDepth 100000 in
theorem d_Md_craft_112 : decode b_Md_craft 112 = .ok (.iconst 1, 1) := by decide +kernel
set_option maxRecDepth 100000 in
theorem d_Md_craft_113 : decode b_Md_craft 113 = .ok (.goto 4, 3) := by decide +kernel
set_option maxRecDepth 100000 in
theorem d_Md_craft_116 : decode b_Md_craft 116 = .ok (.iconst 0, 1) := by decide +kernel
set_option maxRecDepth 100000 in
theorem d_Md_craft_117 : decode b_Md_craft 117 = .ok (.ireturn, 1) := by decide +kernel
set_option maxRecDepth 100000 in
theorem d_Md_craft_118 : decode b_Md_craft 118 = .ok (.iconst (-1), 1) := by decide +kernel
set_option maxRecDepth 100000 in
theorem d_Md_craft_119 : decode b_Md_craft 119 = .ok (.ireturn, 1) := by decide +kernel
set_option maxRecDepth 100000 in
theorem d_Md_due_0 : decode b_Md_due 0 = .ok (.iload_n 1, 1) := by decide +kernel
set_option maxRecDepth 100000 in
theorem d_Md_due_1 : decode b_Md_due 1 = .ok (.iconst 0, 1) := by decide +kernel
set_option maxRecDepth 100000 in
theorem d_Md_due_2 : decode b_Md_due 2 = .ok (.aload_n 0, 1) := by decide +kernel
set_option maxRecDepth 100000 in
theorem d_Md_due_3 : decode b_Md_due 3 = .ok (.getfield 313, 3) := by decide +kernel
set_option maxRecDepth 100000 in
theorem d_Md_due_6 : decode b_Md_due 6 = .ok (.iconst 1, 1) := by decide +kernel
set_option maxRecDepth 100000 in
theorem d_Md_due_7 : decode b_Md_due 7 = .ok (.isub, 1) := by decide +kernel
set_option maxRecDepth 100000 in
theorem d_Md_due_8 : decode b_Md_due 8 = .ok (.invokestatic 10, 3) := by decide +kernel
set_option maxRecDepth 100000 in
theorem d_Md_due_11 : decode b_Md_due 11 = .ok (.ifCond .eq 19, 3) := by decide +kernel
set_option maxRecDepth 100000 in
theorem d_Md_due_14 : decode b_Md_due 14 = .ok (.iload_n 2, 1) := by decide +kernel
set_option maxRecDepth 100000 in
theorem d_Md_due_15 : decode b_Md_due 15 = .ok (.invokestatic 38, 3) := by decide +kernel
set_option maxRecDepth 100000 in
theorem d_Md_due_18 : decode b_Md_due 18 = .ok (.ifCond .eq 12, 3) := by decide +kernel
set_option maxRecDepth 100000 in
theorem d_Md_due_21 : decode b_Md_due 21 = .ok (.aload_n 0, 1) := by decide +kernel
set_option maxRecDepth 100000 in
theorem d_Md_due_22 : decode b_Md_due 22 = .ok (.iload_n 1, 1) := by decide +kernel
set_option maxRecDepth 100000 in
theorem d_Md_due_23 : decode b_Md_due 23 = .ok (.iload_n 2, 1) := by decide +kernel
set_option maxRecDepth 100000 in
theorem d_Md_due_24 : decode b_Md_due 24 = .ok (.invokevirtual 345, 3) := by decide +kernel
set_option maxRecDepth 100000 in
theorem d_Md_due_27 : decode b_Md_due 27 = .ok (.goto 5, 3) := by decide +kernel
set_option maxRecDepth 100000 in
theorem d_Md_due_30 : decode b_Md_due 30 = .ok (.bipush (-2), 2) := by decide +kernel
set_option maxRecDepth 100000 in
theorem d_Md_due_32 : decode b_Md_due 32 = .ok (.ireturn, 1) := by decide +kernel
set_option maxRecDepth 100000 in
theorem d_Md_dueOf_0 : decode b_Md_dueOf 0 = .ok (.aload_n 0, 1) := by decide +kernel
set_option maxRecDepth 100000 in
theorem d_Md_dueOf_1 : decode b_Md_dueOf 1 = .ok (.getfield 161, 3) := by decide +kernel
set_option maxRecDepth 100000 in
theorem d_Md_dueOf_4 : decode b_Md_dueOf 4 = .ok (.iload_n 1, 1) := by decide +kernel
set_option maxRecDepth 100000 in
theorem d_Md_dueOf_5 : decode b_Md_dueOf 5 = .ok (.iaload, 1) := by decide +kernel
set_option maxRecDepth 100000 in
theorem d_Md_dueOf_6 : decode b_Md_dueOf 6 = .ok (.sipush 720, 3) := by decide +kernel
set_option maxRecDepth 100000 in
theorem d_Md_dueOf_9 : decode b_Md_dueOf 9 = .ok (.idiv, 1) := by decide +kernel
set_option maxRecDepth 100000 in
theorem d_Md_dueOf_10 : decode b_Md_dueOf 10 = .ok (.istore_n 3, 1) := by decide +kernel
set_option maxRecDepth 100000 in
theorem d_Md_dueOf_11 : decode b_Md_dueOf 11 = .ok (.aload_n 0, 1) := by decide +kernel
set_option maxRecDepth 100000 in
theorem d_Md_dueOf_12 : decode b_Md_dueOf 12 = .ok (.iload_n 3, 1) := by decide +kernel
set_option maxRecDepth 100000 in
theorem d_Md_dueOf_13 : decode b_Md_dueOf 13 = .ok (.iload_n 2, 1) := by decide +kernel
set_option maxRecDepth 100000 in
theorem d_Md_dueOf_14 : decode b_Md_dueOf 14 = .ok (.invokevirtual 281, 3) := by decide +kernel
set_option maxRecDepth 100000 in
theorem d_Md_dueOf_17 : decode b_Md_dueOf 17 = .ok (.istore 4, 2) := by decide +kernel
set_option maxRecDepth 100000 in
theorem d_Md_dueOf_19 : decode b_Md_dueOf 19 = .ok (.iload 4, 2) := by decide +kernel
set_option maxRecDepth 100000 in
theorem d_Md_dueOf_21 : decode b_Md_dueOf 21 = .ok (.ifCond .ge 7, 3) := by decide +kernel
set_option maxRecDepth 100000 in
theorem d_Md_dueOf_24 : decode b_Md_dueOf 24 = .ok (.iconst (-1), 1) := by decide +kernel
set_option maxRecDepth 100000 in
theorem d_Md_dueOf_25 : decode b_Md_dueOf 25 = .ok (.goto 46, 3) := by decide +kernel
set_option maxRecDepth 100000 in
theorem d_Md_dueOf_28 : decode b_Md_dueOf 28 = .ok (.aload_n 0, 1) := by decide +kernel
set_option maxRecDepth 100000 in
theorem d_Md_dueOf_29 : decode b_Md_dueOf 29 = .ok (.iload 4, 2) := by decide +kernel
set_option maxRecDepth 100000 in
theorem d_Md_dueOf_31 : decode b_Md_dueOf 31 = .ok (.aload_n 0, 1) := by decide +kernel
set_option maxRecDepth 100000 in
theorem d_Md_dueOf_32 : decode b_Md_dueOf 32 = .ok (.getfield 155, 3) := by decide +kernel
set_option maxRecDepth 100000 in
theorem d_Md_dueOf_35 : decode b_Md_dueOf 35 = .ok (.iload_n 1, 1) := by decide +kernel
set_option maxRecDepth 100000 in
theorem d_Md_dueOf_36 : decode b_Md_dueOf 36 = .ok (.iaload, 1) := by decide +kernel
set_option maxRecDepth 100000 in
theorem d_Md_dueOf_37 : decode b_Md_dueOf 37 = .ok (.aload_n 0, 1) := by decide +kernel
set_option maxRecDepth 100000 in
theorem d_Md_dueOf_38 : decode b_Md_dueOf 38 = .ok (.getfield 158, 3) := by decide +kernel
set_option maxRecDepth 100000 in
theorem d_Md_dueOf_41 : decode b_Md_dueOf 41 = .ok (.iload_n 1, 1) := by decide +kernel
set_option maxRecDepth 100000 in
theorem d_Md_dueOf_42 : decode b_Md_dueOf 42 = .ok (.iaload, 1) := by decide +kernel
set_option maxRecDepth 100000 in
theorem d_Md_dueOf_43 : decode b_Md_dueOf 43 = .ok (.iload_n 3, 1) := by decide +kernel
set_option maxRecDepth 100000 in
theorem d_Md_dueOf_44 : decode b_Md_dueOf 44 = .ok (.aload_n 0, 1) := by decide +kernel
set_option maxRecDepth 100000 in
theorem d_Md_dueOf_45 : decode b_Md_dueOf 45 = .ok (.getfield 161, 3) := by decide +kernel
set_option maxRecDepth 100000 in
theorem d_Md_dueOf_48 : decode b_Md_dueOf 48 = .ok (.iload_n 1, 1) := by decide +kernel
set_option maxRecDepth 100000 in
theorem d_Md_dueOf_49 : decode b_Md_dueOf 49 = .ok (.iaload, 1) := by decide +kernel
set_option maxRecDepth 100000 in
theorem d_Md_dueOf_50 : decode b_Md_dueOf 50 = .ok (.sipush 720, 3) := by decide +kernel
set_option maxRecDepth 100000 in
theorem d_Md_dueOf_53 : decode b_Md_dueOf 53 = .ok (.irem, 1) := by decide +kernel
set_option maxRecDepth 100000 in
theorem d_Md_dueOf_54 : decode b_Md_dueOf 54 = .ok (.bipush 60, 2) := by decide +kernel
set_option maxRecDepth 100000 in
theorem d_Md_dueOf_56 : decode b_Md_dueOf 56 = .ok (.idiv, 1) := by decide +kernel
set_option maxRecDepth 100000 in
theorem d_Md_dueOf_57 : decode b_Md_dueOf 57 = .ok (.aload_n 0, 1) := by decide +kernel
set_option maxRecDepth 100000 in
theorem d_Md_dueOf_58 : decode b_Md_dueOf 58 = .ok (.getfield 94, 3) := by decide +kernel
set_option maxRecDepth 100000 in
theorem d_Md_dueOf_61 : decode b_Md_dueOf 61 = .ok (.aload_n 0, 1) := by decide +kernel
set_option maxRecDepth 100000 in
theorem d_Md_dueOf_62 : decode b_Md_dueOf 62 = .ok (.getfield 149, 3) := by decide +kernel
set_option maxRecDepth 100000 in
theorem d_Md_dueOf_65 : decode b_Md_dueOf 65 = .ok (.iload_n 1, 1) := by decide +kernel
set_option maxRecDepth 100000 in
theorem d_Md_dueOf_66 : decode b_Md_dueOf 66 = .ok (.iaload, 1) := by decide +kernel
set_option maxRecDepth 100000 in
theorem d_Md_dueOf_67 : decode b_Md_dueOf 67 = .ok (.iaload, 1) := by decide +kernel
set_option maxRecDepth 100000 in
theorem d_Md_dueOf_68 : decode b_Md_dueOf 68 = .ok (.invokevirtual 295, 3) := by decide +kernel
set_option maxRecDepth 100000 in
theorem d_Md_dueOf_71 : decode b_Md_dueOf 71 = .ok (.istore 5, 2) := by decide +kernel
set_option maxRecDepth 100000 in
theorem d_Md_dueOf_73 : decode b_Md_dueOf 73 = .ok (.iload 5, 2) := by decide +kernel
set_option maxRecDepth 100000 in
theorem d_Md_dueOf_75 : decode b_Md_dueOf 75 = .ok (.ifCond .ge 7, 3) := by decide +kernel
set_option maxRecDepth 100000 in
theorem d_Md_dueOf_78 : decode b_Md_dueOf 78 = .ok (.iconst (-1), 1) := by decide +kernel
set_option maxRecDepth 100000 in
theorem d_Md_dueOf_79 : decode b_Md_dueOf 79 = .ok (.goto 5, 3) := by decide +kernel
set_option maxRecDepth 100000 in
theorem d_Md_dueOf_82 : decode b_Md_dueOf 82 = .ok (.iload 5, 2) := by decide +kernel
set_option maxRecDepth 100000 in
theorem d_Md_dueOf_84 : decode b_Md_dueOf 84 = .ok (.ireturn, 1) := by decide +kernel
set_option maxRecDepth 100000 in
theorem d_Md_end_0 : decode b_Md_end 0 = .ok (.iload_n 1, 1) := by decide +kernel
set_option maxRecDepth 100000 in
theorem d_Md_end_1 : decode b_Md_end 1 = .ok (.iconst 0, 1) := by decide +kernel
set_option maxRecDepth 100000 in
theorem d_Md_end_2 : decode b_Md_end 2 = .ok (.aload_n 0, 1) := by decide +kernel
set_option maxRecDepth 100000 in
theorem d_Md_end_3 : decode b_Md_end 3 = .ok (.getfield 212, 3) := by decide +kernel
set_option maxRecDepth 100000 in
theorem d_Md_end_6 : decode b_Md_end 6 = .ok (.invokestatic 10, 3) := by decide +kernel
set_option maxRecDepth 100000 in
theorem d_Md_end_9 : decode b_Md_end 9 = .ok (.ifCond .ne 5, 3) := by decide +kernel
set_option maxRecDepth 100000 in
theorem d_Md_end_12 : decode b_Md_end 12 = .ok (.iconst (-1), 1) := by decide +kernel
set_option maxRecDepth 100000 in
theorem d_Md_end_13 : decode b_Md_end 13 = .ok (.ireturn, 1) := by decide +kernel
set_option maxRecDepth 100000 in
theorem d_Md_end_14 : decode b_Md_end 14 = .ok (.aload_n 0, 1) := by decide +kernel
set_option maxRecDepth 100000 in
theorem d_Md_end_15 : decode b_Md_end 15 = .ok (.iload_n 1, 1) := by decide +kernel
set_option maxRecDepth 100000 in
theorem d_Md_end_16 : decode b_Md_end 16 = .ok (.putfield 212, 3) := by decide +kernel
set_option maxRecDepth 100000 in
theorem d_Md_end_19 : decode b_Md_end 19 = .ok (.iload_n 1, 1) := by decide +kernel
set_option maxRecDepth 100000 in
theorem d_Md_end_20 : decode b_Md_end 20 = .ok (.ireturn, 1) := by decide +kernel
set_option maxRecDepth 100000 in
theorem d_Md_fare_0 : decode b_Md_fare 0 = .ok (.iload_n 1, 1) := by decide +kernel
set_option maxRecDepth 100000 in
theorem d_Md_fare_1 : decode b_Md_fare 1 = .ok (.iconst 0, 1) := by decide +kernel
set_option maxRecDepth 100000 in
theorem d_Md_fare_2 : decode b_Md_fare 2 = .ok (.aload_n 0, 1) := by decide +kernel
set_option maxRecDepth 100000 in
theorem d_Md_fare_3 : decode b_Md_fare 3 = .ok (.getfield 275, 3) := by decide +kernel
set_option maxRecDepth 100000 in
theorem d_Md_fare_6 : decode b_Md_fare 6 = .ok (.iconst 1, 1) := by decide +kernel
set_option maxRecDepth 100000 in
theorem d_Md_fare_7 : decode b_Md_fare 7 = .ok (.isub, 1) := by decide +kernel
set_option maxRecDepth 100000 in
theorem d_Md_fare_8 : decode b_Md_fare 8 = .ok (.invokestatic 10, 3) := by decide +kernel
set_option maxRecDepth 100000 in
theorem d_Md_fare_11 : decode b_Md_fare 11 = .ok (.ifCond .eq 46, 3) := by decide +kernel
set_option maxRecDepth 100000 in
theorem d_Md_fare_14 : decode b_Md_fare 14 = .ok (.aload_n 0, 1) := by decide +kernel
set_option maxRecDepth 100000 in
theorem d_Md_fare_15 : decode b_Md_fare 15 = .ok (.iload_n 2, 1) := by decide +kernel
set_option maxRecDepth 100000 in
theorem d_Md_fare_16 : decode b_Md_fare 16 = .ok (.invokevirtual 199, 3) := by decide +kernel
set_option maxRecDepth 100000 in
theorem d_Md_fare_19 : decode b_Md_fare 19 = .ok (.ifCond .eq 38, 3) := by decide +kernel
set_option maxRecDepth 100000 in
theorem d_Md_fare_22 : decode b_Md_fare 22 = .ok (.aload_n 0, 1) := by decide +kernel
set_option maxRecDepth 100000 in
theorem d_Md_fare_23 : decode b_Md_fare 23 = .ok (.iload_n 3, 1) := by decide +kernel
set_option maxRecDepth 100000 in
theorem d_Md_fare_24 : decode b_Md_fare 24 = .ok (.invokevirtual 199, 3) := by decide +kernel
set_option maxRecDepth 100000 in
theorem d_Md_fare_27 : decode b_Md_fare 27 = .ok (.ifCond .eq 30, 3) := by decide +kernel
set_option maxRecDepth 100000 in
theorem d_Md_fare_30 : decode b_Md_fare 30 = .ok (.iload_n 2, 1) := by decide +kernel
set_option maxRecDepth 100000 in
theorem d_Md_fare_31 : decode b_Md_fare 31 = .ok (.iload_n 3, 1) := by decide +kernel
set_option maxRecDepth 100000 in
theorem d_Md_fare_32 : decode b_Md_fare 32 = .ok (.if_icmp .eq 25, 3) := by decide +kernel
set_option maxRecDepth 100000 in
theorem d_Md_fare_35 : decode b_Md_fare 35 = .ok (.iload 4, 2) := by decide +kernel
set_option maxRecDepth 100000 in
theorem d_Md_fare_37 : decode b_Md_fare 37 = .ok (.iconst 0, 1) := by decide +kernel
set_option maxRecDepth 100000 in
theorem d_Md_fare_38 : decode b_Md_fare 38 = .ok (.sipush 5999, 3) := by decide +kernel
set_option maxRecDepth 100000 in
theorem d_Md_fare_41 : decode b_Md_fare 41 = .ok (.invokestatic 10, 3) := by decide +kernel
set_option maxRecDepth 100000 in
theorem d_Md_fare_44 : decode b_Md_fare 44 = .ok (.ifCond .eq 13, 3) := by decide +kernel
set_option maxRecDepth 100000 in
theorem d_Md_fare_47 : decode b_Md_fare 47 = .ok (.iload 5, 2) := by decide +kernel
set_option maxRecDepth 100000 in
theorem d_Md_fare_49 : decode b_Md_fare 49 = .ok (.iconst 1, 1) := by decide +kernel
set_option maxRecDepth 100000 in
theorem d_Md_fare_50 : decode b_Md_fare 50 = .ok (.iconst 2, 1) := by decide +kernel
set_option maxRecDepth 100000 in
theorem d_Md_fare_51 : decode b_Md_fare 51 = .ok (.invokestatic 10, 3) := by decide +kernel
set_option maxRecDepth 100000 in
theorem d_Md_fare_54 : decode b_Md_fare 54 = .ok (.ifCond .ne 5, 3) := by decide +kernel
set_option maxRecDepth 100000 in
theorem d_Md_fare_57 : decode b_Md_fare 57 = .ok (.iconst (-1), 1) := by decide +kernel
set_option maxRecDepth 100000 in
theorem d_Md_fare_58 : decode b_Md_fare 58 = .ok (.ireturn, 1) := by decide +kernel
set_option maxRecDepth 100000 in
theorem d_Md_fare_59 : decode b_Md_fare 59 = .ok (.aload_n 0, 1) := by decide +kernel
set_option maxRecDepth 100000 in
theorem d_Md_fare_60 : decode b_Md_fare 60 = .ok (.iload_n 1, 1) := by decide +kernel
set_option maxRecDepth 100000 in
theorem d_Md_fare_61 : decode b_Md_fare 61 = .ok (.iload_n 2, 1) := by decide +kernel
set_option maxRecDepth 100000 in
theorem d_Md_fare_62 : decode b_Md_fare 62 = .ok (.iload_n 3, 1) := by decide +kernel
set_option maxRecDepth 100000 in
theorem d_Md_fare_63 : decode b_Md_fare 63 = .ok (.iload 4, 2) := by decide +kernel
set_option maxRecDepth 100000 in
theorem d_Md_fare_65 : decode b_Md_fare 65 = .ok (.bipush 12, 2) := by decide +kernel
set_option maxRecDepth 100000 in
theorem d_Md_fare_67 : decode b_Md_fare 67 = .ok (.idiv, 1) := by decide +kernel
set_option maxRecDepth 100000 in
theorem d_Md_fare_68 : decode b_Md_fare 68 = .ok (.iload 4, 2) := by decide +kernel
set_option maxRecDepth 100000 in
theorem d_Md_fare_70 : decode b_Md_fare 70 = .ok (.bipush 12, 2) := by decide +kernel
set_option maxRecDepth 100000 in
theorem d_Md_fare_72 : decode b_Md_fare 72 = .ok (.irem, 1) := by decide +kernel
set_option maxRecDepth 100000 in
theorem d_Md_fare_73 : decode b_Md_fare 73 = .ok (.iload 5, 2) := by decide +kernel
set_option maxRecDepth 100000 in
theorem d_Md_fare_75 : decode b_Md_fare 75 = .ok (.invokevirtual 295, 3) := by decide +kernel
set_option maxRecDepth 100000 in
theorem d_Md_fare_78 : decode b_Md_fare 78 = .ok (.ireturn, 1) := by decide +kernel
set_option maxRecDepth 100000 in
theorem d_Md_fareOf_0 : decode b_Md_fareOf 0 = .ok (.aload_n 0, 1) := by decide +kernel
set_option maxRecDepth 100000 in
theorem d_Md_fareOf_1 : decode b_Md_fareOf 1 = .ok (.getfield 32, 3) := by decide +kernel
set_option maxRecDepth 100000 in
theorem d_Md_fareOf_4 : decode b_Md_fareOf 4 = .ok (.iload_n 3, 1) := by decide +kernel
set_option maxRecDepth 100000 in
theorem d_Md_fareOf_5 : decode b_Md_fareOf 5 = .ok (.iaload, 1) := by decide +kernel
set_option maxRecDepth 100000 in
theorem d_Md_fareOf_6 : decode b_Md_fareOf 6 = .ok (.aload_n 0, 1) := by decide +kernel
set_option maxRecDepth 100000 in
theorem d_Md_fareOf_7 : decode b_Md_fareOf 7 = .ok (.getfield 32, 3) := by decide +kernel
set_option maxRecDepth 100000 in
theorem d_Md_fareOf_10 : decode b_Md_fareOf 10 = .ok (.iload_n 2, 1) := by decide +kernel
set_option maxRecDepth 100000 in
theorem d_Md_fareOf_11 : decode b_Md_fareOf 11 = .ok (.iaload, 1) := by decide +kernel
set_option maxRecDepth 100000 in
theorem d_Md_fareOf_12 : decode b_Md_fareOf 12 = .ok (.isub, 1) := by decide +kernel
set_option maxRecDepth 100000 in
theorem d_Md_fareOf_13 : decode b_Md_fareOf 13 = .ok (.istore 7, 2) := by decide +kernel
set_option maxRecDepth 100000 in
theorem d_Md_fareOf_15 : decode b_Md_fareOf 15 = .ok (.iload 7, 2) := by decide +kernel
set_option maxRecDepth 100000 in
theorem d_Md_fareOf_17 : decode b_Md_fareOf 17 = .ok (.ifCond .le 7, 3) := by decide +kernel
set_option maxRecDepth 100000 in
theorem d_Md_fareOf_20 : decode b_Md_fareOf 20 = .ok (.iconst 1, 1) := by decide +kernel
set_option maxRecDepth 100000 in
theorem d_Md_fareOf_21 : decode b_Md_fareOf 21 = .ok (.goto 4, 3) := by decide +kernel
set_option maxRecDepth 100000 in
theorem d_Md_fareOf_24 : decode b_Md_fareOf 24 = .ok (.iconst 0, 1) := by decide +kernel
set_option maxRecDepth 100000 in
theorem d_Md_fareOf_25 : decode b_Md_fareOf 25 = .ok (.istore 8, 2) := by decide +kernel
set_option maxRecDepth 100000 in
theorem d_Md_fareOf_27 : decode b_Md_fareOf 27 = .ok (.iload 8, 2) := by decide +kernel
set_option maxRecDepth 100000 in
theorem d_Md_fareOf_29 : decode b_Md_fareOf 29 = .ok (.ifCond .eq 8, 3) := by decide +kernel
set_option maxRecDepth 100000 in
theorem d_Md_fareOf_32 : decode b_Md_fareOf 32 = .ok (.iload 7, 2) := by decide +kernel
set_option maxRecDepth 100000 in
theorem d_Md_fareOf_34 : decode b_Md_fareOf 34 = .ok (.goto 6, 3) := by decide +kernel
set_option maxRecDepth 100000 in
theorem d_Md_fareOf_37 : decode b_Md_fareOf 37 = .ok (.iload 7, 2) := by decide +kernel
set_option maxRecDepth 100000 in
theorem d_Md_fareOf_39 : decode b_Md_fareOf 39 = .ok (.ineg, 1) := by decide +kernel
set_option maxRecDepth 100000 in
theorem d_Md_fareOf_40 : decode b_Md_fareOf 40 = .ok (.istore 7, 2) := by decide +kernel
set_option maxRecDepth 100000 in
theorem d_Md_fareOf_42 : decode b_Md_fareOf 42 = .ok (.iconst (-1), 1) := by decide +kernel
set_option maxRecDepth 100000 in
theorem d_Md_fareOf_43 : decode b_Md_fareOf 43 = .ok (.istore 9, 2) := by decide +kernel
set_option maxRecDepth 100000 in
theorem d_Md_fareOf_45 : decode b_Md_fareOf 45 = .ok (.iconst 0, 1) := by decide +kernel
set_option maxRecDepth 100000 in
theorem d_Md_fareOf_46 : decode b_Md_fareOf 46 = .ok (.istore 10, 2) := by decide +kernel
set_option maxRecDepth 100000 in
theorem d_Md_fareOf_48 : decode b_Md_fareOf 48 = .ok (.iload 10, 2) := by decide +kernel
set_option maxRecDepth 100000 in
theorem d_Md_fareOf_50 : decode b_Md_fareOf 50 = .ok (.aload_n 0, 1) := by decide +kernel
set_option maxRecDepth 100000 in
theorem d_Md_fareOf_51 : decode b_Md_fareOf 51 = .ok (.getfield 119, 3) := by decide +kernel
set_option maxRecDepth 100000 in
theorem d_Md_fareOf_54 : decode b_Md_fareOf 54 = .ok (.iload_n 1, 1) := by decide +kernel
set_option maxRecDepth 100000 in
theorem d_Md_fareOf_55 : decode b_Md_fareOf 55 = .ok (.iaload, 1) := by decide +kernel
set_option maxRecDepth 100000 in
theorem d_Md_fareOf_56 : decode b_Md_fareOf 56 = .ok (.if_icmp .ge 60, 3) := by decide +kernel
set_option maxRecDepth 100000 in
theorem d_Md_fareOf_59 : decode b_Md_fareOf 59 = .ok (.iload 9, 2) := by decide +kernel
set_option maxRecDepth 100000 in
theorem d_Md_fareOf_61 : decode b_Md_fareOf 61 = .ok (.ifCond .ge 55, 3) := by decide +kernel
set_option maxRecDepth 100000 in
theorem d_Md_fareOf_64 : decode b_Md_fareOf 64 = .ok (.iload 7, 2) := by decide +kernel
set_option maxRecDepth 100000 in
theorem d_Md_fareOf_66 : decode b_Md_fareOf 66 = .ok (.aload_n 0, 1) := by decide +kernel
set_option maxRecDepth 100000 in
theorem d_Md_fareOf_67 : decode b_Md_fareOf 67 = .ok (.getfield 122, 3) := by decide +kernel
set_option maxRecDepth 100000 in
theorem d_Md_fareOf_70 : decode b_Md_fareOf 70 = .ok (.bipush 12, 2) := by decide +kernel
set_option maxRecDepth 100000 in
theorem d_Md_fareOf_72 : decode b_Md_fareOf 72 = .ok (.iload_n 1, 1) := by decide +kernel
set_option maxRecDepth 100000 in
theorem d_Md_fareOf_73 : decode b_Md_fareOf 73 = .ok (.imul, 1) := by decide +kernel
set_option maxRecDepth 100000 in
theorem d_Md_fareOf_74 : decode b_Md_fareOf 74 = .ok (.iload 10, 2) := by decide +kernel
set_option maxRecDepth 100000 in
theorem d_Md_fareOf_76 : decode b_Md_fareOf 76 = .ok (.iadd, 1) := by decide +kernel
set_option maxRecDepth 100000 in
theorem d_Md_fareOf_77 : decode b_Md_fareOf 77 = .ok (.iaload, 1) := by decide +kernel
set_option maxRecDepth 100000 in
theorem d_Md_fareOf_78 : decode b_Md_fareOf 78 = .ok (.aload_n 0, 1) := by decide +kernel
set_option maxRecDepth 100000 in
theorem d_Md_fareOf_79 : decode b_Md_fareOf 79 = .ok (.getfield 125, 3) := by decide +kernel
set_option maxRecDepth 100000 in
theorem d_Md_fareOf_82 : decode b_Md_fareOf 82 = .ok (.bipush 12, 2) := by decide +kernel
set_option maxRecDepth 100000 in
theorem d_Md_fareOf_84 : decode b_Md_fareOf 84 = .ok (.iload_n 1, 1) := by decide +kernel
set_option maxRecDepth 100000 in
theorem d_Md_fareOf_85 : decode b_Md_fareOf 85 = .ok (.imul, 1) := by decide +kernel
set_option maxRecDepth 100000 in
theorem d_Md_fareOf_86 : decode b_Md_fareOf 86 = .ok (.iload 10, 2) := by decide +kernel
set_option maxRecDepth 100000 in
theorem d_Md_fareOf_88 : decode b_Md_fareOf 88 = .ok (.iadd, 1) := by decide +kernel
set_option maxRecDepth 100000 in
theorem d_Md_fareOf_89 : decode b_Md_fareOf 89 = .ok (.iaload, 1) := by decide +kernel
set_option maxRecDepth 100000 in
theorem d_Md_fareOf_90 : decode b_Md_fareOf 90 = .ok (.invokestatic 10, 3) := by decide +kernel
set_option maxRecDepth 100000 in
theorem d_Md_fareOf_93 : decode b_Md_fareOf 93 = .ok (.ifCond .eq 17, 3) := by decide +kernel
set_option maxRecDepth 100000 in
theorem d_Md_fareOf_96 : decode b_Md_fareOf 96 = .ok (.aload_n 0, 1) := by decide +kernel
set_option maxRecDepth 100000 in
theorem d_Md_fareOf_97 : decode b_Md_fareOf 97 = .ok (.getfield 128, 3) := by decide +kernel
set_option maxRecDepth 100000 in
theorem d_Md_fareOf_100 : decode b_Md_fareOf 100 = .ok (.bipush 12, 2) := by decide +kernel
set_option maxRecDepth 100000 in
theorem d_Md_fareOf_102 : decode b_Md_fareOf 102 = .ok (.iload_n 1, 1) := by decide +kernel
set_option maxRecDepth 100000 in
theorem d_Md_fareOf_103 : decode b_Md_fareOf 103 = .ok (.imul, 1) := by decide +kernel
set_option maxRecDepth 100000 in
theorem d_Md_fareOf_104 : decode b_Md_fareOf 104 = .ok (.iload 10, 2) := by decide +kernel
set_option maxRecDepth 100000 in
theorem d_Md_fareOf_106 : decode b_Md_fareOf 106 = .ok (.iadd, 1) := by decide +kernel
set_option maxRecDepth 100000 in
theorem d_Md_fareOf_107 : decode b_Md_fareOf 107 = .ok (.iaload, 1) := by decide +kernel
set_option maxRecDepth 100000 in
theorem d_Md_fareOf_108 : decode b_Md_fareOf 108 = .ok (.istore 9, 2) := by decide +kernel
set_option maxRecDepth 100000 in
theorem d_Md_fareOf_110 : decode b_Md_fareOf 110 = .ok (.iinc 10 1, 3) := by decide +kernel
set_option maxRecDepth 100000 in
theorem d_Md_fareOf_113 : decode b_Md_fareOf 113 = .ok (.goto (-65), 3) := by decide +kernel
set_option maxRecDepth 100000 in
theorem d_Md_fareOf_116 : decode b_Md_fareOf 116 = .ok (.iload 9, 2) := by decide +kernel
set_option maxRecDepth 100000 in
theorem d_Md_fareOf_118 : decode b_Md_fareOf 118 = .ok (.ifCond .ge 6, 3) := by decide +kernel
set_option maxRecDepth 100000 in
theorem d_Md_fareOf_121 : decode b_Md_fareOf 121 = .ok (.bipush (-2), 2) := by decide +kernel
set_option maxRecDepth 100000 in
theorem d_Md_fareOf_123 : decode b_Md_fareOf 123 = .ok (.ireturn, 1) := by decide +kernel
set_option maxRecDepth 100000 in
theorem d_Md_fareOf_124 : decode b_Md_fareOf 124 = .ok (.aload_n 0, 1) := by decide +kernel
set_option maxRecDepth 100000 in
theorem d_Md_fareOf_125 : decode b_Md_fareOf 125 = .ok (.iload 4, 2) := by decide +kernel
set_option maxRecDepth 100000 in
theorem d_Md_fareOf_127 : decode b_Md_fareOf 127 = .ok (.iload 5, 2) := by decide +kernel
set_option maxRecDepth 100000 in
theorem d_Md_fareOf_129 : decode b_Md_fareOf 129 = .ok (.invokevirtual 42, 3) := by decide +kernel
set_option maxRecDepth 100000 in
theorem d_Md_fareOf_132 : decode b_Md_fareOf 132 = .ok (.istore 10, 2) := by decide +kernel
set_option maxRecDepth 100000 in
theorem d_Md_fareOf_134 : decode b_Md_fareOf 134 = .ok (.iload 10, 2) := by decide +kernel
set_option maxRecDepth 100000 in
theorem d_Md_fareOf_136 : decode b_Md_fareOf 136 = .ok (.ifCond .ne 7, 3) := by decide +kernel
set_option maxRecDepth 100000 in
theorem d_Md_fareOf_139 : decode b_Md_fareOf 139 = .ok (.iconst 0, 1) := by decide +kernel
set_option maxRecDepth 100000 in
theorem d_Md_fareOf_140 : decode b_Md_fareOf 140 = .ok (.goto 25, 3) := by decide +kernel
set_option maxRecDepth 100000 in
theorem d_Md_fareOf_143 : decode b_Md_fareOf 143 = .ok (.iload 10, 2) := by decide +kernel
set_option maxRecDepth 100000 in
theorem d_Md_fareOf_145 : decode b_Md_fareOf 145 = .ok (.ifCond .le 7, 3) := by decide +kernel
set_option maxRecDepth 100000 in
theorem d_Md_fareOf_148 : decode b_Md_fareOf 148 = .ok (.iconst 1, 1) := by decide +kernel
set_option maxRecDepth 100000 in
theorem d_Md_fareOf_149 : decode b_Md_fareOf 149 = .ok (.goto 4, 3) := by decide +kernel
set_option maxRecDepth 100000 in
theorem d_Md_fareOf_152 : decode b_Md_fareOf 152 = .ok (.iconst 0, 1) := by decide +kernel
