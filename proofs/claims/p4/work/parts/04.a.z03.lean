set_option maxRecDepth 100000 in
theorem d_WM_coins_48 : decode b_WM_coins 48 = .ok (.getfield 344, 3) := by decide +kernel
set_option maxRecDepth 100000 in
theorem d_WM_coins_51 : decode b_WM_coins 51 = .ok (.ireturn, 1) := by decide +kernel
set_option maxRecDepth 100000 in
theorem d_WM_coins_52 : decode b_WM_coins 52 = .ok (.aload_n 0, 1) := by decide +kernel
set_option maxRecDepth 100000 in
theorem d_WM_coins_53 : decode b_WM_coins 53 = .ok (.invokevirtual 347, 3) := by decide +kernel
set_option maxRecDepth 100000 in
theorem d_WM_coins_56 : decode b_WM_coins 56 = .ok (.ireturn, 1) := by decide +kernel
set_option maxRecDepth 100000 in
theorem d_WM_coins_57 : decode b_WM_coins 57 = .ok (.aload_n 0, 1) := by decide +kernel
set_option maxRecDepth 100000 in
theorem d_WM_coins_58 : decode b_WM_coins 58 = .ok (.getfield 50, 3) := by decide +kernel
set_option maxRecDepth 100000 in
theorem d_WM_coins_61 : decode b_WM_coins 61 = .ok (.getfield 350, 3) := by decide +kernel
set_option maxRecDepth 100000 in
theorem d_WM_coins_64 : decode b_WM_coins 64 = .ok (.ireturn, 1) := by decide +kernel
set_option maxRecDepth 100000 in
theorem d_WM_coins_65 : decode b_WM_coins 65 = .ok (.aload_n 0, 1) := by decide +kernel
set_option maxRecDepth 100000 in
theorem d_WM_coins_66 : decode b_WM_coins 66 = .ok (.getfield 50, 3) := by decide +kernel
set_option maxRecDepth 100000 in
theorem d_WM_coins_69 : decode b_WM_coins 69 = .ok (.getfield 353, 3) := by decide +kernel
set_option maxRecDepth 100000 in
theorem d_WM_coins_72 : decode b_WM_coins 72 = .ok (.ireturn, 1) := by decide +kernel
set_option maxRecDepth 100000 in
theorem d_WM_coins_73 : decode b_WM_coins 73 = .ok (.iconst (-1), 1) := by decide +kernel
set_option maxRecDepth 100000 in
theorem d_WM_coins_74 : decode b_WM_coins 74 = .ok (.ireturn, 1) := by decide +kernel
set_option maxRecDepth 100000 in
theorem d_WM_coinsOfMen_0 : decode b_WM_coinsOfMen 0 = .ok (.iconst 0, 1) := by decide +kernel
set_option maxRecDepth 100000 in
theorem d_WM_coinsOfMen_1 : decode b_WM_coinsOfMen 1 = .ok (.istore_n 1, 1) := by decide +kernel
set_option maxRecDepth 100000 in
theorem d_WM_coinsOfMen_2 : decode b_WM_coinsOfMen 2 = .ok (.iconst 0, 1) := by decide +kernel
set_option maxRecDepth 100000 in
theorem d_WM_coinsOfMen_3 : decode b_WM_coinsOfMen 3 = .ok (.istore_n 2, 1) := by decide +kernel
set_option maxRecDepth 100000 in
theorem d_WM_coinsOfMen_4 : decode b_WM_coinsOfMen 4 = .ok (.iload_n 2, 1) := by decide +kernel
set_option maxRecDepth 100000 in
theorem d_WM_coinsOfMen_5 : decode b_WM_coinsOfMen 5 = .ok (.bipush 40, 2) := by decide +kernel
set_option maxRecDepth 100000 in
theorem d_WM_coinsOfMen_7 : decode b_WM_coinsOfMen 7 = .ok (.if_icmp .ge 31, 3) := by decide +kernel
set_option maxRecDepth 100000 in
theorem d_WM_coinsOfMen_10 : decode b_WM_coinsOfMen 10 = .ok (.aload_n 0, 1) := by decide +kernel
set_option maxRecDepth 100000 in
theorem d_WM_coinsOfMen_11 : decode b_WM_coinsOfMen 11 = .ok (.getfield 18, 3) := by decide +kernel
set_option maxRecDepth 100000 in
theorem d_WM_coinsOfMen_14 : decode b_WM_coinsOfMen 14 = .ok (.iload_n 2, 1) := by decide +kernel
set_option maxRecDepth 100000 in
theorem d_WM_coinsOfMen_15 : decode b_WM_coinsOfMen 15 = .ok (.aaload, 1) := by decide +kernel
set_option maxRecDepth 100000 in
theorem d_WM_coinsOfMen_16 : decode b_WM_coinsOfMen 16 = .ok (.astore_n 3, 1) := by decide +kernel
set_option maxRecDepth 100000 in
theorem d_WM_coinsOfMen_17 : decode b_WM_coinsOfMen 17 = .ok (.iload_n 1, 1) := by decide +kernel
set_option maxRecDepth 100000 in
theorem d_WM_coinsOfMen_18 : decode b_WM_coinsOfMen 18 = .ok (.aload_n 3, 1) := by decide +kernel
set_option maxRecDepth 100000 in
theorem d_WM_coinsOfMen_19 : decode b_WM_coinsOfMen 19 = .ok (.ifnonnull 7, 3) := by decide +kernel
set_option maxRecDepth 100000 in
theorem d_WM_coinsOfMen_22 : decode b_WM_coinsOfMen 22 = .ok (.iconst 0, 1) := by decide +kernel
set_option maxRecDepth 100000 in
theorem d_WM_coinsOfMen_23 : decode b_WM_coinsOfMen 23 = .ok (.goto 7, 3) := by decide +kernel
set_option maxRecDepth 100000 in
theorem d_WM_coinsOfMen_26 : decode b_WM_coinsOfMen 26 = .ok (.aload_n 3, 1) := by decide +kernel
set_option maxRecDepth 100000 in
theorem d_WM_coinsOfMen_27 : decode b_WM_coinsOfMen 27 = .ok (.getfield 152, 3) := by decide +kernel
set_option maxRecDepth 100000 in
theorem d_WM_coinsOfMen_30 : decode b_WM_coinsOfMen 30 = .ok (.iadd, 1) := by decide +kernel
set_option maxRecDepth 100000 in
theorem d_WM_coinsOfMen_31 : decode b_WM_coinsOfMen 31 = .ok (.istore_n 1, 1) := by decide +kernel
set_option maxRecDepth 100000 in
theorem d_WM_coinsOfMen_32 : decode b_WM_coinsOfMen 32 = .ok (.iinc 2 1, 3) := by decide +kernel
set_option maxRecDepth 100000 in
theorem d_WM_coinsOfMen_35 : decode b_WM_coinsOfMen 35 = .ok (.goto (-31), 3) := by decide +kernel
set_option maxRecDepth 100000 in
theorem d_WM_coinsOfMen_38 : decode b_WM_coinsOfMen 38 = .ok (.iload_n 1, 1) := by decide +kernel
set_option maxRecDepth 100000 in
theorem d_WM_coinsOfMen_39 : decode b_WM_coinsOfMen 39 = .ok (.ireturn, 1) := by decide +kernel
set_option maxRecDepth 100000 in
theorem d_WM_count_0 : decode b_WM_count 0 = .ok (.iload_n 1, 1) := by decide +kernel
set_option maxRecDepth 100000 in
theorem d_WM_count_1 : decode b_WM_count 1 = .ok (.tableswitch 117 0 9 #[55, 63, 68, 73, 78, 83, 89, 95, 101, 109], 55) := by decide +kernel
set_option maxRecDepth 100000 in
theorem d_WM_count_56 : decode b_WM_count 56 = .ok (.aload_n 0, 1) := by decide +kernel
set_option maxRecDepth 100000 in
theorem d_WM_count_57 : decode b_WM_count 57 = .ok (.getfield 12, 3) := by decide +kernel
set_option maxRecDepth 100000 in
theorem d_WM_count_60 : decode b_WM_count 60 = .ok (.getfield 64, 3) := by decide +kernel
set_option maxRecDepth 100000 in
theorem d_WM_count_63 : decode b_WM_count 63 = .ok (.ireturn, 1) := by decide +kernel
set_option maxRecDepth 100000 in
theorem d_WM_count_64 : decode b_WM_count 64 = .ok (.aload_n 0, 1) := by decide +kernel
set_option maxRecDepth 100000 in
theorem d_WM_count_65 : decode b_WM_count 65 = .ok (.getfield 170, 3) := by decide +kernel
set_option maxRecDepth 100000 in
theorem d_WM_count_68 : decode b_WM_count 68 = .ok (.ireturn, 1) := by decide +kernel
set_option maxRecDepth 100000 in
theorem d_WM_count_69 : decode b_WM_count 69 = .ok (.aload_n 0, 1) := by decide +kernel
set_option maxRecDepth 100000 in
theorem d_WM_count_70 : decode b_WM_count 70 = .ok (.getfield 243, 3) := by decide +kernel
set_option maxRecDepth 100000 in
theorem d_WM_count_73 : decode b_WM_count 73 = .ok (.ireturn, 1) := by decide +kernel
set_option maxRecDepth 100000 in
theorem d_WM_count_74 : decode b_WM_count 74 = .ok (.aload_n 0, 1) := by decide +kernel
set_option maxRecDepth 100000 in
theorem d_WM_count_75 : decode b_WM_count 75 = .ok (.getfield 210, 3) := by decide +kernel
set_option maxRecDepth 100000 in
theorem d_WM_count_78 : decode b_WM_count 78 = .ok (.ireturn, 1) := by decide +kernel
set_option maxRecDepth 100000 in
theorem d_WM_count_79 : decode b_WM_count 79 = .ok (.aload_n 0, 1) := by decide +kernel
set_option maxRecDepth 100000 in
theorem d_WM_count_80 : decode b_WM_count 80 = .ok (.getfield 155, 3) := by decide +kernel
set_option maxRecDepth 100000 in
theorem d_WM_count_83 : decode b_WM_count 83 = .ok (.ireturn, 1) := by decide +kernel
set_option maxRecDepth 100000 in
theorem d_WM_count_84 : decode b_WM_count 84 = .ok (.aload_n 0, 1) := by decide +kernel
set_option maxRecDepth 100000 in
theorem d_WM_count_85 : decode b_WM_count 85 = .ok (.iconst 2, 1) := by decide +kernel
set_option maxRecDepth 100000 in
theorem d_WM_count_86 : decode b_WM_count 86 = .ok (.invokevirtual 340, 3) := by decide +kernel
set_option maxRecDepth 100000 in
theorem d_WM_count_89 : decode b_WM_count 89 = .ok (.ireturn, 1) := by decide +kernel
set_option maxRecDepth 100000 in
theorem d_WM_count_90 : decode b_WM_count 90 = .ok (.aload_n 0, 1) := by decide +kernel
set_option maxRecDepth 100000 in
theorem d_WM_count_91 : decode b_WM_count 91 = .ok (.iconst 1, 1) := by decide +kernel
set_option maxRecDepth 100000 in
theorem d_WM_count_92 : decode b_WM_count 92 = .ok (.invokevirtual 340, 3) := by decide +kernel
set_option maxRecDepth 100000 in
theorem d_WM_count_95 : decode b_WM_count 95 = .ok (.ireturn, 1) := by decide +kernel
set_option maxRecDepth 100000 in
theorem d_WM_count_96 : decode b_WM_count 96 = .ok (.aload_n 0, 1) := by decide +kernel
set_option maxRecDepth 100000 in
theorem d_WM_count_97 : decode b_WM_count 97 = .ok (.iconst 3, 1) := by decide +kernel
set_option maxRecDepth 100000 in
theorem d_WM_count_98 : decode b_WM_count 98 = .ok (.invokevirtual 340, 3) := by decide +kernel
set_option maxRecDepth 100000 in
theorem d_WM_count_101 : decode b_WM_count 101 = .ok (.ireturn, 1) := by decide +kernel
set_option maxRecDepth 100000 in
theorem d_WM_count_102 : decode b_WM_count 102 = .ok (.aload_n 0, 1) := by decide +kernel
set_option maxRecDepth 100000 in
theorem d_WM_count_103 : decode b_WM_count 103 = .ok (.getfield 50, 3) := by decide +kernel
set_option maxRecDepth 100000 in
theorem d_WM_count_106 : decode b_WM_count 106 = .ok (.getfield 280, 3) := by decide +kernel
set_option maxRecDepth 100000 in
theorem d_WM_count_109 : decode b_WM_count 109 = .ok (.ireturn, 1) := by decide +kernel
set_option maxRecDepth 100000 in
theorem d_WM_count_110 : decode b_WM_count 110 = .ok (.aload_n 0, 1) := by decide +kernel
set_option maxRecDepth 100000 in
theorem d_WM_count_111 : decode b_WM_count 111 = .ok (.getfield 43, 3) := by decide +kernel
set_option maxRecDepth 100000 in
theorem d_WM_count_114 : decode b_WM_count 114 = .ok (.getfield 207, 3) := by decide +kernel
set_option maxRecDepth 100000 in
theorem d_WM_count_117 : decode b_WM_count 117 = .ok (.ireturn, 1) := by decide +kernel
set_option maxRecDepth 100000 in
theorem d_WM_count_118 : decode b_WM_count 118 = .ok (.iconst (-1), 1) := by decide +kernel
set_option maxRecDepth 100000 in
theorem d_WM_count_119 : decode b_WM_count 119 = .ok (.ireturn, 1) := by decide +kernel
set_option maxRecDepth 100000 in
theorem d_WM_craft_0 : decode b_WM_craft 0 = .ok (.aload_n 0, 1) := by decide +kernel
set_option maxRecDepth 100000 in
theorem d_WM_craft_1 : decode b_WM_craft 1 = .ok (.iload_n 1, 1) := by decide +kernel
set_option maxRecDepth 100000 in
theorem d_WM_craft_2 : decode b_WM_craft 2 = .ok (.invokevirtual 174, 3) := by decide +kernel
set_option maxRecDepth 100000 in
theorem d_WM_craft_5 : decode b_WM_craft 5 = .ok (.astore_n 3, 1) := by decide +kernel
set_option maxRecDepth 100000 in
theorem d_WM_craft_6 : decode b_WM_craft 6 = .ok (.aload_n 3, 1) := by decide +kernel
set_option maxRecDepth 100000 in
theorem d_WM_craft_7 : decode b_WM_craft 7 = .ok (.ifnonnull 5, 3) := by decide +kernel
set_option maxRecDepth 100000 in
theorem d_WM_craft_10 : decode b_WM_craft 10 = .ok (.iconst (-1), 1) := by decide +kernel
set_option maxRecDepth 100000 in
theorem d_WM_craft_11 : decode b_WM_craft 11 = .ok (.ireturn, 1) := by decide +kernel
set_option maxRecDepth 100000 in
theorem d_WM_craft_12 : decode b_WM_craft 12 = .ok (.iload_n 2, 1) := by decide +kernel
set_option maxRecDepth 100000 in
theorem d_WM_craft_13 : decode b_WM_craft 13 = .ok (.tableswitch 80 0 4 #[35, 40, 45, 50, 71], 35) := by decide +kernel
set_option maxRecDepth 100000 in
theorem d_WM_craft_48 : decode b_WM_craft 48 = .ok (.aload_n 3, 1) := by decide +kernel
set_option maxRecDepth 100000 in
theorem d_WM_craft_49 : decode b_WM_craft 49 = .ok (.getfield 178, 3) := by decide +kernel
set_option maxRecDepth 100000 in
theorem d_WM_craft_52 : decode b_WM_craft 52 = .ok (.ireturn, 1) := by decide +kernel
set_option maxRecDepth 100000 in
theorem d_WM_craft_53 : decode b_WM_craft 53 = .ok (.aload_n 3, 1) := by decide +kernel
set_option maxRecDepth 100000 in
theorem d_WM_craft_54 : decode b_WM_craft 54 = .ok (.getfield 181, 3) := by decide +kernel
set_option maxRecDepth 100000 in
theorem d_WM_craft_57 : decode b_WM_craft 57 = .ok (.ireturn, 1) := by decide +kernel
set_option maxRecDepth 100000 in
theorem d_WM_craft_58 : decode b_WM_craft 58 = .ok (.aload_n 3, 1) := by decide +kernel
set_option maxRecDepth 100000 in
theorem d_WM_craft_59 : decode b_WM_craft 59 = .ok (.getfield 184, 3) := by decide +kernel
set_option maxRecDepth 100000 in
theorem d_WM_craft_62 : decode b_WM_craft 62 = .ok (.ireturn, 1) := by decide +kernel
set_option maxRecDepth 100000 in
theorem d_WM_craft_63 : decode b_WM_craft 63 = .ok (.aload_n 3, 1) := by decide +kernel
set_option maxRecDepth 100000 in
theorem d_WM_craft_64 : decode b_WM_craft 64 = .ok (.aload_n 0, 1) := by decide +kernel
set_option maxRecDepth 100000 in
theorem d_WM_craft_65 : decode b_WM_craft 65 = .ok (.getfield 155, 3) := by decide +kernel
set_option maxRecDepth 100000 in
theorem d_WM_craft_68 : decode b_WM_craft 68 = .ok (.invokevirtual 187, 3) := by decide +kernel
set_option maxRecDepth 100000 in
theorem d_WM_craft_71 : decode b_WM_craft 71 = .ok (.iconst 1, 1) := by decide +kernel
set_option maxRecDepth 100000 in
theorem d_WM_craft_72 : decode b_WM_craft 72 = .ok (.if_icmp .ne 10, 3) := by decide +kernel
set_option maxRecDepth 100000 in
theorem d_WM_craft_75 : decode b_WM_craft 75 = .ok (.aload_n 3, 1) := by decide +kernel
set_option maxRecDepth 100000 in
theorem d_WM_craft_76 : decode b_WM_craft 76 = .ok (.getfield 190, 3) := by decide +kernel
set_option maxRecDepth 100000 in
theorem d_WM_craft_79 : decode b_WM_craft 79 = .ok (.goto 4, 3) := by decide +kernel
set_option maxRecDepth 100000 in
theorem d_WM_craft_82 : decode b_WM_craft 82 = .ok (.iconst (-1), 1) := by decide +kernel
set_option maxRecDepth 100000 in
theorem d_WM_craft_83 : decode b_WM_craft 83 = .ok (.ireturn, 1) := by decide +kernel
set_option maxRecDepth 100000 in
theorem d_WM_craft_84 : decode b_WM_craft 84 = .ok (.aload_n 3, 1) := by decide +kernel
set_option maxRecDepth 100000 in
theorem d_WM_craft_85 : decode b_WM_craft 85 = .ok (.aload_n 0, 1) := by decide +kernel
set_option maxRecDepth 100000 in
theorem d_WM_craft_86 : decode b_WM_craft 86 = .ok (.getfield 155, 3) := by decide +kernel
set_option maxRecDepth 100000 in
theorem d_WM_craft_89 : decode b_WM_craft 89 = .ok (.invokevirtual 187, 3) := by decide +kernel
set_option maxRecDepth 100000 in
theorem d_WM_craft_92 : decode b_WM_craft 92 = .ok (.ireturn, 1) := by decide +kernel
set_option maxRecDepth 100000 in
theorem d_WM_craft_93 : decode b_WM_craft 93 = .ok (.iconst (-1), 1) := by decide +kernel
set_option maxRecDepth 100000 in
theorem d_WM_craft_94 : decode b_WM_craft 94 = .ok (.ireturn, 1) := by decide +kernel
set_option maxRecDepth 100000 in
theorem d_WM_due_0 : decode b_WM_due 0 = .ok (.aload_n 0, 1) := by decide +kernel
set_option maxRecDepth 100000 in
theorem d_WM_due_1 : decode b_WM_due 1 = .ok (.iload_n 1, 1) := by decide +kernel
set_option maxRecDepth 100000 in
theorem d_WM_due_2 : decode b_WM_due 2 = .ok (.invokevirtual 293, 3) := by decide +kernel
set_option maxRecDepth 100000 in
theorem d_WM_due_5 : decode b_WM_due 5 = .ok (.astore_n 3, 1) := by decide +kernel
set_option maxRecDepth 100000 in
theorem d_WM_due_6 : decode b_WM_due 6 = .ok (.aload_n 3, 1) := by decide +kernel
set_option maxRecDepth 100000 in
theorem d_WM_due_7 : decode b_WM_due 7 = .ok (.ifnull 10, 3) := by decide +kernel
set_option maxRecDepth 100000 in
theorem d_WM_due_10 : decode b_WM_due 10 = .ok (.iload_n 2, 1) := by decide +kernel
set_option maxRecDepth 100000 in
theorem d_WM_due_11 : decode b_WM_due 11 = .ok (.invokestatic 75, 3) := by decide +kernel
set_option maxRecDepth 100000 in
theorem d_WM_due_14 : decode b_WM_due 14 = .ok (.ifCond .ne 8, 3) := by decide +kernel
set_option maxRecDepth 100000 in
theorem d_WM_due_17 : decode b_WM_due 17 = .ok (.bipush (-2), 2) := by decide +kernel
set_option maxRecDepth 100000 in
theorem d_WM_due_19 : decode b_WM_due 19 = .ok (.goto 9, 3) := by decide +kernel
set_option maxRecDepth 100000 in
theorem d_WM_due_22 : decode b_WM_due 22 = .ok (.aload_n 0, 1) := by decide +kernel
set_option maxRecDepth 100000 in
theorem d_WM_due_23 : decode b_WM_due 23 = .ok (.aload_n 3, 1) := by decide +kernel
set_option maxRecDepth 100000 in
theorem d_WM_due_24 : decode b_WM_due 24 = .ok (.iload_n 2, 1) := by decide +kernel
set_option maxRecDepth 100000 in
theorem d_WM_due_25 : decode b_WM_due 25 = .ok (.invokevirtual 315, 3) := by decide +kernel
set_option maxRecDepth 100000 in
theorem d_WM_due_28 : decode b_WM_due 28 = .ok (.ireturn, 1) := by decide +kernel
set_option maxRecDepth 100000 in
theorem d_WM_dueOf_0 : decode b_WM_dueOf 0 = .ok (.aload_n 0, 1) := by decide +kernel
set_option maxRecDepth 100000 in
theorem d_WM_dueOf_1 : decode b_WM_dueOf 1 = .ok (.aload_n 0, 1) := by decide +kernel
set_option maxRecDepth 100000 in
theorem d_WM_dueOf_2 : decode b_WM_dueOf 2 = .ok (.aload_n 1, 1) := by decide +kernel
set_option maxRecDepth 100000 in
theorem d_WM_dueOf_3 : decode b_WM_dueOf 3 = .ok (.getfield 309, 3) := by decide +kernel
set_option maxRecDepth 100000 in
theorem d_WM_dueOf_6 : decode b_WM_dueOf 6 = .ok (.sipush 720, 3) := by decide +kernel
set_option maxRecDepth 100000 in
theorem d_WM_dueOf_9 : decode b_WM_dueOf 9 = .ok (.idiv, 1) := by decide +kernel
set_option maxRecDepth 100000 in
theorem d_WM_dueOf_10 : decode b_WM_dueOf 10 = .ok (.iload_n 2, 1) := by decide +kernel
set_option maxRecDepth 100000 in
theorem d_WM_dueOf_11 : decode b_WM_dueOf 11 = .ok (.invokevirtual 223, 3) := by decide +kernel
set_option maxRecDepth 100000 in
theorem d_WM_dueOf_14 : decode b_WM_dueOf 14 = .ok (.invokevirtual 226, 3) := by decide +kernel
set_option maxRecDepth 100000 in
theorem d_WM_dueOf_17 : decode b_WM_dueOf 17 = .ok (.astore_n 3, 1) := by decide +kernel
set_option maxRecDepth 100000 in
theorem d_WM_dueOf_18 : decode b_WM_dueOf 18 = .ok (.aload_n 0, 1) := by decide +kernel
set_option maxRecDepth 100000 in
theorem d_WM_dueOf_19 : decode b_WM_dueOf 19 = .ok (.aload_n 1, 1) := by decide +kernel
set_option maxRecDepth 100000 in
theorem d_WM_dueOf_20 : decode b_WM_dueOf 20 = .ok (.getfield 303, 3) := by decide +kernel
set_option maxRecDepth 100000 in
theorem d_WM_dueOf_23 : decode b_WM_dueOf 23 = .ok (.invokevirtual 174, 3) := by decide +kernel
set_option maxRecDepth 100000 in
theorem d_WM_dueOf_26 : decode b_WM_dueOf 26 = .ok (.astore 4, 2) := by decide +kernel
set_option maxRecDepth 100000 in
theorem d_WM_dueOf_28 : decode b_WM_dueOf 28 = .ok (.aload_n 3, 1) := by decide +kernel
set_option maxRecDepth 100000 in
theorem d_WM_dueOf_29 : decode b_WM_dueOf 29 = .ok (.ifnull 8, 3) := by decide +kernel
set_option maxRecDepth 100000 in
theorem d_WM_dueOf_32 : decode b_WM_dueOf 32 = .ok (.aload 4, 2) := by decide +kernel
set_option maxRecDepth 100000 in
theorem d_WM_dueOf_34 : decode b_WM_dueOf 34 = .ok (.ifnonnull 5, 3) := by decide +kernel
set_option maxRecDepth 100000 in
theorem d_WM_dueOf_37 : decode b_WM_dueOf 37 = .ok (.iconst (-1), 1) := by decide +kernel
set_option maxRecDepth 100000 in
theorem d_WM_dueOf_38 : decode b_WM_dueOf 38 = .ok (.ireturn, 1) := by decide +kernel
set_option maxRecDepth 100000 in
theorem d_WM_dueOf_39 : decode b_WM_dueOf 39 = .ok (.aload_n 0, 1) := by decide +kernel
set_option maxRecDepth 100000 in
theorem d_WM_dueOf_40 : decode b_WM_dueOf 40 = .ok (.aload_n 3, 1) := by decide +kernel
set_option maxRecDepth 100000 in
theorem d_WM_dueOf_41 : decode b_WM_dueOf 41 = .ok (.aload_n 1, 1) := by decide +kernel
set_option maxRecDepth 100000 in
theorem d_WM_dueOf_42 : decode b_WM_dueOf 42 = .ok (.getfield 247, 3) := by decide +kernel
set_option maxRecDepth 100000 in
theorem d_WM_dueOf_45 : decode b_WM_dueOf 45 = .ok (.aload_n 1, 1) := by decide +kernel
set_option maxRecDepth 100000 in
theorem d_WM_dueOf_46 : decode b_WM_dueOf 46 = .ok (.getfield 250, 3) := by decide +kernel
set_option maxRecDepth 100000 in
theorem d_WM_dueOf_49 : decode b_WM_dueOf 49 = .ok (.aload_n 1, 1) := by decide +kernel
set_option maxRecDepth 100000 in
theorem d_WM_dueOf_50 : decode b_WM_dueOf 50 = .ok (.getfield 309, 3) := by decide +kernel
set_option maxRecDepth 100000 in
theorem d_WM_dueOf_53 : decode b_WM_dueOf 53 = .ok (.bipush 60, 2) := by decide +kernel
set_option maxRecDepth 100000 in
theorem d_WM_dueOf_55 : decode b_WM_dueOf 55 = .ok (.idiv, 1) := by decide +kernel
set_option maxRecDepth 100000 in
theorem d_WM_dueOf_56 : decode b_WM_dueOf 56 = .ok (.aload 4, 2) := by decide +kernel
set_option maxRecDepth 100000 in
theorem d_WM_dueOf_58 : decode b_WM_dueOf 58 = .ok (.getfield 181, 3) := by decide +kernel
set_option maxRecDepth 100000 in
theorem d_WM_dueOf_61 : decode b_WM_dueOf 61 = .ok (.invokevirtual 230, 3) := by decide +kernel
set_option maxRecDepth 100000 in
theorem d_WM_dueOf_64 : decode b_WM_dueOf 64 = .ok (.ireturn, 1) := by decide +kernel
set_option maxRecDepth 100000 in
theorem d_WM_end_0 : decode b_WM_end 0 = .ok (.iload_n 1, 1) := by decide +kernel
set_option maxRecDepth 100000 in
theorem d_WM_end_1 : decode b_WM_end 1 = .ok (.ifCond .lt 14, 3) := by decide +kernel
set_option maxRecDepth 100000 in
theorem d_WM_end_4 : decode b_WM_end 4 = .ok (.iload_n 1, 1) := by decide +kernel
set_option maxRecDepth 100000 in
theorem d_WM_end_5 : decode b_WM_end 5 = .ok (.aload_n 0, 1) := by decide +kernel
set_option maxRecDepth 100000 in
theorem d_WM_end_6 : decode b_WM_end 6 = .ok (.getfield 43, 3) := by decide +kernel
set_option maxRecDepth 100000 in
theorem d_WM_end_9 : decode b_WM_end 9 = .ok (.getfield 207, 3) := by decide +kernel
set_option maxRecDepth 100000 in
theorem d_WM_end_12 : decode b_WM_end 12 = .ok (.if_icmp .le 5, 3) := by decide +kernel
set_option maxRecDepth 100000 in
theorem d_WM_end_15 : decode b_WM_end 15 = .ok (.iconst (-1), 1) := by decide +kernel
set_option maxRecDepth 100000 in
theorem d_WM_end_16 : decode b_WM_end 16 = .ok (.ireturn, 1) := by decide +kernel
set_option maxRecDepth 100000 in
theorem d_WM_end_17 : decode b_WM_end 17 = .ok (.aload_n 0, 1) := by decide +kernel
set_option maxRecDepth 100000 in
theorem d_WM_end_18 : decode b_WM_end 18 = .ok (.getfield 43, 3) := by decide +kernel
set_option maxRecDepth 100000 in
theorem d_WM_end_21 : decode b_WM_end 21 = .ok (.iload_n 1, 1) := by decide +kernel
set_option maxRecDepth 100000 in
theorem d_WM_end_22 : decode b_WM_end 22 = .ok (.putfield 207, 3) := by decide +kernel
set_option maxRecDepth 100000 in
theorem d_WM_end_25 : decode b_WM_end 25 = .ok (.iload_n 1, 1) := by decide +kernel
set_option maxRecDepth 100000 in
theorem d_WM_end_26 : decode b_WM_end 26 = .ok (.ireturn, 1) := by decide +kernel
set_option maxRecDepth 100000 in
theorem d_WM_fare_0 : decode b_WM_fare 0 = .ok (.aload_n 0, 1) := by decide +kernel
set_option maxRecDepth 100000 in
theorem d_WM_fare_1 : decode b_WM_fare 1 = .ok (.iload_n 1, 1) := by decide +kernel
set_option maxRecDepth 100000 in
theorem d_WM_fare_2 : decode b_WM_fare 2 = .ok (.invokevirtual 226, 3) := by decide +kernel
set_option maxRecDepth 100000 in
theorem d_WM_fare_5 : decode b_WM_fare 5 = .ok (.astore 6, 2) := by decide +kernel
set_option maxRecDepth 100000 in
theorem d_WM_fare_7 : decode b_WM_fare 7 = .ok (.aload 6, 2) := by decide +kernel
set_option maxRecDepth 100000 in
theorem d_WM_fare_9 : decode b_WM_fare 9 = .ok (.ifnull 30, 3) := by decide +kernel
set_option maxRecDepth 100000 in
theorem d_WM_fare_12 : decode b_WM_fare 12 = .ok (.aload_n 0, 1) := by decide +kernel
set_option maxRecDepth 100000 in
theorem d_WM_fare_13 : decode b_WM_fare 13 = .ok (.getfield 12, 3) := by decide +kernel
set_option maxRecDepth 100000 in
theorem d_WM_fare_16 : decode b_WM_fare 16 = .ok (.iload_n 2, 1) := by decide +kernel
set_option maxRecDepth 100000 in
theorem d_WM_fare_17 : decode b_WM_fare 17 = .ok (.invokevirtual 167, 3) := by decide +kernel
set_option maxRecDepth 100000 in
theorem d_WM_fare_20 : decode b_WM_fare 20 = .ok (.ifCond .eq 19, 3) := by decide +kernel
set_option maxRecDepth 100000 in
theorem d_WM_fare_23 : decode b_WM_fare 23 = .ok (.aload_n 0, 1) := by decide +kernel
set_option maxRecDepth 100000 in
theorem d_WM_fare_24 : decode b_WM_fare 24 = .ok (.getfield 12, 3) := by decide +kernel
set_option maxRecDepth 100000 in
theorem d_WM_fare_27 : decode b_WM_fare 27 = .ok (.iload_n 3, 1) := by decide +kernel
set_option maxRecDepth 100000 in
theorem d_WM_fare_28 : decode b_WM_fare 28 = .ok (.invokevirtual 167, 3) := by decide +kernel
set_option maxRecDepth 100000 in
theorem d_WM_fare_31 : decode b_WM_fare 31 = .ok (.ifCond .eq 8, 3) := by decide +kernel
set_option maxRecDepth 100000 in
theorem d_WM_fare_34 : decode b_WM_fare 34 = .ok (.iload_n 2, 1) := by decide +kernel
set_option maxRecDepth 100000 in
theorem d_WM_fare_35 : decode b_WM_fare 35 = .ok (.iload_n 3, 1) := by decide +kernel
set_option maxRecDepth 100000 in
theorem d_WM_fare_36 : decode b_WM_fare 36 = .ok (.if_icmp .ne 5, 3) := by decide +kernel
set_option maxRecDepth 100000 in
theorem d_WM_fare_39 : decode b_WM_fare 39 = .ok (.iconst (-1), 1) := by decide +kernel
set_option maxRecDepth 100000 in
theorem d_WM_fare_40 : decode b_WM_fare 40 = .ok (.ireturn, 1) := by decide +kernel
set_option maxRecDepth 100000 in
theorem d_WM_fare_41 : decode b_WM_fare 41 = .ok (.iload 4, 2) := by decide +kernel
set_option maxRecDepth 100000 in
theorem d_WM_fare_43 : decode b_WM_fare 43 = .ok (.ifCond .lt 19, 3) := by decide +kernel
set_option maxRecDepth 100000 in
theorem d_WM_fare_46 : decode b_WM_fare 46 = .ok (.iload 4, 2) := by decide +kernel
set_option maxRecDepth 100000 in
theorem d_WM_fare_48 : decode b_WM_fare 48 = .ok (.sipush 6000, 3) := by decide +kernel
set_option maxRecDepth 100000 in
theorem d_WM_fare_51 : decode b_WM_fare 51 = .ok (.if_icmp .ge 11, 3) := by decide +kernel
set_option maxRecDepth 100000 in
theorem d_WM_fare_54 : decode b_WM_fare 54 = .ok (.iload 5, 2) := by decide +kernel
set_option maxRecDepth 100000 in
theorem d_WM_fare_56 : decode b_WM_fare 56 = .ok (.invokestatic 164, 3) := by decide +kernel
set_option maxRecDepth 100000 in
theorem d_WM_fare_59 : decode b_WM_fare 59 = .ok (.ifCond .ne 5, 3) := by decide +kernel
set_option maxRecDepth 100000 in
theorem d_WM_fare_62 : decode b_WM_fare 62 = .ok (.iconst (-1), 1) := by decide +kernel
set_option maxRecDepth 100000 in
theorem d_WM_fare_63 : decode b_WM_fare 63 = .ok (.ireturn, 1) := by decide +kernel
set_option maxRecDepth 100000 in
theorem d_WM_fare_64 : decode b_WM_fare 64 = .ok (.aload_n 0, 1) := by decide +kernel
set_option maxRecDepth 100000 in
theorem d_WM_fare_65 : decode b_WM_fare 65 = .ok (.aload 6, 2) := by decide +kernel
set_option maxRecDepth 100000 in
theorem d_WM_fare_67 : decode b_WM_fare 67 = .ok (.iload_n 2, 1) := by decide +kernel
set_option maxRecDepth 100000 in
theorem d_WM_fare_68 : decode b_WM_fare 68 = .ok (.iload_n 3, 1) := by decide +kernel
set_option maxRecDepth 100000 in
theorem d_WM_fare_69 : decode b_WM_fare 69 = .ok (.iload 4, 2) := by decide +kernel
set_option maxRecDepth 100000 in
theorem d_WM_fare_71 : decode b_WM_fare 71 = .ok (.iload 5, 2) := by decide +kernel
set_option maxRecDepth 100000 in
theorem d_WM_fare_73 : decode b_WM_fare 73 = .ok (.invokevirtual 230, 3) := by decide +kernel
set_option maxRecDepth 100000 in
theorem d_WM_fare_76 : decode b_WM_fare 76 = .ok (.istore 7, 2) := by decide +kernel
set_option maxRecDepth 100000 in
theorem d_WM_fare_78 : decode b_WM_fare 78 = .ok (.iload 7, 2) := by decide +kernel
set_option maxRecDepth 100000 in
theorem d_WM_fare_80 : decode b_WM_fare 80 = .ok (.iconst (-1), 1) := by decide +kernel
set_option maxRecDepth 100000 in
theorem d_WM_fare_81 : decode b_WM_fare 81 = .ok (.if_icmp .ne 8, 3) := by decide +kernel
set_option maxRecDepth 100000 in
theorem d_WM_fare_84 : decode b_WM_fare 84 = .ok (.bipush (-2), 2) := by decide +kernel
set_option maxRecDepth 100000 in
theorem d_WM_fare_86 : decode b_WM_fare 86 = .ok (.goto 5, 3) := by decide +kernel
set_option maxRecDepth 100000 in
theorem d_WM_fare_89 : decode b_WM_fare 89 = .ok (.iload 7, 2) := by decide +kernel
set_option maxRecDepth 100000 in
theorem d_WM_fare_91 : decode b_WM_fare 91 = .ok (.ireturn, 1) := by decide +kernel
set_option maxRecDepth 100000 in
theorem d_WM_feed_0 : decode b_WM_feed 0 = .ok (.aload_n 0, 1) := by decide +kernel
set_option maxRecDepth 100000 in
theorem d_WM_feed_1 : decode b_WM_feed 1 = .ok (.getfield 43, 3) := by decide +kernel
set_option maxRecDepth 100000 in
theorem d_WM_feed_4 : decode b_WM_feed 4 = .ok (.invokevirtual 199, 3) := by decide +kernel
set_option maxRecDepth 100000 in
theorem d_WM_feed_7 : decode b_WM_feed 7 = .ok (.ifCond .ne 6, 3) := by decide +kernel
set_option maxRecDepth 100000 in
theorem d_WM_feed_10 : decode b_WM_feed 10 = .ok (.bipush (-3), 2) := by decide +kernel
set_option maxRecDepth 100000 in
theorem d_WM_feed_12 : decode b_WM_feed 12 = .ok (.ireturn, 1) := by decide +kernel
set_option maxRecDepth 100000 in
theorem d_WM_feed_13 : decode b_WM_feed 13 = .ok (.aload_n 0, 1) := by decide +kernel
set_option maxRecDepth 100000 in
theorem d_WM_feed_14 : decode b_WM_feed 14 = .ok (.getfield 43, 3) := by decide +kernel
set_option maxRecDepth 100000 in
theorem d_WM_feed_17 : decode b_WM_feed 17 = .ok (.iload_n 1, 1) := by decide +kernel
set_option maxRecDepth 100000 in
theorem d_WM_feed_18 : decode b_WM_feed 18 = .ok (.invokevirtual 203, 3) := by decide +kernel
set_option maxRecDepth 100000 in
theorem d_WM_feed_21 : decode b_WM_feed 21 = .ok (.aload_n 0, 1) := by decide +kernel
set_option maxRecDepth 100000 in
theorem d_WM_feed_22 : decode b_WM_feed 22 = .ok (.getfield 43, 3) := by decide +kernel
set_option maxRecDepth 100000 in
theorem d_WM_feed_25 : decode b_WM_feed 25 = .ok (.iload_n 2, 1) := by decide +kernel
set_option maxRecDepth 100000 in
theorem d_WM_feed_26 : decode b_WM_feed 26 = .ok (.invokevirtual 203, 3) := by decide +kernel
set_option maxRecDepth 100000 in
theorem d_WM_feed_29 : decode b_WM_feed 29 = .ok (.aload_n 0, 1) := by decide +kernel
set_option maxRecDepth 100000 in
theorem d_WM_feed_30 : decode b_WM_feed 30 = .ok (.getfield 43, 3) := by decide +kernel
set_option maxRecDepth 100000 in
theorem d_WM_feed_33 : decode b_WM_feed 33 = .ok (.iload_n 3, 1) := by decide +kernel
set_option maxRecDepth 100000 in
theorem d_WM_feed_34 : decode b_WM_feed 34 = .ok (.invokevirtual 203, 3) := by decide +kernel
set_option maxRecDepth 100000 in
theorem d_WM_feed_37 : decode b_WM_feed 37 = .ok (.aload_n 0, 1) := by decide +kernel
set_option maxRecDepth 100000 in
theorem d_WM_feed_38 : decode b_WM_feed 38 = .ok (.getfield 43, 3) := by decide +kernel
set_option maxRecDepth 100000 in
theorem d_WM_feed_41 : decode b_WM_feed 41 = .ok (.iload 4, 2) := by decide +kernel
set_option maxRecDepth 100000 in
theorem d_WM_feed_43 : decode b_WM_feed 43 = .ok (.invokevirtual 203, 3) := by decide +kernel
set_option maxRecDepth 100000 in
theorem d_WM_feed_46 : decode b_WM_feed 46 = .ok (.aload_n 0, 1) := by decide +kernel
set_option maxRecDepth 100000 in
theorem d_WM_feed_47 : decode b_WM_feed 47 = .ok (.getfield 43, 3) := by decide +kernel
set_option maxRecDepth 100000 in
theorem d_WM_feed_50 : decode b_WM_feed 50 = .ok (.iload 5, 2) := by decide +kernel
set_option maxRecDepth 100000 in
theorem d_WM_feed_52 : decode b_WM_feed 52 = .ok (.invokevirtual 203, 3) := by decide +kernel
set_option maxRecDepth 100000 in
theorem d_WM_feed_55 : decode b_WM_feed 55 = .ok (.aload_n 0, 1) := by decide +kernel
set_option maxRecDepth 100000 in
theorem d_WM_feed_56 : decode b_WM_feed 56 = .ok (.getfield 43, 3) := by decide +kernel
set_option maxRecDepth 100000 in
theorem d_WM_feed_59 : decode b_WM_feed 59 = .ok (.getfield 207, 3) := by decide +kernel
set_option maxRecDepth 100000 in
theorem d_WM_feed_62 : decode b_WM_feed 62 = .ok (.ireturn, 1) := by decide +kernel
set_option maxRecDepth 100000 in
theorem d_WM_flow_0 : decode b_WM_flow 0 = .ok (.iload_n 1, 1) := by decide +kernel
set_option maxRecDepth 100000 in
theorem d_WM_flow_1 : decode b_WM_flow 1 = .ok (.invokestatic 75, 3) := by decide +kernel
set_option maxRecDepth 100000 in
theorem d_WM_flow_4 : decode b_WM_flow 4 = .ok (.ifCond .eq 22, 3) := by decide +kernel
set_option maxRecDepth 100000 in
theorem d_WM_flow_7 : decode b_WM_flow 7 = .ok (.iload_n 2, 1) := by decide +kernel
set_option maxRecDepth 100000 in
theorem d_WM_flow_8 : decode b_WM_flow 8 = .ok (.invokestatic 79, 3) := by decide +kernel
set_option maxRecDepth 100000 in
theorem d_WM_flow_11 : decode b_WM_flow 11 = .ok (.ifCond .eq 15, 3) := by decide +kernel
set_option maxRecDepth 100000 in
theorem d_WM_flow_14 : decode b_WM_flow 14 = .ok (.aload_n 0, 1) := by decide +kernel
set_option maxRecDepth 100000 in
theorem d_WM_flow_15 : decode b_WM_flow 15 = .ok (.getfield 12, 3) := by decide +kernel
set_option maxRecDepth 100000 in
theorem d_WM_flow_18 : decode b_WM_flow 18 = .ok (.iload_n 1, 1) := by decide +kernel
set_option maxRecDepth 100000 in
theorem d_WM_flow_19 : decode b_WM_flow 19 = .ok (.iload_n 2, 1) := by decide +kernel
set_option maxRecDepth 100000 in
theorem d_WM_flow_20 : decode b_WM_flow 20 = .ok (.invokevirtual 93, 3) := by decide +kernel
set_option maxRecDepth 100000 in
theorem d_WM_flow_23 : decode b_WM_flow 23 = .ok (.goto 6, 3) := by decide +kernel
set_option maxRecDepth 100000 in
theorem d_WM_flow_26 : decode b_WM_flow 26 = .ok (.sipush (-1000), 3) := by decide +kernel
set_option maxRecDepth 100000 in
theorem d_WM_flow_29 : decode b_WM_flow 29 = .ok (.ireturn, 1) := by decide +kernel
set_option maxRecDepth 100000 in
theorem d_WM_foretold_0 : decode b_WM_foretold 0 = .ok (.aload_n 0, 1) := by decide +kernel
set_option maxRecDepth 100000 in
theorem d_WM_foretold_1 : decode b_WM_foretold 1 = .ok (.getfield 50, 3) := by decide +kernel
set_option maxRecDepth 100000 in
theorem d_WM_foretold_4 : decode b_WM_foretold 4 = .ok (.aload_n 0, 1) := by decide +kernel
set_option maxRecDepth 100000 in
theorem d_WM_foretold_5 : decode b_WM_foretold 5 = .ok (.invokevirtual 97, 3) := by decide +kernel
set_option maxRecDepth 100000 in
theorem d_WM_foretold_8 : decode b_WM_foretold 8 = .ok (.invokevirtual 322, 3) := by decide +kernel
set_option maxRecDepth 100000 in
theorem d_WM_foretold_11 : decode b_WM_foretold 11 = .ok (.istore_n 1, 1) := by decide +kernel
set_option maxRecDepth 100000 in
theorem d_WM_foretold_12 : decode b_WM_foretold 12 = .ok (.iload_n 1, 1) := by decide +kernel
set_option maxRecDepth 100000 in
theorem d_WM_foretold_13 : decode b_WM_foretold 13 = .ok (.iconst (-1), 1) := by decide +kernel
set_option maxRecDepth 100000 in
theorem d_WM_foretold_14 : decode b_WM_foretold 14 = .ok (.if_icmp .ne 8, 3) := by decide +kernel
set_option maxRecDepth 100000 in
theorem d_WM_foretold_17 : decode b_WM_foretold 17 = .ok (.bipush (-2), 2) := by decide +kernel
set_option maxRecDepth 100000 in
theorem d_WM_foretold_19 : decode b_WM_foretold 19 = .ok (.goto 4, 3) := by decide +kernel
set_option maxRecDepth 100000 in
theorem d_WM_foretold_22 : decode b_WM_foretold 22 = .ok (.iload_n 1, 1) := by decide +kernel
set_option maxRecDepth 100000 in
theorem d_WM_foretold_23 : decode b_WM_foretold 23 = .ok (.ireturn, 1) := by decide +kernel
set_option maxRecDepth 100000 in
theorem d_WM_free_0 : decode b_WM_free 0 = .ok (.aload_n 0, 1) := by decide +kernel
set_option maxRecDepth 100000 in
theorem d_WM_free_1 : decode b_WM_free 1 = .ok (.iload_n 1, 1) := by decide +kernel
set_option maxRecDepth 100000 in
theorem d_WM_free_2 : decode b_WM_free 2 = .ok (.invokevirtual 107, 3) := by decide +kernel
set_option maxRecDepth 100000 in
theorem d_WM_free_5 : decode b_WM_free 5 = .ok (.astore_n 2, 1) := by decide +kernel
set_option maxRecDepth 100000 in
theorem d_WM_free_6 : decode b_WM_free 6 = .ok (.aload_n 2, 1) := by decide +kernel
set_option maxRecDepth 100000 in
theorem d_WM_free_7 : decode b_WM_free 7 = .ok (.ifnonnull 5, 3) := by decide +kernel
set_option maxRecDepth 100000 in
theorem d_WM_free_10 : decode b_WM_free 10 = .ok (.iconst (-1), 1) := by decide +kernel
set_option maxRecDepth 100000 in
theorem d_WM_free_11 : decode b_WM_free 11 = .ok (.ireturn, 1) := by decide +kernel
set_option maxRecDepth 100000 in
theorem d_WM_free_12 : decode b_WM_free 12 = .ok (.aload_n 2, 1) := by decide +kernel
set_option maxRecDepth 100000 in
theorem d_WM_free_13 : decode b_WM_free 13 = .ok (.getfield 111, 3) := by decide +kernel
set_option maxRecDepth 100000 in
theorem d_WM_free_16 : decode b_WM_free 16 = .ok (.ifCond .eq 6, 3) := by decide +kernel
set_option maxRecDepth 100000 in
theorem d_WM_free_19 : decode b_WM_free 19 = .ok (.bipush (-2), 2) := by decide +kernel
set_option maxRecDepth 100000 in
theorem d_WM_free_21 : decode b_WM_free 21 = .ok (.ireturn, 1) := by decide +kernel
set_option maxRecDepth 100000 in
theorem d_WM_free_22 : decode b_WM_free 22 = .ok (.aload_n 2, 1) := by decide +kernel
set_option maxRecDepth 100000 in
theorem d_WM_free_23 : decode b_WM_free 23 = .ok (.iconst 2, 1) := by decide +kernel
set_option maxRecDepth 100000 in
theorem d_WM_free_24 : decode b_WM_free 24 = .ok (.putfield 111, 3) := by decide +kernel
set_option maxRecDepth 100000 in
theorem d_WM_free_27 : decode b_WM_free 27 = .ok (.iconst 1, 1) := by decide +kernel
set_option maxRecDepth 100000 in
theorem d_WM_free_28 : decode b_WM_free 28 = .ok (.ireturn, 1) := by decide +kernel
set_option maxRecDepth 100000 in
theorem d_WM_frost_0 : decode b_WM_frost 0 = .ok (.iload_n 1, 1) := by decide +kernel
set_option maxRecDepth 100000 in
theorem d_WM_frost_1 : decode b_WM_frost 1 = .ok (.invokestatic 75, 3) := by decide +kernel
set_option maxRecDepth 100000 in
theorem d_WM_frost_4 : decode b_WM_frost 4 = .ok (.ifCond .eq 20, 3) := by decide +kernel
set_option maxRecDepth 100000 in
theorem d_WM_frost_7 : decode b_WM_frost 7 = .ok (.iload_n 1, 1) := by decide +kernel
set_option maxRecDepth 100000 in
theorem d_WM_frost_8 : decode b_WM_frost 8 = .ok (.aload_n 0, 1) := by decide +kernel
set_option maxRecDepth 100000 in
theorem d_WM_frost_9 : decode b_WM_frost 9 = .ok (.invokevirtual 97, 3) := by decide +kernel
set_option maxRecDepth 100000 in
theorem d_WM_frost_12 : decode b_WM_frost 12 = .ok (.if_icmp .lt 12, 3) := by decide +kernel
set_option maxRecDepth 100000 in
theorem d_WM_frost_15 : decode b_WM_frost 15 = .ok (.iload_n 2, 1) := by decide +kernel
set_option maxRecDepth 100000 in
theorem d_WM_frost_16 : decode b_WM_frost 16 = .ok (.ifCond .lt 8, 3) := by decide +kernel
set_option maxRecDepth 100000 in
theorem d_WM_frost_19 : decode b_WM_frost 19 = .ok (.iload_n 2, 1) := by decide +kernel
set_option maxRecDepth 100000 in
theorem d_WM_frost_20 : decode b_WM_frost 20 = .ok (.iconst 1, 1) := by decide +kernel
set_option maxRecDepth 100000 in
theorem d_WM_frost_21 : decode b_WM_frost 21 = .ok (.if_icmp .le 5, 3) := by decide +kernel
set_option maxRecDepth 100000 in
theorem d_WM_frost_24 : decode b_WM_frost 24 = .ok (.iconst (-1), 1) := by decide +kernel
set_option maxRecDepth 100000 in
theorem d_WM_frost_25 : decode b_WM_frost 25 = .ok (.ireturn, 1) := by decide +kernel
set_option maxRecDepth 100000 in
theorem d_WM_frost_26 : decode b_WM_frost 26 = .ok (.aload_n 0, 1) := by decide +kernel
set_option maxRecDepth 100000 in
theorem d_WM_frost_27 : decode b_WM_frost 27 = .ok (.getfield 12, 3) := by decide +kernel
set_option maxRecDepth 100000 in
theorem d_WM_frost_30 : decode b_WM_frost 30 = .ok (.iload_n 1, 1) := by decide +kernel
set_option maxRecDepth 100000 in
theorem d_WM_frost_31 : decode b_WM_frost 31 = .ok (.invokevirtual 100, 3) := by decide +kernel
set_option maxRecDepth 100000 in
theorem d_WM_frost_34 : decode b_WM_frost 34 = .ok (.ifCond .eq 7, 3) := by decide +kernel
set_option maxRecDepth 100000 in
theorem d_WM_frost_37 : decode b_WM_frost 37 = .ok (.iconst 1, 1) := by decide +kernel
set_option maxRecDepth 100000 in
theorem d_WM_frost_38 : decode b_WM_frost 38 = .ok (.goto 4, 3) := by decide +kernel
set_option maxRecDepth 100000 in
theorem d_WM_frost_41 : decode b_WM_frost 41 = .ok (.iconst 0, 1) := by decide +kernel
set_option maxRecDepth 100000 in
theorem d_WM_frost_42 : decode b_WM_frost 42 = .ok (.istore_n 3, 1) := by decide +kernel
set_option maxRecDepth 100000 in
theorem d_WM_frost_43 : decode b_WM_frost 43 = .ok (.aload_n 0, 1) := by decide +kernel
set_option maxRecDepth 100000 in
theorem d_WM_frost_44 : decode b_WM_frost 44 = .ok (.getfield 12, 3) := by decide +kernel
set_option maxRecDepth 100000 in
theorem d_WM_frost_47 : decode b_WM_frost 47 = .ok (.getfield 103, 3) := by decide +kernel
set_option maxRecDepth 100000 in
theorem d_WM_frost_50 : decode b_WM_frost 50 = .ok (.iload_n 1, 1) := by decide +kernel
set_option maxRecDepth 100000 in
theorem d_WM_frost_51 : decode b_WM_frost 51 = .ok (.iload_n 2, 1) := by decide +kernel
set_option maxRecDepth 100000 in
theorem d_WM_frost_52 : decode b_WM_frost 52 = .ok (.iconst 1, 1) := by decide +kernel
set_option maxRecDepth 100000 in
theorem d_WM_frost_53 : decode b_WM_frost 53 = .ok (.if_icmp .ne 7, 3) := by decide +kernel
set_option maxRecDepth 100000 in
theorem d_WM_frost_56 : decode b_WM_frost 56 = .ok (.iconst 1, 1) := by decide +kernel
set_option maxRecDepth 100000 in
theorem d_WM_frost_57 : decode b_WM_frost 57 = .ok (.goto 4, 3) := by decide +kernel
set_option maxRecDepth 100000 in
theorem d_WM_frost_60 : decode b_WM_frost 60 = .ok (.iconst 0, 1) := by decide +kernel
set_option maxRecDepth 100000 in
theorem d_WM_frost_61 : decode b_WM_frost 61 = .ok (.bastore, 1) := by decide +kernel
set_option maxRecDepth 100000 in
theorem d_WM_frost_62 : decode b_WM_frost 62 = .ok (.iload_n 3, 1) := by decide +kernel
set_option maxRecDepth 100000 in
theorem d_WM_frost_63 : decode b_WM_frost 63 = .ok (.ireturn, 1) := by decide +kernel
set_option maxRecDepth 100000 in
theorem d_WM_hasTurns_0 : decode b_WM_hasTurns 0 = .ok (.iconst 0, 1) := by decide +kernel
set_option maxRecDepth 100000 in
theorem d_WM_hasTurns_1 : decode b_WM_hasTurns 1 = .ok (.istore_n 2, 1) := by decide +kernel
set_option maxRecDepth 100000 in
theorem d_WM_hasTurns_2 : decode b_WM_hasTurns 2 = .ok (.iload_n 2, 1) := by decide +kernel
set_option maxRecDepth 100000 in
theorem d_WM_hasTurns_3 : decode b_WM_hasTurns 3 = .ok (.bipush 40, 2) := by decide +kernel
set_option maxRecDepth 100000 in
theorem d_WM_hasTurns_5 : decode b_WM_hasTurns 5 = .ok (.if_icmp .ge 30, 3) := by decide +kernel
set_option maxRecDepth 100000 in
theorem d_WM_hasTurns_8 : decode b_WM_hasTurns 8 = .ok (.aload_n 0, 1) := by decide +kernel
set_option maxRecDepth 100000 in
theorem d_WM_hasTurns_9 : decode b_WM_hasTurns 9 = .ok (.getfield 18, 3) := by decide +kernel
set_option maxRecDepth 100000 in
theorem d_WM_hasTurns_12 : decode b_WM_hasTurns 12 = .ok (.iload_n 2, 1) := by decide +kernel
set_option maxRecDepth 100000 in
theorem d_WM_hasTurns_13 : decode b_WM_hasTurns 13 = .ok (.aaload, 1) := by decide +kernel
set_option maxRecDepth 100000 in
theorem d_WM_hasTurns_14 : decode b_WM_hasTurns 14 = .ok (.astore_n 3, 1) := by decide +kernel
set_option maxRecDepth 100000 in
theorem d_WM_hasTurns_15 : decode b_WM_hasTurns 15 = .ok (.aload_n 3, 1) := by decide +kernel
set_option maxRecDepth 100000 in
theorem d_WM_hasTurns_16 : decode b_WM_hasTurns 16 = .ok (.ifnull 13, 3) := by decide +kernel
set_option maxRecDepth 100000 in
theorem d_WM_hasTurns_19 : decode b_WM_hasTurns 19 = .ok (.aload_n 3, 1) := by decide +kernel
set_option maxRecDepth 100000 in
theorem d_WM_hasTurns_20 : decode b_WM_hasTurns 20 = .ok (.getfield 145, 3) := by decide +kernel
set_option maxRecDepth 100000 in
theorem d_WM_hasTurns_23 : decode b_WM_hasTurns 23 = .ok (.iload_n 1, 1) := by decide +kernel
set_option maxRecDepth 100000 in
theorem d_WM_hasTurns_24 : decode b_WM_hasTurns 24 = .ok (.if_icmp .ne 5, 3) := by decide +kernel
set_option maxRecDepth 100000 in
theorem d_WM_hasTurns_27 : decode b_WM_hasTurns 27 = .ok (.iconst 1, 1) := by decide +kernel
set_option maxRecDepth 100000 in
theorem d_WM_hasTurns_28 : decode b_WM_hasTurns 28 = .ok (.ireturn, 1) := by decide +kernel
set_option maxRecDepth 100000 in
theorem d_WM_hasTurns_29 : decode b_WM_hasTurns 29 = .ok (.iinc 2 1, 3) := by decide +kernel
set_option maxRecDepth 100000 in
theorem d_WM_hasTurns_32 : decode b_WM_hasTurns 32 = .ok (.goto (-30), 3) := by decide +kernel
set_option maxRecDepth 100000 in
theorem d_WM_hasTurns_35 : decode b_WM_hasTurns 35 = .ok (.iconst 0, 1) := by decide +kernel
set_option maxRecDepth 100000 in
theorem d_WM_hasTurns_36 : decode b_WM_hasTurns 36 = .ok (.ireturn, 1) := by decide +kernel
set_option maxRecDepth 100000 in
theorem d_WM_hindrance_0 : decode b_WM_hindrance 0 = .ok (.aload_n 0, 1) := by decide +kernel
set_option maxRecDepth 100000 in
theorem d_WM_hindrance_1 : decode b_WM_hindrance 1 = .ok (.invokevirtual 97, 3) := by decide +kernel
set_option maxRecDepth 100000 in
theorem d_WM_hindrance_4 : decode b_WM_hindrance 4 = .ok (.istore 4, 2) := by decide +kernel
set_option maxRecDepth 100000 in
theorem d_WM_hindrance_6 : decode b_WM_hindrance 6 = .ok (.aload_n 0, 1) := by decide +kernel
set_option maxRecDepth 100000 in
theorem d_WM_hindrance_7 : decode b_WM_hindrance 7 = .ok (.getfield 12, 3) := by decide +kernel
set_option maxRecDepth 100000 in
theorem d_WM_hindrance_10 : decode b_WM_hindrance 10 = .ok (.iload 4, 2) := by decide +kernel
set_option maxRecDepth 100000 in
theorem d_WM_hindrance_12 : decode b_WM_hindrance 12 = .ok (.invokevirtual 100, 3) := by decide +kernel
set_option maxRecDepth 100000 in
theorem d_WM_hindrance_15 : decode b_WM_hindrance 15 = .ok (.ifCond .eq 5, 3) := by decide +kernel
set_option maxRecDepth 100000 in
theorem d_WM_hindrance_18 : decode b_WM_hindrance 18 = .ok (.iconst 1, 1) := by decide +kernel
set_option maxRecDepth 100000 in
theorem d_WM_hindrance_19 : decode b_WM_hindrance 19 = .ok (.ireturn, 1) := by decide +kernel
set_option maxRecDepth 100000 in
theorem d_WM_hindrance_20 : decode b_WM_hindrance 20 = .ok (.aload_n 1, 1) := by decide +kernel
set_option maxRecDepth 100000 in
theorem d_WM_hindrance_21 : decode b_WM_hindrance 21 = .ok (.aload_n 0, 1) := by decide +kernel
set_option maxRecDepth 100000 in
theorem d_WM_hindrance_22 : decode b_WM_hindrance 22 = .ok (.getfield 155, 3) := by decide +kernel
set_option maxRecDepth 100000 in
theorem d_WM_hindrance_25 : decode b_WM_hindrance 25 = .ok (.invokevirtual 187, 3) := by decide +kernel
set_option maxRecDepth 100000 in
theorem d_WM_hindrance_28 : decode b_WM_hindrance 28 = .ok (.iconst 1, 1) := by decide +kernel
set_option maxRecDepth 100000 in
theorem d_WM_hindrance_29 : decode b_WM_hindrance 29 = .ok (.if_icmp .ne 5, 3) := by decide +kernel
set_option maxRecDepth 100000 in
theorem d_WM_hindrance_32 : decode b_WM_hindrance 32 = .ok (.iconst 2, 1) := by decide +kernel
set_option maxRecDepth 100000 in
theorem d_WM_hindrance_33 : decode b_WM_hindrance 33 = .ok (.ireturn, 1) := by decide +kernel
set_option maxRecDepth 100000 in
theorem d_WM_hindrance_34 : decode b_WM_hindrance 34 = .ok (.aload_n 2, 1) := by decide +kernel
set_option maxRecDepth 100000 in
theorem d_WM_hindrance_35 : decode b_WM_hindrance 35 = .ok (.getfield 111, 3) := by decide +kernel
set_option maxRecDepth 100000 in
theorem d_WM_hindrance_38 : decode b_WM_hindrance 38 = .ok (.iconst 2, 1) := by decide +kernel
set_option maxRecDepth 100000 in
theorem d_WM_hindrance_39 : decode b_WM_hindrance 39 = .ok (.if_icmp .ne 14, 3) := by decide +kernel
set_option maxRecDepth 100000 in
theorem d_WM_hindrance_42 : decode b_WM_hindrance 42 = .ok (.aload_n 2, 1) := by decide +kernel
set_option maxRecDepth 100000 in
theorem d_WM_hindrance_43 : decode b_WM_hindrance 43 = .ok (.aload_n 0, 1) := by decide +kernel
set_option maxRecDepth 100000 in
theorem d_WM_hindrance_44 : decode b_WM_hindrance 44 = .ok (.getfield 155, 3) := by decide +kernel
set_option maxRecDepth 100000 in
theorem d_WM_hindrance_47 : decode b_WM_hindrance 47 = .ok (.invokevirtual 158, 3) := by decide +kernel
set_option maxRecDepth 100000 in
theorem d_WM_hindrance_50 : decode b_WM_hindrance 50 = .ok (.ifCond .eq 5, 3) := by decide +kernel
set_option maxRecDepth 100000 in
theorem d_WM_hindrance_53 : decode b_WM_hindrance 53 = .ok (.iconst 3, 1) := by decide +kernel
set_option maxRecDepth 100000 in
theorem d_WM_hindrance_54 : decode b_WM_hindrance 54 = .ok (.ireturn, 1) := by decide +kernel
set_option maxRecDepth 100000 in
theorem d_WM_hindrance_55 : decode b_WM_hindrance 55 = .ok (.aload_n 0, 1) := by decide +kernel
set_option maxRecDepth 100000 in
theorem d_WM_hindrance_56 : decode b_WM_hindrance 56 = .ok (.aload_n 2, 1) := by decide +kernel
set_option maxRecDepth 100000 in
theorem d_WM_hindrance_57 : decode b_WM_hindrance 57 = .ok (.aload_n 1, 1) := by decide +kernel
set_option maxRecDepth 100000 in
theorem d_WM_hindrance_58 : decode b_WM_hindrance 58 = .ok (.getfield 178, 3) := by decide +kernel
set_option maxRecDepth 100000 in
theorem d_WM_hindrance_61 : decode b_WM_hindrance 61 = .ok (.invokevirtual 375, 3) := by decide +kernel
set_option maxRecDepth 100000 in
theorem d_WM_hindrance_64 : decode b_WM_hindrance 64 = .ok (.ifCond .eq 5, 3) := by decide +kernel
set_option maxRecDepth 100000 in
theorem d_WM_hindrance_67 : decode b_WM_hindrance 67 = .ok (.iconst 4, 1) := by decide +kernel
set_option maxRecDepth 100000 in
theorem d_WM_hindrance_68 : decode b_WM_hindrance 68 = .ok (.ireturn, 1) := by decide +kernel
set_option maxRecDepth 100000 in
theorem d_WM_hindrance_69 : decode b_WM_hindrance 69 = .ok (.aload_n 0, 1) := by decide +kernel
