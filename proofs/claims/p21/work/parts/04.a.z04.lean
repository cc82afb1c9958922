set_option maxRecDepth 100000 in
theorem d_WM_craft_1 : decode b_WM_craft 1 = .ok (.iload_n 1, 1) := by decide +kernel
set_option maxRecDepth 100000 in
theorem d_WM_craft_2 : decode b_WM_craft 2 = .ok (.invokevirtual 174, 3) := by decide +kernel
set_option maxRecDepth 100000 in
theorem d_WM_craft_5 : decode b_WM_craft 5 = .ok (.astore_n 3, 1) := by decide +kernel
set_option maxRecDepth 100000 in
theorem d_WM_craft_6 : decode b_WM_craft 6 = .ok (.aload_n 3, 1) := by decide +kernel
set_option maxRecDepth 100000 in
theorem d_WM_craft_7 : decode b_WM_craft 7 = .ok (.ifnonnull 5, 3) := by decide +kernel
set_option maxRecDepth 100000 in
theorem d_WM_craft_10 : decode b_WM_craft 10 = .ok (.iconst (-1), 1) := by decide +kernel
set_option maxRecDepth 100000 in
theorem d_WM_craft_11 : decode b_WM_craft 11 = .ok (.ireturn, 1) := by decide +kernel
set_option maxRecDepth 100000 in
theorem d_WM_craft_12 : decode b_WM_craft 12 = .ok (.iload_n 2, 1) := by decide +kernel
set_option maxRecDepth 100000 in
theorem d_WM_craft_13 : decode b_WM_craft 13 = .ok (.tableswitch 80 0 4 #[35, 40, 45, 50, 71], 35) := by decide +kernel
set_option maxRecDepth 100000 in
theorem d_WM_craft_48 : decode b_WM_craft 48 = .ok (.aload_n 3, 1) := by decide +kernel
set_option maxRecDepth 100000 in
theorem d_WM_craft_49 : decode b_WM_craft 49 = .ok (.getfield 178, 3) := by decide +kernel
set_option maxRecDepth 100000 in
theorem d_WM_craft_52 : decode b_WM_craft 52 = .ok (.ireturn, 1) := by decide +kernel
set_option maxRecDepth 100000 in
theorem d_WM_craft_53 : decode b_WM_craft 53 = .ok (.aload_n 3, 1) := by decide +kernel
set_option maxRecDepth 100000 in
theorem d_WM_craft_54 : decode b_WM_craft 54 = .ok (.getfield 181, 3) := by decide +kernel
set_option maxRecDepth 100000 in
theorem d_WM_craft_57 : decode b_WM_craft 57 = .ok (.ireturn, 1) := by decide +kernel
set_option maxRecDepth 100000 in
theorem d_WM_craft_58 : decode b_WM_craft 58 = .ok (.aload_n 3, 1) := by decide +kernel
set_option maxRecDepth 100000 in
theorem d_WM_craft_59 : decode b_WM_craft 59 = .ok (.getfield 184, 3) := by decide +kernel
set_option maxRecDepth 100000 in
theorem d_WM_craft_62 : decode b_WM_craft 62 = .ok (.ireturn, 1) := by decide +kernel
set_option maxRecDepth 100000 in
theorem d_WM_craft_63 : decode b_WM_craft 63 = .ok (.aload_n 3, 1) := by decide +kernel
set_option maxRecDepth 100000 in
theorem d_WM_craft_64 : decode b_WM_craft 64 = .ok (.aload_n 0, 1) := by decide +kernel
set_option maxRecDepth 100000 in
theorem d_WM_craft_65 : decode b_WM_craft 65 = .ok (.getfield 155, 3) := by decide +kernel
set_option maxRecDepth 100000 in
theorem d_WM_craft_68 : decode b_WM_craft 68 = .ok (.invokevirtual 187, 3) := by decide +kernel
set_option maxRecDepth 100000 in
theorem d_WM_craft_71 : decode b_WM_craft 71 = .ok (.iconst 1, 1) := by decide +kernel
set_option maxRecDepth 100000 in
theorem d_WM_craft_72 : decode b_WM_craft 72 = .ok (.if_icmp .ne 10, 3) := by decide +kernel
set_option maxRecDepth 100000 in
theorem d_WM_craft_75 : decode b_WM_craft 75 = .ok (.aload_n 3, 1) := by decide +kernel
set_option maxRecDepth 100000 in
theorem d_WM_craft_76 : decode b_WM_craft 76 = .ok (.getfield 190, 3) := by decide +kernel
set_option maxRecDepth 100000 in
theorem d_WM_craft_79 : decode b_WM_craft 79 = .ok (.goto 4, 3) := by decide +kernel
set_option maxRecDepth 100000 in
theorem d_WM_craft_82 : decode b_WM_craft 82 = .ok (.iconst (-1), 1) := by decide +kernel
set_option maxRecDepth 100000 in
theorem d_WM_craft_83 : decode b_WM_craft 83 = .ok (.ireturn, 1) := by decide +kernel
set_option maxRecDepth 100000 in
theorem d_WM_craft_84 : decode b_WM_craft 84 = .ok (.aload_n 3, 1) := by decide +kernel
set_option maxRecDepth 100000 in
theorem d_WM_craft_85 : decode b_WM_craft 85 = .ok (.aload_n 0, 1) := by decide +kernel
set_option maxRecDepth 100000 in
theorem d_WM_craft_86 : decode b_WM_craft 86 = .ok (.getfield 155, 3) := by decide +kernel
set_option maxRecDepth 100000 in
theorem d_WM_craft_89 : decode b_WM_craft 89 = .ok (.invokevirtual 187, 3) := by decide +kernel
set_option maxRecDepth 100000 in
theorem d_WM_craft_92 : decode b_WM_craft 92 = .ok (.ireturn, 1) := by decide +kernel
set_option maxRecDepth 100000 in
theorem d_WM_craft_93 : decode b_WM_craft 93 = .ok (.iconst (-1), 1) := by decide +kernel
set_option maxRecDepth 100000 in
theorem d_WM_craft_94 : decode b_WM_craft 94 = .ok (.ireturn, 1) := by decide +kernel
set_option maxRecDepth 100000 in
theorem d_WM_due_0 : decode b_WM_due 0 = .ok (.aload_n 0, 1) := by decide +kernel
set_option maxRecDepth 100000 in
theorem d_WM_due_1 : decode b_WM_due 1 = .ok (.iload_n 1, 1) := by decide +kernel
set_option maxRecDepth 100000 in
theorem d_WM_due_2 : decode b_WM_due 2 = .ok (.invokevirtual 293, 3) := by decide +kernel
set_option maxRecDepth 100000 in
theorem d_WM_due_5 : decode b_WM_due 5 = .ok (.astore_n 3, 1) := by decide +kernel
set_option maxRecDepth 100000 in
theorem d_WM_due_6 : decode b_WM_due 6 = .ok (.aload_n 3, 1) := by decide +kernel
set_option maxRecDepth 100000 in
theorem d_WM_due_7 : decode b_WM_due 7 = .ok (.ifnull 10, 3) := by decide +kernel
set_option maxRecDepth 100000 in
theorem d_WM_due_10 : decode b_WM_due 10 = .ok (.iload_n 2, 1) := by decide +kernel
set_option maxRecDepth 100000 in
theorem d_WM_due_11 : decode b_WM_due 11 = .ok (.invokestatic 75, 3) := by decide +kernel
set_option maxRecDepth 100000 in
theorem d_WM_due_14 : decode b_WM_due 14 = .ok (.ifCond .ne 8, 3) := by decide +kernel
set_option maxRecDepth 100000 in
theorem d_WM_due_17 : decode b_WM_due 17 = .ok (.bipush (-2), 2) := by decide +kernel
set_option maxRecDepth 100000 in
theorem d_WM_due_19 : decode b_WM_due 19 = .ok (.goto 9, 3) := by decide +kernel
set_option maxRecDepth 100000 in
theorem d_WM_due_22 : decode b_WM_due 22 = .ok (.aload_n 0, 1) := by decide +kernel
set_option maxRecDepth 100000 in
theorem d_WM_due_23 : decode b_WM_due 23 = .ok (.aload_n 3, 1) := by decide +kernel
set_option maxRecDepth 100000 in
theorem d_WM_due_24 : decode b_WM_due 24 = .ok (.iload_n 2, 1) := by decide +kernel
set_option maxRecDepth 100000 in
theorem d_WM_due_25 : decode b_WM_due 25 = .ok (.invokevirtual 315, 3) := by decide +kernel
set_option maxRecDepth 100000 in
theorem d_WM_due_28 : decode b_WM_due 28 = .ok (.ireturn, 1) := by decide +kernel
set_option maxRecDepth 100000 in
theorem d_WM_dueOf_0 : decode b_WM_dueOf 0 = .ok (.aload_n 0, 1) := by decide +kernel
set_option maxRecDepth 100000 in
theorem d_WM_dueOf_1 : decode b_WM_dueOf 1 = .ok (.aload_n 0, 1) := by decide +kernel
set_option maxRecDepth 100000 in
theorem d_WM_dueOf_2 : decode b_WM_dueOf 2 = .ok (.aload_n 1, 1) := by decide +kernel
set_option maxRecDepth 100000 in
theorem d_WM_dueOf_3 : decode b_WM_dueOf 3 = .ok (.getfield 309, 3) := by decide +kernel
set_option maxRecDepth 100000 in
theorem d_WM_dueOf_6 : decode b_WM_dueOf 6 = .ok (.sipush 720, 3) := by decide +kernel
set_option maxRecDepth 100000 in
theorem d_WM_dueOf_9 : decode b_WM_dueOf 9 = .ok (.idiv, 1) := by decide +kernel
set_option maxRecDepth 100000 in
theorem d_WM_dueOf_10 : decode b_WM_dueOf 10 = .ok (.iload_n 2, 1) := by decide +kernel
set_option maxRecDepth 100000 in
theorem d_WM_dueOf_11 : decode b_WM_dueOf 11 = .ok (.invokevirtual 223, 3) := by decide +kernel
set_option maxRecDepth 100000 in
theorem d_WM_dueOf_14 : decode b_WM_dueOf 14 = .ok (.invokevirtual 226, 3) := by decide +kernel
set_option maxRecDepth 100000 in
theorem d_WM_dueOf_17 : decode b_WM_dueOf 17 = .ok (.astore_n 3, 1) := by decide +kernel
set_option maxRecDepth 100000 in
theorem d_WM_dueOf_18 : decode b_WM_dueOf 18 = .ok (.aload_n 0, 1) := by decide +kernel
set_option maxRecDepth 100000 in
theorem d_WM_dueOf_19 : decode b_WM_dueOf 19 = .ok (.aload_n 1, 1) := by decide +kernel
set_option maxRecDepth 100000 in
theorem d_WM_dueOf_20 : decode b_WM_dueOf 20 = .ok (.getfield 303, 3) := by decide +kernel
set_option maxRecDepth 100000 in
theorem d_WM_dueOf_23 : decode b_WM_dueOf 23 = .ok (.invokevirtual 174, 3) := by decide +kernel
set_option maxRecDepth 100000 in
theorem d_WM_dueOf_26 : decode b_WM_dueOf 26 = .ok (.astore 4, 2) := by decide +kernel
set_option maxRecDepth 100000 in
theorem d_WM_dueOf_28 : decode b_WM_dueOf 28 = .ok (.aload_n 3, 1) := by decide +kernel
set_option maxRecDepth 100000 in
theorem d_WM_dueOf_29 : decode b_WM_dueOf 29 = .ok (.ifnull 8, 3) := by decide +kernel
set_option maxRecDepth 100000 in
theorem d_WM_dueOf_32 : decode b_WM_dueOf 32 = .ok (.aload 4, 2) := by decide +kernel
set_option maxRecDepth 100000 in
theorem d_WM_dueOf_34 : decode b_WM_dueOf 34 = .ok (.ifnonnull 5, 3) := by decide +kernel
set_option maxRecDepth 100000 in
theorem d_WM_dueOf_37 : decode b_WM_dueOf 37 = .ok (.iconst (-1), 1) := by decide +kernel
set_option maxRecDepth 100000 in
theorem d_WM_dueOf_38 : decode b_WM_dueOf 38 = .ok (.ireturn, 1) := by decide +kernel
set_option maxRecDepth 100000 in
theorem d_WM_dueOf_39 : decode b_WM_dueOf 39 = .ok (.aload_n 0, 1) := by decide +kernel
set_option maxRecDepth 100000 in
theorem d_WM_dueOf_40 : decode b_WM_dueOf 40 = .ok (.aload_n 3, 1) := by decide +kernel
set_option maxRecDepth 100000 in
theorem d_WM_dueOf_41 : decode b_WM_dueOf 41 = .ok (.aload_n 1, 1) := by decide +kernel
set_option maxRecDepth 100000 in
theorem d_WM_dueOf_42 : decode b_WM_dueOf 42 = .ok (.getfield 247, 3) := by decide +kernel
set_option maxRecDepth 100000 in
theorem d_WM_dueOf_45 : decode b_WM_dueOf 45 = .ok (.aload_n 1, 1) := by decide +kernel
set_option maxRecDepth 100000 in
theorem d_WM_dueOf_46 : decode b_WM_dueOf 46 = .ok (.getfield 250, 3) := by decide +kernel
set_option maxRecDepth 100000 in
theorem d_WM_dueOf_49 : decode b_WM_dueOf 49 = .ok (.aload_n 1, 1) := by decide +kernel
set_option maxRecDepth 100000 in
theorem d_WM_dueOf_50 : decode b_WM_dueOf 50 = .ok (.getfield 309, 3) := by decide +kernel
set_option maxRecDepth 100000 in
theorem d_WM_dueOf_53 : decode b_WM_dueOf 53 = .ok (.bipush 60, 2) := by decide +kernel
set_option maxRecDepth 100000 in
theorem d_WM_dueOf_55 : decode b_WM_dueOf 55 = .ok (.idiv, 1) := by decide +kernel
set_option maxRecDepth 100000 in
theorem d_WM_dueOf_56 : decode b_WM_dueOf 56 = .ok (.aload 4, 2) := by decide +kernel
set_option maxRecDepth 100000 in
theorem d_WM_dueOf_58 : decode b_WM_dueOf 58 = .ok (.getfield 181, 3) := by decide +kernel
set_option maxRecDepth 100000 in
theorem d_WM_dueOf_61 : decode b_WM_dueOf 61 = .ok (.invokevirtual 230, 3) := by decide +kernel
set_option maxRecDepth 100000 in
theorem d_WM_dueOf_64 : decode b_WM_dueOf 64 = .ok (.ireturn, 1) := by decide +kernel
set_option maxRecDepth 100000 in
theorem d_WM_end_0 : decode b_WM_end 0 = .ok (.iload_n 1, 1) := by decide +kernel
set_option maxRecDepth 100000 in
theorem d_WM_end_1 : decode b_WM_end 1 = .ok (.ifCond .lt 14, 3) := by decide +kernel
set_option maxRecDepth 100000 in
theorem d_WM_end_4 : decode b_WM_end 4 = .ok (.iload_n 1, 1) := by decide +kernel
set_option maxRecDepth 100000 in
theorem d_WM_end_5 : decode b_WM_end 5 = .ok (.aload_n 0, 1) := by decide +kernel
set_option maxRecDepth 100000 in
theorem d_WM_end_6 : decode b_WM_end 6 = .ok (.getfield 43, 3) := by decide +kernel
set_option maxRecDepth 100000 in
theorem d_WM_end_9 : decode b_WM_end 9 = .ok (.getfield 207, 3) := by decide +kernel
set_option maxRecDepth 100000 in
theorem d_WM_end_12 : decode b_WM_end 12 = .ok (.if_icmp .le 5, 3) := by decide +kernel
set_option maxRecDepth 100000 in
theorem d_WM_end_15 : decode b_WM_end 15 = .ok (.iconst (-1), 1) := by decide +kernel
set_option maxRecDepth 100000 in
theorem d_WM_end_16 : decode b_WM_end 16 = .ok (.ireturn, 1) := by decide +kernel
set_option maxRecDepth 100000 in
theorem d_WM_end_17 : decode b_WM_end 17 = .ok (.aload_n 0, 1) := by decide +kernel
set_option maxRecDepth 100000 in
theorem d_WM_end_18 : decode b_WM_end 18 = .ok (.getfield 43, 3) := by decide +kernel
set_option maxRecDepth 100000 in
theorem d_WM_end_21 : decode b_WM_end 21 = .ok (.iload_n 1, 1) := by decide +kernel
set_option maxRecDepth 100000 in
theorem d_WM_end_22 : decode b_WM_end 22 = .ok (.putfield 207, 3) := by decide +kernel
set_option maxRecDepth 100000 in
theorem d_WM_end_25 : decode b_WM_end 25 = .ok (.iload_n 1, 1) := by decide +kernel
set_option maxRecDepth 100000 in
theorem d_WM_end_26 : decode b_WM_end 26 = .ok (.ireturn, 1) := by decide +kernel
set_option maxRecDepth 100000 in
theorem d_WM_fare_0 : decode b_WM_fare 0 = .ok (.aload_n 0, 1) := by decide +kernel
set_option maxRecDepth 100000 in
theorem d_WM_fare_1 : decode b_WM_fare 1 = .ok (.iload_n 1, 1) := by decide +kernel
set_option maxRecDepth 100000 in
theorem d_WM_fare_2 : decode b_WM_fare 2 = .ok (.invokevirtual 226, 3) := by decide +kernel
set_option maxRecDepth 100000 in
theorem d_WM_fare_5 : decode b_WM_fare 5 = .ok (.astore 6, 2) := by decide +kernel
set_option maxRecDepth 100000 in
theorem d_WM_fare_7 : decode b_WM_fare 7 = .ok (.aload 6, 2) := by decide +kernel
set_option maxRecDepth 100000 in
theorem d_WM_fare_9 : decode b_WM_fare 9 = .ok (.ifnull 30, 3) := by decide +kernel
set_option maxRecDepth 100000 in
theorem d_WM_fare_12 : decode b_WM_fare 12 = .ok (.aload_n 0, 1) := by decide +kernel
set_option maxRecDepth 100000 in
theorem d_WM_fare_13 : decode b_WM_fare 13 = .ok (.getfield 12, 3) := by decide +kernel
set_option maxRecDepth 100000 in
theorem d_WM_fare_16 : decode b_WM_fare 16 = .ok (.iload_n 2, 1) := by decide +kernel
set_option maxRecDepth 100000 in
theorem d_WM_fare_17 : decode b_WM_fare 17 = .ok (.invokevirtual 167, 3) := by decide +kernel
set_option maxRecDepth 100000 in
theorem d_WM_fare_20 : decode b_WM_fare 20 = .ok (.ifCond .eq 19, 3) := by decide +kernel
set_option maxRecDepth 100000 in
theorem d_WM_fare_23 : decode b_WM_fare 23 = .ok (.aload_n 0, 1) := by decide +kernel
set_option maxRecDepth 100000 in
theorem d_WM_fare_24 : decode b_WM_fare 24 = .ok (.getfield 12, 3) := by decide +kernel
set_option maxRecDepth 100000 in
theorem d_WM_fare_27 : decode b_WM_fare 27 = .ok (.iload_n 3, 1) := by decide +kernel
set_option maxRecDepth 100000 in
theorem d_WM_fare_28 : decode b_WM_fare 28 = .ok (.invokevirtual 167, 3) := by decide +kernel
set_option maxRecDepth 100000 in
theorem d_WM_fare_31 : decode b_WM_fare 31 = .ok (.ifCond .eq 8, 3) := by decide +kernel
set_option maxRecDepth 100000 in
theorem d_WM_fare_34 : decode b_WM_fare 34 = .ok (.iload_n 2, 1) := by decide +kernel
set_option maxRecDepth 100000 in
theorem d_WM_fare_35 : decode b_WM_fare 35 = .ok (.iload_n 3, 1) := by decide +kernel
set_option maxRecDepth 100000 in
theorem d_WM_fare_36 : decode b_WM_fare 36 = .ok (.if_icmp .ne 5, 3) := by decide +kernel
set_option maxRecDepth 100000 in
theorem d_WM_fare_39 : decode b_WM_fare 39 = .ok (.iconst (-1), 1) := by decide +kernel
set_option maxRecDepth 100000 in
theorem d_WM_fare_40 : decode b_WM_fare 40 = .ok (.ireturn, 1) := by decide +kernel
set_option maxRecDepth 100000 in
theorem d_WM_fare_41 : decode b_WM_fare 41 = .ok (.iload 4, 2) := by decide +kernel
set_option maxRecDepth 100000 in
theorem d_WM_fare_43 : decode b_WM_fare 43 = .ok (.ifCond .lt 19, 3) := by decide +kernel
set_option maxRecDepth 100000 in
theorem d_WM_fare_46 : decode b_WM_fare 46 = .ok (.iload 4, 2) := by decide +kernel
set_option maxRecDepth 100000 in
theorem d_WM_fare_48 : decode b_WM_fare 48 = .ok (.sipush 6000, 3) := by decide +kernel
set_option maxRecDepth 100000 in
theorem d_WM_fare_51 : decode b_WM_fare 51 = .ok (.if_icmp .ge 11, 3) := by decide +kernel
set_option maxRecDepth 100000 in
theorem d_WM_fare_54 : decode b_WM_fare 54 = .ok (.iload 5, 2) := by decide +kernel
set_option maxRecDepth 100000 in
theorem d_WM_fare_56 : decode b_WM_fare 56 = .ok (.invokestatic 164, 3) := by decide +kernel
set_option maxRecDepth 100000 in
theorem d_WM_fare_59 : decode b_WM_fare 59 = .ok (.ifCond .ne 5, 3) := by decide +kernel
set_option maxRecDepth 100000 in
theorem d_WM_fare_62 : decode b_WM_fare 62 = .ok (.iconst (-1), 1) := by decide +kernel
set_option maxRecDepth 100000 in
theorem d_WM_fare_63 : decode b_WM_fare 63 = .ok (.ireturn, 1) := by decide +kernel
set_option maxRecDepth 100000 in
theorem d_WM_fare_64 : decode b_WM_fare 64 = .ok (.aload_n 0, 1) := by decide +kernel
set_option maxRecDepth 100000 in
theorem d_WM_fare_65 : decode b_WM_fare 65 = .ok (.aload 6, 2) := by decide +kernel
set_option maxRecDepth 100000 in
theorem d_WM_fare_67 : decode b_WM_fare 67 = .ok (.iload_n 2, 1) := by decide +kernel
set_option maxRecDepth 100000 in
theorem d_WM_fare_68 : decode b_WM_fare 68 = .ok (.iload_n 3, 1) := by decide +kernel
set_option maxRecDepth 100000 in
theorem d_WM_fare_69 : decode b_WM_fare 69 = .ok (.iload 4, 2) := by decide +kernel
set_option maxRecDepth 100000 in
theorem d_WM_fare_71 : decode b_WM_fare 71 = .ok (.iload 5, 2) := by decide +kernel
set_option maxRecDepth 100000 in
theorem d_WM_fare_73 : decode b_WM_fare 73 = .ok (.invokevirtual 230, 3) := by decide +kernel
set_option maxRecDepth 100000 in
theorem d_WM_fare_76 : decode b_WM_fare 76 = .ok (.istore 7, 2) := by decide +kernel
set_option maxRecDepth 100000 in
theorem d_WM_fare_78 : decode b_WM_fare 78 = .ok (.iload 7, 2) := by decide +kernel
set_option maxRecDepth 100000 in
theorem d_WM_fare_80 : decode b_WM_fare 80 = .ok (.iconst (-1), 1) := by decide +kernel
set_option maxRecDepth 100000 in
theorem d_WM_fare_81 : decode b_WM_fare 81 = .ok (.if_icmp .ne 8, 3) := by decide +kernel
set_option maxRecDepth 100000 in
theorem d_WM_fare_84 : decode b_WM_fare 84 = .ok (.bipush (-2), 2) := by decide +kernel
set_option maxRecDepth 100000 in
theorem d_WM_fare_86 : decode b_WM_fare 86 = .ok (.goto 5, 3) := by decide +kernel
set_option maxRecDepth 100000 in
theorem d_WM_fare_89 : decode b_WM_fare 89 = .ok (.iload 7, 2) := by decide +kernel
set_option maxRecDepth 100000 in
theorem d_WM_fare_91 : decode b_WM_fare 91 = .ok (.ireturn, 1) := by decide +kernel
set_option maxRecDepth 100000 in
theorem d_WM_feed_0 : decode b_WM_feed 0 = .ok (.aload_n 0, 1) := by decide +kernel
set_option maxRecDepth 100000 in
theorem d_WM_feed_1 : decode b_WM_feed 1 = .ok (.getfield 43, 3) := by decide +kernel
set_option maxRecDepth 100000 in
theorem d_WM_feed_4 : decode b_WM_feed 4 = .ok (.invokevirtual 199, 3) := by decide +kernel
set_option maxRecDepth 100000 in
theorem d_WM_feed_7 : decode b_WM_feed 7 = .ok (.ifCond .ne 6, 3) := by decide +kernel
set_option maxRecDepth 100000 in
theorem d_WM_feed_10 : decode b_WM_feed 10 = .ok (.bipush (-3), 2) := by decide +kernel
set_option maxRecDepth 100000 in
theorem d_WM_feed_12 : decode b_WM_feed 12 = .ok (.ireturn, 1) := by decide +kernel
set_option maxRecDepth 100000 in
theorem d_WM_feed_13 : decode b_WM_feed 13 = .ok (.aload_n 0, 1) := by decide +kernel
set_option maxRecDepth 100000 in
theorem d_WM_feed_14 : decode b_WM_feed 14 = .ok (.getfield 43, 3) := by decide +kernel
set_option maxRecDepth 100000 in
theorem d_WM_feed_17 : decode b_WM_feed 17 = .ok (.iload_n 1, 1) := by decide +kernel
set_option maxRecDepth 100000 in
theorem d_WM_feed_18 : decode b_WM_feed 18 = .ok (.invokevirtual 203, 3) := by decide +kernel
set_option maxRecDepth 100000 in
theorem d_WM_feed_21 : decode b_WM_feed 21 = .ok (.aload_n 0, 1) := by decide +kernel
set_option maxRecDepth 100000 in
theorem d_WM_feed_22 : decode b_WM_feed 22 = .ok (.getfield 43, 3) := by decide +kernel
set_option maxRecDepth 100000 in
theorem d_WM_feed_25 : decode b_WM_feed 25 = .ok (.iload_n 2, 1) := by decide +kernel
set_option maxRecDepth 100000 in
theorem d_WM_feed_26 : decode b_WM_feed 26 = .ok (.invokevirtual 203, 3) := by decide +kernel
set_option maxRecDepth 100000 in
theorem d_WM_feed_29 : decode b_WM_feed 29 = .ok (.aload_n 0, 1) := by decide +kernel
set_option maxRecDepth 100000 in
theorem d_WM_feed_30 : decode b_WM_feed 30 = .ok (.getfield 43, 3) := by decide +kernel
set_option maxRecDepth 100000 in
theorem d_WM_feed_33 : decode b_WM_feed 33 = .ok (.iload_n 3, 1) := by decide +kernel
set_option maxRecDepth 100000 in
theorem d_WM_feed_34 : decode b_WM_feed 34 = .ok (.invokevirtual 203, 3) := by decide +kernel
set_option maxRecDepth 100000 in
theorem d_WM_feed_37 : decode b_WM_feed 37 = .ok (.aload_n 0, 1) := by decide +kernel
set_option maxRecDepth 100000 in
theorem d_WM_feed_38 : decode b_WM_feed 38 = .ok (.getfield 43, 3) := by decide +kernel
set_option maxRecDepth 100000 in
theorem d_WM_feed_41 : decode b_WM_feed 41 = .ok (.iload 4, 2) := by decide +kernel
set_option maxRecDepth 100000 in
theorem d_WM_feed_43 : decode b_WM_feed 43 = .ok (.invokevirtual 203, 3) := by decide +kernel
set_option maxRecDepth 100000 in
theorem d_WM_feed_46 : decode b_WM_feed 46 = .ok (.aload_n 0, 1) := by decide +kernel
set_option maxRecDepth 100000 in
theorem d_WM_feed_47 : decode b_WM_feed 47 = .ok (.getfield 43, 3) := by decide +kernel
set_option maxRecDepth 100000 in
theorem d_WM_feed_50 : decode b_WM_feed 50 = .ok (.iload 5, 2) := by decide +kernel
set_option maxRecDepth 100000 in
theorem d_WM_feed_52 : decode b_WM_feed 52 = .ok (.invokevirtual 203, 3) := by decide +kernel
set_option maxRecDepth 100000 in
theorem d_WM_feed_55 : decode b_WM_feed 55 = .ok (.aload_n 0, 1) := by decide +kernel
set_option maxRecDepth 100000 in
theorem d_WM_feed_56 : decode b_WM_feed 56 = .ok (.getfield 43, 3) := by decide +kernel
set_option maxRecDepth 100000 in
theorem d_WM_feed_59 : decode b_WM_feed 59 = .ok (.getfield 207, 3) := by decide +kernel
set_option maxRecDepth 100000 in
theorem d_WM_feed_62 : decode b_WM_feed 62 = .ok (.ireturn, 1) := by decide +kernel
set_option maxRecDepth 100000 in
theorem d_WM_flow_0 : decode b_WM_flow 0 = .ok (.iload_n 1, 1) := by decide +kernel
set_option maxRecDepth 100000 in
theorem d_WM_flow_1 : decode b_WM_flow 1 = .ok (.invokestatic 75, 3) := by decide +kernel
set_option maxRecDepth 100000 in
theorem d_WM_flow_4 : decode b_WM_flow 4 = .ok (.ifCond .eq 22, 3) := by decide +kernel
set_option maxRecDepth 100000 in
theorem d_WM_flow_7 : decode b_WM_flow 7 = .ok (.iload_n 2, 1) := by decide +kernel
set_option maxRecDepth 100000 in
theorem d_WM_flow_8 : decode b_WM_flow 8 = .ok (.invokestatic 79, 3) := by decide +kernel
set_option maxRecDepth 100000 in
theorem d_WM_flow_11 : decode b_WM_flow 11 = .ok (.ifCond .eq 15, 3) := by decide +kernel
set_option maxRecDepth 100000 in
theorem d_WM_flow_14 : decode b_WM_flow 14 = .ok (.aload_n 0, 1) := by decide +kernel
set_option maxRecDepth 100000 in
theorem d_WM_flow_15 : decode b_WM_flow 15 = .ok (.getfield 12, 3) := by decide +kernel
set_option maxRecDepth 100000 in
theorem d_WM_flow_18 : decode b_WM_flow 18 = .ok (.iload_n 1, 1) := by decide +kernel
set_option maxRecDepth 100000 in
theorem d_WM_flow_19 : decode b_WM_flow 19 = .ok (.iload_n 2, 1) := by decide +kernel
set_option maxRecDepth 100000 in
theorem d_WM_flow_20 : decode b_WM_flow 20 = .ok (.invokevirtual 93, 3) := by decide +kernel
set_option maxRecDepth 100000 in
theorem d_WM_flow_23 : decode b_WM_flow 23 = .ok (.goto 6, 3) := by decide +kernel
set_option maxRecDepth 100000 in
theorem d_WM_flow_26 : decode b_WM_flow 26 = .ok (.sipush (-1000), 3) := by decide +kernel
set_option maxRecDepth 100000 in
theorem d_WM_flow_29 : decode b_WM_flow 29 = .ok (.ireturn, 1) := by decide +kernel
set_option maxRecDepth 100000 in
theorem d_WM_foretold_0 : decode b_WM_foretold 0 = .ok (.aload_n 0, 1) := by decide +kernel
set_option maxRecDepth 100000 in
theorem d_WM_foretold_1 : decode b_WM_foretold 1 = .ok (.getfield 50, 3) := by decide +kernel
set_option maxRecDepth 100000 in
theorem d_WM_foretold_4 : decode b_WM_foretold 4 = .ok (.aload_n 0, 1) := by decide +kernel
set_option maxRecDepth 100000 in
theorem d_WM_foretold_5 : decode b_WM_foretold 5 = .ok (.invokevirtual 97, 3) := by decide +kernel
set_option maxRecDepth 100000 in
theorem d_WM_foretold_8 : decode b_WM_foretold 8 = .ok (.invokevirtual 322, 3) := by decide +kernel
set_option maxRecDepth 100000 in
theorem d_WM_foretold_11 : decode b_WM_foretold 11 = .ok (.istore_n 1, 1) := by decide +kernel
set_option maxRecDepth 100000 in
theorem d_WM_foretold_12 : decode b_WM_foretold 12 = .ok (.iload_n 1, 1) := by decide +kernel
set_option maxRecDepth 100000 in
theorem d_WM_foretold_13 : decode b_WM_foretold 13 = .ok (.iconst (-1), 1) := by decide +kernel
set_option maxRecDepth 100000 in
theorem d_WM_foretold_14 : decode b_WM_foretold 14 = .ok (.if_icmp .ne 8, 3) := by decide +kernel
set_option maxRecDepth 100000 in
theorem d_WM_foretold_17 : decode b_WM_foretold 17 = .ok (.bipush (-2), 2) := by decide +kernel
set_option maxRecDepth 100000 in
theorem d_WM_foretold_19 : decode b_WM_foretold 19 = .ok (.goto 4, 3) := by decide +kernel
set_option maxRecDepth 100000 in
theorem d_WM_foretold_22 : decode b_WM_foretold 22 = .ok (.iload_n 1, 1) := by decide +kernel
set_option maxRecDepth 100000 in
theorem d_WM_foretold_23 : decode b_WM_foretold 23 = .ok (.ireturn, 1) := by decide +kernel
set_option maxRecDepth 100000 in
theorem d_WM_free_0 : decode b_WM_free 0 = .ok (.aload_n 0, 1) := by decide +kernel
set_option maxRecDepth 100000 in
theorem d_WM_free_1 : decode b_WM_free 1 = .ok (.iload_n 1, 1) := by decide +kernel
set_option maxRecDepth 100000 in
theorem d_WM_free_2 : decode b_WM_free 2 = .ok (.invokevirtual 107, 3) := by decide +kernel
set_option maxRecDepth 100000 in
theorem d_WM_free_5 : decode b_WM_free 5 = .ok (.astore_n 2, 1) := by decide +kernel
set_option maxRecDepth 100000 in
theorem d_WM_free_6 : decode b_WM_free 6 = .ok (.aload_n 2, 1) := by decide +kernel
set_option maxRecDepth 100000 in
theorem d_WM_free_7 : decode b_WM_free 7 = .ok (.ifnonnull 5, 3) := by decide +kernel
set_option maxRecDepth 100000 in
theorem d_WM_free_10 : decode b_WM_free 10 = .ok (.iconst (-1), 1) := by decide +kernel
set_option maxRecDepth 100000 in
theorem d_WM_free_11 : decode b_WM_free 11 = .ok (.ireturn, 1) := by decide +kernel
set_option maxRecDepth 100000 in
theorem d_WM_free_12 : decode b_WM_free 12 = .ok (.aload_n 2, 1) := by decide +kernel
set_option maxRecDepth 100000 in
theorem d_WM_free_13 : decode b_WM_free 13 = .ok (.getfield 111, 3) := by decide +kernel
set_option maxRecDepth 100000 in
theorem d_WM_free_16 : decode b_WM_free 16 = .ok (.ifCond .eq 6, 3) := by decide +kernel
set_option maxRecDepth 100000 in
theorem d_WM_free_19 : decode b_WM_free 19 = .ok (.bipush (-2), 2) := by decide +kernel
set_option maxRecDepth 100000 in
theorem d_WM_free_21 : decode b_WM_free 21 = .ok (.ireturn, 1) := by decide +kernel
set_option maxRecDepth 100000 in
theorem d_WM_free_22 : decode b_WM_free 22 = .ok (.aload_n 2, 1) := by decide +kernel
set_option maxRecDepth 100000 in
theorem d_WM_free_23 : decode b_WM_free 23 = .ok (.iconst 2, 1) := by decide +kernel
set_option maxRecDepth 100000 in
theorem d_WM_free_24 : decode b_WM_free 24 = .ok (.putfield 111, 3) := by decide +kernel
set_option maxRecDepth 100000 in
theorem d_WM_free_27 : decode b_WM_free 27 = .ok (.iconst 1, 1) := by decide +kernel
set_option maxRecDepth 100000 in
theorem d_WM_free_28 : decode b_WM_free 28 = .ok (.ireturn, 1) := by decide +kernel
set_option maxRecDepth 100000 in
theorem d_WM_frost_0 : decode b_WM_frost 0 = .ok (.iload_n 1, 1) := by decide +kernel
set_option maxRecDepth 100000 in
theorem d_WM_frost_1 : decode b_WM_frost 1 = .ok (.invokestatic 75, 3) := by decide +kernel
set_option maxRecDepth 100000 in
theorem d_WM_frost_4 : decode b_WM_frost 4 = .ok (.ifCond .eq 20, 3) := by decide +kernel
set_option maxRecDepth 100000 in
theorem d_WM_frost_7 : decode b_WM_frost 7 = .ok (.iload_n 1, 1) := by decide +kernel
set_option maxRecDepth 100000 in
theorem d_WM_frost_8 : decode b_WM_frost 8 = .ok (.aload_n 0, 1) := by decide +kernel
set_option maxRecDepth 100000 in
theorem d_WM_frost_9 : decode b_WM_frost 9 = .ok (.invokevirtual 97, 3) := by decide +kernel
set_option maxRecDepth 100000 in
theorem d_WM_frost_12 : decode b_WM_frost 12 = .ok (.if_icmp .lt 12, 3) := by decide +kernel
set_option maxRecDepth 100000 in
theorem d_WM_frost_15 : decode b_WM_frost 15 = .ok (.iload_n 2, 1) := by decide +kernel
set_option maxRecDepth 100000 in
theorem d_WM_frost_16 : decode b_WM_frost 16 = .ok (.ifCond .lt 8, 3) := by decide +kernel
set_option maxRecDepth 100000 in
theorem d_WM_frost_19 : decode b_WM_frost 19 = .ok (.iload_n 2, 1) := by decide +kernel
set_option maxRecDepth 100000 in
theorem d_WM_frost_20 : decode b_WM_frost 20 = .ok (.iconst 1, 1) := by decide +kernel
set_option maxRecDepth 100000 in
theorem d_WM_frost_21 : decode b_WM_frost 21 = .ok (.if_icmp .le 5, 3) := by decide +kernel
set_option maxRecDepth 100000 in
theorem d_WM_frost_24 : decode b_WM_frost 24 = .ok (.iconst (-1), 1) := by decide +kernel
set_option maxRecDepth 100000 in
theorem d_WM_frost_25 : decode b_WM_frost 25 = .ok (.ireturn, 1) := by decide +kernel
set_option maxRecDepth 100000 in
theorem d_WM_frost_26 : decode b_WM_frost 26 = .ok (.aload_n 0, 1) := by decide +kernel
set_option maxRecDepth 100000 in
theorem d_WM_frost_27 : decode b_WM_frost 27 = .ok (.getfield 12, 3) := by decide +kernel
set_option maxRecDepth 100000 in
theorem d_WM_frost_30 : decode b_WM_frost 30 = .ok (.iload_n 1, 1) := by decide +kernel
set_option maxRecDepth 100000 in
theorem d_WM_frost_31 : decode b_WM_frost 31 = .ok (.invokevirtual 100, 3) := by decide +kernel
set_option maxRecDepth 100000 in
theorem d_WM_frost_34 : decode b_WM_frost 34 = .ok (.ifCond .eq 7, 3) := by decide +kernel
set_option maxRecDepth 100000 in
theorem d_WM_frost_37 : decode b_WM_frost 37 = .ok (.iconst 1, 1) := by decide +kernel
set_option maxRecDepth 100000 in
theorem d_WM_frost_38 : decode b_WM_frost 38 = .ok (.goto 4, 3) := by decide +kernel
set_option maxRecDepth 100000 in
theorem d_WM_frost_41 : decode b_WM_frost 41 = .ok (.iconst 0, 1) := by decide +kernel
set_option maxRecDepth 100000 in
theorem d_WM_frost_42 : decode b_WM_frost 42 = .ok (.istore_n 3, 1) := by decide +kernel
set_option maxRecDepth 100000 in
theorem d_WM_frost_43 : decode b_WM_frost 43 = .ok (.aload_n 0, 1) := by decide +kernel
set_option maxRecDepth 100000 in
theorem d_WM_frost_44 : decode b_WM_frost 44 = .ok (.getfield 12, 3) := by decide +kernel
set_option maxRecDepth 100000 in
theorem d_WM_frost_47 : decode b_WM_frost 47 = .ok (.getfield 103, 3) := by decide +kernel
set_option maxRecDepth 100000 in
theorem d_WM_frost_50 : decode b_WM_frost 50 = .ok (.iload_n 1, 1) := by decide +kernel
set_option maxRecDepth 100000 in
theorem d_WM_frost_51 : decode b_WM_frost 51 = .ok (.iload_n 2, 1) := by decide +kernel
set_option maxRecDepth 100000 in
theorem d_WM_frost_52 : decode b_WM_frost 52 = .ok (.iconst 1, 1) := by decide +kernel
set_option maxRecDepth 100000 in
theorem d_WM_frost_53 : decode b_WM_frost 53 = .ok (.if_icmp .ne 7, 3) := by decide +kernel
set_option maxRecDepth 100000 in
theorem d_WM_frost_56 : decode b_WM_frost 56 = .ok (.iconst 1, 1) := by decide +kernel
set_option maxRecDepth 100000 in
theorem d_WM_frost_57 : decode b_WM_frost 57 = .ok (.goto 4, 3) := by decide +kernel
set_option maxRecDepth 100000 in
theorem d_WM_frost_60 : decode b_WM_frost 60 = .ok (.iconst 0, 1) := by decide +kernel
set_option maxRecDepth 100000 in
theorem d_WM_frost_61 : decode b_WM_frost 61 = .ok (.bastore, 1) := by decide +kernel
set_option maxRecDepth 100000 in
theorem d_WM_frost_62 : decode b_WM_frost 62 = .ok (.iload_n 3, 1) := by decide +kernel
set_option maxRecDepth 100000 in
theorem d_WM_frost_63 : decode b_WM_frost 63 = .ok (.ireturn, 1) := by decide +kernel
set_option maxRecDepth 100000 in
theorem d_WM_hasTurns_0 : decode b_WM_hasTurns 0 = .ok (.iconst 0, 1) := by decide +kernel
set_option maxRecDepth 100000 in
theorem d_WM_hasTurns_1 : decode b_WM_hasTurns 1 = .ok (.istore_n 2, 1) := by decide +kernel
set_option maxRecDepth 100000 in
theorem d_WM_hasTurns_2 : decode b_WM_hasTurns 2 = .ok (.iload_n 2, 1) := by decide +kernel
set_option maxRecDepth 100000 in
theorem d_WM_hasTurns_3 : decode b_WM_hasTurns 3 = .ok (.bipush 40, 2) := by decide +kernel
set_option maxRecDepth 100000 in
theorem d_WM_hasTurns_5 : decode b_WM_hasTurns 5 = .ok (.if_icmp .ge 30, 3) := by decide +kernel
set_option maxRecDepth 100000 in
theorem d_WM_hasTurns_8 : decode b_WM_hasTurns 8 = .ok (.aload_n 0, 1) := by decide +kernel
set_option maxRecDepth 100000 in
theorem d_WM_hasTurns_9 : decode b_WM_hasTurns 9 = .ok (.getfield 18, 3) := by decide +kernel
set_option maxRecDepth 100000 in
theorem d_WM_hasTurns_12 : decode b_WM_hasTurns 12 = .ok (.iload_n 2, 1) := by decide +kernel
set_option maxRecDepth 100000 in
theorem d_WM_hasTurns_13 : decode b_WM_hasTurns 13 = .ok (.aaload, 1) := by decide +kernel
set_option maxRecDepth 100000 in
theorem d_WM_hasTurns_14 : decode b_WM_hasTurns 14 = .ok (.astore_n 3, 1) := by decide +kernel
set_option maxRecDepth 100000 in
theorem d_WM_hasTurns_15 : decode b_WM_hasTurns 15 = .ok (.aload_n 3, 1) := by decide +kernel
set_option maxRecDepth 100000 in
theorem d_WM_hasTurns_16 : decode b_WM_hasTurns 16 = .ok (.ifnull 13, 3) := by decide +kernel
set_option maxRecDepth 100000 in
theorem d_WM_hasTurns_19 : decode b_WM_hasTurns 19 = .ok (.aload_n 3, 1) := by decide +kernel
set_option maxRecDepth 100000 in
theorem d_WM_hasTurns_20 : decode b_WM_hasTurns 20 = .ok (.getfield 145, 3) := by decide +kernel
set_option maxRecDepth 100000 in
theorem d_WM_hasTurns_23 : decode b_WM_hasTurns 23 = .ok (.iload_n 1, 1) := by decide +kernel
set_option maxRecDepth 100000 in
theorem d_WM_hasTurns_24 : decode b_WM_hasTurns 24 = .ok (.if_icmp .ne 5, 3) := by decide +kernel
set_option maxRecDepth 100000 in
theorem d_WM_hasTurns_27 : decode b_WM_hasTurns 27 = .ok (.iconst 1, 1) := by decide +kernel
set_option maxRecDepth 100000 in
theorem d_WM_hasTurns_28 : decode b_WM_hasTurns 28 = .ok (.ireturn, 1) := by decide +kernel
set_option maxRecDepth 100000 in
theorem d_WM_hasTurns_29 : decode b_WM_hasTurns 29 = .ok (.iinc 2 1, 3) := by decide +kernel
set_option maxRecDepth 100000 in
theorem d_WM_hasTurns_32 : decode b_WM_hasTurns 32 = .ok (.goto (-30), 3) := by decide +kernel
set_option maxRecDepth 100000 in
theorem d_WM_hasTurns_35 : decode b_WM_hasTurns 35 = .ok (.iconst 0, 1) := by decide +kernel
set_option maxRecDepth 100000 in
theorem d_WM_hasTurns_36 : decode b_WM_hasTurns 36 = .ok (.ireturn, 1) := by decide +kernel
set_option maxRecDepth 100000 in
theorem d_WM_hindrance_0 : decode b_WM_hindrance 0 = .ok (.aload_n 0, 1) := by decide +kernel
set_option maxRecDepth 100000 in
theorem d_WM_hindrance_1 : decode b_WM_hindrance 1 = .ok (.invokevirtual 97, 3) := by decide +kernel
set_option maxRecDepth 100000 in
theorem d_WM_hindrance_4 : decode b_WM_hindrance 4 = .ok (.istore 4, 2) := by decide +kernel
set_option maxRecDepth 100000 in
theorem d_WM_hindrance_6 : decode b_WM_hindrance 6 = .ok (.aload_n 0, 1) := by decide +kernel
set_option maxRecDepth 100000 in
theorem d_WM_hindrance_7 : decode b_WM_hindrance 7 = .ok (.getfield 12, 3) := by decide +kernel
set_option maxRecDepth 100000 in
theorem d_WM_hindrance_10 : decode b_WM_hindrance 10 = .ok (.iload 4, 2) := by decide +kernel
set_option maxRecDepth 100000 in
theorem d_WM_hindrance_12 : decode b_WM_hindrance 12 = .ok (.invokevirtual 100, 3) := by decide +kernel
set_option maxRecDepth 100000 in
theorem d_WM_hindrance_15 : decode b_WM_hindrance 15 = .ok (.ifCond .eq 5, 3) := by decide +kernel
set_option maxRecDepth 100000 in
theorem d_WM_hindrance_18 : decode b_WM_hindrance 18 = .ok (.iconst 1, 1) := by decide +kernel
set_option maxRecDepth 100000 in
theorem d_WM_hindrance_19 : decode b_WM_hindrance 19 = .ok (.ireturn, 1) := by decide +kernel
set_option maxRecDepth 100000 in
theorem d_WM_hindrance_20 : decode b_WM_hindrance 20 = .ok (.aload_n 1, 1) := by decide +kernel
set_option maxRecDepth 100000 in
theorem d_WM_hindrance_21 : decode b_WM_hindrance 21 = .ok (.aload_n 0, 1) := by decide +kernel
set_option maxRecDepth 100000 in
theorem d_WM_hindrance_22 : decode b_WM_hindrance 22 = .ok (.getfield 155, 3) := by decide +kernel
set_option maxRecDepth 100000 in
theorem d_WM_hindrance_25 : decode b_WM_hindrance 25 = .ok (.invokevirtual 187, 3) := by decide +kernel
set_option maxRecDepth 100000 in
theorem d_WM_hindrance_28 : decode b_WM_hindrance 28 = .ok (.iconst 1, 1) := by decide +kernel
set_option maxRecDepth 100000 in
theorem d_WM_hindrance_29 : decode b_WM_hindrance 29 = .ok (.if_icmp .ne 5, 3) := by decide +kernel
set_option maxRecDepth 100000 in
theorem d_WM_hindrance_32 : decode b_WM_hindrance 32 = .ok (.iconst 2, 1) := by decide +kernel
set_option maxRecDepth 100000 in
theorem d_WM_hindrance_33 : decode b_WM_hindrance 33 = .ok (.ireturn, 1) := by decide +kernel
set_option maxRecDepth 100000 in
theorem d_WM_hindrance_34 : decode b_WM_hindrance 34 = .ok (.aload_n 2, 1) := by decide +kernel
set_option maxRecDepth 100000 in
theorem d_WM_hindrance_35 : decode b_WM_hindrance 35 = .ok (.getfield 111, 3) := by decide +kernel
set_option maxRecDepth 100000 in
theorem d_WM_hindrance_38 : decode b_WM_hindrance 38 = .ok (.iconst 2, 1) := by decide +kernel
set_option maxRecDepth 100000 in
theorem d_WM_hindrance_39 : decode b_WM_hindrance 39 = .ok (.if_icmp .ne 14, 3) := by decide +kernel
set_option maxRecDepth 100000 in
theorem d_WM_hindrance_42 : decode b_WM_hindrance 42 = .ok (.aload_n 2, 1) := by decide +kernel
set_option maxRecDepth 100000 in
theorem d_WM_hindrance_43 : decode b_WM_hindrance 43 = .ok (.aload_n 0, 1) := by decide +kernel
set_option maxRecDepth 100000 in
theorem d_WM_hindrance_44 : decode b_WM_hindrance 44 = .ok (.getfield 155, 3) := by decide +kernel
set_option maxRecDepth 100000 in
theorem d_WM_hindrance_47 : decode b_WM_hindrance 47 = .ok (.invokevirtual 158, 3) := by decide +kernel
set_option maxRecDepth 100000 in
theorem d_WM_hindrance_50 : decode b_WM_hindrance 50 = .ok (.ifCond .eq 5, 3) := by decide +kernel
set_option maxRecDepth 100000 in
theorem d_WM_hindrance_53 : decode b_WM_hindrance 53 = .ok (.iconst 3, 1) := by decide +kernel
set_option maxRecDepth 100000 in
theorem d_WM_hindrance_54 : decode b_WM_hindrance 54 = .ok (.ireturn, 1) := by decide +kernel
set_option maxRecDepth 100000 in
theorem d_WM_hindrance_55 : decode b_WM_hindrance 55 = .ok (.aload_n 0, 1) := by decide +kernel
set_option maxRecDepth 100000 in
theorem d_WM_hindrance_56 : decode b_WM_hindrance 56 = .ok (.aload_n 2, 1) := by decide +kernel
set_option maxRecDepth 100000 in
theorem d_WM_hindrance_57 : decode b_WM_hindrance 57 = .ok (.aload_n 1, 1) := by decide +kernel
set_option maxRecDepth 100000 in
theorem d_WM_hindrance_58 : decode b_WM_hindrance 58 = .ok (.getfield 178, 3) := by decide +kernel
set_option maxRecDepth 100000 in
theorem d_WM_hindrance_61 : decode b_WM_hindrance 61 = .ok (.invokevirtual 375, 3) := by decide +kernel
set_option maxRecDepth 100000 in
theorem d_WM_hindrance_64 : decode b_WM_hindrance 64 = .ok (.ifCond .eq 5, 3) := by decide +kernel
set_option maxRecDepth 100000 in
theorem d_WM_hindrance_67 : decode b_WM_hindrance 67 = .ok (.iconst 4, 1) := by decide +kernel
set_option maxRecDepth 100000 in
theorem d_WM_hindrance_68 : decode b_WM_hindrance 68 = .ok (.ireturn, 1) := by decide +kernel
set_option maxRecDepth 100000 in
theorem d_WM_hindrance_69 : decode b_WM_hindrance 69 = .ok (.aload_n 0, 1) := by decide +kernel
set_option maxRecDepth 100000 in
theorem d_WM_hindrance_70 : decode b_WM_hindrance 70 = .ok (.aload_n 0, 1) := by decide +kernel
set_option maxRecDepth 100000 in
theorem d_WM_hindrance_71 : decode b_WM_hindrance 71 = .ok (.iload 4, 2) := by decide +kernel
set_option maxRecDepth 100000 in
theorem d_WM_hindrance_73 : decode b_WM_hindrance 73 = .ok (.iload 4, 2) := by decide +kernel
set_option maxRecDepth 100000 in
theorem d_WM_hindrance_75 : decode b_WM_hindrance 75 = .ok (.invokevirtual 223, 3) := by decide +kernel
set_option maxRecDepth 100000 in
theorem d_WM_hindrance_78 : decode b_WM_hindrance 78 = .ok (.invokevirtual 226, 3) := by decide +kernel
set_option maxRecDepth 100000 in
theorem d_WM_hindrance_81 : decode b_WM_hindrance 81 = .ok (.astore 5, 2) := by decide +kernel
set_option maxRecDepth 100000 in
theorem d_WM_hindrance_83 : decode b_WM_hindrance 83 = .ok (.aload 5, 2) := by decide +kernel
set_option maxRecDepth 100000 in
theorem d_WM_hindrance_85 : decode b_WM_hindrance 85 = .ok (.ifnull 29, 3) := by decide +kernel
set_option maxRecDepth 100000 in
theorem d_WM_hindrance_88 : decode b_WM_hindrance 88 = .ok (.aload_n 0, 1) := by decide +kernel
set_option maxRecDepth 100000 in
theorem d_WM_hindrance_89 : decode b_WM_hindrance 89 = .ok (.aload 5, 2) := by decide +kernel
set_option maxRecDepth 100000 in
theorem d_WM_hindrance_91 : decode b_WM_hindrance 91 = .ok (.aload_n 1, 1) := by decide +kernel
set_option maxRecDepth 100000 in
theorem d_WM_hindrance_92 : decode b_WM_hindrance 92 = .ok (.getfield 178, 3) := by decide +kernel
set_option maxRecDepth 100000 in
theorem d_WM_hindrance_95 : decode b_WM_hindrance 95 = .ok (.iload_n 3, 1) := by decide +kernel
set_option maxRecDepth 100000 in
theorem d_WM_hindrance_96 : decode b_WM_hindrance 96 = .ok (.aload_n 0, 1) := by decide +kernel
set_option maxRecDepth 100000 in
theorem d_WM_hindrance_97 : decode b_WM_hindrance 97 = .ok (.getfield 155, 3) := by decide +kernel
set_option maxRecDepth 100000 in
theorem d_WM_hindrance_100 : decode b_WM_hindrance 100 = .ok (.bipush 60, 2) := by decide +kernel
set_option maxRecDepth 100000 in
theorem d_WM_hindrance_102 : decode b_WM_hindrance 102 = .ok (.idiv, 1) := by decide +kernel
set_option maxRecDepth 100000 in
theorem d_WM_hindrance_103 : decode b_WM_hindrance 103 = .ok (.aload_n 1, 1) := by decide +kernel
set_option maxRecDepth 100000 in
theorem d_WM_hindrance_104 : decode b_WM_hindrance 104 = .ok (.getfield 181, 3) := by decide +kernel
set_option maxRecDepth 100000 in
theorem d_WM_hindrance_107 : decode b_WM_hindrance 107 = .ok (.invokevirtual 230, 3) := by decide +kernel
set_option maxRecDepth 100000 in
theorem d_WM_hindrance_110 : decode b_WM_hindrance 110 = .ok (.iconst (-1), 1) := by decide +kernel
set_option maxRecDepth 100000 in
theorem d_WM_hindrance_111 : decode b_WM_hindrance 111 = .ok (.if_icmp .ne 5, 3) := by decide +kernel
set_option maxRecDepth 100000 in
theorem d_WM_hindrance_114 : decode b_WM_hindrance 114 = .ok (.iconst 5, 1) := by decide +kernel
set_option maxRecDepth 100000 in
theorem d_WM_hindrance_115 : decode b_WM_hindrance 115 = .ok (.ireturn, 1) := by decide +kernel
set_option maxRecDepth 100000 in
theorem d_WM_hindrance_116 : decode b_WM_hindrance 116 = .ok (.aload_n 0, 1) := by decide +kernel
set_option maxRecDepth 100000 in
theorem d_WM_hindrance_117 : decode b_WM_hindrance 117 = .ok (.getfield 12, 3) := by decide +kernel
set_option maxRecDepth 100000 in
theorem d_WM_hindrance_120 : decode b_WM_hindrance 120 = .ok (.aload_n 1, 1) := by decide +kernel
set_option maxRecDepth 100000 in
theorem d_WM_hindrance_121 : decode b_WM_hindrance 121 = .ok (.getfield 178, 3) := by decide +kernel
set_option maxRecDepth 100000 in
theorem d_WM_hindrance_124 : decode b_WM_hindrance 124 = .ok (.iload_n 3, 1) := by decide +kernel
set_option maxRecDepth 100000 in
theorem d_WM_hindrance_125 : decode b_WM_hindrance 125 = .ok (.invokevirtual 379, 3) := by decide +kernel
set_option maxRecDepth 100000 in
theorem d_WM_hindrance_128 : decode b_WM_hindrance 128 = .ok (.ifCond .eq 31, 3) := by decide +kernel
set_option maxRecDepth 100000 in
theorem d_WM_hindrance_131 : decode b_WM_hindrance 131 = .ok (.aload 5, 2) := by decide +kernel
set_option maxRecDepth 100000 in
theorem d_WM_hindrance_133 : decode b_WM_hindrance 133 = .ok (.aload_n 0, 1) := by decide +kernel
set_option maxRecDepth 100000 in
theorem d_WM_hindrance_134 : decode b_WM_hindrance 134 = .ok (.invokevirtual 382, 3) := by decide +kernel
set_option maxRecDepth 100000 in
theorem d_WM_hindrance_137 : decode b_WM_hindrance 137 = .ok (.aload_n 0, 1) := by decide +kernel
set_option maxRecDepth 100000 in
theorem d_WM_hindrance_138 : decode b_WM_hindrance 138 = .ok (.getfield 12, 3) := by decide +kernel
set_option maxRecDepth 100000 in
theorem d_WM_hindrance_141 : decode b_WM_hindrance 141 = .ok (.iload 4, 2) := by decide +kernel
set_option maxRecDepth 100000 in
theorem d_WM_hindrance_143 : decode b_WM_hindrance 143 = .ok (.aload_n 0, 1) := by decide +kernel
set_option maxRecDepth 100000 in
theorem d_WM_hindrance_144 : decode b_WM_hindrance 144 = .ok (.invokevirtual 382, 3) := by decide +kernel
set_option maxRecDepth 100000 in
theorem d_WM_hindrance_147 : decode b_WM_hindrance 147 = .ok (.invokevirtual 93, 3) := by decide +kernel
set_option maxRecDepth 100000 in
theorem d_WM_hindrance_150 : decode b_WM_hindrance 150 = .ok (.invokevirtual 385, 3) := by decide +kernel
set_option maxRecDepth 100000 in
theorem d_WM_hindrance_153 : decode b_WM_hindrance 153 = .ok (.ifCond .eq 6, 3) := by decide +kernel
set_option maxRecDepth 100000 in
theorem d_WM_hindrance_156 : decode b_WM_hindrance 156 = .ok (.bipush 6, 2) := by decide +kernel
set_option maxRecDepth 100000 in
theorem d_WM_hindrance_158 : decode b_WM_hindrance 158 = .ok (.ireturn, 1) := by decide +kernel
set_option maxRecDepth 100000 in
theorem d_WM_hindrance_159 : decode b_WM_hindrance 159 = .ok (.aload_n 0, 1) := by decide +kernel
set_option maxRecDepth 100000 in
theorem d_WM_hindrance_160 : decode b_WM_hindrance 160 = .ok (.aload_n 1, 1) := by decide +kernel
set_option maxRecDepth 100000 in
theorem d_WM_hindrance_161 : decode b_WM_hindrance 161 = .ok (.iload_n 3, 1) := by decide +kernel
set_option maxRecDepth 100000 in
theorem d_WM_hindrance_162 : decode b_WM_hindrance 162 = .ok (.invokevirtual 253, 3) := by decide +kernel
set_option maxRecDepth 100000 in
theorem d_WM_hindrance_165 : decode b_WM_hindrance 165 = .ok (.ldc_w 270, 3) := by decide +kernel
set_option maxRecDepth 100000 in
theorem d_WM_hindrance_168 : decode b_WM_hindrance 168 = .ok (.aload_n 0, 1) := by decide +kernel
set_option maxRecDepth 100000 in
theorem d_WM_hindrance_169 : decode b_WM_hindrance 169 = .ok (.getfield 155, 3) := by decide +kernel
set_option maxRecDepth 100000 in
theorem d_WM_hindrance_172 : decode b_WM_hindrance 172 = .ok (.isub, 1) := by decide +kernel
set_option maxRecDepth 100000 in
theorem d_WM_hindrance_173 : decode b_WM_hindrance 173 = .ok (.if_icmp .le 8, 3) := by decide +kernel
set_option maxRecDepth 100000 in
theorem d_WM_hindrance_176 : decode b_WM_hindrance 176 = .ok (.bipush 7, 2) := by decide +kernel
set_option maxRecDepth 100000 in
theorem d_WM_hindrance_178 : decode b_WM_hindrance 178 = .ok (.goto 4, 3) := by decide +kernel
set_option maxRecDepth 100000 in
theorem d_WM_hindrance_181 : decode b_WM_hindrance 181 = .ok (.iconst 0, 1) := by decide +kernel
set_option maxRecDepth 100000 in
theorem d_WM_hindrance_182 : decode b_WM_hindrance 182 = .ok (.ireturn, 1) := by decide +kernel
set_option maxRecDepth 100000 in
theorem d_WM_hourNow_0 : decode b_WM_hourNow 0 = .ok (.aload_n 0, 1) := by decide +kernel
set_option maxRecDepth 100000 in
theorem d_WM_hourNow_1 : decode b_WM_hourNow 1 = .ok (.getfield 155, 3) := by decide +kernel
set_option maxRecDepth 100000 in
theorem d_WM_hourNow_4 : decode b_WM_hourNow 4 = .ok (.bipush 60, 2) := by decide +kernel
set_option maxRecDepth 100000 in
theorem d_WM_hourNow_6 : decode b_WM_hourNow 6 = .ok (.idiv, 1) := by decide +kernel
set_option maxRecDepth 100000 in
theorem d_WM_hourNow_7 : decode b_WM_hourNow 7 = .ok (.bipush 12, 2) := by decide +kernel
set_option maxRecDepth 100000 in
theorem d_WM_hourNow_9 : decode b_WM_hourNow 9 = .ok (.irem, 1) := by decide +kernel
set_option maxRecDepth 100000 in
theorem d_WM_hourNow_10 : decode b_WM_hourNow 10 = .ok (.ireturn, 1) := by decide +kernel
set_option maxRecDepth 100000 in
theorem d_WM_inForce_0 : decode b_WM_inForce 0 = .ok (.iload_n 1, 1) := by decide +kernel
set_option maxRecDepth 100000 in
theorem d_WM_inForce_1 : decode b_WM_inForce 1 = .ok (.invokestatic 75, 3) := by decide +kernel
set_option maxRecDepth 100000 in
theorem d_WM_inForce_4 : decode b_WM_inForce 4 = .ok (.ifCond .eq 19, 3) := by decide +kernel
set_option maxRecDepth 100000 in
theorem d_WM_inForce_7 : decode b_WM_inForce 7 = .ok (.iload_n 2, 1) := by decide +kernel
set_option maxRecDepth 100000 in
theorem d_WM_inForce_8 : decode b_WM_inForce 8 = .ok (.invokestatic 75, 3) := by decide +kernel
set_option maxRecDepth 100000 in
theorem d_WM_inForce_11 : decode b_WM_inForce 11 = .ok (.ifCond .eq 12, 3) := by decide +kernel
set_option maxRecDepth 100000 in
theorem d_WM_inForce_14 : decode b_WM_inForce 14 = .ok (.aload_n 0, 1) := by decide +kernel
set_option maxRecDepth 100000 in
theorem d_WM_inForce_15 : decode b_WM_inForce 15 = .ok (.iload_n 1, 1) := by decide +kernel
set_option maxRecDepth 100000 in
theorem d_WM_inForce_16 : decode b_WM_inForce 16 = .ok (.iload_n 2, 1) := by decide +kernel
set_option maxRecDepth 100000 in
theorem d_WM_inForce_17 : decode b_WM_inForce 17 = .ok (.invokevirtual 223, 3) := by decide +kernel
set_option maxRecDepth 100000 in
theorem d_WM_inForce_20 : decode b_WM_inForce 20 = .ok (.goto 4, 3) := by decide +kernel
set_option maxRecDepth 100000 in
theorem d_WM_inForce_23 : decode b_WM_inForce 23 = .ok (.iconst (-1), 1) := by decide +kernel
set_option maxRecDepth 100000 in
theorem d_WM_inForce_24 : decode b_WM_inForce 24 = .ok (.ireturn, 1) := by decide +kernel
set_option maxRecDepth 100000 in
theorem d_WM_isDay_0 : decode b_WM_isDay 0 = .ok (.iload_n 0, 1) := by decide +kernel
set_option maxRecDepth 100000 in
theorem d_WM_isDay_1 : decode b_WM_isDay 1 = .ok (.ifCond .lt 14, 3) := by decide +kernel
set_option maxRecDepth 100000 in
theorem d_WM_isDay_4 : decode b_WM_isDay 4 = .ok (.iload_n 0, 1) := by decide +kernel
set_option maxRecDepth 100000 in
theorem d_WM_isDay_5 : decode b_WM_isDay 5 = .ok (.sipush 500, 3) := by decide +kernel
