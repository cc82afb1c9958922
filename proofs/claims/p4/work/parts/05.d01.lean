set_option maxRecDepth 100000 in
theorem d_WM_stairs_5 : decode b_WM_stairs 5 = .ok (.bipush 60, 2) := by decide +kernel
set_option maxRecDepth 100000 in
theorem d_WM_stairs_7 : decode b_WM_stairs 7 = .ok (.if_icmp .gt 14, 3) := by decide +kernel
set_option maxRecDepth 100000 in
theorem d_WM_stairs_10 : decode b_WM_stairs 10 = .ok (.iload_n 1, 1) := by decide +kernel
set_option maxRecDepth 100000 in
theorem d_WM_stairs_11 : decode b_WM_stairs 11 = .ok (.aload_n 0, 1) := by decide +kernel
set_option maxRecDepth 100000 in
theorem d_WM_stairs_12 : decode b_WM_stairs 12 = .ok (.getfield 12, 3) := by decide +kernel
set_option maxRecDepth 100000 in
theorem d_WM_stairs_15 : decode b_WM_stairs 15 = .ok (.invokevirtual 60, 3) := by decide +kernel
set_option maxRecDepth 100000 in
theorem d_WM_stairs_18 : decode b_WM_stairs 18 = .ok (.if_icmp .gt 5, 3) := by decide +kernel
set_option maxRecDepth 100000 in
theorem d_WM_stairs_21 : decode b_WM_stairs 21 = .ok (.iconst (-1), 1) := by decide +kernel
set_option maxRecDepth 100000 in
theorem d_WM_stairs_22 : decode b_WM_stairs 22 = .ok (.ireturn, 1) := by decide +kernel
set_option maxRecDepth 100000 in
theorem d_WM_stairs_23 : decode b_WM_stairs 23 = .ok (.aload_n 0, 1) := by decide +kernel
set_option maxRecDepth 100000 in
theorem d_WM_stairs_24 : decode b_WM_stairs 24 = .ok (.getfield 12, 3) := by decide +kernel
set_option maxRecDepth 100000 in
theorem d_WM_stairs_27 : decode b_WM_stairs 27 = .ok (.getfield 64, 3) := by decide +kernel
set_option maxRecDepth 100000 in
theorem d_WM_stairs_30 : decode b_WM_stairs 30 = .ok (.bipush 12, 2) := by decide +kernel
set_option maxRecDepth 100000 in
theorem d_WM_stairs_32 : decode b_WM_stairs 32 = .ok (.if_icmp .lt 8, 3) := by decide +kernel
set_option maxRecDepth 100000 in
theorem d_WM_stairs_35 : decode b_WM_stairs 35 = .ok (.bipush (-3), 2) := by decide +kernel
set_option maxRecDepth 100000 in
theorem d_WM_stairs_37 : decode b_WM_stairs 37 = .ok (.goto 11, 3) := by decide +kernel
set_option maxRecDepth 100000 in
theorem d_WM_stairs_40 : decode b_WM_stairs 40 = .ok (.aload_n 0, 1) := by decide +kernel
set_option maxRecDepth 100000 in
theorem d_WM_stairs_41 : decode b_WM_stairs 41 = .ok (.getfield 12, 3) := by decide +kernel
set_option maxRecDepth 100000 in
theorem d_WM_stairs_44 : decode b_WM_stairs 44 = .ok (.iload_n 1, 1) := by decide +kernel
set_option maxRecDepth 100000 in
theorem d_WM_stairs_45 : decode b_WM_stairs 45 = .ok (.invokevirtual 68, 3) := by decide +kernel
set_option maxRecDepth 100000 in
theorem d_WM_stairs_48 : decode b_WM_stairs 48 = .ok (.ireturn, 1) := by decide +kernel
set_option maxRecDepth 100000 in
theorem d_WM_table_0 : decode b_WM_table 0 = .ok (.iload_n 1, 1) := by decide +kernel
set_option maxRecDepth 100000 in
theorem d_WM_table_1 : decode b_WM_table 1 = .ok (.invokestatic 79, 3) := by decide +kernel
set_option maxRecDepth 100000 in
theorem d_WM_table_4 : decode b_WM_table 4 = .ok (.ifCond .eq 10, 3) := by decide +kernel
set_option maxRecDepth 100000 in
theorem d_WM_table_7 : decode b_WM_table 7 = .ok (.iload_n 2, 1) := by decide +kernel
set_option maxRecDepth 100000 in
theorem d_WM_table_8 : decode b_WM_table 8 = .ok (.invokestatic 82, 3) := by decide +kernel
set_option maxRecDepth 100000 in
theorem d_WM_table_11 : decode b_WM_table 11 = .ok (.ifCond .ne 7, 3) := by decide +kernel
set_option maxRecDepth 100000 in
theorem d_WM_table_14 : decode b_WM_table 14 = .ok (.sipush (-1000), 3) := by decide +kernel
set_option maxRecDepth 100000 in
theorem d_WM_table_17 : decode b_WM_table 17 = .ok (.ireturn, 1) := by decide +kernel
set_option maxRecDepth 100000 in
theorem d_WM_table_18 : decode b_WM_table 18 = .ok (.aload_n 0, 1) := by decide +kernel
set_option maxRecDepth 100000 in
theorem d_WM_table_19 : decode b_WM_table 19 = .ok (.getfield 12, 3) := by decide +kernel
set_option maxRecDepth 100000 in
theorem d_WM_table_22 : decode b_WM_table 22 = .ok (.getfield 89, 3) := by decide +kernel
set_option maxRecDepth 100000 in
theorem d_WM_table_25 : decode b_WM_table 25 = .ok (.iload_n 1, 1) := by decide +kernel
set_option maxRecDepth 100000 in
theorem d_WM_table_26 : decode b_WM_table 26 = .ok (.iaload, 1) := by decide +kernel
set_option maxRecDepth 100000 in
theorem d_WM_table_27 : decode b_WM_table 27 = .ok (.istore_n 3, 1) := by decide +kernel
set_option maxRecDepth 100000 in
theorem d_WM_table_28 : decode b_WM_table 28 = .ok (.aload_n 0, 1) := by decide +kernel
set_option maxRecDepth 100000 in
theorem d_WM_table_29 : decode b_WM_table 29 = .ok (.getfield 12, 3) := by decide +kernel
set_option maxRecDepth 100000 in
theorem d_WM_table_32 : decode b_WM_table 32 = .ok (.getfield 89, 3) := by decide +kernel
set_option maxRecDepth 100000 in
theorem d_WM_table_35 : decode b_WM_table 35 = .ok (.iload_n 1, 1) := by decide +kernel
set_option maxRecDepth 100000 in
theorem d_WM_table_36 : decode b_WM_table 36 = .ok (.iload_n 2, 1) := by decide +kernel
set_option maxRecDepth 100000 in
theorem d_WM_table_37 : decode b_WM_table 37 = .ok (.iastore, 1) := by decide +kernel
set_option maxRecDepth 100000 in
theorem d_WM_table_38 : decode b_WM_table 38 = .ok (.iload_n 3, 1) := by decide +kernel
set_option maxRecDepth 100000 in
theorem d_WM_table_39 : decode b_WM_table 39 = .ok (.ireturn, 1) := by decide +kernel
set_option maxRecDepth 100000 in
theorem d_WM_today_0 : decode b_WM_today 0 = .ok (.aload_n 0, 1) := by decide +kernel
set_option maxRecDepth 100000 in
theorem d_WM_today_1 : decode b_WM_today 1 = .ok (.getfield 155, 3) := by decide +kernel
set_option maxRecDepth 100000 in
theorem d_WM_today_4 : decode b_WM_today 4 = .ok (.sipush 720, 3) := by decide +kernel
set_option maxRecDepth 100000 in
theorem d_WM_today_7 : decode b_WM_today 7 = .ok (.idiv, 1) := by decide +kernel
set_option maxRecDepth 100000 in
theorem d_WM_today_8 : decode b_WM_today 8 = .ok (.ireturn, 1) := by decide +kernel
set_option maxRecDepth 100000 in
theorem d_WM_trip_0 : decode b_WM_trip 0 = .ok (.aload_n 0, 1) := by decide +kernel
set_option maxRecDepth 100000 in
theorem d_WM_trip_1 : decode b_WM_trip 1 = .ok (.iload_n 1, 1) := by decide +kernel
set_option maxRecDepth 100000 in
theorem d_WM_trip_2 : decode b_WM_trip 2 = .ok (.invokevirtual 293, 3) := by decide +kernel
set_option maxRecDepth 100000 in
theorem d_WM_trip_5 : decode b_WM_trip 5 = .ok (.astore_n 3, 1) := by decide +kernel
set_option maxRecDepth 100000 in
theorem d_WM_trip_6 : decode b_WM_trip 6 = .ok (.aload_n 3, 1) := by decide +kernel
set_option maxRecDepth 100000 in
theorem d_WM_trip_7 : decode b_WM_trip 7 = .ok (.ifnonnull 6, 3) := by decide +kernel
set_option maxRecDepth 100000 in
theorem d_WM_trip_10 : decode b_WM_trip 10 = .ok (.bipush (-2), 2) := by decide +kernel
set_option maxRecDepth 100000 in
theorem d_WM_trip_12 : decode b_WM_trip 12 = .ok (.ireturn, 1) := by decide +kernel
set_option maxRecDepth 100000 in
theorem d_WM_trip_13 : decode b_WM_trip 13 = .ok (.iload_n 2, 1) := by decide +kernel
set_option maxRecDepth 100000 in
theorem d_WM_trip_14 : decode b_WM_trip 14 = .ok (.tableswitch 94 0 7 #[46, 51, 56, 61, 66, 71, 76, 81], 46) := by decide +kernel
set_option maxRecDepth 100000 in
theorem d_WM_trip_60 : decode b_WM_trip 60 = .ok (.aload_n 3, 1) := by decide +kernel
set_option maxRecDepth 100000 in
theorem d_WM_trip_61 : decode b_WM_trip 61 = .ok (.getfield 303, 3) := by decide +kernel
set_option maxRecDepth 100000 in
theorem d_WM_trip_64 : decode b_WM_trip 64 = .ok (.ireturn, 1) := by decide +kernel
set_option maxRecDepth 100000 in
theorem d_WM_trip_65 : decode b_WM_trip 65 = .ok (.aload_n 3, 1) := by decide +kernel
set_option maxRecDepth 100000 in
theorem d_WM_trip_66 : decode b_WM_trip 66 = .ok (.getfield 306, 3) := by decide +kernel
set_option maxRecDepth 100000 in
theorem d_WM_trip_69 : decode b_WM_trip 69 = .ok (.ireturn, 1) := by decide +kernel
set_option maxRecDepth 100000 in
theorem d_WM_trip_70 : decode b_WM_trip 70 = .ok (.aload_n 3, 1) := by decide +kernel
set_option maxRecDepth 100000 in
theorem d_WM_trip_71 : decode b_WM_trip 71 = .ok (.getfield 247, 3) := by decide +kernel
set_option maxRecDepth 100000 in
theorem d_WM_trip_74 : decode b_WM_trip 74 = .ok (.ireturn, 1) := by decide +kernel
set_option maxRecDepth 100000 in
theorem d_WM_trip_75 : decode b_WM_trip 75 = .ok (.aload_n 3, 1) := by decide +kernel
set_option maxRecDepth 100000 in
theorem d_WM_trip_76 : decode b_WM_trip 76 = .ok (.getfield 250, 3) := by decide +kernel
set_option maxRecDepth 100000 in
theorem d_WM_trip_79 : decode b_WM_trip 79 = .ok (.ireturn, 1) := by decide +kernel
set_option maxRecDepth 100000 in
theorem d_WM_trip_80 : decode b_WM_trip 80 = .ok (.aload_n 3, 1) := by decide +kernel
set_option maxRecDepth 100000 in
theorem d_WM_trip_81 : decode b_WM_trip 81 = .ok (.getfield 309, 3) := by decide +kernel
set_option maxRecDepth 100000 in
theorem d_WM_trip_84 : decode b_WM_trip 84 = .ok (.ireturn, 1) := by decide +kernel
set_option maxRecDepth 100000 in
theorem d_WM_trip_85 : decode b_WM_trip 85 = .ok (.aload_n 3, 1) := by decide +kernel
set_option maxRecDepth 100000 in
theorem d_WM_trip_86 : decode b_WM_trip 86 = .ok (.getfield 257, 3) := by decide +kernel
set_option maxRecDepth 100000 in
theorem d_WM_trip_89 : decode b_WM_trip 89 = .ok (.ireturn, 1) := by decide +kernel
set_option maxRecDepth 100000 in
theorem d_WM_trip_90 : decode b_WM_trip 90 = .ok (.aload_n 3, 1) := by decide +kernel
set_option maxRecDepth 100000 in
theorem d_WM_trip_91 : decode b_WM_trip 91 = .ok (.getfield 312, 3) := by decide +kernel
set_option maxRecDepth 100000 in
theorem d_WM_trip_94 : decode b_WM_trip 94 = .ok (.ireturn, 1) := by decide +kernel
set_option maxRecDepth 100000 in
theorem d_WM_trip_95 : decode b_WM_trip 95 = .ok (.aload_n 3, 1) := by decide +kernel
set_option maxRecDepth 100000 in
theorem d_WM_trip_96 : decode b_WM_trip 96 = .ok (.getfield 297, 3) := by decide +kernel
set_option maxRecDepth 100000 in
theorem d_WM_trip_99 : decode b_WM_trip 99 = .ok (.ifCond .eq 7, 3) := by decide +kernel
set_option maxRecDepth 100000 in
theorem d_WM_trip_102 : decode b_WM_trip 102 = .ok (.iconst 1, 1) := by decide +kernel
set_option maxRecDepth 100000 in
theorem d_WM_trip_103 : decode b_WM_trip 103 = .ok (.goto 4, 3) := by decide +kernel
set_option maxRecDepth 100000 in
theorem d_WM_trip_106 : decode b_WM_trip 106 = .ok (.iconst 0, 1) := by decide +kernel
set_option maxRecDepth 100000 in
theorem d_WM_trip_107 : decode b_WM_trip 107 = .ok (.ireturn, 1) := by decide +kernel
set_option maxRecDepth 100000 in
theorem d_WM_trip_108 : decode b_WM_trip 108 = .ok (.bipush (-2), 2) := by decide +kernel
set_option maxRecDepth 100000 in
theorem d_WM_trip_110 : decode b_WM_trip 110 = .ok (.ireturn, 1) := by decide +kernel
set_option maxRecDepth 100000 in
theorem d_WM_tripAt_0 : decode b_WM_tripAt 0 = .ok (.iload_n 1, 1) := by decide +kernel
set_option maxRecDepth 100000 in
theorem d_WM_tripAt_1 : decode b_WM_tripAt 1 = .ok (.ifCond .lt 20, 3) := by decide +kernel
set_option maxRecDepth 100000 in
theorem d_WM_tripAt_4 : decode b_WM_tripAt 4 = .ok (.iload_n 1, 1) := by decide +kernel
set_option maxRecDepth 100000 in
theorem d_WM_tripAt_5 : decode b_WM_tripAt 5 = .ok (.aload_n 0, 1) := by decide +kernel
set_option maxRecDepth 100000 in
theorem d_WM_tripAt_6 : decode b_WM_tripAt 6 = .ok (.getfield 243, 3) := by decide +kernel
set_option maxRecDepth 100000 in
theorem d_WM_tripAt_9 : decode b_WM_tripAt 9 = .ok (.if_icmp .ge 12, 3) := by decide +kernel
set_option maxRecDepth 100000 in
theorem d_WM_tripAt_12 : decode b_WM_tripAt 12 = .ok (.aload_n 0, 1) := by decide +kernel
set_option maxRecDepth 100000 in
theorem d_WM_tripAt_13 : decode b_WM_tripAt 13 = .ok (.getfield 36, 3) := by decide +kernel
set_option maxRecDepth 100000 in
theorem d_WM_tripAt_16 : decode b_WM_tripAt 16 = .ok (.iload_n 1, 1) := by decide +kernel
set_option maxRecDepth 100000 in
theorem d_WM_tripAt_17 : decode b_WM_tripAt 17 = .ok (.aaload, 1) := by decide +kernel
set_option maxRecDepth 100000 in
theorem d_WM_tripAt_18 : decode b_WM_tripAt 18 = .ok (.goto 4, 3) := by decide +kernel
set_option maxRecDepth 100000 in
theorem d_WM_tripAt_21 : decode b_WM_tripAt 21 = .ok (.aconst_null, 1) := by decide +kernel
set_option maxRecDepth 100000 in
theorem d_WM_tripAt_22 : decode b_WM_tripAt 22 = .ok (.areturn, 1) := by decide +kernel
