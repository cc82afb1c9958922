set_option maxRecDepth 100000 in
theorem d_Md_absent_0 : decode b_Md_absent 0 = .ok (.iload_n 1, 1) := by decide +kernel
set_option maxRecDepth 100000 in
theorem d_Md_absent_1 : decode b_Md_absent 1 = .ok (.invokestatic 186, 3) := by decide +kernel
set_option maxRecDepth 100000 in
theorem d_Md_absent_4 : decode b_Md_absent 4 = .ok (.ifCond .eq 20, 3) := by decide +kernel
set_option maxRecDepth 100000 in
theorem d_Md_absent_7 : decode b_Md_absent 7 = .ok (.iload_n 2, 1) := by decide +kernel
set_option maxRecDepth 100000 in
theorem d_Md_absent_8 : decode b_Md_absent 8 = .ok (.ifCond .lt 16, 3) := by decide +kernel
set_option maxRecDepth 100000 in
theorem d_Md_absent_11 : decode b_Md_absent 11 = .ok (.iload_n 2, 1) := by decide +kernel
set_option maxRecDepth 100000 in
theorem d_Md_absent_12 : decode b_Md_absent 12 = .ok (.iload_n 3, 1) := by decide +kernel
set_option maxRecDepth 100000 in
theorem d_Md_absent_13 : decode b_Md_absent 13 = .ok (.if_icmp .gt 11, 3) := by decide +kernel
set_option maxRecDepth 100000 in
theorem d_Md_absent_16 : decode b_Md_absent 16 = .ok (.iload_n 3, 1) := by decide +kernel
set_option maxRecDepth 100000 in
theorem d_Md_absent_17 : decode b_Md_absent 17 = .ok (.aload_n 0, 1) := by decide +kernel
set_option maxRecDepth 100000 in
theorem d_Md_absent_18 : decode b_Md_absent 18 = .ok (.invokevirtual 45, 3) := by decide +kernel
set_option maxRecDepth 100000 in
theorem d_Md_absent_21 : decode b_Md_absent 21 = .ok (.if_icmp .le 5, 3) := by decide +kernel
set_option maxRecDepth 100000 in
theorem d_Md_absent_24 : decode b_Md_absent 24 = .ok (.iconst (-1), 1) := by decide +kernel
set_option maxRecDepth 100000 in
theorem d_Md_absent_25 : decode b_Md_absent 25 = .ok (.ireturn, 1) := by decide +kernel
set_option maxRecDepth 100000 in
theorem d_Md_absent_26 : decode b_Md_absent 26 = .ok (.aload_n 0, 1) := by decide +kernel
set_option maxRecDepth 100000 in
theorem d_Md_absent_27 : decode b_Md_absent 27 = .ok (.getfield 58, 3) := by decide +kernel
set_option maxRecDepth 100000 in
theorem d_Md_absent_30 : decode b_Md_absent 30 = .ok (.iload_n 1, 1) := by decide +kernel
set_option maxRecDepth 100000 in
theorem d_Md_absent_31 : decode b_Md_absent 31 = .ok (.iaload, 1) := by decide +kernel
set_option maxRecDepth 100000 in
theorem d_Md_absent_32 : decode b_Md_absent 32 = .ok (.iconst 1, 1) := by decide +kernel
set_option maxRecDepth 100000 in
theorem d_Md_absent_33 : decode b_Md_absent 33 = .ok (.if_icmp .eq 6, 3) := by decide +kernel
set_option maxRecDepth 100000 in
theorem d_Md_absent_39 : decode b_Md_absent 39 = .ok (.iload_n 2, 1) := by decide +kernel
set_option maxRecDepth 100000 in
theorem d_Md_absent_40 : decode b_Md_absent 40 = .ok (.aload_n 0, 1) := by decide +kernel
set_option maxRecDepth 100000 in
theorem d_Md_absent_41 : decode b_Md_absent 41 = .ok (.getfield 64, 3) := by decide +kernel
set_option maxRecDepth 100000 in
theorem d_Md_absent_44 : decode b_Md_absent 44 = .ok (.iload_n 1, 1) := by decide +kernel
set_option maxRecDepth 100000 in
theorem d_Md_absent_45 : decode b_Md_absent 45 = .ok (.iaload, 1) := by decide +kernel
set_option maxRecDepth 100000 in
theorem d_Md_absent_46 : decode b_Md_absent 46 = .ok (.if_icmp .ge 5, 3) := by decide +kernel
set_option maxRecDepth 100000 in
theorem d_Md_absent_51 : decode b_Md_absent 51 = .ok (.iconst 0, 1) := by decide +kernel
set_option maxRecDepth 100000 in
theorem d_Md_absent_52 : decode b_Md_absent 52 = .ok (.istore 4, 2) := by decide +kernel
set_option maxRecDepth 100000 in
theorem d_Md_absent_54 : decode b_Md_absent 54 = .ok (.iload 4, 2) := by decide +kernel
set_option maxRecDepth 100000 in
theorem d_Md_absent_56 : decode b_Md_absent 56 = .ok (.aload_n 0, 1) := by decide +kernel
set_option maxRecDepth 100000 in
theorem d_Md_absent_57 : decode b_Md_absent 57 = .ok (.getfield 67, 3) := by decide +kernel
set_option maxRecDepth 100000 in
theorem d_Md_absent_60 : decode b_Md_absent 60 = .ok (.iload_n 1, 1) := by decide +kernel
set_option maxRecDepth 100000 in
theorem d_Md_absent_61 : decode b_Md_absent 61 = .ok (.iaload, 1) := by decide +kernel
set_option maxRecDepth 100000 in
theorem d_Md_absent_62 : decode b_Md_absent 62 = .ok (.if_icmp .ge 48, 3) := by decide +kernel
set_option maxRecDepth 100000 in
theorem d_Md_absent_110 : decode b_Md_absent 110 = .ok (.aload_n 0, 1) := by decide +kernel
set_option maxRecDepth 100000 in
theorem d_Md_absent_111 : decode b_Md_absent 111 = .ok (.getfield 67, 3) := by decide +kernel
set_option maxRecDepth 100000 in
theorem d_Md_absent_114 : decode b_Md_absent 114 = .ok (.iload_n 1, 1) := by decide +kernel
set_option maxRecDepth 100000 in
theorem d_Md_absent_115 : decode b_Md_absent 115 = .ok (.iaload, 1) := by decide +kernel
set_option maxRecDepth 100000 in
theorem d_Md_absent_116 : decode b_Md_absent 116 = .ok (.bipush 6, 2) := by decide +kernel
set_option maxRecDepth 100000 in
theorem d_Md_absent_118 : decode b_Md_absent 118 = .ok (.if_icmp .ne 6, 3) := by decide +kernel
set_option maxRecDepth 100000 in
theorem d_Md_absent_124 : decode b_Md_absent 124 = .ok (.aload_n 0, 1) := by decide +kernel
set_option maxRecDepth 100000 in
theorem d_Md_absent_125 : decode b_Md_absent 125 = .ok (.getfield 70, 3) := by decide +kernel
set_option maxRecDepth 100000 in
theorem d_Md_absent_128 : decode b_Md_absent 128 = .ok (.bipush 6, 2) := by decide +kernel
set_option maxRecDepth 100000 in
theorem d_Md_absent_130 : decode b_Md_absent 130 = .ok (.iload_n 1, 1) := by decide +kernel
set_option maxRecDepth 100000 in
theorem d_Md_absent_131 : decode b_Md_absent 131 = .ok (.imul, 1) := by decide +kernel
set_option maxRecDepth 100000 in
theorem d_Md_absent_132 : decode b_Md_absent 132 = .ok (.aload_n 0, 1) := by decide +kernel
set_option maxRecDepth 100000 in
theorem d_Md_absent_133 : decode b_Md_absent 133 = .ok (.getfield 67, 3) := by decide +kernel
set_option maxRecDepth 100000 in
theorem d_Md_absent_136 : decode b_Md_absent 136 = .ok (.iload_n 1, 1) := by decide +kernel
set_option maxRecDepth 100000 in
theorem d_Md_absent_137 : decode b_Md_absent 137 = .ok (.iaload, 1) := by decide +kernel
set_option maxRecDepth 100000 in
theorem d_Md_absent_138 : decode b_Md_absent 138 = .ok (.iadd, 1) := by decide +kernel
set_option maxRecDepth 100000 in
theorem d_Md_absent_139 : decode b_Md_absent 139 = .ok (.iload_n 2, 1) := by decide +kernel
set_option maxRecDepth 100000 in
theorem d_Md_absent_140 : decode b_Md_absent 140 = .ok (.iastore, 1) := by decide +kernel
set_option maxRecDepth 100000 in
theorem d_Md_advance_0 : decode b_Md_advance 0 = .ok (.aload_n 0, 1) := by decide +kernel
set_option maxRecDepth 100000 in
theorem d_Md_advance_1 : decode b_Md_advance 1 = .ok (.getfield 218, 3) := by decide +kernel
set_option maxRecDepth 100000 in
theorem d_Md_advance_4 : decode b_Md_advance 4 = .ok (.aload_n 0, 1) := by decide +kernel
set_option maxRecDepth 100000 in
theorem d_Md_advance_5 : decode b_Md_advance 5 = .ok (.getfield 212, 3) := by decide +kernel
set_option maxRecDepth 100000 in
theorem d_Md_advance_8 : decode b_Md_advance 8 = .ok (.if_icmp .ge 30, 3) := by decide +kernel
set_option maxRecDepth 100000 in
theorem d_Md_advance_38 : decode b_Md_advance 38 = .ok (.aload_n 0, 1) := by decide +kernel
set_option maxRecDepth 100000 in
theorem d_Md_advance_39 : decode b_Md_advance 39 = .ok (.aload_n 0, 1) := by decide +kernel
set_option maxRecDepth 100000 in
theorem d_Md_advance_40 : decode b_Md_advance 40 = .ok (.getfield 218, 3) := by decide +kernel
set_option maxRecDepth 100000 in
theorem d_Md_advance_43 : decode b_Md_advance 43 = .ok (.putfield 221, 3) := by decide +kernel
set_option maxRecDepth 100000 in
theorem d_Md_advance_46 : decode b_Md_advance 46 = .ok (.aload_n 0, 1) := by decide +kernel
set_option maxRecDepth 100000 in
theorem d_Md_advance_47 : decode b_Md_advance 47 = .ok (.getfield 218, 3) := by decide +kernel
set_option maxRecDepth 100000 in
theorem d_Md_advance_50 : decode b_Md_advance 50 = .ok (.aload_n 0, 1) := by decide +kernel
set_option maxRecDepth 100000 in
theorem d_Md_advance_51 : decode b_Md_advance 51 = .ok (.getfield 212, 3) := by decide +kernel
set_option maxRecDepth 100000 in
theorem d_Md_advance_54 : decode b_Md_advance 54 = .ok (.if_icmp .ne 9, 3) := by decide +kernel
set_option maxRecDepth 100000 in
theorem d_Md_advance_63 : decode b_Md_advance 63 = .ok (.aload_n 0, 1) := by decide +kernel
set_option maxRecDepth 100000 in
theorem d_Md_advance_64 : decode b_Md_advance 64 = .ok (.getfield 109, 3) := by decide +kernel
set_option maxRecDepth 100000 in
theorem d_Md_advance_67 : decode b_Md_advance 67 = .ok (.aload_n 0, 1) := by decide +kernel
set_option maxRecDepth 100000 in
theorem d_Md_advance_68 : decode b_Md_advance 68 = .ok (.getfield 218, 3) := by decide +kernel
set_option maxRecDepth 100000 in
theorem d_Md_advance_71 : decode b_Md_advance 71 = .ok (.baload, 1) := by decide +kernel
set_option maxRecDepth 100000 in
theorem d_Md_arrive_0 : decode b_Md_arrive 0 = .ok (.iconst 0, 1) := by decide +kernel
set_option maxRecDepth 100000 in
theorem d_Md_arrive_1 : decode b_Md_arrive 1 = .ok (.istore_n 1, 1) := by decide +kernel
set_option maxRecDepth 100000 in
theorem d_Md_arrive_2 : decode b_Md_arrive 2 = .ok (.iload_n 1, 1) := by decide +kernel
set_option maxRecDepth 100000 in
theorem d_Md_arrive_3 : decode b_Md_arrive 3 = .ok (.aload_n 0, 1) := by decide +kernel
set_option maxRecDepth 100000 in
theorem d_Md_arrive_4 : decode b_Md_arrive 4 = .ok (.getfield 206, 3) := by decide +kernel
set_option maxRecDepth 100000 in
theorem d_Md_arrive_7 : decode b_Md_arrive 7 = .ok (.if_icmp .ge 55, 3) := by decide +kernel
set_option maxRecDepth 100000 in
theorem d_Md_arrive_10 : decode b_Md_arrive 10 = .ok (.aload_n 0, 1) := by decide +kernel
set_option maxRecDepth 100000 in
theorem d_Md_arrive_11 : decode b_Md_arrive 11 = .ok (.getfield 103, 3) := by decide +kernel
set_option maxRecDepth 100000 in
theorem d_Md_arrive_14 : decode b_Md_arrive 14 = .ok (.iload_n 1, 1) := by decide +kernel
set_option maxRecDepth 100000 in
theorem d_Md_arrive_15 : decode b_Md_arrive 15 = .ok (.iaload, 1) := by decide +kernel
set_option maxRecDepth 100000 in
theorem d_Md_arrive_16 : decode b_Md_arrive 16 = .ok (.istore_n 2, 1) := by decide +kernel
set_option maxRecDepth 100000 in
theorem d_Md_arrive_17 : decode b_Md_arrive 17 = .ok (.iload_n 2, 1) := by decide +kernel
set_option maxRecDepth 100000 in
theorem d_Md_arrive_18 : decode b_Md_arrive 18 = .ok (.ifCond .lt 38, 3) := by decide +kernel
set_option maxRecDepth 100000 in
theorem d_Md_arrive_21 : decode b_Md_arrive 21 = .ok (.aload_n 0, 1) := by decide +kernel
set_option maxRecDepth 100000 in
theorem d_Md_arrive_22 : decode b_Md_arrive 22 = .ok (.getfield 164, 3) := by decide +kernel
set_option maxRecDepth 100000 in
theorem d_Md_arrive_25 : decode b_Md_arrive 25 = .ok (.iload_n 2, 1) := by decide +kernel
set_option maxRecDepth 100000 in
theorem d_Md_arrive_26 : decode b_Md_arrive 26 = .ok (.iaload, 1) := by decide +kernel
set_option maxRecDepth 100000 in
theorem d_Md_arrive_56 : decode b_Md_arrive 56 = .ok (.iinc 1 1, 3) := by decide +kernel
set_option maxRecDepth 100000 in
theorem d_Md_arrive_59 : decode b_Md_arrive 59 = .ok (.goto (-57), 3) := by decide +kernel
set_option maxRecDepth 100000 in
theorem d_Md_arrive_62 : decode b_Md_arrive 62 = .ok (.return_, 1) := by decide +kernel
set_option maxRecDepth 100000 in
theorem d_Md_bind_0 : decode b_Md_bind 0 = .ok (.iload_n 1, 1) := by decide +kernel
set_option maxRecDepth 100000 in
theorem d_Md_bind_1 : decode b_Md_bind 1 = .ok (.invokestatic 186, 3) := by decide +kernel
set_option maxRecDepth 100000 in
theorem d_Md_bind_4 : decode b_Md_bind 4 = .ok (.ifCond .eq 10, 3) := by decide +kernel
set_option maxRecDepth 100000 in
theorem d_Md_bind_7 : decode b_Md_bind 7 = .ok (.iload_n 2, 1) := by decide +kernel
set_option maxRecDepth 100000 in
theorem d_Md_bind_8 : decode b_Md_bind 8 = .ok (.invokestatic 186, 3) := by decide +kernel
set_option maxRecDepth 100000 in
theorem d_Md_bind_11 : decode b_Md_bind 11 = .ok (.ifCond .ne 5, 3) := by decide +kernel
set_option maxRecDepth 100000 in
theorem d_Md_bind_14 : decode b_Md_bind 14 = .ok (.iconst (-1), 1) := by decide +kernel
set_option maxRecDepth 100000 in
theorem d_Md_bind_15 : decode b_Md_bind 15 = .ok (.ireturn, 1) := by decide +kernel
set_option maxRecDepth 100000 in
theorem d_Md_bind_16 : decode b_Md_bind 16 = .ok (.aload_n 0, 1) := by decide +kernel
set_option maxRecDepth 100000 in
theorem d_Md_bind_17 : decode b_Md_bind 17 = .ok (.getfield 58, 3) := by decide +kernel
set_option maxRecDepth 100000 in
theorem d_Md_bind_20 : decode b_Md_bind 20 = .ok (.iload_n 1, 1) := by decide +kernel
set_option maxRecDepth 100000 in
theorem d_Md_bind_21 : decode b_Md_bind 21 = .ok (.iaload, 1) := by decide +kernel
set_option maxRecDepth 100000 in
theorem d_Md_bind_22 : decode b_Md_bind 22 = .ok (.ifCond .ne 13, 3) := by decide +kernel
set_option maxRecDepth 100000 in
theorem d_Md_bind_25 : decode b_Md_bind 25 = .ok (.aload_n 0, 1) := by decide +kernel
set_option maxRecDepth 100000 in
theorem d_Md_bind_26 : decode b_Md_bind 26 = .ok (.getfield 58, 3) := by decide +kernel
set_option maxRecDepth 100000 in
theorem d_Md_bind_29 : decode b_Md_bind 29 = .ok (.iload_n 2, 1) := by decide +kernel
set_option maxRecDepth 100000 in
theorem d_Md_bind_30 : decode b_Md_bind 30 = .ok (.iaload, 1) := by decide +kernel
set_option maxRecDepth 100000 in
theorem d_Md_bind_31 : decode b_Md_bind 31 = .ok (.iconst 2, 1) := by decide +kernel
set_option maxRecDepth 100000 in
theorem d_Md_bind_32 : decode b_Md_bind 32 = .ok (.if_icmp .eq 6, 3) := by decide +kernel
set_option maxRecDepth 100000 in
theorem d_Md_bind_35 : decode b_Md_bind 35 = .ok (.bipush (-2), 2) := by decide +kernel
set_option maxRecDepth 100000 in
theorem d_Md_bind_37 : decode b_Md_bind 37 = .ok (.ireturn, 1) := by decide +kernel
set_option maxRecDepth 100000 in
theorem d_Md_bind_38 : decode b_Md_bind 38 = .ok (.aload_n 0, 1) := by decide +kernel
set_option maxRecDepth 100000 in
theorem d_Md_bind_39 : decode b_Md_bind 39 = .ok (.getfield 58, 3) := by decide +kernel
set_option maxRecDepth 100000 in
theorem d_Md_bind_42 : decode b_Md_bind 42 = .ok (.iload_n 1, 1) := by decide +kernel
set_option maxRecDepth 100000 in
theorem d_Md_bind_43 : decode b_Md_bind 43 = .ok (.iconst 1, 1) := by decide +kernel
set_option maxRecDepth 100000 in
theorem d_Md_bind_44 : decode b_Md_bind 44 = .ok (.iastore, 1) := by decide +kernel
set_option maxRecDepth 100000 in
theorem d_Md_bind_45 : decode b_Md_bind 45 = .ok (.aload_n 0, 1) := by decide +kernel
set_option maxRecDepth 100000 in
theorem d_Md_bind_46 : decode b_Md_bind 46 = .ok (.getfield 61, 3) := by decide +kernel
set_option maxRecDepth 100000 in
theorem d_Md_bind_49 : decode b_Md_bind 49 = .ok (.iload_n 1, 1) := by decide +kernel
set_option maxRecDepth 100000 in
theorem d_Md_bind_50 : decode b_Md_bind 50 = .ok (.iload_n 2, 1) := by decide +kernel
set_option maxRecDepth 100000 in
theorem d_Md_bind_51 : decode b_Md_bind 51 = .ok (.iastore, 1) := by decide +kernel
set_option maxRecDepth 100000 in
theorem d_Md_bind_52 : decode b_Md_bind 52 = .ok (.aload_n 0, 1) := by decide +kernel
set_option maxRecDepth 100000 in
theorem d_Md_bind_53 : decode b_Md_bind 53 = .ok (.getfield 64, 3) := by decide +kernel
set_option maxRecDepth 100000 in
theorem d_Md_bind_56 : decode b_Md_bind 56 = .ok (.iload_n 1, 1) := by decide +kernel
set_option maxRecDepth 100000 in
theorem d_Md_bind_57 : decode b_Md_bind 57 = .ok (.aload_n 0, 1) := by decide +kernel
set_option maxRecDepth 100000 in
theorem d_Md_bind_58 : decode b_Md_bind 58 = .ok (.invokevirtual 45, 3) := by decide +kernel
set_option maxRecDepth 100000 in
theorem d_Md_bind_61 : decode b_Md_bind 61 = .ok (.iastore, 1) := by decide +kernel
set_option maxRecDepth 100000 in
theorem d_Md_bind_62 : decode b_Md_bind 62 = .ok (.aload_n 0, 1) := by decide +kernel
set_option maxRecDepth 100000 in
theorem d_Md_bind_63 : decode b_Md_bind 63 = .ok (.getfield 67, 3) := by decide +kernel
set_option maxRecDepth 100000 in
theorem d_Md_bind_66 : decode b_Md_bind 66 = .ok (.iload_n 1, 1) := by decide +kernel
set_option maxRecDepth 100000 in
theorem d_Md_bind_67 : decode b_Md_bind 67 = .ok (.iconst 0, 1) := by decide +kernel
set_option maxRecDepth 100000 in
theorem d_Md_bind_68 : decode b_Md_bind 68 = .ok (.iastore, 1) := by decide +kernel
set_option maxRecDepth 100000 in
theorem d_Md_bind_69 : decode b_Md_bind 69 = .ok (.iconst 1, 1) := by decide +kernel
set_option maxRecDepth 100000 in
theorem d_Md_bind_70 : decode b_Md_bind 70 = .ok (.ireturn, 1) := by decide +kernel
set_option maxRecDepth 100000 in
theorem d_Md_boat_0 : decode b_Md_boat 0 = .ok (.iload_n 1, 1) := by decide +kernel
set_option maxRecDepth 100000 in
theorem d_Md_boat_1 : decode b_Md_boat 1 = .ok (.iconst 1, 1) := by decide +kernel
set_option maxRecDepth 100000 in
theorem d_Md_boat_2 : decode b_Md_boat 2 = .ok (.iconst 2, 1) := by decide +kernel
set_option maxRecDepth 100000 in
theorem d_Md_boat_3 : decode b_Md_boat 3 = .ok (.invokestatic 10, 3) := by decide +kernel
set_option maxRecDepth 100000 in
theorem d_Md_boat_6 : decode b_Md_boat 6 = .ok (.ifCond .eq 11, 3) := by decide +kernel
set_option maxRecDepth 100000 in
theorem d_Md_boat_9 : decode b_Md_boat 9 = .ok (.aload_n 0, 1) := by decide +kernel
set_option maxRecDepth 100000 in
theorem d_Md_boat_10 : decode b_Md_boat 10 = .ok (.iload_n 2, 1) := by decide +kernel
set_option maxRecDepth 100000 in
theorem d_Md_boat_11 : decode b_Md_boat 11 = .ok (.invokevirtual 199, 3) := by decide +kernel
set_option maxRecDepth 100000 in
theorem d_Md_boat_14 : decode b_Md_boat 14 = .ok (.ifCond .ne 5, 3) := by decide +kernel
set_option maxRecDepth 100000 in
theorem d_Md_boat_17 : decode b_Md_boat 17 = .ok (.iconst (-1), 1) := by decide +kernel
set_option maxRecDepth 100000 in
theorem d_Md_boat_18 : decode b_Md_boat 18 = .ok (.ireturn, 1) := by decide +kernel
set_option maxRecDepth 100000 in
theorem d_Md_boat_19 : decode b_Md_boat 19 = .ok (.aload_n 0, 1) := by decide +kernel
set_option maxRecDepth 100000 in
theorem d_Md_boat_20 : decode b_Md_boat 20 = .ok (.getfield 206, 3) := by decide +kernel
set_option maxRecDepth 100000 in
theorem d_Md_boat_23 : decode b_Md_boat 23 = .ok (.bipush 20, 2) := by decide +kernel
set_option maxRecDepth 100000 in
theorem d_Md_boat_25 : decode b_Md_boat 25 = .ok (.if_icmp .ne 6, 3) := by decide +kernel
set_option maxRecDepth 100000 in
theorem d_Md_boat_28 : decode b_Md_boat 28 = .ok (.bipush (-3), 2) := by decide +kernel
set_option maxRecDepth 100000 in
theorem d_Md_boat_30 : decode b_Md_boat 30 = .ok (.ireturn, 1) := by decide +kernel
set_option maxRecDepth 100000 in
theorem d_Md_boat_31 : decode b_Md_boat 31 = .ok (.aload_n 0, 1) := by decide +kernel
set_option maxRecDepth 100000 in
theorem d_Md_boat_32 : decode b_Md_boat 32 = .ok (.getfield 94, 3) := by decide +kernel
set_option maxRecDepth 100000 in
theorem d_Md_boat_35 : decode b_Md_boat 35 = .ok (.aload_n 0, 1) := by decide +kernel
set_option maxRecDepth 100000 in
theorem d_Md_boat_36 : decode b_Md_boat 36 = .ok (.getfield 206, 3) := by decide +kernel
set_option maxRecDepth 100000 in
theorem d_Md_boat_39 : decode b_Md_boat 39 = .ok (.iload_n 1, 1) := by decide +kernel
set_option maxRecDepth 100000 in
theorem d_Md_boat_40 : decode b_Md_boat 40 = .ok (.iastore, 1) := by decide +kernel
set_option maxRecDepth 100000 in
theorem d_Md_boat_41 : decode b_Md_boat 41 = .ok (.aload_n 0, 1) := by decide +kernel
set_option maxRecDepth 100000 in
theorem d_Md_boat_42 : decode b_Md_boat 42 = .ok (.getfield 97, 3) := by decide +kernel
set_option maxRecDepth 100000 in
theorem d_Md_boat_45 : decode b_Md_boat 45 = .ok (.aload_n 0, 1) := by decide +kernel
set_option maxRecDepth 100000 in
theorem d_Md_boat_46 : decode b_Md_boat 46 = .ok (.getfield 206, 3) := by decide +kernel
set_option maxRecDepth 100000 in
theorem d_Md_boat_49 : decode b_Md_boat 49 = .ok (.iload_n 2, 1) := by decide +kernel
set_option maxRecDepth 100000 in
theorem d_Md_boat_50 : decode b_Md_boat 50 = .ok (.iastore, 1) := by decide +kernel
set_option maxRecDepth 100000 in
theorem d_Md_boat_51 : decode b_Md_boat 51 = .ok (.aload_n 0, 1) := by decide +kernel
set_option maxRecDepth 100000 in
theorem d_Md_boat_52 : decode b_Md_boat 52 = .ok (.getfield 100, 3) := by decide +kernel
set_option maxRecDepth 100000 in
theorem d_Md_boat_55 : decode b_Md_boat 55 = .ok (.aload_n 0, 1) := by decide +kernel
set_option maxRecDepth 100000 in
theorem d_Md_boat_56 : decode b_Md_boat 56 = .ok (.getfield 206, 3) := by decide +kernel
set_option maxRecDepth 100000 in
theorem d_Md_boat_59 : decode b_Md_boat 59 = .ok (.iconst 0, 1) := by decide +kernel
set_option maxRecDepth 100000 in
theorem d_Md_boat_60 : decode b_Md_boat 60 = .ok (.iastore, 1) := by decide +kernel
set_option maxRecDepth 100000 in
theorem d_Md_boat_61 : decode b_Md_boat 61 = .ok (.aload_n 0, 1) := by decide +kernel
set_option maxRecDepth 100000 in
theorem d_Md_boat_62 : decode b_Md_boat 62 = .ok (.getfield 103, 3) := by decide +kernel
set_option maxRecDepth 100000 in
theorem d_Md_boat_65 : decode b_Md_boat 65 = .ok (.aload_n 0, 1) := by decide +kernel
set_option maxRecDepth 100000 in
theorem d_Md_boat_66 : decode b_Md_boat 66 = .ok (.getfield 206, 3) := by decide +kernel
set_option maxRecDepth 100000 in
theorem d_Md_boat_69 : decode b_Md_boat 69 = .ok (.iconst (-1), 1) := by decide +kernel
set_option maxRecDepth 100000 in
theorem d_Md_boat_70 : decode b_Md_boat 70 = .ok (.iastore, 1) := by decide +kernel
set_option maxRecDepth 100000 in
theorem d_Md_boat_71 : decode b_Md_boat 71 = .ok (.aload_n 0, 1) := by decide +kernel
set_option maxRecDepth 100000 in
theorem d_Md_boat_72 : decode b_Md_boat 72 = .ok (.dup, 1) := by decide +kernel
set_option maxRecDepth 100000 in
theorem d_Md_boat_73 : decode b_Md_boat 73 = .ok (.getfield 206, 3) := by decide +kernel
set_option maxRecDepth 100000 in
theorem d_Md_boat_76 : decode b_Md_boat 76 = .ok (.iconst 1, 1) := by decide +kernel
set_option maxRecDepth 100000 in
theorem d_Md_boat_77 : decode b_Md_boat 77 = .ok (.iadd, 1) := by decide +kernel
set_option maxRecDepth 100000 in
theorem d_Md_boat_78 : decode b_Md_boat 78 = .ok (.putfield 206, 3) := by decide +kernel
set_option maxRecDepth 100000 in
theorem d_Md_boat_81 : decode b_Md_boat 81 = .ok (.aload_n 0, 1) := by decide +kernel
set_option maxRecDepth 100000 in
theorem d_Md_boat_82 : decode b_Md_boat 82 = .ok (.getfield 206, 3) := by decide +kernel
set_option maxRecDepth 100000 in
theorem d_Md_boat_85 : decode b_Md_boat 85 = .ok (.iconst 1, 1) := by decide +kernel
set_option maxRecDepth 100000 in
theorem d_Md_boat_86 : decode b_Md_boat 86 = .ok (.isub, 1) := by decide +kernel
set_option maxRecDepth 100000 in
theorem d_Md_boat_87 : decode b_Md_boat 87 = .ok (.ireturn, 1) := by decide +kernel
set_option maxRecDepth 100000 in
theorem d_Md_bridge_0 : decode b_Md_bridge 0 = .ok (.iload_n 1, 1) := by decide +kernel
set_option maxRecDepth 100000 in
theorem d_Md_bridge_1 : decode b_Md_bridge 1 = .ok (.iconst (-1), 1) := by decide +kernel
set_option maxRecDepth 100000 in
theorem d_Md_bridge_2 : decode b_Md_bridge 2 = .ok (.if_icmp .eq 19, 3) := by decide +kernel
set_option maxRecDepth 100000 in
theorem d_Md_bridge_5 : decode b_Md_bridge 5 = .ok (.iload_n 1, 1) := by decide +kernel
set_option maxRecDepth 100000 in
theorem d_Md_bridge_6 : decode b_Md_bridge 6 = .ok (.iconst 0, 1) := by decide +kernel
set_option maxRecDepth 100000 in
theorem d_Md_bridge_7 : decode b_Md_bridge 7 = .ok (.aload_n 0, 1) := by decide +kernel
set_option maxRecDepth 100000 in
theorem d_Md_bridge_8 : decode b_Md_bridge 8 = .ok (.getfield 14, 3) := by decide +kernel
set_option maxRecDepth 100000 in
theorem d_Md_bridge_11 : decode b_Md_bridge 11 = .ok (.iconst 2, 1) := by decide +kernel
set_option maxRecDepth 100000 in
theorem d_Md_bridge_12 : decode b_Md_bridge 12 = .ok (.isub, 1) := by decide +kernel
set_option maxRecDepth 100000 in
theorem d_Md_bridge_13 : decode b_Md_bridge 13 = .ok (.invokestatic 10, 3) := by decide +kernel
set_option maxRecDepth 100000 in
theorem d_Md_bridge_16 : decode b_Md_bridge 16 = .ok (.ifCond .ne 5, 3) := by decide +kernel
set_option maxRecDepth 100000 in
theorem d_Md_bridge_19 : decode b_Md_bridge 19 = .ok (.iconst (-1), 1) := by decide +kernel
set_option maxRecDepth 100000 in
theorem d_Md_bridge_20 : decode b_Md_bridge 20 = .ok (.ireturn, 1) := by decide +kernel
set_option maxRecDepth 100000 in
theorem d_Md_bridge_21 : decode b_Md_bridge 21 = .ok (.aload_n 0, 1) := by decide +kernel
set_option maxRecDepth 100000 in
theorem d_Md_bridge_22 : decode b_Md_bridge 22 = .ok (.iload_n 1, 1) := by decide +kernel
set_option maxRecDepth 100000 in
theorem d_Md_bridge_23 : decode b_Md_bridge 23 = .ok (.putfield 35, 3) := by decide +kernel
set_option maxRecDepth 100000 in
theorem d_Md_bridge_26 : decode b_Md_bridge 26 = .ok (.iconst 1, 1) := by decide +kernel
set_option maxRecDepth 100000 in
theorem d_Md_bridge_27 : decode b_Md_bridge 27 = .ok (.ireturn, 1) := by decide +kernel
set_option maxRecDepth 100000 in
theorem d_Md_coins_0 : decode b_Md_coins 0 = .ok (.lconst 0, 1) := by decide +kernel
set_option maxRecDepth 100000 in
theorem d_Md_coins_1 : decode b_Md_coins 1 = .ok (.lstore_n 2, 1) := by decide +kernel
set_option maxRecDepth 100000 in
theorem d_Md_coins_2 : decode b_Md_coins 2 = .ok (.iload_n 1, 1) := by decide +kernel
set_option maxRecDepth 100000 in
theorem d_Md_coins_3 : decode b_Md_coins 3 = .ok (.tableswitch 113 0 4 #[33, 39, 45, 75, 107], 33) := by decide +kernel
set_option maxRecDepth 100000 in
theorem d_Md_coins_36 : decode b_Md_coins 36 = .ok (.aload_n 0, 1) := by decide +kernel
set_option maxRecDepth 100000 in
theorem d_Md_coins_37 : decode b_Md_coins 37 = .ok (.getfield 316, 3) := by decide +kernel
set_option maxRecDepth 100000 in
theorem d_Md_coins_40 : decode b_Md_coins 40 = .ok (.l2i, 1) := by decide +kernel
set_option maxRecDepth 100000 in
theorem d_Md_coins_41 : decode b_Md_coins 41 = .ok (.ireturn, 1) := by decide +kernel
set_option maxRecDepth 100000 in
theorem d_Md_coins_42 : decode b_Md_coins 42 = .ok (.aload_n 0, 1) := by decide +kernel
set_option maxRecDepth 100000 in
theorem d_Md_coins_43 : decode b_Md_coins 43 = .ok (.getfield 320, 3) := by decide +kernel
set_option maxRecDepth 100000 in
theorem d_Md_coins_46 : decode b_Md_coins 46 = .ok (.l2i, 1) := by decide +kernel
set_option maxRecDepth 100000 in
theorem d_Md_coins_47 : decode b_Md_coins 47 = .ok (.ireturn, 1) := by decide +kernel
set_option maxRecDepth 100000 in
theorem d_Md_coins_48 : decode b_Md_coins 48 = .ok (.iconst 0, 1) := by decide +kernel
set_option maxRecDepth 100000 in
theorem d_Md_coins_49 : decode b_Md_coins 49 = .ok (.istore 4, 2) := by decide +kernel
set_option maxRecDepth 100000 in
theorem d_Md_coins_51 : decode b_Md_coins 51 = .ok (.iload 4, 2) := by decide +kernel
set_option maxRecDepth 100000 in
theorem d_Md_coins_53 : decode b_Md_coins 53 = .ok (.bipush 40, 2) := by decide +kernel
set_option maxRecDepth 100000 in
theorem d_Md_coins_55 : decode b_Md_coins 55 = .ok (.if_icmp .ge 20, 3) := by decide +kernel
set_option maxRecDepth 100000 in
theorem d_Md_coins_58 : decode b_Md_coins 58 = .ok (.lload_n 2, 1) := by decide +kernel
set_option maxRecDepth 100000 in
theorem d_Md_coins_59 : decode b_Md_coins 59 = .ok (.aload_n 0, 1) := by decide +kernel
set_option maxRecDepth 100000 in
theorem d_Md_coins_60 : decode b_Md_coins 60 = .ok (.getfield 76, 3) := by decide +kernel
set_option maxRecDepth 100000 in
theorem d_Md_coins_63 : decode b_Md_coins 63 = .ok (.iload 4, 2) := by decide +kernel
set_option maxRecDepth 100000 in
theorem d_Md_coins_65 : decode b_Md_coins 65 = .ok (.iaload, 1) := by decide +kernel
set_option maxRecDepth 100000 in
theorem d_Md_coins_66 : decode b_Md_coins 66 = .ok (.i2l, 1) := by decide +kernel
set_option maxRecDepth 100000 in
theorem d_Md_coins_67 : decode b_Md_coins 67 = .ok (.ladd, 1) := by decide +kernel
set_option maxRecDepth 100000 in
theorem d_Md_coins_68 : decode b_Md_coins 68 = .ok (.lstore_n 2, 1) := by decide +kernel
set_option maxRecDepth 100000 in
theorem d_Md_coins_69 : decode b_Md_coins 69 = .ok (.iinc 4 1, 3) := by decide +kernel
set_option maxRecDepth 100000 in
theorem d_Md_coins_72 : decode b_Md_coins 72 = .ok (.goto (-21), 3) := by decide +kernel
set_option maxRecDepth 100000 in
theorem d_Md_coins_75 : decode b_Md_coins 75 = .ok (.lload_n 2, 1) := by decide +kernel
set_option maxRecDepth 100000 in
theorem d_Md_coins_76 : decode b_Md_coins 76 = .ok (.l2i, 1) := by decide +kernel
set_option maxRecDepth 100000 in
theorem d_Md_coins_77 : decode b_Md_coins 77 = .ok (.ireturn, 1) := by decide +kernel
set_option maxRecDepth 100000 in
theorem d_Md_coins_78 : decode b_Md_coins 78 = .ok (.iconst 0, 1) := by decide +kernel
set_option maxRecDepth 100000 in
theorem d_Md_coins_79 : decode b_Md_coins 79 = .ok (.istore 4, 2) := by decide +kernel
set_option maxRecDepth 100000 in
theorem d_Md_coins_81 : decode b_Md_coins 81 = .ok (.iload 4, 2) := by decide +kernel
set_option maxRecDepth 100000 in
theorem d_Md_coins_83 : decode b_Md_coins 83 = .ok (.aload_n 0, 1) := by decide +kernel
set_option maxRecDepth 100000 in
theorem d_Md_coins_84 : decode b_Md_coins 84 = .ok (.getfield 313, 3) := by decide +kernel
set_option maxRecDepth 100000 in
theorem d_Md_coins_87 : decode b_Md_coins 87 = .ok (.if_icmp .ge 20, 3) := by decide +kernel
set_option maxRecDepth 100000 in
theorem d_Md_coins_90 : decode b_Md_coins 90 = .ok (.lload_n 2, 1) := by decide +kernel
set_option maxRecDepth 100000 in
theorem d_Md_coins_91 : decode b_Md_coins 91 = .ok (.aload_n 0, 1) := by decide +kernel
set_option maxRecDepth 100000 in
theorem d_Md_coins_92 : decode b_Md_coins 92 = .ok (.getfield 167, 3) := by decide +kernel
set_option maxRecDepth 100000 in
theorem d_Md_coins_95 : decode b_Md_coins 95 = .ok (.iload 4, 2) := by decide +kernel
set_option maxRecDepth 100000 in
theorem d_Md_coins_97 : decode b_Md_coins 97 = .ok (.iaload, 1) := by decide +kernel
set_option maxRecDepth 100000 in
theorem d_Md_coins_98 : decode b_Md_coins 98 = .ok (.i2l, 1) := by decide +kernel
set_option maxRecDepth 100000 in
theorem d_Md_coins_99 : decode b_Md_coins 99 = .ok (.ladd, 1) := by decide +kernel
set_option maxRecDepth 100000 in
theorem d_Md_coins_100 : decode b_Md_coins 100 = .ok (.lstore_n 2, 1) := by decide +kernel
set_option maxRecDepth 100000 in
theorem d_Md_coins_101 : decode b_Md_coins 101 = .ok (.iinc 4 1, 3) := by decide +kernel
set_option maxRecDepth 100000 in
theorem d_Md_coins_104 : decode b_Md_coins 104 = .ok (.goto (-23), 3) := by decide +kernel
set_option maxRecDepth 100000 in
theorem d_Md_coins_107 : decode b_Md_coins 107 = .ok (.lload_n 2, 1) := by decide +kernel
set_option maxRecDepth 100000 in
theorem d_Md_coins_108 : decode b_Md_coins 108 = .ok (.l2i, 1) := by decide +kernel
set_option maxRecDepth 100000 in
theorem d_Md_coins_109 : decode b_Md_coins 109 = .ok (.ireturn, 1) := by decide +kernel
set_option maxRecDepth 100000 in
theorem d_Md_count_0 : decode b_Md_count 0 = .ok (.iload_n 1, 1) := by decide +kernel
set_option maxRecDepth 100000 in
theorem d_Md_count_1 : decode b_Md_count 1 = .ok (.tableswitch 108 0 9 #[55, 60, 65, 70, 75, 80, 86, 92, 98, 103], 55) := by decide +kernel
set_option maxRecDepth 100000 in
theorem d_Md_count_56 : decode b_Md_count 56 = .ok (.aload_n 0, 1) := by decide +kernel
set_option maxRecDepth 100000 in
theorem d_Md_count_57 : decode b_Md_count 57 = .ok (.getfield 14, 3) := by decide +kernel
set_option maxRecDepth 100000 in
theorem d_Md_count_60 : decode b_Md_count 60 = .ok (.ireturn, 1) := by decide +kernel
set_option maxRecDepth 100000 in
theorem d_Md_count_61 : decode b_Md_count 61 = .ok (.aload_n 0, 1) := by decide +kernel
set_option maxRecDepth 100000 in
theorem d_Md_count_62 : decode b_Md_count 62 = .ok (.getfield 206, 3) := by decide +kernel
set_option maxRecDepth 100000 in
theorem d_Md_count_65 : decode b_Md_count 65 = .ok (.ireturn, 1) := by decide +kernel
set_option maxRecDepth 100000 in
theorem d_Md_count_66 : decode b_Md_count 66 = .ok (.aload_n 0, 1) := by decide +kernel
set_option maxRecDepth 100000 in
theorem d_Md_count_67 : decode b_Md_count 67 = .ok (.getfield 313, 3) := by decide +kernel
set_option maxRecDepth 100000 in
theorem d_Md_count_70 : decode b_Md_count 70 = .ok (.ireturn, 1) := by decide +kernel
set_option maxRecDepth 100000 in
theorem d_Md_count_71 : decode b_Md_count 71 = .ok (.aload_n 0, 1) := by decide +kernel
set_option maxRecDepth 100000 in
theorem d_Md_count_72 : decode b_Md_count 72 = .ok (.getfield 275, 3) := by decide +kernel
set_option maxRecDepth 100000 in
theorem d_Md_count_75 : decode b_Md_count 75 = .ok (.ireturn, 1) := by decide +kernel
set_option maxRecDepth 100000 in
theorem d_Md_count_76 : decode b_Md_count 76 = .ok (.aload_n 0, 1) := by decide +kernel
set_option maxRecDepth 100000 in
theorem d_Md_count_77 : decode b_Md_count 77 = .ok (.getfield 7, 3) := by decide +kernel
set_option maxRecDepth 100000 in
theorem d_Md_count_80 : decode b_Md_count 80 = .ok (.ireturn, 1) := by decide +kernel
set_option maxRecDepth 100000 in
theorem d_Md_count_81 : decode b_Md_count 81 = .ok (.aload_n 0, 1) := by decide +kernel
set_option maxRecDepth 100000 in
theorem d_Md_count_82 : decode b_Md_count 82 = .ok (.iconst 2, 1) := by decide +kernel
set_option maxRecDepth 100000 in
theorem d_Md_count_83 : decode b_Md_count 83 = .ok (.invokevirtual 348, 3) := by decide +kernel
set_option maxRecDepth 100000 in
theorem d_Md_craft_0 : decode b_Md_craft 0 = .ok (.aload_n 0, 1) := by decide +kernel
set_option maxRecDepth 100000 in
theorem d_Md_craft_1 : decode b_Md_craft 1 = .ok (.iload_n 1, 1) := by decide +kernel
set_option maxRecDepth 100000 in
theorem d_Md_craft_2 : decode b_Md_craft 2 = .ok (.invokevirtual 209, 3) := by decide +kernel
set_option maxRecDepth 100000 in
theorem d_Md_craft_5 : decode b_Md_craft 5 = .ok (.ifCond .ne 5, 3) := by decide +kernel
set_option maxRecDepth 100000 in
theorem d_Md_craft_8 : decode b_Md_craft 8 = .ok (.iconst (-1), 1) := by decide +kernel
set_option maxRecDepth 100000 in
theorem d_Md_craft_9 : decode b_Md_craft 9 = .ok (.ireturn, 1) := by decide +kernel
set_option maxRecDepth 100000 in
theorem d_Md_craft_10 : decode b_Md_craft 10 = .ok (.iload_n 2, 1) := by decide +kernel
set_option maxRecDepth 100000 in
theorem d_Md_craft_11 : decode b_Md_craft 11 = .ok (.tableswitch 107 0 4 #[33, 40, 47, 54, 79], 33) := by decide +kernel
set_option maxRecDepth 100000 in
theorem d_Md_craft_44 : decode b_Md_craft 44 = .ok (.aload_n 0, 1) := by decide +kernel
set_option maxRecDepth 100000 in
theorem d_Md_craft_45 : decode b_Md_craft 45 = .ok (.getfield 97, 3) := by decide +kernel
set_option maxRecDepth 100000 in
theorem d_Md_craft_48 : decode b_Md_craft 48 = .ok (.iload_n 1, 1) := by decide +kernel
set_option maxRecDepth 100000 in
theorem d_Md_craft_49 : decode b_Md_craft 49 = .ok (.iaload, 1) := by decide +kernel
set_option maxRecDepth 100000 in
theorem d_Md_craft_50 : decode b_Md_craft 50 = .ok (.ireturn, 1) := by decide +kernel
set_option maxRecDepth 100000 in
theorem d_Md_craft_51 : decode b_Md_craft 51 = .ok (.aload_n 0, 1) := by decide +kernel
set_option maxRecDepth 100000 in
theorem d_Md_craft_52 : decode b_Md_craft 52 = .ok (.getfield 94, 3) := by decide +kernel
set_option maxRecDepth 100000 in
theorem d_Md_craft_55 : decode b_Md_craft 55 = .ok (.iload_n 1, 1) := by decide +kernel
set_option maxRecDepth 100000 in
theorem d_Md_craft_56 : decode b_Md_craft 56 = .ok (.iaload, 1) := by decide +kernel
set_option maxRecDepth 100000 in
theorem d_Md_craft_57 : decode b_Md_craft 57 = .ok (.ireturn, 1) := by decide +kernel
set_option maxRecDepth 100000 in
theorem d_Md_craft_58 : decode b_Md_craft 58 = .ok (.aload_n 0, 1) := by decide +kernel
set_option maxRecDepth 100000 in
theorem d_Md_craft_59 : decode b_Md_craft 59 = .ok (.getfield 100, 3) := by decide +kernel
set_option maxRecDepth 100000 in
theorem d_Md_craft_62 : decode b_Md_craft 62 = .ok (.iload_n 1, 1) := by decide +kernel
set_option maxRecDepth 100000 in
theorem d_Md_craft_63 : decode b_Md_craft 63 = .ok (.iaload, 1) := by decide +kernel
set_option maxRecDepth 100000 in
theorem d_Md_craft_64 : decode b_Md_craft 64 = .ok (.ireturn, 1) := by decide +kernel
set_option maxRecDepth 100000 in
theorem d_Md_craft_65 : decode b_Md_craft 65 = .ok (.aload_n 0, 1) := by decide +kernel
set_option maxRecDepth 100000 in
theorem d_Md_craft_66 : decode b_Md_craft 66 = .ok (.getfield 103, 3) := by decide +kernel
set_option maxRecDepth 100000 in
theorem d_Md_craft_69 : decode b_Md_craft 69 = .ok (.iload_n 1, 1) := by decide +kernel
set_option maxRecDepth 100000 in
theorem d_Md_craft_70 : decode b_Md_craft 70 = .ok (.iaload, 1) := by decide +kernel
set_option maxRecDepth 100000 in
theorem d_Md_craft_71 : decode b_Md_craft 71 = .ok (.ifCond .ge 7, 3) := by decide +kernel
set_option maxRecDepth 100000 in
theorem d_Md_craft_78 : decode b_Md_craft 78 = .ok (.aload_n 0, 1) := by decide +kernel
set_option maxRecDepth 100000 in
theorem d_Md_craft_79 : decode b_Md_craft 79 = .ok (.getfield 152, 3) := by decide +kernel
set_option maxRecDepth 100000 in
theorem d_Md_craft_82 : decode b_Md_craft 82 = .ok (.aload_n 0, 1) := by decide +kernel
set_option maxRecDepth 100000 in
theorem d_Md_craft_83 : decode b_Md_craft 83 = .ok (.getfield 103, 3) := by decide +kernel
set_option maxRecDepth 100000 in
theorem d_Md_craft_86 : decode b_Md_craft 86 = .ok (.iload_n 1, 1) := by decide +kernel
set_option maxRecDepth 100000 in
theorem d_Md_craft_87 : decode b_Md_craft 87 = .ok (.iaload, 1) := by decide +kernel
set_option maxRecDepth 100000 in
theorem d_Md_craft_88 : decode b_Md_craft 88 = .ok (.iaload, 1) := by decide +kernel
set_option maxRecDepth 100000 in
theorem d_Md_due_0 : decode b_Md_due 0 = .ok (.iload_n 1, 1) := by decide +kernel
set_option maxRecDepth 100000 in
theorem d_Md_due_1 : decode b_Md_due 1 = .ok (.iconst 0, 1) := by decide +kernel
set_option maxRecDepth 100000 in
theorem d_Md_due_2 : decode b_Md_due 2 = .ok (.aload_n 0, 1) := by decide +kernel
set_option maxRecDepth 100000 in
theorem d_Md_due_3 : decode b_Md_due 3 = .ok (.getfield 313, 3) := by decide +kernel
set_option maxRecDepth 100000 in
theorem d_Md_due_6 : decode b_Md_due 6 = .ok (.iconst 1, 1) := by decide +kernel
set_option maxRecDepth 100000 in
theorem d_Md_due_7 : decode b_Md_due 7 = .ok (.isub, 1) := by decide +kernel
set_option maxRecDepth 100000 in
theorem d_Md_due_8 : decode b_Md_due 8 = .ok (.invokestatic 10, 3) := by decide +kernel
set_option maxRecDepth 100000 in
theorem d_Md_due_11 : decode b_Md_due 11 = .ok (.ifCond .eq 19, 3) := by decide +kernel
set_option maxRecDepth 100000 in
theorem d_Md_due_14 : decode b_Md_due 14 = .ok (.iload_n 2, 1) := by decide +kernel
set_option maxRecDepth 100000 in
theorem d_Md_due_15 : decode b_Md_due 15 = .ok (.invokestatic 38, 3) := by decide +kernel
set_option maxRecDepth 100000 in
theorem d_Md_due_18 : decode b_Md_due 18 = .ok (.ifCond .eq 12, 3) := by decide +kernel
set_option maxRecDepth 100000 in
theorem d_Md_due_21 : decode b_Md_due 21 = .ok (.aload_n 0, 1) := by decide +kernel
set_option maxRecDepth 100000 in
theorem d_Md_due_22 : decode b_Md_due 22 = .ok (.iload_n 1, 1) := by decide +kernel
set_option maxRecDepth 100000 in
theorem d_Md_due_23 : decode b_Md_due 23 = .ok (.iload_n 2, 1) := by decide +kernel
set_option maxRecDepth 100000 in
theorem d_Md_due_24 : decode b_Md_due 24 = .ok (.invokevirtual 345, 3) := by decide +kernel
set_option maxRecDepth 100000 in
theorem d_Md_due_30 : decode b_Md_due 30 = .ok (.bipush (-2), 2) := by decide +kernel
set_option maxRecDepth 100000 in
theorem d_Md_due_32 : decode b_Md_due 32 = .ok (.ireturn, 1) := by decide +kernel
set_option maxRecDepth 100000 in
theorem d_Md_dueOf_0 : decode b_Md_dueOf 0 = .ok (.aload_n 0, 1) := by decide +kernel
set_option maxRecDepth 100000 in
theorem d_Md_dueOf_1 : decode b_Md_dueOf 1 = .ok (.getfield 161, 3) := by decide +kernel
set_option maxRecDepth 100000 in
theorem d_Md_dueOf_4 : decode b_Md_dueOf 4 = .ok (.iload_n 1, 1) := by decide +kernel
set_option maxRecDepth 100000 in
theorem d_Md_dueOf_5 : decode b_Md_dueOf 5 = .ok (.iaload, 1) := by decide +kernel
set_option maxRecDepth 100000 in
theorem d_Md_end_0 : decode b_Md_end 0 = .ok (.iload_n 1, 1) := by decide +kernel
set_option maxRecDepth 100000 in
theorem d_Md_end_1 : decode b_Md_end 1 = .ok (.iconst 0, 1) := by decide +kernel
set_option maxRecDepth 100000 in
theorem d_Md_end_2 : decode b_Md_end 2 = .ok (.aload_n 0, 1) := by decide +kernel
set_option maxRecDepth 100000 in
theorem d_Md_end_3 : decode b_Md_end 3 = .ok (.getfield 212, 3) := by decide +kernel
set_option maxRecDepth 100000 in
theorem d_Md_end_6 : decode b_Md_end 6 = .ok (.invokestatic 10, 3) := by decide +kernel
set_option maxRecDepth 100000 in
theorem d_Md_end_9 : decode b_Md_end 9 = .ok (.ifCond .ne 5, 3) := by decide +kernel
set_option maxRecDepth 100000 in
theorem d_Md_end_12 : decode b_Md_end 12 = .ok (.iconst (-1), 1) := by decide +kernel
set_option maxRecDepth 100000 in
theorem d_Md_end_13 : decode b_Md_end 13 = .ok (.ireturn, 1) := by decide +kernel
set_option maxRecDepth 100000 in
theorem d_Md_end_14 : decode b_Md_end 14 = .ok (.aload_n 0, 1) := by decide +kernel
set_option maxRecDepth 100000 in
theorem d_Md_end_15 : decode b_Md_end 15 = .ok (.iload_n 1, 1) := by decide +kernel
set_option maxRecDepth 100000 in
theorem d_Md_end_16 : decode b_Md_end 16 = .ok (.putfield 212, 3) := by decide +kernel
set_option maxRecDepth 100000 in
theorem d_Md_end_19 : decode b_Md_end 19 = .ok (.iload_n 1, 1) := by decide +kernel
set_option maxRecDepth 100000 in
theorem d_Md_end_20 : decode b_Md_end 20 = .ok (.ireturn, 1) := by decide +kernel
set_option maxRecDepth 100000 in
theorem d_Md_fare_0 : decode b_Md_fare 0 = .ok (.iload_n 1, 1) := by decide +kernel
set_option maxRecDepth 100000 in
theorem d_Md_fare_1 : decode b_Md_fare 1 = .ok (.iconst 0, 1) := by decide +kernel
set_option maxRecDepth 100000 in
theorem d_Md_fare_2 : decode b_Md_fare 2 = .ok (.aload_n 0, 1) := by decide +kernel
set_option maxRecDepth 100000 in
theorem d_Md_fare_3 : decode b_Md_fare 3 = .ok (.getfield 275, 3) := by decide +kernel
set_option maxRecDepth 100000 in
theorem d_Md_fare_6 : decode b_Md_fare 6 = .ok (.iconst 1, 1) := by decide +kernel
set_option maxRecDepth 100000 in
theorem d_Md_fare_7 : decode b_Md_fare 7 = .ok (.isub, 1) := by decide +kernel
set_option maxRecDepth 100000 in
theorem d_Md_fare_8 : decode b_Md_fare 8 = .ok (.invokestatic 10, 3) := by decide +kernel
set_option maxRecDepth 100000 in
theorem d_Md_fare_11 : decode b_Md_fare 11 = .ok (.ifCond .eq 46, 3) := by decide +kernel
set_option maxRecDepth 100000 in
theorem d_Md_fare_14 : decode b_Md_fare 14 = .ok (.aload_n 0, 1) := by decide +kernel
set_option maxRecDepth 100000 in
theorem d_Md_fare_15 : decode b_Md_fare 15 = .ok (.iload_n 2, 1) := by decide +kernel
set_option maxRecDepth 100000 in
theorem d_Md_fare_16 : decode b_Md_fare 16 = .ok (.invokevirtual 199, 3) := by decide +kernel
set_option maxRecDepth 100000 in
theorem d_Md_fare_19 : decode b_Md_fare 19 = .ok (.ifCond .eq 38, 3) := by decide +kernel
set_option maxRecDepth 100000 in
theorem d_Md_fare_22 : decode b_Md_fare 22 = .ok (.aload_n 0, 1) := by decide +kernel
set_option maxRecDepth 100000 in
theorem d_Md_fare_23 : decode b_Md_fare 23 = .ok (.iload_n 3, 1) := by decide +kernel
set_option maxRecDepth 100000 in
theorem d_Md_fare_24 : decode b_Md_fare 24 = .ok (.invokevirtual 199, 3) := by decide +kernel
set_option maxRecDepth 100000 in
theorem d_Md_fare_27 : decode b_Md_fare 27 = .ok (.ifCond .eq 30, 3) := by decide +kernel
set_option maxRecDepth 100000 in
theorem d_Md_fare_30 : decode b_Md_fare 30 = .ok (.iload_n 2, 1) := by decide +kernel
set_option maxRecDepth 100000 in
theorem d_Md_fare_31 : decode b_Md_fare 31 = .ok (.iload_n 3, 1) := by decide +kernel
set_option maxRecDepth 100000 in
theorem d_Md_fare_32 : decode b_Md_fare 32 = .ok (.if_icmp .eq 25, 3) := by decide +kernel
set_option maxRecDepth 100000 in
theorem d_Md_fare_35 : decode b_Md_fare 35 = .ok (.iload 4, 2) := by decide +kernel
set_option maxRecDepth 100000 in
theorem d_Md_fare_37 : decode b_Md_fare 37 = .ok (.iconst 0, 1) := by decide +kernel
set_option maxRecDepth 100000 in
theorem d_Md_fare_38 : decode b_Md_fare 38 = .ok (.sipush 5999, 3) := by decide +kernel
set_option maxRecDepth 100000 in
theorem d_Md_fare_41 : decode b_Md_fare 41 = .ok (.invokestatic 10, 3) := by decide +kernel
set_option maxRecDepth 100000 in
theorem d_Md_fare_44 : decode b_Md_fare 44 = .ok (.ifCond .eq 13, 3) := by decide +kernel
set_option maxRecDepth 100000 in
theorem d_Md_fare_47 : decode b_Md_fare 47 = .ok (.iload 5, 2) := by decide +kernel
set_option maxRecDepth 100000 in
theorem d_Md_fare_49 : decode b_Md_fare 49 = .ok (.iconst 1, 1) := by decide +kernel
set_option maxRecDepth 100000 in
theorem d_Md_fare_50 : decode b_Md_fare 50 = .ok (.iconst 2, 1) := by decide +kernel
set_option maxRecDepth 100000 in
theorem d_Md_fare_51 : decode b_Md_fare 51 = .ok (.invokestatic 10, 3) := by decide +kernel
set_option maxRecDepth 100000 in
theorem d_Md_fare_54 : decode b_Md_fare 54 = .ok (.ifCond .ne 5, 3) := by decide +kernel
set_option maxRecDepth 100000 in
theorem d_Md_fare_57 : decode b_Md_fare 57 = .ok (.iconst (-1), 1) := by decide +kernel
set_option maxRecDepth 100000 in
theorem d_Md_fare_58 : decode b_Md_fare 58 = .ok (.ireturn, 1) := by decide +kernel
set_option maxRecDepth 100000 in
theorem d_Md_fare_59 : decode b_Md_fare 59 = .ok (.aload_n 0, 1) := by decide +kernel
set_option maxRecDepth 100000 in
theorem d_Md_fare_60 : decode b_Md_fare 60 = .ok (.iload_n 1, 1) := by decide +kernel
set_option maxRecDepth 100000 in
theorem d_Md_fare_61 : decode b_Md_fare 61 = .ok (.iload_n 2, 1) := by decide +kernel
set_option maxRecDepth 100000 in
theorem d_Md_fare_62 : decode b_Md_fare 62 = .ok (.iload_n 3, 1) := by decide +kernel
set_option maxRecDepth 100000 in
theorem d_Md_fare_63 : decode b_Md_fare 63 = .ok (.iload 4, 2) := by decide +kernel
set_option maxRecDepth 100000 in
theorem d_Md_fare_65 : decode b_Md_fare 65 = .ok (.bipush 12, 2) := by decide +kernel
set_option maxRecDepth 100000 in
theorem d_Md_fare_67 : decode b_Md_fare 67 = .ok (.idiv, 1) := by decide +kernel
set_option maxRecDepth 100000 in
theorem d_Md_fare_68 : decode b_Md_fare 68 = .ok (.iload 4, 2) := by decide +kernel
set_option maxRecDepth 100000 in
theorem d_Md_fare_70 : decode b_Md_fare 70 = .ok (.bipush 12, 2) := by decide +kernel
set_option maxRecDepth 100000 in
theorem d_Md_fare_72 : decode b_Md_fare 72 = .ok (.irem, 1) := by decide +kernel
set_option maxRecDepth 100000 in
theorem d_Md_fare_73 : decode b_Md_fare 73 = .ok (.iload 5, 2) := by decide +kernel
set_option maxRecDepth 100000 in
theorem d_Md_fare_75 : decode b_Md_fare 75 = .ok (.invokevirtual 295, 3) := by decide +kernel
set_option maxRecDepth 100000 in
theorem d_Md_fareOf_0 : decode b_Md_fareOf 0 = .ok (.aload_n 0, 1) := by decide +kernel
set_option maxRecDepth 100000 in
theorem d_Md_fareOf_1 : decode b_Md_fareOf 1 = .ok (.getfield 32, 3) := by decide +kernel
set_option maxRecDepth 100000 in
theorem d_Md_fareOf_4 : decode b_Md_fareOf 4 = .ok (.iload_n 3, 1) := by decide +kernel
set_option maxRecDepth 100000 in
theorem d_Md_fareOf_5 : decode b_Md_fareOf 5 = .ok (.iaload, 1) := by decide +kernel
set_option maxRecDepth 100000 in
theorem d_Md_feed_0 : decode b_Md_feed 0 = .ok (.aload_n 0, 1) := by decide +kernel
set_option maxRecDepth 100000 in
theorem d_Md_feed_1 : decode b_Md_feed 1 = .ok (.getfield 212, 3) := by decide +kernel
set_option maxRecDepth 100000 in
theorem d_Md_feed_4 : decode b_Md_feed 4 = .ok (.bipush 20, 2) := by decide +kernel
set_option maxRecDepth 100000 in
theorem d_Md_feed_6 : decode b_Md_feed 6 = .ok (.iadd, 1) := by decide +kernel
set_option maxRecDepth 100000 in
theorem d_Md_feed_7 : decode b_Md_feed 7 = .ok (.sipush 400, 3) := by decide +kernel
set_option maxRecDepth 100000 in
theorem d_Md_feed_10 : decode b_Md_feed 10 = .ok (.if_icmp .le 6, 3) := by decide +kernel
set_option maxRecDepth 100000 in
theorem d_Md_feed_13 : decode b_Md_feed 13 = .ok (.bipush (-3), 2) := by decide +kernel
set_option maxRecDepth 100000 in
theorem d_Md_feed_15 : decode b_Md_feed 15 = .ok (.ireturn, 1) := by decide +kernel
set_option maxRecDepth 100000 in
theorem d_Md_feed_16 : decode b_Md_feed 16 = .ok (.aload_n 0, 1) := by decide +kernel
set_option maxRecDepth 100000 in
theorem d_Md_feed_17 : decode b_Md_feed 17 = .ok (.iload_n 1, 1) := by decide +kernel
set_option maxRecDepth 100000 in
theorem d_Md_feed_18 : decode b_Md_feed 18 = .ok (.invokevirtual 215, 3) := by decide +kernel
set_option maxRecDepth 100000 in
theorem d_Md_feed_21 : decode b_Md_feed 21 = .ok (.aload_n 0, 1) := by decide +kernel
set_option maxRecDepth 100000 in
theorem d_Md_feed_22 : decode b_Md_feed 22 = .ok (.iload_n 2, 1) := by decide +kernel
set_option maxRecDepth 100000 in
theorem d_Md_feed_23 : decode b_Md_feed 23 = .ok (.invokevirtual 215, 3) := by decide +kernel
set_option maxRecDepth 100000 in
theorem d_Md_feed_26 : decode b_Md_feed 26 = .ok (.aload_n 0, 1) := by decide +kernel
set_option maxRecDepth 100000 in
theorem d_Md_feed_27 : decode b_Md_feed 27 = .ok (.iload_n 3, 1) := by decide +kernel
set_option maxRecDepth 100000 in
theorem d_Md_feed_28 : decode b_Md_feed 28 = .ok (.invokevirtual 215, 3) := by decide +kernel
set_option maxRecDepth 100000 in
theorem d_Md_feed_31 : decode b_Md_feed 31 = .ok (.aload_n 0, 1) := by decide +kernel
set_option maxRecDepth 100000 in
theorem d_Md_feed_32 : decode b_Md_feed 32 = .ok (.iload 4, 2) := by decide +kernel
set_option maxRecDepth 100000 in
theorem d_Md_feed_34 : decode b_Md_feed 34 = .ok (.invokevirtual 215, 3) := by decide +kernel
set_option maxRecDepth 100000 in
theorem d_Md_feed_37 : decode b_Md_feed 37 = .ok (.aload_n 0, 1) := by decide +kernel
set_option maxRecDepth 100000 in
theorem d_Md_feed_38 : decode b_Md_feed 38 = .ok (.iload 5, 2) := by decide +kernel
set_option maxRecDepth 100000 in
theorem d_Md_feed_40 : decode b_Md_feed 40 = .ok (.invokevirtual 215, 3) := by decide +kernel
set_option maxRecDepth 100000 in
theorem d_Md_feed_43 : decode b_Md_feed 43 = .ok (.aload_n 0, 1) := by decide +kernel
set_option maxRecDepth 100000 in
theorem d_Md_feed_44 : decode b_Md_feed 44 = .ok (.getfield 212, 3) := by decide +kernel
set_option maxRecDepth 100000 in
theorem d_Md_feed_47 : decode b_Md_feed 47 = .ok (.ireturn, 1) := by decide +kernel
set_option maxRecDepth 100000 in
theorem d_Md_flow_0 : decode b_Md_flow 0 = .ok (.iload_n 1, 1) := by decide +kernel
set_option maxRecDepth 100000 in
theorem d_Md_flow_1 : decode b_Md_flow 1 = .ok (.invokestatic 38, 3) := by decide +kernel
set_option maxRecDepth 100000 in
theorem d_Md_flow_4 : decode b_Md_flow 4 = .ok (.ifCond .eq 22, 3) := by decide +kernel
set_option maxRecDepth 100000 in
theorem d_Md_flow_7 : decode b_Md_flow 7 = .ok (.iload_n 2, 1) := by decide +kernel
set_option maxRecDepth 100000 in
theorem d_Md_flow_8 : decode b_Md_flow 8 = .ok (.iconst 0, 1) := by decide +kernel
set_option maxRecDepth 100000 in
theorem d_Md_flow_9 : decode b_Md_flow 9 = .ok (.bipush 11, 2) := by decide +kernel
set_option maxRecDepth 100000 in
theorem d_Md_flow_11 : decode b_Md_flow 11 = .ok (.invokestatic 10, 3) := by decide +kernel
set_option maxRecDepth 100000 in
theorem d_Md_flow_14 : decode b_Md_flow 14 = .ok (.ifCond .eq 12, 3) := by decide +kernel
set_option maxRecDepth 100000 in
theorem d_Md_flow_17 : decode b_Md_flow 17 = .ok (.aload_n 0, 1) := by decide +kernel
set_option maxRecDepth 100000 in
theorem d_Md_flow_18 : decode b_Md_flow 18 = .ok (.iload_n 1, 1) := by decide +kernel
set_option maxRecDepth 100000 in
theorem d_Md_flow_19 : decode b_Md_flow 19 = .ok (.iload_n 2, 1) := by decide +kernel
set_option maxRecDepth 100000 in
theorem d_Md_flow_20 : decode b_Md_flow 20 = .ok (.invokevirtual 42, 3) := by decide +kernel
set_option maxRecDepth 100000 in
theorem d_Md_flow_23 : decode b_Md_flow 23 = .ok (.goto 6, 3) := by decide +kernel
set_option maxRecDepth 100000 in
theorem d_Md_flow_26 : decode b_Md_flow 26 = .ok (.sipush (-1000), 3) := by decide +kernel
set_option maxRecDepth 100000 in
theorem d_Md_flow_29 : decode b_Md_flow 29 = .ok (.ireturn, 1) := by decide +kernel
set_option maxRecDepth 100000 in
theorem d_Md_flowOf_0 : decode b_Md_flowOf 0 = .ok (.iload_n 2, 1) := by decide +kernel
set_option maxRecDepth 100000 in
theorem d_Md_flowOf_1 : decode b_Md_flowOf 1 = .ok (.bipush 11, 2) := by decide +kernel
set_option maxRecDepth 100000 in
theorem d_Md_flowOf_3 : decode b_Md_flowOf 3 = .ok (.if_icmp .ne 14, 3) := by decide +kernel
set_option maxRecDepth 100000 in
theorem d_Md_flowOf_6 : decode b_Md_flowOf 6 = .ok (.aload_n 0, 1) := by decide +kernel
set_option maxRecDepth 100000 in
theorem d_Md_flowOf_7 : decode b_Md_flowOf 7 = .ok (.iload_n 1, 1) := by decide +kernel
set_option maxRecDepth 100000 in
theorem d_Md_flowOf_8 : decode b_Md_flowOf 8 = .ok (.iconst 1, 1) := by decide +kernel
set_option maxRecDepth 100000 in
theorem d_Md_flowOf_9 : decode b_Md_flowOf 9 = .ok (.iadd, 1) := by decide +kernel
set_option maxRecDepth 100000 in
theorem d_Md_flowOf_10 : decode b_Md_flowOf 10 = .ok (.iconst 0, 1) := by decide +kernel
set_option maxRecDepth 100000 in
theorem d_Md_flowOf_11 : decode b_Md_flowOf 11 = .ok (.invokevirtual 28, 3) := by decide +kernel
set_option maxRecDepth 100000 in
theorem d_Md_flowOf_14 : decode b_Md_flowOf 14 = .ok (.goto 11, 3) := by decide +kernel
set_option maxRecDepth 100000 in
theorem d_Md_flowOf_17 : decode b_Md_flowOf 17 = .ok (.aload_n 0, 1) := by decide +kernel
set_option maxRecDepth 100000 in
theorem d_Md_flowOf_18 : decode b_Md_flowOf 18 = .ok (.iload_n 1, 1) := by decide +kernel
set_option maxRecDepth 100000 in
theorem d_Md_flowOf_19 : decode b_Md_flowOf 19 = .ok (.iload_n 2, 1) := by decide +kernel
set_option maxRecDepth 100000 in
theorem d_Md_flowOf_20 : decode b_Md_flowOf 20 = .ok (.iconst 1, 1) := by decide +kernel
set_option maxRecDepth 100000 in
theorem d_Md_flowOf_21 : decode b_Md_flowOf 21 = .ok (.iadd, 1) := by decide +kernel
set_option maxRecDepth 100000 in
theorem d_Md_flowOf_22 : decode b_Md_flowOf 22 = .ok (.invokevirtual 28, 3) := by decide +kernel
set_option maxRecDepth 100000 in
theorem d_Md_flowOf_25 : decode b_Md_flowOf 25 = .ok (.aload_n 0, 1) := by decide +kernel
set_option maxRecDepth 100000 in
theorem d_Md_flowOf_26 : decode b_Md_flowOf 26 = .ok (.iload_n 1, 1) := by decide +kernel
set_option maxRecDepth 100000 in
theorem d_Md_flowOf_27 : decode b_Md_flowOf 27 = .ok (.iload_n 2, 1) := by decide +kernel
set_option maxRecDepth 100000 in
theorem d_Md_flowOf_28 : decode b_Md_flowOf 28 = .ok (.invokevirtual 28, 3) := by decide +kernel
set_option maxRecDepth 100000 in
theorem d_Md_flowOf_31 : decode b_Md_flowOf 31 = .ok (.isub, 1) := by decide +kernel
set_option maxRecDepth 100000 in
theorem d_Md_flowOf_32 : decode b_Md_flowOf 32 = .ok (.ireturn, 1) := by decide +kernel
set_option maxRecDepth 100000 in
theorem d_Md_forceOn_0 : decode b_Md_forceOn 0 = .ok (.aload_n 0, 1) := by decide +kernel
set_option maxRecDepth 100000 in
theorem d_Md_forceOn_1 : decode b_Md_forceOn 1 = .ok (.getfield 275, 3) := by decide +kernel
set_option maxRecDepth 100000 in
theorem d_Md_forceOn_4 : decode b_Md_forceOn 4 = .ok (.iconst 1, 1) := by decide +kernel
set_option maxRecDepth 100000 in
theorem d_Md_forceOn_5 : decode b_Md_forceOn 5 = .ok (.isub, 1) := by decide +kernel
set_option maxRecDepth 100000 in
theorem d_Md_forceOn_6 : decode b_Md_forceOn 6 = .ok (.istore_n 3, 1) := by decide +kernel
set_option maxRecDepth 100000 in
theorem d_Md_forceOn_7 : decode b_Md_forceOn 7 = .ok (.iload_n 3, 1) := by decide +kernel
set_option maxRecDepth 100000 in
theorem d_Md_forceOn_8 : decode b_Md_forceOn 8 = .ok (.ifCond .lt 31, 3) := by decide +kernel
set_option maxRecDepth 100000 in
theorem d_Md_forceOn_11 : decode b_Md_forceOn 11 = .ok (.aload_n 0, 1) := by decide +kernel
set_option maxRecDepth 100000 in
theorem d_Md_forceOn_12 : decode b_Md_forceOn 12 = .ok (.getfield 116, 3) := by decide +kernel
set_option maxRecDepth 100000 in
theorem d_Md_forceOn_15 : decode b_Md_forceOn 15 = .ok (.iload_n 3, 1) := by decide +kernel
set_option maxRecDepth 100000 in
theorem d_Md_forceOn_16 : decode b_Md_forceOn 16 = .ok (.iaload, 1) := by decide +kernel
set_option maxRecDepth 100000 in
theorem d_Md_forceOn_17 : decode b_Md_forceOn 17 = .ok (.iload_n 2, 1) := by decide +kernel
set_option maxRecDepth 100000 in
theorem d_Md_forceOn_18 : decode b_Md_forceOn 18 = .ok (.if_icmp .gt 15, 3) := by decide +kernel
set_option maxRecDepth 100000 in
theorem d_Md_forceOn_21 : decode b_Md_forceOn 21 = .ok (.aload_n 0, 1) := by decide +kernel
set_option maxRecDepth 100000 in
theorem d_Md_forceOn_22 : decode b_Md_forceOn 22 = .ok (.getfield 113, 3) := by decide +kernel
set_option maxRecDepth 100000 in
theorem d_Md_forceOn_25 : decode b_Md_forceOn 25 = .ok (.iload_n 3, 1) := by decide +kernel
set_option maxRecDepth 100000 in
theorem d_Md_forceOn_26 : decode b_Md_forceOn 26 = .ok (.iaload, 1) := by decide +kernel
set_option maxRecDepth 100000 in
theorem d_Md_forceOn_27 : decode b_Md_forceOn 27 = .ok (.iload_n 1, 1) := by decide +kernel
set_option maxRecDepth 100000 in
theorem d_Md_forceOn_28 : decode b_Md_forceOn 28 = .ok (.if_icmp .gt 5, 3) := by decide +kernel
set_option maxRecDepth 100000 in
theorem d_Md_forceOn_31 : decode b_Md_forceOn 31 = .ok (.iload_n 3, 1) := by decide +kernel
set_option maxRecDepth 100000 in
theorem d_Md_forceOn_32 : decode b_Md_forceOn 32 = .ok (.ireturn, 1) := by decide +kernel
set_option maxRecDepth 100000 in
theorem d_Md_forceOn_33 : decode b_Md_forceOn 33 = .ok (.iinc 3 (-1), 3) := by decide +kernel
set_option maxRecDepth 100000 in
theorem d_Md_forceOn_36 : decode b_Md_forceOn 36 = .ok (.goto (-29), 3) := by decide +kernel
set_option maxRecDepth 100000 in
theorem d_Md_forceOn_39 : decode b_Md_forceOn 39 = .ok (.bipush (-2), 2) := by decide +kernel
set_option maxRecDepth 100000 in
theorem d_Md_forceOn_41 : decode b_Md_forceOn 41 = .ok (.ireturn, 1) := by decide +kernel
set_option maxRecDepth 100000 in
theorem d_Md_foretold_0 : decode b_Md_foretold 0 = .ok (.lconst 0, 1) := by decide +kernel
set_option maxRecDepth 100000 in
theorem d_Md_foretold_1 : decode b_Md_foretold 1 = .ok (.lstore_n 1, 1) := by decide +kernel
set_option maxRecDepth 100000 in
theorem d_Md_foretold_2 : decode b_Md_foretold 2 = .ok (.aload_n 0, 1) := by decide +kernel
set_option maxRecDepth 100000 in
theorem d_Md_foretold_3 : decode b_Md_foretold 3 = .ok (.invokevirtual 45, 3) := by decide +kernel
set_option maxRecDepth 100000 in
theorem d_Md_foretold_6 : decode b_Md_foretold 6 = .ok (.bipush 100, 2) := by decide +kernel
set_option maxRecDepth 100000 in
theorem d_Md_foretold_8 : decode b_Md_foretold 8 = .ok (.if_icmp .ge 7, 3) := by decide +kernel
set_option maxRecDepth 100000 in
theorem d_Md_foretold_15 : decode b_Md_foretold 15 = .ok (.aload_n 0, 1) := by decide +kernel
set_option maxRecDepth 100000 in
theorem d_Md_foretold_16 : decode b_Md_foretold 16 = .ok (.invokevirtual 45, 3) := by decide +kernel
set_option maxRecDepth 100000 in
theorem d_Md_foretold_19 : decode b_Md_foretold 19 = .ok (.bipush 100, 2) := by decide +kernel
set_option maxRecDepth 100000 in
theorem d_Md_foretold_21 : decode b_Md_foretold 21 = .ok (.isub, 1) := by decide +kernel
set_option maxRecDepth 100000 in
theorem d_Md_foretold_22 : decode b_Md_foretold 22 = .ok (.istore_n 3, 1) := by decide +kernel
set_option maxRecDepth 100000 in
theorem d_Md_foretold_23 : decode b_Md_foretold 23 = .ok (.iload_n 3, 1) := by decide +kernel
set_option maxRecDepth 100000 in
theorem d_Md_foretold_24 : decode b_Md_foretold 24 = .ok (.aload_n 0, 1) := by decide +kernel
set_option maxRecDepth 100000 in
theorem d_Md_foretold_25 : decode b_Md_foretold 25 = .ok (.invokevirtual 45, 3) := by decide +kernel
set_option maxRecDepth 100000 in
theorem d_Md_foretold_28 : decode b_Md_foretold 28 = .ok (.if_icmp .gt 18, 3) := by decide +kernel
set_option maxRecDepth 100000 in
theorem d_Md_foretold_31 : decode b_Md_foretold 31 = .ok (.lload_n 1, 1) := by decide +kernel
set_option maxRecDepth 100000 in
theorem d_Md_foretold_32 : decode b_Md_foretold 32 = .ok (.aload_n 0, 1) := by decide +kernel
set_option maxRecDepth 100000 in
theorem d_Md_foretold_33 : decode b_Md_foretold 33 = .ok (.getfield 173, 3) := by decide +kernel
set_option maxRecDepth 100000 in
theorem d_Md_foretold_36 : decode b_Md_foretold 36 = .ok (.iload_n 3, 1) := by decide +kernel
set_option maxRecDepth 100000 in
theorem d_Md_foretold_37 : decode b_Md_foretold 37 = .ok (.laload, 1) := by decide +kernel
set_option maxRecDepth 100000 in
theorem d_Md_four_0 : decode b_Md_four 0 = .ok (.iconst 3, 1) := by decide +kernel
set_option maxRecDepth 100000 in
theorem d_Md_four_1 : decode b_Md_four 1 = .ok (.istore_n 2, 1) := by decide +kernel
set_option maxRecDepth 100000 in
theorem d_Md_four_2 : decode b_Md_four 2 = .ok (.iload_n 2, 1) := by decide +kernel
set_option maxRecDepth 100000 in
theorem d_Md_four_3 : decode b_Md_four 3 = .ok (.ifCond .lt 35, 3) := by decide +kernel
set_option maxRecDepth 100000 in
theorem d_Md_four_6 : decode b_Md_four 6 = .ok (.aload_n 0, 1) := by decide +kernel
set_option maxRecDepth 100000 in
theorem d_Md_four_7 : decode b_Md_four 7 = .ok (.getfield 109, 3) := by decide +kernel
set_option maxRecDepth 100000 in
theorem d_Md_four_10 : decode b_Md_four 10 = .ok (.aload_n 0, 1) := by decide +kernel
set_option maxRecDepth 100000 in
theorem d_Md_four_11 : decode b_Md_four 11 = .ok (.getfield 212, 3) := by decide +kernel
set_option maxRecDepth 100000 in
theorem d_Md_four_14 : decode b_Md_four 14 = .ok (.iload_n 1, 1) := by decide +kernel
set_option maxRecDepth 100000 in
theorem d_Md_four_15 : decode b_Md_four 15 = .ok (.bipush 8, 2) := by decide +kernel
set_option maxRecDepth 100000 in
theorem d_Md_four_17 : decode b_Md_four 17 = .ok (.iload_n 2, 1) := by decide +kernel
set_option maxRecDepth 100000 in
theorem d_Md_four_18 : decode b_Md_four 18 = .ok (.imul, 1) := by decide +kernel
set_option maxRecDepth 100000 in
theorem d_Md_four_19 : decode b_Md_four 19 = .ok (.ishr, 1) := by decide +kernel
set_option maxRecDepth 100000 in
theorem d_Md_four_20 : decode b_Md_four 20 = .ok (.i2b, 1) := by decide +kernel
set_option maxRecDepth 100000 in
theorem d_Md_four_21 : decode b_Md_four 21 = .ok (.bastore, 1) := by decide +kernel
set_option maxRecDepth 100000 in
theorem d_Md_four_22 : decode b_Md_four 22 = .ok (.aload_n 0, 1) := by decide +kernel
set_option maxRecDepth 100000 in
theorem d_Md_four_23 : decode b_Md_four 23 = .ok (.dup, 1) := by decide +kernel
set_option maxRecDepth 100000 in
theorem d_Md_four_24 : decode b_Md_four 24 = .ok (.getfield 212, 3) := by decide +kernel
set_option maxRecDepth 100000 in
theorem d_Md_four_27 : decode b_Md_four 27 = .ok (.iconst 1, 1) := by decide +kernel
set_option maxRecDepth 100000 in
theorem d_Md_four_28 : decode b_Md_four 28 = .ok (.iadd, 1) := by decide +kernel
set_option maxRecDepth 100000 in
theorem d_Md_four_29 : decode b_Md_four 29 = .ok (.putfield 212, 3) := by decide +kernel
set_option maxRecDepth 100000 in
theorem d_Md_four_32 : decode b_Md_four 32 = .ok (.iinc 2 (-1), 3) := by decide +kernel
set_option maxRecDepth 100000 in
theorem d_Md_four_35 : decode b_Md_four 35 = .ok (.goto (-33), 3) := by decide +kernel
set_option maxRecDepth 100000 in
theorem d_Md_four_38 : decode b_Md_four 38 = .ok (.return_, 1) := by decide +kernel
set_option maxRecDepth 100000 in
theorem d_Md_free_0 : decode b_Md_free 0 = .ok (.iload_n 1, 1) := by decide +kernel
set_option maxRecDepth 100000 in
theorem d_Md_free_1 : decode b_Md_free 1 = .ok (.invokestatic 186, 3) := by decide +kernel
set_option maxRecDepth 100000 in
theorem d_Md_free_4 : decode b_Md_free 4 = .ok (.ifCond .ne 5, 3) := by decide +kernel
set_option maxRecDepth 100000 in
theorem d_Md_free_7 : decode b_Md_free 7 = .ok (.iconst (-1), 1) := by decide +kernel
set_option maxRecDepth 100000 in
theorem d_Md_free_8 : decode b_Md_free 8 = .ok (.ireturn, 1) := by decide +kernel
set_option maxRecDepth 100000 in
theorem d_Md_free_9 : decode b_Md_free 9 = .ok (.aload_n 0, 1) := by decide +kernel
set_option maxRecDepth 100000 in
theorem d_Md_free_10 : decode b_Md_free 10 = .ok (.getfield 58, 3) := by decide +kernel
set_option maxRecDepth 100000 in
theorem d_Md_free_13 : decode b_Md_free 13 = .ok (.iload_n 1, 1) := by decide +kernel
set_option maxRecDepth 100000 in
theorem d_Md_free_14 : decode b_Md_free 14 = .ok (.iaload, 1) := by decide +kernel
set_option maxRecDepth 100000 in
theorem d_Md_free_15 : decode b_Md_free 15 = .ok (.ifCond .eq 6, 3) := by decide +kernel
set_option maxRecDepth 100000 in
theorem d_Md_free_18 : decode b_Md_free 18 = .ok (.bipush (-2), 2) := by decide +kernel
set_option maxRecDepth 100000 in
theorem d_Md_free_20 : decode b_Md_free 20 = .ok (.ireturn, 1) := by decide +kernel
set_option maxRecDepth 100000 in
theorem d_Md_free_21 : decode b_Md_free 21 = .ok (.aload_n 0, 1) := by decide +kernel
set_option maxRecDepth 100000 in
theorem d_Md_free_22 : decode b_Md_free 22 = .ok (.getfield 58, 3) := by decide +kernel
set_option maxRecDepth 100000 in
theorem d_Md_free_25 : decode b_Md_free 25 = .ok (.iload_n 1, 1) := by decide +kernel
set_option maxRecDepth 100000 in
theorem d_Md_free_26 : decode b_Md_free 26 = .ok (.iconst 2, 1) := by decide +kernel
set_option maxRecDepth 100000 in
theorem d_Md_free_27 : decode b_Md_free 27 = .ok (.iastore, 1) := by decide +kernel
set_option maxRecDepth 100000 in
theorem d_Md_free_28 : decode b_Md_free 28 = .ok (.iconst 1, 1) := by decide +kernel
set_option maxRecDepth 100000 in
theorem d_Md_free_29 : decode b_Md_free 29 = .ok (.ireturn, 1) := by decide +kernel
set_option maxRecDepth 100000 in
theorem d_Md_frost_0 : decode b_Md_frost 0 = .ok (.iload_n 1, 1) := by decide +kernel
set_option maxRecDepth 100000 in
theorem d_Md_frost_1 : decode b_Md_frost 1 = .ok (.aload_n 0, 1) := by decide +kernel
set_option maxRecDepth 100000 in
theorem d_Md_frost_2 : decode b_Md_frost 2 = .ok (.invokevirtual 45, 3) := by decide +kernel
set_option maxRecDepth 100000 in
theorem d_Md_frost_5 : decode b_Md_frost 5 = .ok (.sipush 499, 3) := by decide +kernel
set_option maxRecDepth 100000 in
theorem d_Md_frost_8 : decode b_Md_frost 8 = .ok (.invokestatic 10, 3) := by decide +kernel
set_option maxRecDepth 100000 in
theorem d_Md_frost_11 : decode b_Md_frost 11 = .ok (.ifCond .eq 12, 3) := by decide +kernel
set_option maxRecDepth 100000 in
theorem d_Md_frost_14 : decode b_Md_frost 14 = .ok (.iload_n 2, 1) := by decide +kernel
set_option maxRecDepth 100000 in
theorem d_Md_frost_15 : decode b_Md_frost 15 = .ok (.iconst 0, 1) := by decide +kernel
set_option maxRecDepth 100000 in
theorem d_Md_frost_16 : decode b_Md_frost 16 = .ok (.iconst 1, 1) := by decide +kernel
set_option maxRecDepth 100000 in
theorem d_Md_frost_17 : decode b_Md_frost 17 = .ok (.invokestatic 10, 3) := by decide +kernel
set_option maxRecDepth 100000 in
theorem d_Md_frost_20 : decode b_Md_frost 20 = .ok (.ifCond .ne 5, 3) := by decide +kernel
set_option maxRecDepth 100000 in
theorem d_Md_frost_23 : decode b_Md_frost 23 = .ok (.iconst (-1), 1) := by decide +kernel
set_option maxRecDepth 100000 in
theorem d_Md_frost_24 : decode b_Md_frost 24 = .ok (.ireturn, 1) := by decide +kernel
set_option maxRecDepth 100000 in
theorem d_Md_frost_25 : decode b_Md_frost 25 = .ok (.aload_n 0, 1) := by decide +kernel
set_option maxRecDepth 100000 in
theorem d_Md_frost_26 : decode b_Md_frost 26 = .ok (.getfield 49, 3) := by decide +kernel
set_option maxRecDepth 100000 in
theorem d_Md_frost_29 : decode b_Md_frost 29 = .ok (.iload_n 1, 1) := by decide +kernel
set_option maxRecDepth 100000 in
theorem d_Md_frost_30 : decode b_Md_frost 30 = .ok (.baload, 1) := by decide +kernel
set_option maxRecDepth 100000 in
theorem d_Md_frost_31 : decode b_Md_frost 31 = .ok (.ifCond .eq 7, 3) := by decide +kernel
set_option maxRecDepth 100000 in
theorem d_Md_frost_34 : decode b_Md_frost 34 = .ok (.iconst 1, 1) := by decide +kernel
set_option maxRecDepth 100000 in
theorem d_Md_frost_35 : decode b_Md_frost 35 = .ok (.goto 4, 3) := by decide +kernel
set_option maxRecDepth 100000 in
theorem d_Md_frost_38 : decode b_Md_frost 38 = .ok (.iconst 0, 1) := by decide +kernel
set_option maxRecDepth 100000 in
theorem d_Md_frost_39 : decode b_Md_frost 39 = .ok (.istore_n 3, 1) := by decide +kernel
set_option maxRecDepth 100000 in
theorem d_Md_frost_40 : decode b_Md_frost 40 = .ok (.aload_n 0, 1) := by decide +kernel
set_option maxRecDepth 100000 in
theorem d_Md_frost_41 : decode b_Md_frost 41 = .ok (.getfield 49, 3) := by decide +kernel
set_option maxRecDepth 100000 in
theorem d_Md_frost_44 : decode b_Md_frost 44 = .ok (.iload_n 1, 1) := by decide +kernel
set_option maxRecDepth 100000 in
theorem d_Md_frost_45 : decode b_Md_frost 45 = .ok (.iload_n 2, 1) := by decide +kernel
set_option maxRecDepth 100000 in
theorem d_Md_frost_46 : decode b_Md_frost 46 = .ok (.iconst 1, 1) := by decide +kernel
set_option maxRecDepth 100000 in
theorem d_Md_frost_47 : decode b_Md_frost 47 = .ok (.if_icmp .ne 7, 3) := by decide +kernel
set_option maxRecDepth 100000 in
theorem d_Md_frost_50 : decode b_Md_frost 50 = .ok (.iconst 1, 1) := by decide +kernel
set_option maxRecDepth 100000 in
theorem d_Md_frost_51 : decode b_Md_frost 51 = .ok (.goto 4, 3) := by decide +kernel
set_option maxRecDepth 100000 in
theorem d_Md_frost_54 : decode b_Md_frost 54 = .ok (.iconst 0, 1) := by decide +kernel
set_option maxRecDepth 100000 in
theorem d_Md_frost_55 : decode b_Md_frost 55 = .ok (.bastore, 1) := by decide +kernel
set_option maxRecDepth 100000 in
theorem d_Md_frost_56 : decode b_Md_frost 56 = .ok (.iload_n 3, 1) := by decide +kernel
set_option maxRecDepth 100000 in
theorem d_Md_frost_57 : decode b_Md_frost 57 = .ok (.ireturn, 1) := by decide +kernel
set_option maxRecDepth 100000 in
theorem d_Md_hinders_0 : decode b_Md_hinders 0 = .ok (.aload_n 0, 1) := by decide +kernel
set_option maxRecDepth 100000 in
theorem d_Md_hinders_1 : decode b_Md_hinders 1 = .ok (.getfield 49, 3) := by decide +kernel
set_option maxRecDepth 100000 in
theorem d_Md_hinders_4 : decode b_Md_hinders 4 = .ok (.aload_n 0, 1) := by decide +kernel
set_option maxRecDepth 100000 in
theorem d_Md_hinders_5 : decode b_Md_hinders 5 = .ok (.invokevirtual 45, 3) := by decide +kernel
set_option maxRecDepth 100000 in
theorem d_Md_hinders_8 : decode b_Md_hinders 8 = .ok (.baload, 1) := by decide +kernel
set_option maxRecDepth 100000 in
theorem d_Md_hinders_9 : decode b_Md_hinders 9 = .ok (.ifCond .eq 5, 3) := by decide +kernel
set_option maxRecDepth 100000 in
theorem d_Md_hinders_14 : decode b_Md_hinders 14 = .ok (.aload_n 0, 1) := by decide +kernel
set_option maxRecDepth 100000 in
theorem d_Md_hinders_15 : decode b_Md_hinders 15 = .ok (.getfield 103, 3) := by decide +kernel
set_option maxRecDepth 100000 in
theorem d_Md_hinders_18 : decode b_Md_hinders 18 = .ok (.iload_n 1, 1) := by decide +kernel
set_option maxRecDepth 100000 in
theorem d_Md_hinders_19 : decode b_Md_hinders 19 = .ok (.iaload, 1) := by decide +kernel
set_option maxRecDepth 100000 in
theorem d_Md_hourNow_0 : decode b_Md_hourNow 0 = .ok (.aload_n 0, 1) := by decide +kernel
set_option maxRecDepth 100000 in
theorem d_Md_hourNow_1 : decode b_Md_hourNow 1 = .ok (.getfield 7, 3) := by decide +kernel
set_option maxRecDepth 100000 in
theorem d_Md_hourNow_4 : decode b_Md_hourNow 4 = .ok (.sipush 720, 3) := by decide +kernel
set_option maxRecDepth 100000 in
theorem d_Md_hourNow_7 : decode b_Md_hourNow 7 = .ok (.irem, 1) := by decide +kernel
set_option maxRecDepth 100000 in
theorem d_Md_hourNow_8 : decode b_Md_hourNow 8 = .ok (.bipush 60, 2) := by decide +kernel
set_option maxRecDepth 100000 in
theorem d_Md_hourNow_10 : decode b_Md_hourNow 10 = .ok (.idiv, 1) := by decide +kernel
set_option maxRecDepth 100000 in
theorem d_Md_hourNow_11 : decode b_Md_hourNow 11 = .ok (.ireturn, 1) := by decide +kernel
set_option maxRecDepth 100000 in
theorem d_Md_in_0 : decode b_Md_in 0 = .ok (.iload_n 0, 1) := by decide +kernel
set_option maxRecDepth 100000 in
theorem d_Md_in_1 : decode b_Md_in 1 = .ok (.iload_n 1, 1) := by decide +kernel
set_option maxRecDepth 100000 in
theorem d_Md_in_2 : decode b_Md_in 2 = .ok (.if_icmp .lt 12, 3) := by decide +kernel
set_option maxRecDepth 100000 in
theorem d_Md_in_5 : decode b_Md_in 5 = .ok (.iload_n 0, 1) := by decide +kernel
set_option maxRecDepth 100000 in
theorem d_Md_in_6 : decode b_Md_in 6 = .ok (.iload_n 2, 1) := by decide +kernel
set_option maxRecDepth 100000 in
theorem d_Md_in_7 : decode b_Md_in 7 = .ok (.if_icmp .gt 7, 3) := by decide +kernel
set_option maxRecDepth 100000 in
theorem d_Md_in_10 : decode b_Md_in 10 = .ok (.iconst 1, 1) := by decide +kernel
set_option maxRecDepth 100000 in
theorem d_Md_in_11 : decode b_Md_in 11 = .ok (.goto 4, 3) := by decide +kernel
set_option maxRecDepth 100000 in
theorem d_Md_in_14 : decode b_Md_in 14 = .ok (.iconst 0, 1) := by decide +kernel
set_option maxRecDepth 100000 in
theorem d_Md_in_15 : decode b_Md_in 15 = .ok (.ireturn, 1) := by decide +kernel
set_option maxRecDepth 100000 in
theorem d_Md_inForce_0 : decode b_Md_inForce 0 = .ok (.iload_n 1, 1) := by decide +kernel
set_option maxRecDepth 100000 in
theorem d_Md_inForce_1 : decode b_Md_inForce 1 = .ok (.invokestatic 38, 3) := by decide +kernel
set_option maxRecDepth 100000 in
theorem d_Md_inForce_4 : decode b_Md_inForce 4 = .ok (.ifCond .eq 19, 3) := by decide +kernel
set_option maxRecDepth 100000 in
theorem d_Md_inForce_7 : decode b_Md_inForce 7 = .ok (.iload_n 2, 1) := by decide +kernel
set_option maxRecDepth 100000 in
theorem d_Md_inForce_8 : decode b_Md_inForce 8 = .ok (.invokestatic 38, 3) := by decide +kernel
set_option maxRecDepth 100000 in
theorem d_Md_inForce_11 : decode b_Md_inForce 11 = .ok (.ifCond .eq 12, 3) := by decide +kernel
set_option maxRecDepth 100000 in
theorem d_Md_inForce_14 : decode b_Md_inForce 14 = .ok (.aload_n 0, 1) := by decide +kernel
set_option maxRecDepth 100000 in
theorem d_Md_inForce_15 : decode b_Md_inForce 15 = .ok (.iload_n 1, 1) := by decide +kernel
set_option maxRecDepth 100000 in
theorem d_Md_inForce_16 : decode b_Md_inForce 16 = .ok (.iload_n 2, 1) := by decide +kernel
set_option maxRecDepth 100000 in
theorem d_Md_inForce_17 : decode b_Md_inForce 17 = .ok (.invokevirtual 281, 3) := by decide +kernel
set_option maxRecDepth 100000 in
theorem d_Md_inForce_23 : decode b_Md_inForce 23 = .ok (.iconst (-1), 1) := by decide +kernel
set_option maxRecDepth 100000 in
theorem d_Md_inForce_24 : decode b_Md_inForce 24 = .ok (.ireturn, 1) := by decide +kernel
set_option maxRecDepth 100000 in
theorem d_Md_isAsked_0 : decode b_Md_isAsked 0 = .ok (.aload_n 0, 1) := by decide +kernel
set_option maxRecDepth 100000 in
theorem d_Md_isAsked_1 : decode b_Md_isAsked 1 = .ok (.iload_n 1, 1) := by decide +kernel
set_option maxRecDepth 100000 in
theorem d_Md_isAsked_2 : decode b_Md_isAsked 2 = .ok (.invokevirtual 209, 3) := by decide +kernel
set_option maxRecDepth 100000 in
theorem d_Md_isAsked_5 : decode b_Md_isAsked 5 = .ok (.ifCond .eq 41, 3) := by decide +kernel
set_option maxRecDepth 100000 in
theorem d_Md_isAsked_8 : decode b_Md_isAsked 8 = .ok (.aload_n 0, 1) := by decide +kernel
set_option maxRecDepth 100000 in
theorem d_Md_isAsked_9 : decode b_Md_isAsked 9 = .ok (.getfield 106, 3) := by decide +kernel
set_option maxRecDepth 100000 in
theorem d_Md_isAsked_12 : decode b_Md_isAsked 12 = .ok (.iload_n 1, 1) := by decide +kernel
set_option maxRecDepth 100000 in
theorem d_Md_isAsked_13 : decode b_Md_isAsked 13 = .ok (.baload, 1) := by decide +kernel
set_option maxRecDepth 100000 in
theorem d_Md_isAsked_14 : decode b_Md_isAsked 14 = .ok (.ifCond .ne 32, 3) := by decide +kernel
set_option maxRecDepth 100000 in
theorem d_Md_isAsked_17 : decode b_Md_isAsked 17 = .ok (.iload_n 2, 1) := by decide +kernel
set_option maxRecDepth 100000 in
theorem d_Md_isAsked_18 : decode b_Md_isAsked 18 = .ok (.invokestatic 186, 3) := by decide +kernel
set_option maxRecDepth 100000 in
theorem d_Md_isAsked_21 : decode b_Md_isAsked 21 = .ok (.ifCond .eq 25, 3) := by decide +kernel
set_option maxRecDepth 100000 in
theorem d_Md_isAsked_24 : decode b_Md_isAsked 24 = .ok (.aload_n 0, 1) := by decide +kernel
set_option maxRecDepth 100000 in
theorem d_Md_isAsked_25 : decode b_Md_isAsked 25 = .ok (.iload_n 3, 1) := by decide +kernel
set_option maxRecDepth 100000 in
theorem d_Md_isAsked_26 : decode b_Md_isAsked 26 = .ok (.invokevirtual 199, 3) := by decide +kernel
set_option maxRecDepth 100000 in
theorem d_Md_isAsked_29 : decode b_Md_isAsked 29 = .ok (.ifCond .eq 17, 3) := by decide +kernel
set_option maxRecDepth 100000 in
theorem d_Md_isAsked_32 : decode b_Md_isAsked 32 = .ok (.iload_n 3, 1) := by decide +kernel
set_option maxRecDepth 100000 in
theorem d_Md_isAsked_33 : decode b_Md_isAsked 33 = .ok (.aload_n 0, 1) := by decide +kernel
set_option maxRecDepth 100000 in
theorem d_Md_isAsked_34 : decode b_Md_isAsked 34 = .ok (.getfield 97, 3) := by decide +kernel
set_option maxRecDepth 100000 in
theorem d_Md_isAsked_37 : decode b_Md_isAsked 37 = .ok (.iload_n 1, 1) := by decide +kernel
set_option maxRecDepth 100000 in
theorem d_Md_isAsked_38 : decode b_Md_isAsked 38 = .ok (.iaload, 1) := by decide +kernel
set_option maxRecDepth 100000 in
theorem d_Md_isAsked_39 : decode b_Md_isAsked 39 = .ok (.if_icmp .eq 7, 3) := by decide +kernel
set_option maxRecDepth 100000 in
theorem d_Md_isAsked_42 : decode b_Md_isAsked 42 = .ok (.iconst 1, 1) := by decide +kernel
set_option maxRecDepth 100000 in
theorem d_Md_isAsked_43 : decode b_Md_isAsked 43 = .ok (.goto 4, 3) := by decide +kernel
set_option maxRecDepth 100000 in
theorem d_Md_isAsked_46 : decode b_Md_isAsked 46 = .ok (.iconst 0, 1) := by decide +kernel
set_option maxRecDepth 100000 in
theorem d_Md_isAsked_47 : decode b_Md_isAsked 47 = .ok (.ireturn, 1) := by decide +kernel
set_option maxRecDepth 100000 in
theorem d_Md_isBoat_0 : decode b_Md_isBoat 0 = .ok (.iload_n 1, 1) := by decide +kernel
set_option maxRecDepth 100000 in
theorem d_Md_isBoat_1 : decode b_Md_isBoat 1 = .ok (.iconst 0, 1) := by decide +kernel
set_option maxRecDepth 100000 in
theorem d_Md_isBoat_2 : decode b_Md_isBoat 2 = .ok (.aload_n 0, 1) := by decide +kernel
set_option maxRecDepth 100000 in
theorem d_Md_isBoat_3 : decode b_Md_isBoat 3 = .ok (.getfield 206, 3) := by decide +kernel
set_option maxRecDepth 100000 in
theorem d_Md_isBoat_6 : decode b_Md_isBoat 6 = .ok (.iconst 1, 1) := by decide +kernel
set_option maxRecDepth 100000 in
theorem d_Md_isBoat_7 : decode b_Md_isBoat 7 = .ok (.isub, 1) := by decide +kernel
set_option maxRecDepth 100000 in
theorem d_Md_isBoat_8 : decode b_Md_isBoat 8 = .ok (.invokestatic 10, 3) := by decide +kernel
set_option maxRecDepth 100000 in
theorem d_Md_isBoat_11 : decode b_Md_isBoat 11 = .ok (.ireturn, 1) := by decide +kernel
set_option maxRecDepth 100000 in
theorem d_Md_isDay_0 : decode b_Md_isDay 0 = .ok (.iload_n 0, 1) := by decide +kernel
set_option maxRecDepth 100000 in
theorem d_Md_isDay_1 : decode b_Md_isDay 1 = .ok (.iconst 0, 1) := by decide +kernel
set_option maxRecDepth 100000 in
theorem d_Md_isDay_2 : decode b_Md_isDay 2 = .ok (.sipush 499, 3) := by decide +kernel
set_option maxRecDepth 100000 in
theorem d_Md_isDay_5 : decode b_Md_isDay 5 = .ok (.invokestatic 10, 3) := by decide +kernel
set_option maxRecDepth 100000 in
theorem d_Md_isDay_8 : decode b_Md_isDay 8 = .ok (.ireturn, 1) := by decide +kernel
set_option maxRecDepth 100000 in
theorem d_Md_isMan_0 : decode b_Md_isMan 0 = .ok (.iload_n 0, 1) := by decide +kernel
set_option maxRecDepth 100000 in
theorem d_Md_isMan_1 : decode b_Md_isMan 1 = .ok (.iconst 0, 1) := by decide +kernel
set_option maxRecDepth 100000 in
theorem d_Md_isMan_2 : decode b_Md_isMan 2 = .ok (.bipush 39, 2) := by decide +kernel
set_option maxRecDepth 100000 in
theorem d_Md_isMan_4 : decode b_Md_isMan 4 = .ok (.invokestatic 10, 3) := by decide +kernel
set_option maxRecDepth 100000 in
theorem d_Md_isMan_7 : decode b_Md_isMan 7 = .ok (.ireturn, 1) := by decide +kernel
set_option maxRecDepth 100000 in
theorem d_Md_isPension_0 : decode b_Md_isPension 0 = .ok (.iload_n 0, 1) := by decide +kernel
set_option maxRecDepth 100000 in
theorem d_Md_isPension_1 : decode b_Md_isPension 1 = .ok (.iconst 1, 1) := by decide +kernel
set_option maxRecDepth 100000 in
theorem d_Md_isPension_2 : decode b_Md_isPension 2 = .ok (.sipush 10000, 3) := by decide +kernel
set_option maxRecDepth 100000 in
theorem d_Md_isPension_5 : decode b_Md_isPension 5 = .ok (.invokestatic 10, 3) := by decide +kernel
set_option maxRecDepth 100000 in
theorem d_Md_isPension_8 : decode b_Md_isPension 8 = .ok (.ifCond .eq 18, 3) := by decide +kernel
set_option maxRecDepth 100000 in
theorem d_Md_isPension_11 : decode b_Md_isPension 11 = .ok (.iload_n 1, 1) := by decide +kernel
set_option maxRecDepth 100000 in
theorem d_Md_isPension_12 : decode b_Md_isPension 12 = .ok (.iconst 0, 1) := by decide +kernel
set_option maxRecDepth 100000 in
theorem d_Md_isPension_13 : decode b_Md_isPension 13 = .ok (.sipush 9999, 3) := by decide +kernel
set_option maxRecDepth 100000 in
theorem d_Md_isPension_16 : decode b_Md_isPension 16 = .ok (.invokestatic 10, 3) := by decide +kernel
set_option maxRecDepth 100000 in
theorem d_Md_isPension_19 : decode b_Md_isPension 19 = .ok (.ifCond .eq 7, 3) := by decide +kernel
set_option maxRecDepth 100000 in
theorem d_Md_isPension_22 : decode b_Md_isPension 22 = .ok (.iconst 1, 1) := by decide +kernel
set_option maxRecDepth 100000 in
theorem d_Md_isPension_23 : decode b_Md_isPension 23 = .ok (.goto 4, 3) := by decide +kernel
set_option maxRecDepth 100000 in
theorem d_Md_isPension_26 : decode b_Md_isPension 26 = .ok (.iconst 0, 1) := by decide +kernel
set_option maxRecDepth 100000 in
theorem d_Md_isPension_27 : decode b_Md_isPension 27 = .ok (.ireturn, 1) := by decide +kernel
set_option maxRecDepth 100000 in
theorem d_Md_isStairs_0 : decode b_Md_isStairs 0 = .ok (.iload_n 1, 1) := by decide +kernel
set_option maxRecDepth 100000 in
theorem d_Md_isStairs_1 : decode b_Md_isStairs 1 = .ok (.iconst 0, 1) := by decide +kernel
set_option maxRecDepth 100000 in
theorem d_Md_isStairs_2 : decode b_Md_isStairs 2 = .ok (.aload_n 0, 1) := by decide +kernel
set_option maxRecDepth 100000 in
theorem d_Md_isStairs_3 : decode b_Md_isStairs 3 = .ok (.getfield 14, 3) := by decide +kernel
set_option maxRecDepth 100000 in
theorem d_Md_isStairs_6 : decode b_Md_isStairs 6 = .ok (.iconst 1, 1) := by decide +kernel
set_option maxRecDepth 100000 in
theorem d_Md_isStairs_7 : decode b_Md_isStairs 7 = .ok (.isub, 1) := by decide +kernel
set_option maxRecDepth 100000 in
theorem d_Md_isStairs_8 : decode b_Md_isStairs 8 = .ok (.invokestatic 10, 3) := by decide +kernel
set_option maxRecDepth 100000 in
theorem d_Md_isStairs_11 : decode b_Md_isStairs 11 = .ok (.ireturn, 1) := by decide +kernel
set_option maxRecDepth 100000 in
theorem d_Md_join_0 : decode b_Md_join 0 = .ok (.aload_n 0, 1) := by decide +kernel
set_option maxRecDepth 100000 in
theorem d_Md_join_1 : decode b_Md_join 1 = .ok (.iload_n 1, 1) := by decide +kernel
set_option maxRecDepth 100000 in
theorem d_Md_join_2 : decode b_Md_join 2 = .ok (.invokevirtual 199, 3) := by decide +kernel
set_option maxRecDepth 100000 in
theorem d_Md_join_5 : decode b_Md_join 5 = .ok (.ifCond .eq 10, 3) := by decide +kernel
set_option maxRecDepth 100000 in
theorem d_Md_join_8 : decode b_Md_join 8 = .ok (.iload_n 2, 1) := by decide +kernel
set_option maxRecDepth 100000 in
theorem d_Md_join_9 : decode b_Md_join 9 = .ok (.invokestatic 186, 3) := by decide +kernel
set_option maxRecDepth 100000 in
theorem d_Md_join_12 : decode b_Md_join 12 = .ok (.ifCond .ne 5, 3) := by decide +kernel
set_option maxRecDepth 100000 in
theorem d_Md_join_15 : decode b_Md_join 15 = .ok (.iconst (-1), 1) := by decide +kernel
set_option maxRecDepth 100000 in
theorem d_Md_join_16 : decode b_Md_join 16 = .ok (.ireturn, 1) := by decide +kernel
set_option maxRecDepth 100000 in
theorem d_Md_join_17 : decode b_Md_join 17 = .ok (.aload_n 0, 1) := by decide +kernel
set_option maxRecDepth 100000 in
theorem d_Md_join_18 : decode b_Md_join 18 = .ok (.getfield 58, 3) := by decide +kernel
set_option maxRecDepth 100000 in
theorem d_Md_join_21 : decode b_Md_join 21 = .ok (.iload_n 2, 1) := by decide +kernel
set_option maxRecDepth 100000 in
theorem d_Md_join_22 : decode b_Md_join 22 = .ok (.iaload, 1) := by decide +kernel
set_option maxRecDepth 100000 in
theorem d_Md_join_23 : decode b_Md_join 23 = .ok (.iconst 2, 1) := by decide +kernel
set_option maxRecDepth 100000 in
theorem d_Md_join_24 : decode b_Md_join 24 = .ok (.if_icmp .ne 20, 3) := by decide +kernel
set_option maxRecDepth 100000 in
theorem d_Md_join_27 : decode b_Md_join 27 = .ok (.aload_n 0, 1) := by decide +kernel
set_option maxRecDepth 100000 in
theorem d_Md_join_28 : decode b_Md_join 28 = .ok (.getfield 79, 3) := by decide +kernel
set_option maxRecDepth 100000 in
theorem d_Md_join_31 : decode b_Md_join 31 = .ok (.iload_n 2, 1) := by decide +kernel
set_option maxRecDepth 100000 in
theorem d_Md_join_32 : decode b_Md_join 32 = .ok (.iaload, 1) := by decide +kernel
set_option maxRecDepth 100000 in
theorem d_Md_join_33 : decode b_Md_join 33 = .ok (.ifCond .ge 11, 3) := by decide +kernel
set_option maxRecDepth 100000 in
theorem d_Md_join_36 : decode b_Md_join 36 = .ok (.aload_n 0, 1) := by decide +kernel
set_option maxRecDepth 100000 in
theorem d_Md_join_37 : decode b_Md_join 37 = .ok (.iload_n 2, 1) := by decide +kernel
set_option maxRecDepth 100000 in
theorem d_Md_join_38 : decode b_Md_join 38 = .ok (.invokevirtual 193, 3) := by decide +kernel
set_option maxRecDepth 100000 in
theorem d_Md_join_44 : decode b_Md_join 44 = .ok (.bipush (-2), 2) := by decide +kernel
set_option maxRecDepth 100000 in
theorem d_Md_join_46 : decode b_Md_join 46 = .ok (.ireturn, 1) := by decide +kernel
set_option maxRecDepth 100000 in
theorem d_Md_leave_0 : decode b_Md_leave 0 = .ok (.iload_n 1, 1) := by decide +kernel
set_option maxRecDepth 100000 in
theorem d_Md_leave_1 : decode b_Md_leave 1 = .ok (.invokestatic 186, 3) := by decide +kernel
set_option maxRecDepth 100000 in
theorem d_Md_leave_4 : decode b_Md_leave 4 = .ok (.ifCond .ne 5, 3) := by decide +kernel
set_option maxRecDepth 100000 in
theorem d_Md_leave_7 : decode b_Md_leave 7 = .ok (.iconst (-1), 1) := by decide +kernel
set_option maxRecDepth 100000 in
theorem d_Md_leave_8 : decode b_Md_leave 8 = .ok (.ireturn, 1) := by decide +kernel
set_option maxRecDepth 100000 in
theorem d_Md_leave_9 : decode b_Md_leave 9 = .ok (.aload_n 0, 1) := by decide +kernel
set_option maxRecDepth 100000 in
theorem d_Md_leave_10 : decode b_Md_leave 10 = .ok (.iload_n 1, 1) := by decide +kernel
set_option maxRecDepth 100000 in
theorem d_Md_leave_11 : decode b_Md_leave 11 = .ok (.invokevirtual 193, 3) := by decide +kernel
set_option maxRecDepth 100000 in
theorem d_Md_leaves_0 : decode b_Md_leaves 0 = .ok (.aload_n 0, 1) := by decide +kernel
set_option maxRecDepth 100000 in
theorem d_Md_leaves_1 : decode b_Md_leaves 1 = .ok (.iload_n 1, 1) := by decide +kernel
set_option maxRecDepth 100000 in
theorem d_Md_leaves_2 : decode b_Md_leaves 2 = .ok (.invokevirtual 193, 3) := by decide +kernel
set_option maxRecDepth 100000 in
theorem d_Md_level_0 : decode b_Md_level 0 = .ok (.iload_n 1, 1) := by decide +kernel
set_option maxRecDepth 100000 in
theorem d_Md_level_1 : decode b_Md_level 1 = .ok (.invokestatic 38, 3) := by decide +kernel
set_option maxRecDepth 100000 in
theorem d_Md_level_4 : decode b_Md_level 4 = .ok (.ifCond .eq 24, 3) := by decide +kernel
set_option maxRecDepth 100000 in
theorem d_Md_level_7 : decode b_Md_level 7 = .ok (.iload_n 2, 1) := by decide +kernel
set_option maxRecDepth 100000 in
theorem d_Md_level_8 : decode b_Md_level 8 = .ok (.iconst 0, 1) := by decide +kernel
set_option maxRecDepth 100000 in
theorem d_Md_level_9 : decode b_Md_level 9 = .ok (.bipush 11, 2) := by decide +kernel
set_option maxRecDepth 100000 in
theorem d_Md_level_11 : decode b_Md_level 11 = .ok (.invokestatic 10, 3) := by decide +kernel
set_option maxRecDepth 100000 in
theorem d_Md_level_14 : decode b_Md_level 14 = .ok (.ifCond .eq 14, 3) := by decide +kernel
set_option maxRecDepth 100000 in
theorem d_Md_level_17 : decode b_Md_level 17 = .ok (.iload_n 3, 1) := by decide +kernel
set_option maxRecDepth 100000 in
theorem d_Md_level_18 : decode b_Md_level 18 = .ok (.bipush (-90), 2) := by decide +kernel
set_option maxRecDepth 100000 in
theorem d_Md_level_20 : decode b_Md_level 20 = .ok (.bipush 90, 2) := by decide +kernel
set_option maxRecDepth 100000 in
theorem d_Md_level_22 : decode b_Md_level 22 = .ok (.invokestatic 10, 3) := by decide +kernel
set_option maxRecDepth 100000 in
theorem d_Md_level_25 : decode b_Md_level 25 = .ok (.ifCond .ne 5, 3) := by decide +kernel
set_option maxRecDepth 100000 in
theorem d_Md_level_28 : decode b_Md_level 28 = .ok (.iconst (-1), 1) := by decide +kernel
set_option maxRecDepth 100000 in
theorem d_Md_level_29 : decode b_Md_level 29 = .ok (.ireturn, 1) := by decide +kernel
set_option maxRecDepth 100000 in
theorem d_Md_level_30 : decode b_Md_level 30 = .ok (.iconst 0, 1) := by decide +kernel
set_option maxRecDepth 100000 in
theorem d_Md_level_31 : decode b_Md_level 31 = .ok (.istore 4, 2) := by decide +kernel
set_option maxRecDepth 100000 in
theorem d_Md_level_33 : decode b_Md_level 33 = .ok (.iload 4, 2) := by decide +kernel
set_option maxRecDepth 100000 in
theorem d_Md_level_35 : decode b_Md_level 35 = .ok (.bipush 12, 2) := by decide +kernel
set_option maxRecDepth 100000 in
theorem d_Md_level_37 : decode b_Md_level 37 = .ok (.if_icmp .ge 42, 3) := by decide +kernel
set_option maxRecDepth 100000 in
theorem d_Md_level_40 : decode b_Md_level 40 = .ok (.aload_n 0, 1) := by decide +kernel
set_option maxRecDepth 100000 in
theorem d_Md_level_41 : decode b_Md_level 41 = .ok (.getfield 17, 3) := by decide +kernel
set_option maxRecDepth 100000 in
theorem d_Md_level_44 : decode b_Md_level 44 = .ok (.iload_n 1, 1) := by decide +kernel
set_option maxRecDepth 100000 in
theorem d_Md_level_45 : decode b_Md_level 45 = .ok (.baload, 1) := by decide +kernel
set_option maxRecDepth 100000 in
theorem d_Md_level_46 : decode b_Md_level 46 = .ok (.ifCond .ne 33, 3) := by decide +kernel
set_option maxRecDepth 100000 in
theorem d_Md_level_49 : decode b_Md_level 49 = .ok (.aload_n 0, 1) := by decide +kernel
set_option maxRecDepth 100000 in
theorem d_Md_level_50 : decode b_Md_level 50 = .ok (.getfield 21, 3) := by decide +kernel
set_option maxRecDepth 100000 in
theorem d_Md_level_53 : decode b_Md_level 53 = .ok (.bipush 12, 2) := by decide +kernel
set_option maxRecDepth 100000 in
theorem d_Md_level_55 : decode b_Md_level 55 = .ok (.iload_n 1, 1) := by decide +kernel
set_option maxRecDepth 100000 in
theorem d_Md_level_56 : decode b_Md_level 56 = .ok (.imul, 1) := by decide +kernel
set_option maxRecDepth 100000 in
theorem d_Md_level_57 : decode b_Md_level 57 = .ok (.iload 4, 2) := by decide +kernel
set_option maxRecDepth 100000 in
theorem d_Md_level_59 : decode b_Md_level 59 = .ok (.iadd, 1) := by decide +kernel
set_option maxRecDepth 100000 in
theorem d_Md_level_60 : decode b_Md_level 60 = .ok (.aload_n 0, 1) := by decide +kernel
set_option maxRecDepth 100000 in
theorem d_Md_level_61 : decode b_Md_level 61 = .ok (.getfield 25, 3) := by decide +kernel
set_option maxRecDepth 100000 in
theorem d_Md_level_64 : decode b_Md_level 64 = .ok (.iload 4, 2) := by decide +kernel
set_option maxRecDepth 100000 in
theorem d_Md_level_66 : decode b_Md_level 66 = .ok (.iload_n 1, 1) := by decide +kernel
set_option maxRecDepth 100000 in
theorem d_Md_level_67 : decode b_Md_level 67 = .ok (.iadd, 1) := by decide +kernel
set_option maxRecDepth 100000 in
theorem d_Md_level_68 : decode b_Md_level 68 = .ok (.bipush 12, 2) := by decide +kernel
set_option maxRecDepth 100000 in
theorem d_Md_level_70 : decode b_Md_level 70 = .ok (.irem, 1) := by decide +kernel
set_option maxRecDepth 100000 in
theorem d_Md_level_71 : decode b_Md_level 71 = .ok (.iaload, 1) := by decide +kernel
set_option maxRecDepth 100000 in
theorem d_Md_level_72 : decode b_Md_level 72 = .ok (.iastore, 1) := by decide +kernel
set_option maxRecDepth 100000 in
theorem d_Md_level_73 : decode b_Md_level 73 = .ok (.iinc 4 1, 3) := by decide +kernel
set_option maxRecDepth 100000 in
theorem d_Md_level_76 : decode b_Md_level 76 = .ok (.goto (-43), 3) := by decide +kernel
set_option maxRecDepth 100000 in
theorem d_Md_level_79 : decode b_Md_level 79 = .ok (.aload_n 0, 1) := by decide +kernel
set_option maxRecDepth 100000 in
theorem d_Md_level_80 : decode b_Md_level 80 = .ok (.getfield 17, 3) := by decide +kernel
set_option maxRecDepth 100000 in
theorem d_Md_level_83 : decode b_Md_level 83 = .ok (.iload_n 1, 1) := by decide +kernel
set_option maxRecDepth 100000 in
theorem d_Md_level_84 : decode b_Md_level 84 = .ok (.iconst 1, 1) := by decide +kernel
set_option maxRecDepth 100000 in
theorem d_Md_level_85 : decode b_Md_level 85 = .ok (.bastore, 1) := by decide +kernel
set_option maxRecDepth 100000 in
theorem d_Md_level_86 : decode b_Md_level 86 = .ok (.aload_n 0, 1) := by decide +kernel
set_option maxRecDepth 100000 in
theorem d_Md_level_87 : decode b_Md_level 87 = .ok (.getfield 21, 3) := by decide +kernel
set_option maxRecDepth 100000 in
theorem d_Md_level_90 : decode b_Md_level 90 = .ok (.bipush 12, 2) := by decide +kernel
set_option maxRecDepth 100000 in
theorem d_Md_level_92 : decode b_Md_level 92 = .ok (.iload_n 1, 1) := by decide +kernel
set_option maxRecDepth 100000 in
theorem d_Md_level_93 : decode b_Md_level 93 = .ok (.imul, 1) := by decide +kernel
set_option maxRecDepth 100000 in
theorem d_Md_level_94 : decode b_Md_level 94 = .ok (.iload_n 2, 1) := by decide +kernel
set_option maxRecDepth 100000 in
theorem d_Md_level_95 : decode b_Md_level 95 = .ok (.iadd, 1) := by decide +kernel
set_option maxRecDepth 100000 in
theorem d_Md_level_96 : decode b_Md_level 96 = .ok (.iload_n 3, 1) := by decide +kernel
set_option maxRecDepth 100000 in
theorem d_Md_level_97 : decode b_Md_level 97 = .ok (.iastore, 1) := by decide +kernel
set_option maxRecDepth 100000 in
theorem d_Md_level_98 : decode b_Md_level 98 = .ok (.iconst 1, 1) := by decide +kernel
set_option maxRecDepth 100000 in
theorem d_Md_level_99 : decode b_Md_level 99 = .ok (.ireturn, 1) := by decide +kernel
set_option maxRecDepth 100000 in
theorem d_Md_levelOf_0 : decode b_Md_levelOf 0 = .ok (.iload_n 1, 1) := by decide +kernel
set_option maxRecDepth 100000 in
theorem d_Md_levelOf_1 : decode b_Md_levelOf 1 = .ok (.sipush 500, 3) := by decide +kernel
set_option maxRecDepth 100000 in
theorem d_Md_levelOf_4 : decode b_Md_levelOf 4 = .ok (.if_icmp .ge 26, 3) := by decide +kernel
set_option maxRecDepth 100000 in
theorem d_Md_levelOf_7 : decode b_Md_levelOf 7 = .ok (.aload_n 0, 1) := by decide +kernel
set_option maxRecDepth 100000 in
theorem d_Md_levelOf_8 : decode b_Md_levelOf 8 = .ok (.getfield 17, 3) := by decide +kernel
set_option maxRecDepth 100000 in
theorem d_Md_levelOf_11 : decode b_Md_levelOf 11 = .ok (.iload_n 1, 1) := by decide +kernel
set_option maxRecDepth 100000 in
theorem d_Md_levelOf_12 : decode b_Md_levelOf 12 = .ok (.baload, 1) := by decide +kernel
set_option maxRecDepth 100000 in
theorem d_Md_levelOf_13 : decode b_Md_levelOf 13 = .ok (.ifCond .eq 17, 3) := by decide +kernel
set_option maxRecDepth 100000 in
theorem d_Md_levelOf_16 : decode b_Md_levelOf 16 = .ok (.aload_n 0, 1) := by decide +kernel
set_option maxRecDepth 100000 in
theorem d_Md_levelOf_17 : decode b_Md_levelOf 17 = .ok (.getfield 21, 3) := by decide +kernel
set_option maxRecDepth 100000 in
theorem d_Md_levelOf_20 : decode b_Md_levelOf 20 = .ok (.bipush 12, 2) := by decide +kernel
set_option maxRecDepth 100000 in
theorem d_Md_levelOf_22 : decode b_Md_levelOf 22 = .ok (.iload_n 1, 1) := by decide +kernel
set_option maxRecDepth 100000 in
theorem d_Md_levelOf_23 : decode b_Md_levelOf 23 = .ok (.imul, 1) := by decide +kernel
set_option maxRecDepth 100000 in
theorem d_Md_levelOf_24 : decode b_Md_levelOf 24 = .ok (.iload_n 2, 1) := by decide +kernel
set_option maxRecDepth 100000 in
theorem d_Md_levelOf_25 : decode b_Md_levelOf 25 = .ok (.iadd, 1) := by decide +kernel
set_option maxRecDepth 100000 in
theorem d_Md_levelOf_26 : decode b_Md_levelOf 26 = .ok (.iaload, 1) := by decide +kernel
set_option maxRecDepth 100000 in
theorem d_Md_levelOf_27 : decode b_Md_levelOf 27 = .ok (.goto 14, 3) := by decide +kernel
set_option maxRecDepth 100000 in
theorem d_Md_levelOf_30 : decode b_Md_levelOf 30 = .ok (.aload_n 0, 1) := by decide +kernel
set_option maxRecDepth 100000 in
theorem d_Md_levelOf_31 : decode b_Md_levelOf 31 = .ok (.getfield 25, 3) := by decide +kernel
set_option maxRecDepth 100000 in
theorem d_Md_levelOf_34 : decode b_Md_levelOf 34 = .ok (.iload_n 2, 1) := by decide +kernel
set_option maxRecDepth 100000 in
theorem d_Md_levelOf_35 : decode b_Md_levelOf 35 = .ok (.iload_n 1, 1) := by decide +kernel
set_option maxRecDepth 100000 in
theorem d_Md_levelOf_36 : decode b_Md_levelOf 36 = .ok (.iadd, 1) := by decide +kernel
set_option maxRecDepth 100000 in
theorem d_Md_levelOf_37 : decode b_Md_levelOf 37 = .ok (.bipush 12, 2) := by decide +kernel
set_option maxRecDepth 100000 in
theorem d_Md_levelOf_39 : decode b_Md_levelOf 39 = .ok (.irem, 1) := by decide +kernel
set_option maxRecDepth 100000 in
theorem d_Md_levelOf_40 : decode b_Md_levelOf 40 = .ok (.iaload, 1) := by decide +kernel
set_option maxRecDepth 100000 in
theorem d_Md_levelOf_41 : decode b_Md_levelOf 41 = .ok (.ireturn, 1) := by decide +kernel
set_option maxRecDepth 100000 in
theorem d_Md_line_0 : decode b_Md_line 0 = .ok (.aload_n 0, 1) := by decide +kernel
set_option maxRecDepth 100000 in
theorem d_Md_line_1 : decode b_Md_line 1 = .ok (.getfield 224, 3) := by decide +kernel
set_option maxRecDepth 100000 in
theorem d_Md_line_4 : decode b_Md_line 4 = .ok (.istore_n 2, 1) := by decide +kernel
set_option maxRecDepth 100000 in
theorem d_Md_line_5 : decode b_Md_line 5 = .ok (.iload_n 2, 1) := by decide +kernel
set_option maxRecDepth 100000 in
theorem d_Md_line_6 : decode b_Md_line 6 = .ok (.bipush 10, 2) := by decide +kernel
set_option maxRecDepth 100000 in
theorem d_Md_line_8 : decode b_Md_line 8 = .ok (.if_icmp .ge 5, 3) := by decide +kernel
set_option maxRecDepth 100000 in
theorem d_Md_line_13 : decode b_Md_line 13 = .ok (.iload_n 2, 1) := by decide +kernel
set_option maxRecDepth 100000 in
theorem d_Md_line_14 : decode b_Md_line 14 = .ok (.bipush 10, 2) := by decide +kernel
set_option maxRecDepth 100000 in
theorem d_Md_line_16 : decode b_Md_line 16 = .ok (.if_icmp .ne 17, 3) := by decide +kernel
set_option maxRecDepth 100000 in
theorem d_Md_line_33 : decode b_Md_line 33 = .ok (.iload_n 2, 1) := by decide +kernel
set_option maxRecDepth 100000 in
theorem d_Md_line_34 : decode b_Md_line 34 = .ok (.bipush 11, 2) := by decide +kernel
set_option maxRecDepth 100000 in
theorem d_Md_line_36 : decode b_Md_line 36 = .ok (.if_icmp .ne 17, 3) := by decide +kernel
set_option maxRecDepth 100000 in
theorem d_Md_line_53 : decode b_Md_line 53 = .ok (.aload_n 0, 1) := by decide +kernel
set_option maxRecDepth 100000 in
theorem d_Md_line_54 : decode b_Md_line 54 = .ok (.getfield 143, 3) := by decide +kernel
set_option maxRecDepth 100000 in
theorem d_Md_line_57 : decode b_Md_line 57 = .ok (.bipush 9, 2) := by decide +kernel
set_option maxRecDepth 100000 in
theorem d_Md_line_59 : decode b_Md_line 59 = .ok (.iload_n 1, 1) := by decide +kernel
set_option maxRecDepth 100000 in
theorem d_Md_line_60 : decode b_Md_line 60 = .ok (.imul, 1) := by decide +kernel
set_option maxRecDepth 100000 in
theorem d_Md_line_61 : decode b_Md_line 61 = .ok (.iload_n 2, 1) := by decide +kernel
set_option maxRecDepth 100000 in
theorem d_Md_line_62 : decode b_Md_line 62 = .ok (.iadd, 1) := by decide +kernel
set_option maxRecDepth 100000 in
theorem d_Md_line_63 : decode b_Md_line 63 = .ok (.bipush 10, 2) := by decide +kernel
set_option maxRecDepth 100000 in
theorem d_Md_line_65 : decode b_Md_line 65 = .ok (.isub, 1) := by decide +kernel
set_option maxRecDepth 100000 in
theorem d_Md_line_66 : decode b_Md_line 66 = .ok (.iaload, 1) := by decide +kernel
set_option maxRecDepth 100000 in
theorem d_Md_lineOf_0 : decode b_Md_lineOf 0 = .ok (.aload_n 0, 1) := by decide +kernel
set_option maxRecDepth 100000 in
theorem d_Md_lineOf_1 : decode b_Md_lineOf 1 = .ok (.getfield 143, 3) := by decide +kernel
set_option maxRecDepth 100000 in
theorem d_Md_lineOf_4 : decode b_Md_lineOf 4 = .ok (.bipush 9, 2) := by decide +kernel
set_option maxRecDepth 100000 in
theorem d_Md_lineOf_6 : decode b_Md_lineOf 6 = .ok (.iload_n 1, 1) := by decide +kernel
set_option maxRecDepth 100000 in
theorem d_Md_lineOf_7 : decode b_Md_lineOf 7 = .ok (.imul, 1) := by decide +kernel
set_option maxRecDepth 100000 in
theorem d_Md_lineOf_8 : decode b_Md_lineOf 8 = .ok (.iload_n 2, 1) := by decide +kernel
set_option maxRecDepth 100000 in
theorem d_Md_lineOf_9 : decode b_Md_lineOf 9 = .ok (.iadd, 1) := by decide +kernel
set_option maxRecDepth 100000 in
theorem d_Md_lineOf_10 : decode b_Md_lineOf 10 = .ok (.bipush 10, 2) := by decide +kernel
set_option maxRecDepth 100000 in
theorem d_Md_lineOf_12 : decode b_Md_lineOf 12 = .ok (.isub, 1) := by decide +kernel
set_option maxRecDepth 100000 in
theorem d_Md_lineOf_13 : decode b_Md_lineOf 13 = .ok (.iaload, 1) := by decide +kernel
set_option maxRecDepth 100000 in
theorem d_Md_lineOf_14 : decode b_Md_lineOf 14 = .ok (.ireturn, 1) := by decide +kernel
set_option maxRecDepth 100000 in
theorem d_Md_man_0 : decode b_Md_man 0 = .ok (.iload_n 1, 1) := by decide +kernel
set_option maxRecDepth 100000 in
theorem d_Md_man_1 : decode b_Md_man 1 = .ok (.invokestatic 186, 3) := by decide +kernel
set_option maxRecDepth 100000 in
theorem d_Md_man_4 : decode b_Md_man 4 = .ok (.ifCond .ne 6, 3) := by decide +kernel
set_option maxRecDepth 100000 in
theorem d_Md_man_7 : decode b_Md_man 7 = .ok (.bipush (-2), 2) := by decide +kernel
set_option maxRecDepth 100000 in
theorem d_Md_man_9 : decode b_Md_man 9 = .ok (.ireturn, 1) := by decide +kernel
set_option maxRecDepth 100000 in
theorem d_Md_man_10 : decode b_Md_man 10 = .ok (.iload_n 2, 1) := by decide +kernel
set_option maxRecDepth 100000 in
theorem d_Md_man_11 : decode b_Md_man 11 = .ok (.tableswitch 96 0 6 #[41, 48, 55, 61, 67, 74, 89], 41) := by decide +kernel
set_option maxRecDepth 100000 in
theorem d_Md_man_52 : decode b_Md_man 52 = .ok (.aload_n 0, 1) := by decide +kernel
set_option maxRecDepth 100000 in
theorem d_Md_man_53 : decode b_Md_man 53 = .ok (.getfield 58, 3) := by decide +kernel
set_option maxRecDepth 100000 in
theorem d_Md_man_56 : decode b_Md_man 56 = .ok (.iload_n 1, 1) := by decide +kernel
set_option maxRecDepth 100000 in
theorem d_Md_man_57 : decode b_Md_man 57 = .ok (.iaload, 1) := by decide +kernel
set_option maxRecDepth 100000 in
theorem d_Md_man_58 : decode b_Md_man 58 = .ok (.ireturn, 1) := by decide +kernel
set_option maxRecDepth 100000 in
theorem d_Md_man_59 : decode b_Md_man 59 = .ok (.aload_n 0, 1) := by decide +kernel
set_option maxRecDepth 100000 in
theorem d_Md_man_60 : decode b_Md_man 60 = .ok (.getfield 61, 3) := by decide +kernel
set_option maxRecDepth 100000 in
theorem d_Md_man_63 : decode b_Md_man 63 = .ok (.iload_n 1, 1) := by decide +kernel
set_option maxRecDepth 100000 in
theorem d_Md_man_64 : decode b_Md_man 64 = .ok (.iaload, 1) := by decide +kernel
set_option maxRecDepth 100000 in
theorem d_Md_man_65 : decode b_Md_man 65 = .ok (.ireturn, 1) := by decide +kernel
set_option maxRecDepth 100000 in
theorem d_Md_man_66 : decode b_Md_man 66 = .ok (.aload_n 0, 1) := by decide +kernel
set_option maxRecDepth 100000 in
theorem d_Md_man_67 : decode b_Md_man 67 = .ok (.iload_n 1, 1) := by decide +kernel
set_option maxRecDepth 100000 in
theorem d_Md_man_68 : decode b_Md_man 68 = .ok (.invokevirtual 193, 3) := by decide +kernel
set_option maxRecDepth 100000 in
theorem d_Md_menAs_0 : decode b_Md_menAs 0 = .ok (.iconst 0, 1) := by decide +kernel
set_option maxRecDepth 100000 in
theorem d_Md_menAs_1 : decode b_Md_menAs 1 = .ok (.istore_n 2, 1) := by decide +kernel
set_option maxRecDepth 100000 in
theorem d_Md_menAs_2 : decode b_Md_menAs 2 = .ok (.iconst 0, 1) := by decide +kernel
set_option maxRecDepth 100000 in
theorem d_Md_menAs_3 : decode b_Md_menAs 3 = .ok (.istore_n 3, 1) := by decide +kernel
set_option maxRecDepth 100000 in
theorem d_Md_menAs_4 : decode b_Md_menAs 4 = .ok (.iload_n 3, 1) := by decide +kernel
set_option maxRecDepth 100000 in
theorem d_Md_menAs_5 : decode b_Md_menAs 5 = .ok (.bipush 40, 2) := by decide +kernel
set_option maxRecDepth 100000 in
theorem d_Md_menAs_7 : decode b_Md_menAs 7 = .ok (.if_icmp .ge 27, 3) := by decide +kernel
set_option maxRecDepth 100000 in
theorem d_Md_menAs_10 : decode b_Md_menAs 10 = .ok (.iload_n 2, 1) := by decide +kernel
set_option maxRecDepth 100000 in
theorem d_Md_menAs_11 : decode b_Md_menAs 11 = .ok (.aload_n 0, 1) := by decide +kernel
set_option maxRecDepth 100000 in
theorem d_Md_menAs_12 : decode b_Md_menAs 12 = .ok (.getfield 58, 3) := by decide +kernel
set_option maxRecDepth 100000 in
theorem d_Md_menAs_15 : decode b_Md_menAs 15 = .ok (.iload_n 3, 1) := by decide +kernel
set_option maxRecDepth 100000 in
theorem d_Md_menAs_16 : decode b_Md_menAs 16 = .ok (.iaload, 1) := by decide +kernel
set_option maxRecDepth 100000 in
theorem d_Md_menAs_17 : decode b_Md_menAs 17 = .ok (.iload_n 1, 1) := by decide +kernel
set_option maxRecDepth 100000 in
theorem d_Md_menAs_18 : decode b_Md_menAs 18 = .ok (.if_icmp .ne 7, 3) := by decide +kernel
set_option maxRecDepth 100000 in
theorem d_Md_menAs_21 : decode b_Md_menAs 21 = .ok (.iconst 1, 1) := by decide +kernel
set_option maxRecDepth 100000 in
theorem d_Md_menAs_22 : decode b_Md_menAs 22 = .ok (.goto 4, 3) := by decide +kernel
set_option maxRecDepth 100000 in
theorem d_Md_menAs_25 : decode b_Md_menAs 25 = .ok (.iconst 0, 1) := by decide +kernel
set_option maxRecDepth 100000 in
theorem d_Md_menAs_26 : decode b_Md_menAs 26 = .ok (.iadd, 1) := by decide +kernel
set_option maxRecDepth 100000 in
theorem d_Md_menAs_27 : decode b_Md_menAs 27 = .ok (.istore_n 2, 1) := by decide +kernel
set_option maxRecDepth 100000 in
theorem d_Md_menAs_28 : decode b_Md_menAs 28 = .ok (.iinc 3 1, 3) := by decide +kernel
set_option maxRecDepth 100000 in
theorem d_Md_menAs_31 : decode b_Md_menAs 31 = .ok (.goto (-27), 3) := by decide +kernel
set_option maxRecDepth 100000 in
theorem d_Md_menAs_34 : decode b_Md_menAs 34 = .ok (.iload_n 2, 1) := by decide +kernel
set_option maxRecDepth 100000 in
theorem d_Md_menAs_35 : decode b_Md_menAs 35 = .ok (.ireturn, 1) := by decide +kernel
set_option maxRecDepth 100000 in
theorem d_Md_minutes_0 : decode b_Md_minutes 0 = .ok (.iload_n 1, 1) := by decide +kernel
set_option maxRecDepth 100000 in
theorem d_Md_minutes_1 : decode b_Md_minutes 1 = .ok (.iconst 1, 1) := by decide +kernel
set_option maxRecDepth 100000 in
theorem d_Md_minutes_2 : decode b_Md_minutes 2 = .ok (.sipush 1440, 3) := by decide +kernel
set_option maxRecDepth 100000 in
theorem d_Md_minutes_5 : decode b_Md_minutes 5 = .ok (.invokestatic 10, 3) := by decide +kernel
set_option maxRecDepth 100000 in
theorem d_Md_minutes_8 : decode b_Md_minutes 8 = .ok (.ifCond .eq 15, 3) := by decide +kernel
set_option maxRecDepth 100000 in
theorem d_Md_minutes_11 : decode b_Md_minutes 11 = .ok (.aload_n 0, 1) := by decide +kernel
set_option maxRecDepth 100000 in
theorem d_Md_minutes_12 : decode b_Md_minutes 12 = .ok (.getfield 7, 3) := by decide +kernel
set_option maxRecDepth 100000 in
theorem d_Md_minutes_15 : decode b_Md_minutes 15 = .ok (.iload_n 1, 1) := by decide +kernel
set_option maxRecDepth 100000 in
theorem d_Md_minutes_16 : decode b_Md_minutes 16 = .ok (.iadd, 1) := by decide +kernel
set_option maxRecDepth 100000 in
theorem d_Md_minutes_17 : decode b_Md_minutes 17 = .ok (.ldc_w 305, 3) := by decide +kernel
set_option maxRecDepth 100000 in
theorem d_Md_minutes_20 : decode b_Md_minutes 20 = .ok (.if_icmp .le 5, 3) := by decide +kernel
set_option maxRecDepth 100000 in
theorem d_Md_minutes_23 : decode b_Md_minutes 23 = .ok (.iconst (-1), 1) := by decide +kernel
set_option maxRecDepth 100000 in
theorem d_Md_minutes_24 : decode b_Md_minutes 24 = .ok (.ireturn, 1) := by decide +kernel
set_option maxRecDepth 100000 in
theorem d_Md_minutes_25 : decode b_Md_minutes 25 = .ok (.iconst 0, 1) := by decide +kernel
set_option maxRecDepth 100000 in
theorem d_Md_minutes_26 : decode b_Md_minutes 26 = .ok (.istore_n 2, 1) := by decide +kernel
set_option maxRecDepth 100000 in
theorem d_Md_minutes_27 : decode b_Md_minutes 27 = .ok (.iload_n 2, 1) := by decide +kernel
set_option maxRecDepth 100000 in
theorem d_Md_minutes_28 : decode b_Md_minutes 28 = .ok (.iload_n 1, 1) := by decide +kernel
set_option maxRecDepth 100000 in
theorem d_Md_minutes_29 : decode b_Md_minutes 29 = .ok (.if_icmp .ge 77, 3) := by decide +kernel
set_option maxRecDepth 100000 in
theorem d_Md_minutes_32 : decode b_Md_minutes 32 = .ok (.aload_n 0, 1) := by decide +kernel
set_option maxRecDepth 100000 in
theorem d_Md_minutes_33 : decode b_Md_minutes 33 = .ok (.dup, 1) := by decide +kernel
set_option maxRecDepth 100000 in
theorem d_Md_minutes_34 : decode b_Md_minutes 34 = .ok (.getfield 7, 3) := by decide +kernel
set_option maxRecDepth 100000 in
theorem d_Md_minutes_37 : decode b_Md_minutes 37 = .ok (.iconst 1, 1) := by decide +kernel
set_option maxRecDepth 100000 in
theorem d_Md_minutes_38 : decode b_Md_minutes 38 = .ok (.iadd, 1) := by decide +kernel
set_option maxRecDepth 100000 in
theorem d_Md_minutes_39 : decode b_Md_minutes 39 = .ok (.putfield 7, 3) := by decide +kernel
set_option maxRecDepth 100000 in
theorem d_Md_minutes_42 : decode b_Md_minutes 42 = .ok (.aload_n 0, 1) := by decide +kernel
set_option maxRecDepth 100000 in
theorem d_Md_minutes_43 : decode b_Md_minutes 43 = .ok (.invokevirtual 329, 3) := by decide +kernel
set_option maxRecDepth 100000 in
theorem d_Md_minutesOf_0 : decode b_Md_minutesOf 0 = .ok (.aload_n 0, 1) := by decide +kernel
set_option maxRecDepth 100000 in
theorem d_Md_minutesOf_1 : decode b_Md_minutesOf 1 = .ok (.getfield 32, 3) := by decide +kernel
set_option maxRecDepth 100000 in
theorem d_Md_minutesOf_4 : decode b_Md_minutesOf 4 = .ok (.iload_n 2, 1) := by decide +kernel
set_option maxRecDepth 100000 in
theorem d_Md_minutesOf_5 : decode b_Md_minutesOf 5 = .ok (.iaload, 1) := by decide +kernel
set_option maxRecDepth 100000 in
theorem d_Md_newPensioner_0 : decode b_Md_newPensioner 0 = .ok (.aload_n 0, 1) := by decide +kernel
set_option maxRecDepth 100000 in
theorem d_Md_newPensioner_1 : decode b_Md_newPensioner 1 = .ok (.getfield 177, 3) := by decide +kernel
set_option maxRecDepth 100000 in
theorem d_Md_newPensioner_4 : decode b_Md_newPensioner 4 = .ok (.aload_n 0, 1) := by decide +kernel
set_option maxRecDepth 100000 in
theorem d_Md_newPensioner_5 : decode b_Md_newPensioner 5 = .ok (.getfield 323, 3) := by decide +kernel
set_option maxRecDepth 100000 in
theorem d_Md_newPensioner_8 : decode b_Md_newPensioner 8 = .ok (.iload_n 1, 1) := by decide +kernel
set_option maxRecDepth 100000 in
theorem d_Md_newPensioner_9 : decode b_Md_newPensioner 9 = .ok (.iastore, 1) := by decide +kernel
set_option maxRecDepth 100000 in
theorem d_Md_newPensioner_10 : decode b_Md_newPensioner 10 = .ok (.aload_n 0, 1) := by decide +kernel
set_option maxRecDepth 100000 in
theorem d_Md_newPensioner_11 : decode b_Md_newPensioner 11 = .ok (.getfield 180, 3) := by decide +kernel
set_option maxRecDepth 100000 in
theorem d_Md_newPensioner_14 : decode b_Md_newPensioner 14 = .ok (.aload_n 0, 1) := by decide +kernel
set_option maxRecDepth 100000 in
theorem d_Md_newPensioner_15 : decode b_Md_newPensioner 15 = .ok (.getfield 323, 3) := by decide +kernel
set_option maxRecDepth 100000 in
theorem d_Md_newPensioner_18 : decode b_Md_newPensioner 18 = .ok (.iload_n 2, 1) := by decide +kernel
set_option maxRecDepth 100000 in
theorem d_Md_newPensioner_19 : decode b_Md_newPensioner 19 = .ok (.iastore, 1) := by decide +kernel
set_option maxRecDepth 100000 in
theorem d_Md_newPensioner_20 : decode b_Md_newPensioner 20 = .ok (.aload_n 0, 1) := by decide +kernel
set_option maxRecDepth 100000 in
theorem d_Md_newPensioner_21 : decode b_Md_newPensioner 21 = .ok (.dup, 1) := by decide +kernel
set_option maxRecDepth 100000 in
theorem d_Md_newPensioner_22 : decode b_Md_newPensioner 22 = .ok (.getfield 323, 3) := by decide +kernel
set_option maxRecDepth 100000 in
theorem d_Md_newPensioner_25 : decode b_Md_newPensioner 25 = .ok (.iconst 1, 1) := by decide +kernel
set_option maxRecDepth 100000 in
theorem d_Md_newPensioner_26 : decode b_Md_newPensioner 26 = .ok (.iadd, 1) := by decide +kernel
set_option maxRecDepth 100000 in
theorem d_Md_newPensioner_27 : decode b_Md_newPensioner 27 = .ok (.putfield 323, 3) := by decide +kernel
set_option maxRecDepth 100000 in
theorem d_Md_newPensioner_30 : decode b_Md_newPensioner 30 = .ok (.aload_n 0, 1) := by decide +kernel
set_option maxRecDepth 100000 in
theorem d_Md_newPensioner_31 : decode b_Md_newPensioner 31 = .ok (.getfield 323, 3) := by decide +kernel
set_option maxRecDepth 100000 in
theorem d_Md_newPensioner_34 : decode b_Md_newPensioner 34 = .ok (.iconst 1, 1) := by decide +kernel
set_option maxRecDepth 100000 in
theorem d_Md_newPensioner_35 : decode b_Md_newPensioner 35 = .ok (.isub, 1) := by decide +kernel
set_option maxRecDepth 100000 in
theorem d_Md_newPensioner_36 : decode b_Md_newPensioner 36 = .ok (.ireturn, 1) := by decide +kernel
set_option maxRecDepth 100000 in
theorem d_Md_order_0 : decode b_Md_order 0 = .ok (.iload_n 1, 1) := by decide +kernel
set_option maxRecDepth 100000 in
theorem d_Md_order_1 : decode b_Md_order 1 = .ok (.invokestatic 38, 3) := by decide +kernel
set_option maxRecDepth 100000 in
theorem d_Md_order_4 : decode b_Md_order 4 = .ok (.ifCond .ne 5, 3) := by decide +kernel
set_option maxRecDepth 100000 in
theorem d_Md_order_7 : decode b_Md_order 7 = .ok (.iconst (-1), 1) := by decide +kernel
set_option maxRecDepth 100000 in
theorem d_Md_order_8 : decode b_Md_order 8 = .ok (.ireturn, 1) := by decide +kernel
set_option maxRecDepth 100000 in
theorem d_Md_order_9 : decode b_Md_order 9 = .ok (.aload_n 0, 1) := by decide +kernel
set_option maxRecDepth 100000 in
theorem d_Md_order_10 : decode b_Md_order 10 = .ok (.getfield 275, 3) := by decide +kernel
set_option maxRecDepth 100000 in
theorem d_Md_order_13 : decode b_Md_order 13 = .ok (.bipush 20, 2) := by decide +kernel
set_option maxRecDepth 100000 in
theorem d_Md_order_15 : decode b_Md_order 15 = .ok (.if_icmp .ne 6, 3) := by decide +kernel
set_option maxRecDepth 100000 in
theorem d_Md_order_21 : decode b_Md_order 21 = .ok (.aload_n 0, 1) := by decide +kernel
set_option maxRecDepth 100000 in
theorem d_Md_order_22 : decode b_Md_order 22 = .ok (.getfield 275, 3) := by decide +kernel
set_option maxRecDepth 100000 in
theorem d_Md_order_25 : decode b_Md_order 25 = .ok (.istore_n 2, 1) := by decide +kernel
set_option maxRecDepth 100000 in
theorem d_Md_order_26 : decode b_Md_order 26 = .ok (.aload_n 0, 1) := by decide +kernel
set_option maxRecDepth 100000 in
theorem d_Md_order_27 : decode b_Md_order 27 = .ok (.getfield 119, 3) := by decide +kernel
set_option maxRecDepth 100000 in
theorem d_Md_order_30 : decode b_Md_order 30 = .ok (.iload_n 2, 1) := by decide +kernel
set_option maxRecDepth 100000 in
theorem d_Md_order_31 : decode b_Md_order 31 = .ok (.iconst 0, 1) := by decide +kernel
set_option maxRecDepth 100000 in
theorem d_Md_order_32 : decode b_Md_order 32 = .ok (.iastore, 1) := by decide +kernel
set_option maxRecDepth 100000 in
theorem d_Md_order_33 : decode b_Md_order 33 = .ok (.aload_n 0, 1) := by decide +kernel
set_option maxRecDepth 100000 in
theorem d_Md_order_34 : decode b_Md_order 34 = .ok (.getfield 131, 3) := by decide +kernel
set_option maxRecDepth 100000 in
theorem d_Md_order_37 : decode b_Md_order 37 = .ok (.iload_n 2, 1) := by decide +kernel
set_option maxRecDepth 100000 in
theorem d_Md_order_38 : decode b_Md_order 38 = .ok (.iconst 0, 1) := by decide +kernel
set_option maxRecDepth 100000 in
theorem d_Md_order_39 : decode b_Md_order 39 = .ok (.iastore, 1) := by decide +kernel
set_option maxRecDepth 100000 in
theorem d_Md_order_40 : decode b_Md_order 40 = .ok (.iconst 0, 1) := by decide +kernel
set_option maxRecDepth 100000 in
theorem d_Md_order_41 : decode b_Md_order 41 = .ok (.istore_n 3, 1) := by decide +kernel
set_option maxRecDepth 100000 in
theorem d_Md_order_42 : decode b_Md_order 42 = .ok (.iload_n 3, 1) := by decide +kernel
set_option maxRecDepth 100000 in
theorem d_Md_order_43 : decode b_Md_order 43 = .ok (.bipush 9, 2) := by decide +kernel
set_option maxRecDepth 100000 in
theorem d_Md_order_45 : decode b_Md_order 45 = .ok (.if_icmp .ge 21, 3) := by decide +kernel
set_option maxRecDepth 100000 in
theorem d_Md_order_48 : decode b_Md_order 48 = .ok (.aload_n 0, 1) := by decide +kernel
set_option maxRecDepth 100000 in
theorem d_Md_order_49 : decode b_Md_order 49 = .ok (.getfield 143, 3) := by decide +kernel
set_option maxRecDepth 100000 in
theorem d_Md_order_52 : decode b_Md_order 52 = .ok (.bipush 9, 2) := by decide +kernel
set_option maxRecDepth 100000 in
theorem d_Md_order_54 : decode b_Md_order 54 = .ok (.iload_n 2, 1) := by decide +kernel
set_option maxRecDepth 100000 in
theorem d_Md_order_55 : decode b_Md_order 55 = .ok (.imul, 1) := by decide +kernel
set_option maxRecDepth 100000 in
theorem d_Md_order_56 : decode b_Md_order 56 = .ok (.iload_n 3, 1) := by decide +kernel
set_option maxRecDepth 100000 in
theorem d_Md_order_57 : decode b_Md_order 57 = .ok (.iadd, 1) := by decide +kernel
set_option maxRecDepth 100000 in
theorem d_Md_order_58 : decode b_Md_order 58 = .ok (.iconst (-1), 1) := by decide +kernel
set_option maxRecDepth 100000 in
theorem d_Md_order_59 : decode b_Md_order 59 = .ok (.iastore, 1) := by decide +kernel
set_option maxRecDepth 100000 in
theorem d_Md_order_60 : decode b_Md_order 60 = .ok (.iinc 3 1, 3) := by decide +kernel
set_option maxRecDepth 100000 in
theorem d_Md_order_63 : decode b_Md_order 63 = .ok (.goto (-21), 3) := by decide +kernel
set_option maxRecDepth 100000 in
theorem d_Md_order_66 : decode b_Md_order 66 = .ok (.aload_n 0, 1) := by decide +kernel
set_option maxRecDepth 100000 in
theorem d_Md_order_67 : decode b_Md_order 67 = .ok (.iconst 0, 1) := by decide +kernel
set_option maxRecDepth 100000 in
theorem d_Md_order_68 : decode b_Md_order 68 = .ok (.putfield 218, 3) := by decide +kernel
set_option maxRecDepth 100000 in
theorem d_Md_order_71 : decode b_Md_order 71 = .ok (.aload_n 0, 1) := by decide +kernel
set_option maxRecDepth 100000 in
theorem d_Md_order_72 : decode b_Md_order 72 = .ok (.invokevirtual 269, 3) := by decide +kernel
set_option maxRecDepth 100000 in
theorem d_Md_over_0 : decode b_Md_over 0 = .ok (.iload_n 1, 1) := by decide +kernel
set_option maxRecDepth 100000 in
theorem d_Md_over_1 : decode b_Md_over 1 = .ok (.invokestatic 186, 3) := by decide +kernel
set_option maxRecDepth 100000 in
theorem d_Md_over_4 : decode b_Md_over 4 = .ok (.ifCond .eq 10, 3) := by decide +kernel
set_option maxRecDepth 100000 in
theorem d_Md_over_7 : decode b_Md_over 7 = .ok (.iload_n 2, 1) := by decide +kernel
set_option maxRecDepth 100000 in
theorem d_Md_over_8 : decode b_Md_over 8 = .ok (.invokestatic 38, 3) := by decide +kernel
set_option maxRecDepth 100000 in
theorem d_Md_over_11 : decode b_Md_over 11 = .ok (.ifCond .ne 5, 3) := by decide +kernel
set_option maxRecDepth 100000 in
theorem d_Md_over_14 : decode b_Md_over 14 = .ok (.iconst (-1), 1) := by decide +kernel
set_option maxRecDepth 100000 in
theorem d_Md_over_15 : decode b_Md_over 15 = .ok (.ireturn, 1) := by decide +kernel
set_option maxRecDepth 100000 in
theorem d_Md_over_16 : decode b_Md_over 16 = .ok (.iconst 0, 1) := by decide +kernel
set_option maxRecDepth 100000 in
theorem d_Md_over_17 : decode b_Md_over 17 = .ok (.istore_n 3, 1) := by decide +kernel
set_option maxRecDepth 100000 in
theorem d_Md_over_18 : decode b_Md_over 18 = .ok (.iconst 0, 1) := by decide +kernel
set_option maxRecDepth 100000 in
theorem d_Md_over_19 : decode b_Md_over 19 = .ok (.istore 4, 2) := by decide +kernel
set_option maxRecDepth 100000 in
theorem d_Md_over_21 : decode b_Md_over 21 = .ok (.iload 4, 2) := by decide +kernel
set_option maxRecDepth 100000 in
theorem d_Md_over_23 : decode b_Md_over 23 = .ok (.aload_n 0, 1) := by decide +kernel
set_option maxRecDepth 100000 in
theorem d_Md_over_24 : decode b_Md_over 24 = .ok (.getfield 313, 3) := by decide +kernel
set_option maxRecDepth 100000 in
theorem d_Md_over_27 : decode b_Md_over 27 = .ok (.if_icmp .ge 66, 3) := by decide +kernel
set_option maxRecDepth 100000 in
theorem d_Md_over_30 : decode b_Md_over 30 = .ok (.aload_n 0, 1) := by decide +kernel
set_option maxRecDepth 100000 in
theorem d_Md_over_31 : decode b_Md_over 31 = .ok (.getfield 152, 3) := by decide +kernel
set_option maxRecDepth 100000 in
theorem d_Md_over_34 : decode b_Md_over 34 = .ok (.iload 4, 2) := by decide +kernel
set_option maxRecDepth 100000 in
theorem d_Md_over_36 : decode b_Md_over 36 = .ok (.iaload, 1) := by decide +kernel
set_option maxRecDepth 100000 in
theorem d_Md_over_37 : decode b_Md_over 37 = .ok (.iload_n 1, 1) := by decide +kernel
set_option maxRecDepth 100000 in
theorem d_Md_over_38 : decode b_Md_over 38 = .ok (.if_icmp .eq 6, 3) := by decide +kernel
set_option maxRecDepth 100000 in
theorem d_Md_over_44 : decode b_Md_over 44 = .ok (.aload_n 0, 1) := by decide +kernel
set_option maxRecDepth 100000 in
theorem d_Md_over_45 : decode b_Md_over 45 = .ok (.iload 4, 2) := by decide +kernel
set_option maxRecDepth 100000 in
theorem d_Md_over_47 : decode b_Md_over 47 = .ok (.iload_n 2, 1) := by decide +kernel
set_option maxRecDepth 100000 in
theorem d_Md_over_48 : decode b_Md_over 48 = .ok (.invokevirtual 345, 3) := by decide +kernel
set_option maxRecDepth 100000 in
theorem d_Md_over_93 : decode b_Md_over 93 = .ok (.iload_n 3, 1) := by decide +kernel
set_option maxRecDepth 100000 in
theorem d_Md_over_94 : decode b_Md_over 94 = .ok (.ireturn, 1) := by decide +kernel
set_option maxRecDepth 100000 in
theorem d_Md_part_0 : decode b_Md_part 0 = .ok (.iconst 0, 1) := by decide +kernel
set_option maxRecDepth 100000 in
theorem d_Md_part_1 : decode b_Md_part 1 = .ok (.istore_n 2, 1) := by decide +kernel
set_option maxRecDepth 100000 in
theorem d_Md_part_2 : decode b_Md_part 2 = .ok (.iconst 0, 1) := by decide +kernel
set_option maxRecDepth 100000 in
theorem d_Md_part_3 : decode b_Md_part 3 = .ok (.istore_n 3, 1) := by decide +kernel
set_option maxRecDepth 100000 in
theorem d_Md_part_4 : decode b_Md_part 4 = .ok (.iload_n 3, 1) := by decide +kernel
set_option maxRecDepth 100000 in
theorem d_Md_part_5 : decode b_Md_part 5 = .ok (.bipush 40, 2) := by decide +kernel
set_option maxRecDepth 100000 in
theorem d_Md_part_7 : decode b_Md_part 7 = .ok (.if_icmp .ge 26, 3) := by decide +kernel
set_option maxRecDepth 100000 in
theorem d_Md_part_10 : decode b_Md_part 10 = .ok (.iload_n 2, 1) := by decide +kernel
set_option maxRecDepth 100000 in
theorem d_Md_part_11 : decode b_Md_part 11 = .ok (.aload_n 0, 1) := by decide +kernel
set_option maxRecDepth 100000 in
theorem d_Md_part_12 : decode b_Md_part 12 = .ok (.getfield 85, 3) := by decide +kernel
set_option maxRecDepth 100000 in
theorem d_Md_part_15 : decode b_Md_part 15 = .ok (.iload_n 3, 1) := by decide +kernel
set_option maxRecDepth 100000 in
theorem d_Md_part_16 : decode b_Md_part 16 = .ok (.baload, 1) := by decide +kernel
set_option maxRecDepth 100000 in
theorem d_Md_part_17 : decode b_Md_part 17 = .ok (.ifCond .eq 7, 3) := by decide +kernel
set_option maxRecDepth 100000 in
theorem d_Md_part_24 : decode b_Md_part 24 = .ok (.iconst 0, 1) := by decide +kernel
set_option maxRecDepth 100000 in
theorem d_Md_part_25 : decode b_Md_part 25 = .ok (.iadd, 1) := by decide +kernel
set_option maxRecDepth 100000 in
theorem d_Md_part_26 : decode b_Md_part 26 = .ok (.istore_n 2, 1) := by decide +kernel
set_option maxRecDepth 100000 in
theorem d_Md_part_27 : decode b_Md_part 27 = .ok (.iinc 3 1, 3) := by decide +kernel
set_option maxRecDepth 100000 in
theorem d_Md_part_30 : decode b_Md_part 30 = .ok (.goto (-26), 3) := by decide +kernel
set_option maxRecDepth 100000 in
theorem d_Md_part_33 : decode b_Md_part 33 = .ok (.iload_n 2, 1) := by decide +kernel
set_option maxRecDepth 100000 in
theorem d_Md_part_34 : decode b_Md_part 34 = .ok (.ifCond .ne 7, 3) := by decide +kernel
set_option maxRecDepth 100000 in
theorem d_Md_part_37 : decode b_Md_part 37 = .ok (.lconst 0, 1) := by decide +kernel
set_option maxRecDepth 100000 in
theorem d_Md_part_38 : decode b_Md_part 38 = .ok (.goto 10, 3) := by decide +kernel
set_option maxRecDepth 100000 in
theorem d_Md_part_48 : decode b_Md_part 48 = .ok (.lstore_n 3, 1) := by decide +kernel
set_option maxRecDepth 100000 in
theorem d_Md_part_49 : decode b_Md_part 49 = .ok (.iconst 0, 1) := by decide +kernel
set_option maxRecDepth 100000 in
theorem d_Md_part_50 : decode b_Md_part 50 = .ok (.istore 5, 2) := by decide +kernel
set_option maxRecDepth 100000 in
theorem d_Md_part_52 : decode b_Md_part 52 = .ok (.iload 5, 2) := by decide +kernel
set_option maxRecDepth 100000 in
theorem d_Md_part_54 : decode b_Md_part 54 = .ok (.bipush 40, 2) := by decide +kernel
set_option maxRecDepth 100000 in
theorem d_Md_part_56 : decode b_Md_part 56 = .ok (.if_icmp .ge 39, 3) := by decide +kernel
set_option maxRecDepth 100000 in
theorem d_Md_part_59 : decode b_Md_part 59 = .ok (.aload_n 0, 1) := by decide +kernel
set_option maxRecDepth 100000 in
theorem d_Md_part_60 : decode b_Md_part 60 = .ok (.getfield 85, 3) := by decide +kernel
set_option maxRecDepth 100000 in
theorem d_Md_part_63 : decode b_Md_part 63 = .ok (.iload 5, 2) := by decide +kernel
set_option maxRecDepth 100000 in
theorem d_Md_part_65 : decode b_Md_part 65 = .ok (.baload, 1) := by decide +kernel
set_option maxRecDepth 100000 in
theorem d_Md_part_66 : decode b_Md_part 66 = .ok (.ifCond .eq 15, 3) := by decide +kernel
set_option maxRecDepth 100000 in
theorem d_Md_part_81 : decode b_Md_part 81 = .ok (.aload_n 0, 1) := by decide +kernel
set_option maxRecDepth 100000 in
theorem d_Md_part_82 : decode b_Md_part 82 = .ok (.getfield 85, 3) := by decide +kernel
set_option maxRecDepth 100000 in
theorem d_Md_part_85 : decode b_Md_part 85 = .ok (.iload 5, 2) := by decide +kernel
set_option maxRecDepth 100000 in
theorem d_Md_part_87 : decode b_Md_part 87 = .ok (.iconst 0, 1) := by decide +kernel
set_option maxRecDepth 100000 in
theorem d_Md_part_88 : decode b_Md_part 88 = .ok (.bastore, 1) := by decide +kernel
set_option maxRecDepth 100000 in
theorem d_Md_part_89 : decode b_Md_part 89 = .ok (.iinc 5 1, 3) := by decide +kernel
set_option maxRecDepth 100000 in
theorem d_Md_part_92 : decode b_Md_part 92 = .ok (.goto (-40), 3) := by decide +kernel
set_option maxRecDepth 100000 in
theorem d_Md_part_95 : decode b_Md_part 95 = .ok (.aload_n 0, 1) := by decide +kernel
set_option maxRecDepth 100000 in
theorem d_Md_part_96 : decode b_Md_part 96 = .ok (.dup, 1) := by decide +kernel
set_option maxRecDepth 100000 in
theorem d_Md_part_97 : decode b_Md_part 97 = .ok (.getfield 316, 3) := by decide +kernel
set_option maxRecDepth 100000 in
theorem d_Md_part_100 : decode b_Md_part 100 = .ok (.aload_n 0, 1) := by decide +kernel
set_option maxRecDepth 100000 in
theorem d_Md_part_101 : decode b_Md_part 101 = .ok (.getfield 320, 3) := by decide +kernel
set_option maxRecDepth 100000 in
theorem d_Md_part_104 : decode b_Md_part 104 = .ok (.lload_n 3, 1) := by decide +kernel
set_option maxRecDepth 100000 in
theorem d_Md_part_105 : decode b_Md_part 105 = .ok (.iload_n 2, 1) := by decide +kernel
set_option maxRecDepth 100000 in
theorem d_Md_part_106 : decode b_Md_part 106 = .ok (.i2l, 1) := by decide +kernel
set_option maxRecDepth 100000 in
theorem d_Md_part_107 : decode b_Md_part 107 = .ok (.lmul, 1) := by decide +kernel
set_option maxRecDepth 100000 in
theorem d_Md_part_108 : decode b_Md_part 108 = .ok (.lsub, 1) := by decide +kernel
set_option maxRecDepth 100000 in
theorem d_Md_part_109 : decode b_Md_part 109 = .ok (.ladd, 1) := by decide +kernel
set_option maxRecDepth 100000 in
theorem d_Md_part_110 : decode b_Md_part 110 = .ok (.putfield 316, 3) := by decide +kernel
set_option maxRecDepth 100000 in
theorem d_Md_part_113 : decode b_Md_part 113 = .ok (.aload_n 0, 1) := by decide +kernel
set_option maxRecDepth 100000 in
theorem d_Md_part_114 : decode b_Md_part 114 = .ok (.getfield 173, 3) := by decide +kernel
set_option maxRecDepth 100000 in
theorem d_Md_part_117 : decode b_Md_part 117 = .ok (.iload_n 1, 1) := by decide +kernel
set_option maxRecDepth 100000 in
theorem d_Md_part_118 : decode b_Md_part 118 = .ok (.dup2, 1) := by decide +kernel
set_option maxRecDepth 100000 in
theorem d_Md_part_119 : decode b_Md_part 119 = .ok (.laload, 1) := by decide +kernel
set_option maxRecDepth 100000 in
theorem d_Md_pass_0 : decode b_Md_pass 0 = .ok (.iload_n 1, 1) := by decide +kernel
set_option maxRecDepth 100000 in
theorem d_Md_pass_1 : decode b_Md_pass 1 = .ok (.invokestatic 186, 3) := by decide +kernel
set_option maxRecDepth 100000 in
theorem d_Md_pass_4 : decode b_Md_pass 4 = .ok (.ifCond .ne 5, 3) := by decide +kernel
set_option maxRecDepth 100000 in
theorem d_Md_pass_7 : decode b_Md_pass 7 = .ok (.iconst (-1), 1) := by decide +kernel
set_option maxRecDepth 100000 in
theorem d_Md_pass_8 : decode b_Md_pass 8 = .ok (.ireturn, 1) := by decide +kernel
set_option maxRecDepth 100000 in
theorem d_Md_pass_9 : decode b_Md_pass 9 = .ok (.aload_n 0, 1) := by decide +kernel
set_option maxRecDepth 100000 in
theorem d_Md_pass_10 : decode b_Md_pass 10 = .ok (.getfield 58, 3) := by decide +kernel
set_option maxRecDepth 100000 in
theorem d_Md_pass_13 : decode b_Md_pass 13 = .ok (.iload_n 1, 1) := by decide +kernel
set_option maxRecDepth 100000 in
theorem d_Md_pass_14 : decode b_Md_pass 14 = .ok (.iaload, 1) := by decide +kernel
set_option maxRecDepth 100000 in
theorem d_Md_pass_15 : decode b_Md_pass 15 = .ok (.iconst 1, 1) := by decide +kernel
set_option maxRecDepth 100000 in
theorem d_Md_pass_16 : decode b_Md_pass 16 = .ok (.if_icmp .eq 6, 3) := by decide +kernel
set_option maxRecDepth 100000 in
theorem d_Md_pass_22 : decode b_Md_pass 22 = .ok (.aload_n 0, 1) := by decide +kernel
set_option maxRecDepth 100000 in
theorem d_Md_pass_23 : decode b_Md_pass 23 = .ok (.iload_n 1, 1) := by decide +kernel
set_option maxRecDepth 100000 in
theorem d_Md_pass_24 : decode b_Md_pass 24 = .ok (.invokevirtual 189, 3) := by decide +kernel
set_option maxRecDepth 100000 in
theorem d_Md_pay_0 : decode b_Md_pay 0 = .ok (.iconst 0, 1) := by decide +kernel
set_option maxRecDepth 100000 in
theorem d_Md_pay_1 : decode b_Md_pay 1 = .ok (.istore_n 2, 1) := by decide +kernel
set_option maxRecDepth 100000 in
theorem d_Md_pay_2 : decode b_Md_pay 2 = .ok (.iload_n 2, 1) := by decide +kernel
set_option maxRecDepth 100000 in
theorem d_Md_pay_3 : decode b_Md_pay 3 = .ok (.aload_n 0, 1) := by decide +kernel
set_option maxRecDepth 100000 in
theorem d_Md_pay_4 : decode b_Md_pay 4 = .ok (.getfield 323, 3) := by decide +kernel
set_option maxRecDepth 100000 in
theorem d_Md_pay_7 : decode b_Md_pay 7 = .ok (.if_icmp .ge 84, 3) := by decide +kernel
set_option maxRecDepth 100000 in
theorem d_Md_pay_10 : decode b_Md_pay 10 = .ok (.iload_n 1, 1) := by decide +kernel
set_option maxRecDepth 100000 in
theorem d_Md_pay_11 : decode b_Md_pay 11 = .ok (.aload_n 0, 1) := by decide +kernel
set_option maxRecDepth 100000 in
theorem d_Md_pay_12 : decode b_Md_pay 12 = .ok (.getfield 180, 3) := by decide +kernel
set_option maxRecDepth 100000 in
theorem d_Md_pay_15 : decode b_Md_pay 15 = .ok (.iload_n 2, 1) := by decide +kernel
set_option maxRecDepth 100000 in
theorem d_Md_pay_16 : decode b_Md_pay 16 = .ok (.iaload, 1) := by decide +kernel
set_option maxRecDepth 100000 in
theorem d_Md_pay_17 : decode b_Md_pay 17 = .ok (.if_icmp .ge 68, 3) := by decide +kernel
set_option maxRecDepth 100000 in
theorem d_Md_pay_20 : decode b_Md_pay 20 = .ok (.aload_n 0, 1) := by decide +kernel
set_option maxRecDepth 100000 in
theorem d_Md_pay_21 : decode b_Md_pay 21 = .ok (.getfield 316, 3) := by decide +kernel
set_option maxRecDepth 100000 in
theorem d_Md_pay_24 : decode b_Md_pay 24 = .ok (.aload_n 0, 1) := by decide +kernel
set_option maxRecDepth 100000 in
theorem d_Md_pay_25 : decode b_Md_pay 25 = .ok (.getfield 177, 3) := by decide +kernel
set_option maxRecDepth 100000 in
theorem d_Md_pay_28 : decode b_Md_pay 28 = .ok (.iload_n 2, 1) := by decide +kernel
set_option maxRecDepth 100000 in
theorem d_Md_pay_29 : decode b_Md_pay 29 = .ok (.iaload, 1) := by decide +kernel
set_option maxRecDepth 100000 in
theorem d_Md_pay_30 : decode b_Md_pay 30 = .ok (.i2l, 1) := by decide +kernel
set_option maxRecDepth 100000 in
theorem d_Md_pay_31 : decode b_Md_pay 31 = .ok (.lcmp, 1) := by decide +kernel
set_option maxRecDepth 100000 in
theorem d_Md_pay_85 : decode b_Md_pay 85 = .ok (.iinc 2 1, 3) := by decide +kernel
set_option maxRecDepth 100000 in
theorem d_Md_pay_88 : decode b_Md_pay 88 = .ok (.goto (-86), 3) := by decide +kernel
set_option maxRecDepth 100000 in
theorem d_Md_pay_91 : decode b_Md_pay 91 = .ok (.return_, 1) := by decide +kernel
set_option maxRecDepth 100000 in
theorem d_Md_pension_0 : decode b_Md_pension 0 = .ok (.iload_n 1, 1) := by decide +kernel
set_option maxRecDepth 100000 in
theorem d_Md_pension_1 : decode b_Md_pension 1 = .ok (.iload_n 2, 1) := by decide +kernel
set_option maxRecDepth 100000 in
theorem d_Md_pension_2 : decode b_Md_pension 2 = .ok (.invokestatic 338, 3) := by decide +kernel
set_option maxRecDepth 100000 in
theorem d_Md_pension_5 : decode b_Md_pension 5 = .ok (.ifCond .ne 5, 3) := by decide +kernel
set_option maxRecDepth 100000 in
theorem d_Md_pension_8 : decode b_Md_pension 8 = .ok (.iconst (-1), 1) := by decide +kernel
set_option maxRecDepth 100000 in
theorem d_Md_pension_9 : decode b_Md_pension 9 = .ok (.ireturn, 1) := by decide +kernel
set_option maxRecDepth 100000 in
theorem d_Md_pension_10 : decode b_Md_pension 10 = .ok (.aload_n 0, 1) := by decide +kernel
set_option maxRecDepth 100000 in
theorem d_Md_pension_11 : decode b_Md_pension 11 = .ok (.getfield 323, 3) := by decide +kernel
set_option maxRecDepth 100000 in
theorem d_Md_pension_14 : decode b_Md_pension 14 = .ok (.bipush 30, 2) := by decide +kernel
set_option maxRecDepth 100000 in
theorem d_Md_pension_16 : decode b_Md_pension 16 = .ok (.if_icmp .ne 8, 3) := by decide +kernel
set_option maxRecDepth 100000 in
theorem d_Md_pension_19 : decode b_Md_pension 19 = .ok (.bipush (-3), 2) := by decide +kernel
set_option maxRecDepth 100000 in
theorem d_Md_pension_21 : decode b_Md_pension 21 = .ok (.goto 9, 3) := by decide +kernel
set_option maxRecDepth 100000 in
theorem d_Md_pension_24 : decode b_Md_pension 24 = .ok (.aload_n 0, 1) := by decide +kernel
set_option maxRecDepth 100000 in
theorem d_Md_pension_25 : decode b_Md_pension 25 = .ok (.iload_n 1, 1) := by decide +kernel
set_option maxRecDepth 100000 in
theorem d_Md_pension_26 : decode b_Md_pension 26 = .ok (.iload_n 2, 1) := by decide +kernel
set_option maxRecDepth 100000 in
theorem d_Md_pension_27 : decode b_Md_pension 27 = .ok (.invokevirtual 342, 3) := by decide +kernel
set_option maxRecDepth 100000 in
theorem d_Md_pension_30 : decode b_Md_pension 30 = .ok (.ireturn, 1) := by decide +kernel
set_option maxRecDepth 100000 in
theorem d_Md_pensioner_0 : decode b_Md_pensioner 0 = .ok (.iload_n 1, 1) := by decide +kernel
set_option maxRecDepth 100000 in
theorem d_Md_pensioner_1 : decode b_Md_pensioner 1 = .ok (.iconst 0, 1) := by decide +kernel
set_option maxRecDepth 100000 in
theorem d_Md_pensioner_2 : decode b_Md_pensioner 2 = .ok (.aload_n 0, 1) := by decide +kernel
set_option maxRecDepth 100000 in
theorem d_Md_pensioner_3 : decode b_Md_pensioner 3 = .ok (.getfield 323, 3) := by decide +kernel
set_option maxRecDepth 100000 in
theorem d_Md_pensioner_6 : decode b_Md_pensioner 6 = .ok (.iconst 1, 1) := by decide +kernel
set_option maxRecDepth 100000 in
theorem d_Md_pensioner_7 : decode b_Md_pensioner 7 = .ok (.isub, 1) := by decide +kernel
set_option maxRecDepth 100000 in
theorem d_Md_pensioner_8 : decode b_Md_pensioner 8 = .ok (.invokestatic 10, 3) := by decide +kernel
set_option maxRecDepth 100000 in
theorem d_Md_pensioner_11 : decode b_Md_pensioner 11 = .ok (.ifCond .ne 5, 3) := by decide +kernel
set_option maxRecDepth 100000 in
theorem d_Md_pensioner_14 : decode b_Md_pensioner 14 = .ok (.iconst (-1), 1) := by decide +kernel
set_option maxRecDepth 100000 in
theorem d_Md_pensioner_15 : decode b_Md_pensioner 15 = .ok (.ireturn, 1) := by decide +kernel
set_option maxRecDepth 100000 in
theorem d_Md_pensioner_16 : decode b_Md_pensioner 16 = .ok (.iload_n 2, 1) := by decide +kernel
set_option maxRecDepth 100000 in
theorem d_Md_pensioner_17 : decode b_Md_pensioner 17 = .ok (.tableswitch 48 0 2 #[27, 34, 41], 27) := by decide +kernel
set_option maxRecDepth 100000 in
theorem d_Md_pensioner_44 : decode b_Md_pensioner 44 = .ok (.aload_n 0, 1) := by decide +kernel
set_option maxRecDepth 100000 in
theorem d_Md_pensioner_45 : decode b_Md_pensioner 45 = .ok (.getfield 177, 3) := by decide +kernel
set_option maxRecDepth 100000 in
theorem d_Md_pensioner_48 : decode b_Md_pensioner 48 = .ok (.iload_n 1, 1) := by decide +kernel
set_option maxRecDepth 100000 in
theorem d_Md_pensioner_49 : decode b_Md_pensioner 49 = .ok (.iaload, 1) := by decide +kernel
set_option maxRecDepth 100000 in
theorem d_Md_pensioner_50 : decode b_Md_pensioner 50 = .ok (.ireturn, 1) := by decide +kernel
set_option maxRecDepth 100000 in
theorem d_Md_pensioner_51 : decode b_Md_pensioner 51 = .ok (.aload_n 0, 1) := by decide +kernel
set_option maxRecDepth 100000 in
theorem d_Md_pensioner_52 : decode b_Md_pensioner 52 = .ok (.getfield 180, 3) := by decide +kernel
set_option maxRecDepth 100000 in
theorem d_Md_pensioner_55 : decode b_Md_pensioner 55 = .ok (.iload_n 1, 1) := by decide +kernel
set_option maxRecDepth 100000 in
theorem d_Md_pensioner_56 : decode b_Md_pensioner 56 = .ok (.iaload, 1) := by decide +kernel
set_option maxRecDepth 100000 in
theorem d_Md_pensioner_57 : decode b_Md_pensioner 57 = .ok (.ireturn, 1) := by decide +kernel
set_option maxRecDepth 100000 in
theorem d_Md_pensioner_58 : decode b_Md_pensioner 58 = .ok (.aload_n 0, 1) := by decide +kernel
set_option maxRecDepth 100000 in
theorem d_Md_pensioner_59 : decode b_Md_pensioner 59 = .ok (.getfield 183, 3) := by decide +kernel
set_option maxRecDepth 100000 in
theorem d_Md_pensioner_62 : decode b_Md_pensioner 62 = .ok (.iload_n 1, 1) := by decide +kernel
set_option maxRecDepth 100000 in
theorem d_Md_pensioner_63 : decode b_Md_pensioner 63 = .ok (.iaload, 1) := by decide +kernel
set_option maxRecDepth 100000 in
theorem d_Md_pensioner_64 : decode b_Md_pensioner 64 = .ok (.ireturn, 1) := by decide +kernel
set_option maxRecDepth 100000 in
theorem d_Md_pensioner_65 : decode b_Md_pensioner 65 = .ok (.iconst (-1), 1) := by decide +kernel
set_option maxRecDepth 100000 in
theorem d_Md_pensioner_66 : decode b_Md_pensioner 66 = .ok (.ireturn, 1) := by decide +kernel
set_option maxRecDepth 100000 in
theorem d_Md_placeOf_0 : decode b_Md_placeOf 0 = .ok (.aload_n 0, 1) := by decide +kernel
set_option maxRecDepth 100000 in
theorem d_Md_placeOf_1 : decode b_Md_placeOf 1 = .ok (.iload_n 1, 1) := by decide +kernel
set_option maxRecDepth 100000 in
theorem d_Md_placeOf_2 : decode b_Md_placeOf 2 = .ok (.invokevirtual 193, 3) := by decide +kernel
set_option maxRecDepth 100000 in
theorem d_Md_row_0 : decode b_Md_row 0 = .ok (.aload_n 0, 1) := by decide +kernel
set_option maxRecDepth 100000 in
theorem d_Md_row_1 : decode b_Md_row 1 = .ok (.iload_n 1, 1) := by decide +kernel
set_option maxRecDepth 100000 in
theorem d_Md_row_2 : decode b_Md_row 2 = .ok (.iload_n 2, 1) := by decide +kernel
set_option maxRecDepth 100000 in
theorem d_Md_row_3 : decode b_Md_row 3 = .ok (.iload_n 3, 1) := by decide +kernel
set_option maxRecDepth 100000 in
theorem d_Md_row_4 : decode b_Md_row 4 = .ok (.invokevirtual 306, 3) := by decide +kernel
set_option maxRecDepth 100000 in
theorem d_Md_row_7 : decode b_Md_row 7 = .ok (.ifCond .eq 15, 3) := by decide +kernel
set_option maxRecDepth 100000 in
theorem d_Md_row_10 : decode b_Md_row 10 = .ok (.iload 4, 2) := by decide +kernel
set_option maxRecDepth 100000 in
theorem d_Md_row_12 : decode b_Md_row 12 = .ok (.iconst 0, 1) := by decide +kernel
set_option maxRecDepth 100000 in
theorem d_Md_row_13 : decode b_Md_row 13 = .ok (.ldc_w 288, 3) := by decide +kernel
set_option maxRecDepth 100000 in
theorem d_Md_row_16 : decode b_Md_row 16 = .ok (.invokestatic 10, 3) := by decide +kernel
set_option maxRecDepth 100000 in
theorem d_Md_row_19 : decode b_Md_row 19 = .ok (.ifCond .ne 5, 3) := by decide +kernel
set_option maxRecDepth 100000 in
theorem d_Md_row_22 : decode b_Md_row 22 = .ok (.iconst (-1), 1) := by decide +kernel
set_option maxRecDepth 100000 in
theorem d_Md_row_23 : decode b_Md_row 23 = .ok (.ireturn, 1) := by decide +kernel
set_option maxRecDepth 100000 in
theorem d_Md_row_24 : decode b_Md_row 24 = .ok (.aload_n 0, 1) := by decide +kernel
set_option maxRecDepth 100000 in
theorem d_Md_row_25 : decode b_Md_row 25 = .ok (.iload_n 1, 1) := by decide +kernel
set_option maxRecDepth 100000 in
theorem d_Md_row_26 : decode b_Md_row 26 = .ok (.iload_n 2, 1) := by decide +kernel
set_option maxRecDepth 100000 in
theorem d_Md_row_27 : decode b_Md_row 27 = .ok (.iload_n 3, 1) := by decide +kernel
set_option maxRecDepth 100000 in
theorem d_Md_row_28 : decode b_Md_row 28 = .ok (.invokevirtual 309, 3) := by decide +kernel
set_option maxRecDepth 100000 in
theorem d_Md_rowOf_0 : decode b_Md_rowOf 0 = .ok (.iconst 0, 1) := by decide +kernel
set_option maxRecDepth 100000 in
theorem d_Md_rowOf_1 : decode b_Md_rowOf 1 = .ok (.istore_n 2, 1) := by decide +kernel
set_option maxRecDepth 100000 in
theorem d_Md_rowOf_2 : decode b_Md_rowOf 2 = .ok (.iload_n 2, 1) := by decide +kernel
set_option maxRecDepth 100000 in
theorem d_Md_rowOf_3 : decode b_Md_rowOf 3 = .ok (.aload_n 0, 1) := by decide +kernel
set_option maxRecDepth 100000 in
theorem d_Md_rowOf_4 : decode b_Md_rowOf 4 = .ok (.getfield 14, 3) := by decide +kernel
set_option maxRecDepth 100000 in
theorem d_Md_rowOf_7 : decode b_Md_rowOf 7 = .ok (.if_icmp .ge 44, 3) := by decide +kernel
set_option maxRecDepth 100000 in
theorem d_Md_rowOf_10 : decode b_Md_rowOf 10 = .ok (.iconst 0, 1) := by decide +kernel
set_option maxRecDepth 100000 in
theorem d_Md_rowOf_11 : decode b_Md_rowOf 11 = .ok (.istore_n 3, 1) := by decide +kernel
set_option maxRecDepth 100000 in
theorem d_Md_rowOf_12 : decode b_Md_rowOf 12 = .ok (.iload_n 3, 1) := by decide +kernel
set_option maxRecDepth 100000 in
theorem d_Md_rowOf_13 : decode b_Md_rowOf 13 = .ok (.aload_n 0, 1) := by decide +kernel
set_option maxRecDepth 100000 in
theorem d_Md_rowOf_14 : decode b_Md_rowOf 14 = .ok (.getfield 88, 3) := by decide +kernel
set_option maxRecDepth 100000 in
theorem d_Md_rowOf_17 : decode b_Md_rowOf 17 = .ok (.iload_n 2, 1) := by decide +kernel
set_option maxRecDepth 100000 in
theorem d_Md_rowOf_18 : decode b_Md_rowOf 18 = .ok (.iaload, 1) := by decide +kernel
set_option maxRecDepth 100000 in
theorem d_Md_rowOf_19 : decode b_Md_rowOf 19 = .ok (.if_icmp .ge 26, 3) := by decide +kernel
set_option maxRecDepth 100000 in
theorem d_Md_rowOf_22 : decode b_Md_rowOf 22 = .ok (.aload_n 0, 1) := by decide +kernel
set_option maxRecDepth 100000 in
theorem d_Md_rowOf_23 : decode b_Md_rowOf 23 = .ok (.getfield 91, 3) := by decide +kernel
set_option maxRecDepth 100000 in
theorem d_Md_rowOf_26 : decode b_Md_rowOf 26 = .ok (.bipush 40, 2) := by decide +kernel
set_option maxRecDepth 100000 in
theorem d_Md_rowOf_28 : decode b_Md_rowOf 28 = .ok (.iload_n 2, 1) := by decide +kernel
set_option maxRecDepth 100000 in
theorem d_Md_rowOf_29 : decode b_Md_rowOf 29 = .ok (.imul, 1) := by decide +kernel
set_option maxRecDepth 100000 in
theorem d_Md_rowOf_30 : decode b_Md_rowOf 30 = .ok (.iload_n 3, 1) := by decide +kernel
set_option maxRecDepth 100000 in
theorem d_Md_rowOf_31 : decode b_Md_rowOf 31 = .ok (.iadd, 1) := by decide +kernel
set_option maxRecDepth 100000 in
theorem d_Md_rowOf_32 : decode b_Md_rowOf 32 = .ok (.iaload, 1) := by decide +kernel
set_option maxRecDepth 100000 in
theorem d_Md_rowOf_33 : decode b_Md_rowOf 33 = .ok (.iload_n 1, 1) := by decide +kernel
set_option maxRecDepth 100000 in
theorem d_Md_rowOf_34 : decode b_Md_rowOf 34 = .ok (.if_icmp .ne 5, 3) := by decide +kernel
set_option maxRecDepth 100000 in
theorem d_Md_rowOf_39 : decode b_Md_rowOf 39 = .ok (.iinc 3 1, 3) := by decide +kernel
set_option maxRecDepth 100000 in
theorem d_Md_rowOf_42 : decode b_Md_rowOf 42 = .ok (.goto (-30), 3) := by decide +kernel
set_option maxRecDepth 100000 in
theorem d_Md_rowOf_45 : decode b_Md_rowOf 45 = .ok (.iinc 2 1, 3) := by decide +kernel
set_option maxRecDepth 100000 in
theorem d_Md_rowOf_48 : decode b_Md_rowOf 48 = .ok (.goto (-46), 3) := by decide +kernel
set_option maxRecDepth 100000 in
theorem d_Md_rowOf_51 : decode b_Md_rowOf 51 = .ok (.iconst (-1), 1) := by decide +kernel
set_option maxRecDepth 100000 in
theorem d_Md_rowOf_52 : decode b_Md_rowOf 52 = .ok (.ireturn, 1) := by decide +kernel
set_option maxRecDepth 100000 in
theorem d_Md_served_0 : decode b_Md_served 0 = .ok (.iload_n 1, 1) := by decide +kernel
set_option maxRecDepth 100000 in
theorem d_Md_served_1 : decode b_Md_served 1 = .ok (.invokestatic 186, 3) := by decide +kernel
set_option maxRecDepth 100000 in
theorem d_Md_served_4 : decode b_Md_served 4 = .ok (.ifCond .ne 7, 3) := by decide +kernel
set_option maxRecDepth 100000 in
theorem d_Md_served_7 : decode b_Md_served 7 = .ok (.iconst (-1), 1) := by decide +kernel
set_option maxRecDepth 100000 in
theorem d_Md_served_8 : decode b_Md_served 8 = .ok (.goto 23, 3) := by decide +kernel
set_option maxRecDepth 100000 in
theorem d_Md_served_11 : decode b_Md_served 11 = .ok (.aload_n 0, 1) := by decide +kernel
set_option maxRecDepth 100000 in
theorem d_Md_served_12 : decode b_Md_served 12 = .ok (.getfield 58, 3) := by decide +kernel
set_option maxRecDepth 100000 in
theorem d_Md_served_15 : decode b_Md_served 15 = .ok (.iload_n 1, 1) := by decide +kernel
set_option maxRecDepth 100000 in
theorem d_Md_served_16 : decode b_Md_served 16 = .ok (.iaload, 1) := by decide +kernel
set_option maxRecDepth 100000 in
theorem d_Md_served_17 : decode b_Md_served 17 = .ok (.iconst 1, 1) := by decide +kernel
set_option maxRecDepth 100000 in
theorem d_Md_served_18 : decode b_Md_served 18 = .ok (.if_icmp .eq 8, 3) := by decide +kernel
set_option maxRecDepth 100000 in
theorem d_Md_served_26 : decode b_Md_served 26 = .ok (.aload_n 0, 1) := by decide +kernel
set_option maxRecDepth 100000 in
theorem d_Md_served_27 : decode b_Md_served 27 = .ok (.iload_n 1, 1) := by decide +kernel
set_option maxRecDepth 100000 in
theorem d_Md_served_28 : decode b_Md_served 28 = .ok (.invokevirtual 189, 3) := by decide +kernel
set_option maxRecDepth 100000 in
theorem d_Md_served_31 : decode b_Md_served 31 = .ok (.ireturn, 1) := by decide +kernel
set_option maxRecDepth 100000 in
theorem d_Md_servedOf_0 : decode b_Md_servedOf 0 = .ok (.aload_n 0, 1) := by decide +kernel
set_option maxRecDepth 100000 in
theorem d_Md_servedOf_1 : decode b_Md_servedOf 1 = .ok (.invokevirtual 45, 3) := by decide +kernel
set_option maxRecDepth 100000 in
theorem d_Md_servedOf_4 : decode b_Md_servedOf 4 = .ok (.aload_n 0, 1) := by decide +kernel
set_option maxRecDepth 100000 in
theorem d_Md_servedOf_5 : decode b_Md_servedOf 5 = .ok (.getfield 64, 3) := by decide +kernel
set_option maxRecDepth 100000 in
theorem d_Md_servedOf_8 : decode b_Md_servedOf 8 = .ok (.iload_n 1, 1) := by decide +kernel
set_option maxRecDepth 100000 in
theorem d_Md_servedOf_9 : decode b_Md_servedOf 9 = .ok (.iaload, 1) := by decide +kernel
set_option maxRecDepth 100000 in
theorem d_Md_sink_0 : decode b_Md_sink 0 = .ok (.aload_n 0, 1) := by decide +kernel
set_option maxRecDepth 100000 in
theorem d_Md_sink_1 : decode b_Md_sink 1 = .ok (.iload_n 1, 1) := by decide +kernel
set_option maxRecDepth 100000 in
theorem d_Md_sink_2 : decode b_Md_sink 2 = .ok (.invokevirtual 209, 3) := by decide +kernel
set_option maxRecDepth 100000 in
theorem d_Md_sink_5 : decode b_Md_sink 5 = .ok (.ifCond .eq 11, 3) := by decide +kernel
set_option maxRecDepth 100000 in
theorem d_Md_sink_8 : decode b_Md_sink 8 = .ok (.iload_n 2, 1) := by decide +kernel
set_option maxRecDepth 100000 in
theorem d_Md_sink_9 : decode b_Md_sink 9 = .ok (.iload_n 3, 1) := by decide +kernel
set_option maxRecDepth 100000 in
theorem d_Md_sink_10 : decode b_Md_sink 10 = .ok (.invokestatic 338, 3) := by decide +kernel
set_option maxRecDepth 100000 in
theorem d_Md_sink_13 : decode b_Md_sink 13 = .ok (.ifCond .ne 5, 3) := by decide +kernel
set_option maxRecDepth 100000 in
theorem d_Md_sink_16 : decode b_Md_sink 16 = .ok (.iconst (-1), 1) := by decide +kernel
set_option maxRecDepth 100000 in
theorem d_Md_sink_17 : decode b_Md_sink 17 = .ok (.ireturn, 1) := by decide +kernel
set_option maxRecDepth 100000 in
theorem d_Md_sink_18 : decode b_Md_sink 18 = .ok (.aload_n 0, 1) := by decide +kernel
set_option maxRecDepth 100000 in
theorem d_Md_sink_19 : decode b_Md_sink 19 = .ok (.getfield 103, 3) := by decide +kernel
set_option maxRecDepth 100000 in
theorem d_Md_sink_22 : decode b_Md_sink 22 = .ok (.iload_n 1, 1) := by decide +kernel
set_option maxRecDepth 100000 in
theorem d_Md_sink_23 : decode b_Md_sink 23 = .ok (.iaload, 1) := by decide +kernel
set_option maxRecDepth 100000 in
theorem d_Md_sink_24 : decode b_Md_sink 24 = .ok (.ifCond .ge 6, 3) := by decide +kernel
set_option maxRecDepth 100000 in
theorem d_Md_sink_30 : decode b_Md_sink 30 = .ok (.aload_n 0, 1) := by decide +kernel
set_option maxRecDepth 100000 in
theorem d_Md_sink_31 : decode b_Md_sink 31 = .ok (.getfield 323, 3) := by decide +kernel
set_option maxRecDepth 100000 in
theorem d_Md_sink_34 : decode b_Md_sink 34 = .ok (.bipush 30, 2) := by decide +kernel
set_option maxRecDepth 100000 in
theorem d_Md_sink_36 : decode b_Md_sink 36 = .ok (.if_icmp .ne 6, 3) := by decide +kernel
set_option maxRecDepth 100000 in
theorem d_Md_sink_42 : decode b_Md_sink 42 = .ok (.aload_n 0, 1) := by decide +kernel
set_option maxRecDepth 100000 in
theorem d_Md_sink_43 : decode b_Md_sink 43 = .ok (.getfield 103, 3) := by decide +kernel
set_option maxRecDepth 100000 in
theorem d_Md_sink_46 : decode b_Md_sink 46 = .ok (.iload_n 1, 1) := by decide +kernel
set_option maxRecDepth 100000 in
theorem d_Md_sink_47 : decode b_Md_sink 47 = .ok (.iaload, 1) := by decide +kernel
set_option maxRecDepth 100000 in
theorem d_Md_sink_48 : decode b_Md_sink 48 = .ok (.istore 4, 2) := by decide +kernel
set_option maxRecDepth 100000 in
theorem d_Md_sink_50 : decode b_Md_sink 50 = .ok (.aload_n 0, 1) := by decide +kernel
set_option maxRecDepth 100000 in
theorem d_Md_sink_51 : decode b_Md_sink 51 = .ok (.getfield 170, 3) := by decide +kernel
set_option maxRecDepth 100000 in
theorem d_Md_sink_54 : decode b_Md_sink 54 = .ok (.iload 4, 2) := by decide +kernel
set_option maxRecDepth 100000 in
theorem d_Md_sink_56 : decode b_Md_sink 56 = .ok (.iconst 1, 1) := by decide +kernel
set_option maxRecDepth 100000 in
theorem d_Md_sink_57 : decode b_Md_sink 57 = .ok (.bastore, 1) := by decide +kernel
set_option maxRecDepth 100000 in
theorem d_Md_stairs_0 : decode b_Md_stairs 0 = .ok (.iload_n 1, 1) := by decide +kernel
set_option maxRecDepth 100000 in
theorem d_Md_stairs_1 : decode b_Md_stairs 1 = .ok (.iconst 0, 1) := by decide +kernel
set_option maxRecDepth 100000 in
theorem d_Md_stairs_2 : decode b_Md_stairs 2 = .ok (.bipush 60, 2) := by decide +kernel
set_option maxRecDepth 100000 in
theorem d_Md_stairs_4 : decode b_Md_stairs 4 = .ok (.invokestatic 10, 3) := by decide +kernel
set_option maxRecDepth 100000 in
theorem d_Md_stairs_7 : decode b_Md_stairs 7 = .ok (.ifCond .eq 25, 3) := by decide +kernel
set_option maxRecDepth 100000 in
theorem d_Md_stairs_10 : decode b_Md_stairs 10 = .ok (.aload_n 0, 1) := by decide +kernel
set_option maxRecDepth 100000 in
theorem d_Md_stairs_11 : decode b_Md_stairs 11 = .ok (.getfield 14, 3) := by decide +kernel
set_option maxRecDepth 100000 in
theorem d_Md_stairs_14 : decode b_Md_stairs 14 = .ok (.ifCond .le 20, 3) := by decide +kernel
set_option maxRecDepth 100000 in
theorem d_Md_stairs_17 : decode b_Md_stairs 17 = .ok (.iload_n 1, 1) := by decide +kernel
set_option maxRecDepth 100000 in
theorem d_Md_stairs_18 : decode b_Md_stairs 18 = .ok (.aload_n 0, 1) := by decide +kernel
set_option maxRecDepth 100000 in
theorem d_Md_stairs_19 : decode b_Md_stairs 19 = .ok (.getfield 32, 3) := by decide +kernel
set_option maxRecDepth 100000 in
theorem d_Md_stairs_22 : decode b_Md_stairs 22 = .ok (.aload_n 0, 1) := by decide +kernel
set_option maxRecDepth 100000 in
theorem d_Md_stairs_23 : decode b_Md_stairs 23 = .ok (.getfield 14, 3) := by decide +kernel
set_option maxRecDepth 100000 in
theorem d_Md_stairs_26 : decode b_Md_stairs 26 = .ok (.iconst 1, 1) := by decide +kernel
set_option maxRecDepth 100000 in
theorem d_Md_stairs_27 : decode b_Md_stairs 27 = .ok (.isub, 1) := by decide +kernel
set_option maxRecDepth 100000 in
theorem d_Md_stairs_28 : decode b_Md_stairs 28 = .ok (.iaload, 1) := by decide +kernel
set_option maxRecDepth 100000 in
theorem d_Md_stairs_29 : decode b_Md_stairs 29 = .ok (.if_icmp .gt 5, 3) := by decide +kernel
set_option maxRecDepth 100000 in
theorem d_Md_stairs_32 : decode b_Md_stairs 32 = .ok (.iconst (-1), 1) := by decide +kernel
set_option maxRecDepth 100000 in
theorem d_Md_stairs_33 : decode b_Md_stairs 33 = .ok (.ireturn, 1) := by decide +kernel
set_option maxRecDepth 100000 in
theorem d_Md_stairs_34 : decode b_Md_stairs 34 = .ok (.aload_n 0, 1) := by decide +kernel
set_option maxRecDepth 100000 in
theorem d_Md_stairs_35 : decode b_Md_stairs 35 = .ok (.getfield 14, 3) := by decide +kernel
set_option maxRecDepth 100000 in
theorem d_Md_stairs_38 : decode b_Md_stairs 38 = .ok (.bipush 12, 2) := by decide +kernel
set_option maxRecDepth 100000 in
theorem d_Md_stairs_40 : decode b_Md_stairs 40 = .ok (.if_icmp .ne 6, 3) := by decide +kernel
set_option maxRecDepth 100000 in
theorem d_Md_stairs_43 : decode b_Md_stairs 43 = .ok (.bipush (-3), 2) := by decide +kernel
set_option maxRecDepth 100000 in
theorem d_Md_stairs_45 : decode b_Md_stairs 45 = .ok (.ireturn, 1) := by decide +kernel
set_option maxRecDepth 100000 in
theorem d_Md_stairs_46 : decode b_Md_stairs 46 = .ok (.aload_n 0, 1) := by decide +kernel
set_option maxRecDepth 100000 in
theorem d_Md_stairs_47 : decode b_Md_stairs 47 = .ok (.getfield 32, 3) := by decide +kernel
set_option maxRecDepth 100000 in
theorem d_Md_stairs_50 : decode b_Md_stairs 50 = .ok (.aload_n 0, 1) := by decide +kernel
set_option maxRecDepth 100000 in
theorem d_Md_stairs_51 : decode b_Md_stairs 51 = .ok (.getfield 14, 3) := by decide +kernel
set_option maxRecDepth 100000 in
theorem d_Md_stairs_54 : decode b_Md_stairs 54 = .ok (.iload_n 1, 1) := by decide +kernel
set_option maxRecDepth 100000 in
theorem d_Md_stairs_55 : decode b_Md_stairs 55 = .ok (.iastore, 1) := by decide +kernel
set_option maxRecDepth 100000 in
theorem d_Md_stairs_56 : decode b_Md_stairs 56 = .ok (.aload_n 0, 1) := by decide +kernel
set_option maxRecDepth 100000 in
theorem d_Md_stairs_57 : decode b_Md_stairs 57 = .ok (.dup, 1) := by decide +kernel
set_option maxRecDepth 100000 in
theorem d_Md_stairs_58 : decode b_Md_stairs 58 = .ok (.getfield 14, 3) := by decide +kernel
set_option maxRecDepth 100000 in
theorem d_Md_stairs_61 : decode b_Md_stairs 61 = .ok (.iconst 1, 1) := by decide +kernel
set_option maxRecDepth 100000 in
theorem d_Md_stairs_62 : decode b_Md_stairs 62 = .ok (.iadd, 1) := by decide +kernel
set_option maxRecDepth 100000 in
theorem d_Md_stairs_63 : decode b_Md_stairs 63 = .ok (.putfield 14, 3) := by decide +kernel
set_option maxRecDepth 100000 in
theorem d_Md_stairs_66 : decode b_Md_stairs 66 = .ok (.aload_n 0, 1) := by decide +kernel
set_option maxRecDepth 100000 in
theorem d_Md_stairs_67 : decode b_Md_stairs 67 = .ok (.getfield 14, 3) := by decide +kernel
set_option maxRecDepth 100000 in
theorem d_Md_stairs_70 : decode b_Md_stairs 70 = .ok (.iconst 1, 1) := by decide +kernel
set_option maxRecDepth 100000 in
theorem d_Md_stairs_71 : decode b_Md_stairs 71 = .ok (.isub, 1) := by decide +kernel
set_option maxRecDepth 100000 in
theorem d_Md_stairs_72 : decode b_Md_stairs 72 = .ok (.ireturn, 1) := by decide +kernel
set_option maxRecDepth 100000 in
theorem d_Md_table_0 : decode b_Md_table 0 = .ok (.iload_n 1, 1) := by decide +kernel
set_option maxRecDepth 100000 in
theorem d_Md_table_1 : decode b_Md_table 1 = .ok (.iconst 0, 1) := by decide +kernel
set_option maxRecDepth 100000 in
theorem d_Md_table_2 : decode b_Md_table 2 = .ok (.bipush 11, 2) := by decide +kernel
set_option maxRecDepth 100000 in
theorem d_Md_table_4 : decode b_Md_table 4 = .ok (.invokestatic 10, 3) := by decide +kernel
set_option maxRecDepth 100000 in
theorem d_Md_table_7 : decode b_Md_table 7 = .ok (.ifCond .eq 14, 3) := by decide +kernel
set_option maxRecDepth 100000 in
theorem d_Md_table_10 : decode b_Md_table 10 = .ok (.iload_n 2, 1) := by decide +kernel
set_option maxRecDepth 100000 in
theorem d_Md_table_11 : decode b_Md_table 11 = .ok (.bipush (-90), 2) := by decide +kernel
set_option maxRecDepth 100000 in
theorem d_Md_table_13 : decode b_Md_table 13 = .ok (.bipush 90, 2) := by decide +kernel
set_option maxRecDepth 100000 in
theorem d_Md_table_15 : decode b_Md_table 15 = .ok (.invokestatic 10, 3) := by decide +kernel
set_option maxRecDepth 100000 in
theorem d_Md_table_18 : decode b_Md_table 18 = .ok (.ifCond .ne 7, 3) := by decide +kernel
set_option maxRecDepth 100000 in
theorem d_Md_table_21 : decode b_Md_table 21 = .ok (.sipush (-1000), 3) := by decide +kernel
set_option maxRecDepth 100000 in
theorem d_Md_table_24 : decode b_Md_table 24 = .ok (.ireturn, 1) := by decide +kernel
set_option maxRecDepth 100000 in
theorem d_Md_table_25 : decode b_Md_table 25 = .ok (.aload_n 0, 1) := by decide +kernel
set_option maxRecDepth 100000 in
theorem d_Md_table_26 : decode b_Md_table 26 = .ok (.getfield 25, 3) := by decide +kernel
set_option maxRecDepth 100000 in
theorem d_Md_table_29 : decode b_Md_table 29 = .ok (.iload_n 1, 1) := by decide +kernel
set_option maxRecDepth 100000 in
theorem d_Md_table_30 : decode b_Md_table 30 = .ok (.iaload, 1) := by decide +kernel
set_option maxRecDepth 100000 in
theorem d_Md_table_31 : decode b_Md_table 31 = .ok (.istore_n 3, 1) := by decide +kernel
set_option maxRecDepth 100000 in
theorem d_Md_table_32 : decode b_Md_table 32 = .ok (.aload_n 0, 1) := by decide +kernel
set_option maxRecDepth 100000 in
theorem d_Md_table_33 : decode b_Md_table 33 = .ok (.getfield 25, 3) := by decide +kernel
set_option maxRecDepth 100000 in
theorem d_Md_table_36 : decode b_Md_table 36 = .ok (.iload_n 1, 1) := by decide +kernel
set_option maxRecDepth 100000 in
theorem d_Md_table_37 : decode b_Md_table 37 = .ok (.iload_n 2, 1) := by decide +kernel
set_option maxRecDepth 100000 in
theorem d_Md_table_38 : decode b_Md_table 38 = .ok (.iastore, 1) := by decide +kernel
set_option maxRecDepth 100000 in
theorem d_Md_table_39 : decode b_Md_table 39 = .ok (.iload_n 3, 1) := by decide +kernel
set_option maxRecDepth 100000 in
theorem d_Md_table_40 : decode b_Md_table 40 = .ok (.ireturn, 1) := by decide +kernel
set_option maxRecDepth 100000 in
theorem d_Md_takes_0 : decode b_Md_takes 0 = .ok (.aload_n 0, 1) := by decide +kernel
set_option maxRecDepth 100000 in
theorem d_Md_takes_1 : decode b_Md_takes 1 = .ok (.getfield 224, 3) := by decide +kernel
set_option maxRecDepth 100000 in
theorem d_Md_takes_4 : decode b_Md_takes 4 = .ok (.iload_n 1, 1) := by decide +kernel
set_option maxRecDepth 100000 in
theorem d_Md_takes_5 : decode b_Md_takes 5 = .ok (.if_icmp .eq 5, 3) := by decide +kernel
set_option maxRecDepth 100000 in
theorem d_Md_takes_10 : decode b_Md_takes 10 = .ok (.aload_n 0, 1) := by decide +kernel
set_option maxRecDepth 100000 in
theorem d_Md_takes_11 : decode b_Md_takes 11 = .ok (.aload_n 0, 1) := by decide +kernel
set_option maxRecDepth 100000 in
theorem d_Md_takes_12 : decode b_Md_takes 12 = .ok (.getfield 241, 3) := by decide +kernel
set_option maxRecDepth 100000 in
theorem d_Md_takes_15 : decode b_Md_takes 15 = .ok (.putfield 266, 3) := by decide +kernel
set_option maxRecDepth 100000 in
theorem d_Md_takes_18 : decode b_Md_takes 18 = .ok (.aload_n 0, 1) := by decide +kernel
set_option maxRecDepth 100000 in
theorem d_Md_takes_19 : decode b_Md_takes 19 = .ok (.invokevirtual 269, 3) := by decide +kernel
set_option maxRecDepth 100000 in
theorem d_Md_today_0 : decode b_Md_today 0 = .ok (.aload_n 0, 1) := by decide +kernel
set_option maxRecDepth 100000 in
theorem d_Md_today_1 : decode b_Md_today 1 = .ok (.getfield 7, 3) := by decide +kernel
set_option maxRecDepth 100000 in
theorem d_Md_today_4 : decode b_Md_today 4 = .ok (.sipush 720, 3) := by decide +kernel
set_option maxRecDepth 100000 in
theorem d_Md_today_7 : decode b_Md_today 7 = .ok (.idiv, 1) := by decide +kernel
set_option maxRecDepth 100000 in
theorem d_Md_today_8 : decode b_Md_today 8 = .ok (.ireturn, 1) := by decide +kernel
set_option maxRecDepth 100000 in
theorem d_Md_trip_0 : decode b_Md_trip 0 = .ok (.iload_n 1, 1) := by decide +kernel
set_option maxRecDepth 100000 in
theorem d_Md_trip_1 : decode b_Md_trip 1 = .ok (.iconst 0, 1) := by decide +kernel
set_option maxRecDepth 100000 in
theorem d_Md_trip_2 : decode b_Md_trip 2 = .ok (.aload_n 0, 1) := by decide +kernel
set_option maxRecDepth 100000 in
theorem d_Md_trip_3 : decode b_Md_trip 3 = .ok (.getfield 313, 3) := by decide +kernel
set_option maxRecDepth 100000 in
theorem d_Md_trip_6 : decode b_Md_trip 6 = .ok (.iconst 1, 1) := by decide +kernel
set_option maxRecDepth 100000 in
theorem d_Md_trip_7 : decode b_Md_trip 7 = .ok (.isub, 1) := by decide +kernel
set_option maxRecDepth 100000 in
theorem d_Md_trip_8 : decode b_Md_trip 8 = .ok (.invokestatic 10, 3) := by decide +kernel
set_option maxRecDepth 100000 in
theorem d_Md_trip_11 : decode b_Md_trip 11 = .ok (.ifCond .ne 6, 3) := by decide +kernel
set_option maxRecDepth 100000 in
theorem d_Md_trip_14 : decode b_Md_trip 14 = .ok (.bipush (-2), 2) := by decide +kernel
set_option maxRecDepth 100000 in
theorem d_Md_trip_16 : decode b_Md_trip 16 = .ok (.ireturn, 1) := by decide +kernel
set_option maxRecDepth 100000 in
theorem d_Md_trip_17 : decode b_Md_trip 17 = .ok (.iload_n 2, 1) := by decide +kernel
set_option maxRecDepth 100000 in
theorem d_Md_trip_18 : decode b_Md_trip 18 = .ok (.tableswitch 110 0 7 #[46, 53, 60, 67, 74, 81, 88, 95], 46) := by decide +kernel
set_option maxRecDepth 100000 in
theorem d_Md_trip_64 : decode b_Md_trip 64 = .ok (.aload_n 0, 1) := by decide +kernel
set_option maxRecDepth 100000 in
theorem d_Md_trip_65 : decode b_Md_trip 65 = .ok (.getfield 149, 3) := by decide +kernel
set_option maxRecDepth 100000 in
theorem d_Md_trip_68 : decode b_Md_trip 68 = .ok (.iload_n 1, 1) := by decide +kernel
set_option maxRecDepth 100000 in
theorem d_Md_trip_69 : decode b_Md_trip 69 = .ok (.iaload, 1) := by decide +kernel
set_option maxRecDepth 100000 in
theorem d_Md_trip_70 : decode b_Md_trip 70 = .ok (.ireturn, 1) := by decide +kernel
set_option maxRecDepth 100000 in
theorem d_Md_trip_71 : decode b_Md_trip 71 = .ok (.aload_n 0, 1) := by decide +kernel
set_option maxRecDepth 100000 in
theorem d_Md_trip_72 : decode b_Md_trip 72 = .ok (.getfield 152, 3) := by decide +kernel
set_option maxRecDepth 100000 in
theorem d_Md_trip_75 : decode b_Md_trip 75 = .ok (.iload_n 1, 1) := by decide +kernel
set_option maxRecDepth 100000 in
theorem d_Md_trip_76 : decode b_Md_trip 76 = .ok (.iaload, 1) := by decide +kernel
set_option maxRecDepth 100000 in
theorem d_Md_trip_77 : decode b_Md_trip 77 = .ok (.ireturn, 1) := by decide +kernel
set_option maxRecDepth 100000 in
theorem d_Md_trip_78 : decode b_Md_trip 78 = .ok (.aload_n 0, 1) := by decide +kernel
set_option maxRecDepth 100000 in
theorem d_Md_trip_79 : decode b_Md_trip 79 = .ok (.getfield 155, 3) := by decide +kernel
set_option maxRecDepth 100000 in
theorem d_Md_trip_82 : decode b_Md_trip 82 = .ok (.iload_n 1, 1) := by decide +kernel
set_option maxRecDepth 100000 in
theorem d_Md_trip_83 : decode b_Md_trip 83 = .ok (.iaload, 1) := by decide +kernel
set_option maxRecDepth 100000 in
theorem d_Md_trip_84 : decode b_Md_trip 84 = .ok (.ireturn, 1) := by decide +kernel
set_option maxRecDepth 100000 in
theorem d_Md_trip_85 : decode b_Md_trip 85 = .ok (.aload_n 0, 1) := by decide +kernel
set_option maxRecDepth 100000 in
theorem d_Md_trip_86 : decode b_Md_trip 86 = .ok (.getfield 158, 3) := by decide +kernel
set_option maxRecDepth 100000 in
theorem d_Md_trip_89 : decode b_Md_trip 89 = .ok (.iload_n 1, 1) := by decide +kernel
set_option maxRecDepth 100000 in
theorem d_Md_trip_90 : decode b_Md_trip 90 = .ok (.iaload, 1) := by decide +kernel
set_option maxRecDepth 100000 in
theorem d_Md_trip_91 : decode b_Md_trip 91 = .ok (.ireturn, 1) := by decide +kernel
set_option maxRecDepth 100000 in
theorem d_Md_trip_92 : decode b_Md_trip 92 = .ok (.aload_n 0, 1) := by decide +kernel
set_option maxRecDepth 100000 in
theorem d_Md_trip_93 : decode b_Md_trip 93 = .ok (.getfield 161, 3) := by decide +kernel
set_option maxRecDepth 100000 in
theorem d_Md_trip_96 : decode b_Md_trip 96 = .ok (.iload_n 1, 1) := by decide +kernel
set_option maxRecDepth 100000 in
theorem d_Md_trip_97 : decode b_Md_trip 97 = .ok (.iaload, 1) := by decide +kernel
set_option maxRecDepth 100000 in
theorem d_Md_trip_98 : decode b_Md_trip 98 = .ok (.ireturn, 1) := by decide +kernel
set_option maxRecDepth 100000 in
theorem d_Md_trip_99 : decode b_Md_trip 99 = .ok (.aload_n 0, 1) := by decide +kernel
set_option maxRecDepth 100000 in
theorem d_Md_trip_100 : decode b_Md_trip 100 = .ok (.getfield 164, 3) := by decide +kernel
set_option maxRecDepth 100000 in
theorem d_Md_trip_103 : decode b_Md_trip 103 = .ok (.iload_n 1, 1) := by decide +kernel
set_option maxRecDepth 100000 in
theorem d_Md_trip_104 : decode b_Md_trip 104 = .ok (.iaload, 1) := by decide +kernel
set_option maxRecDepth 100000 in
theorem d_Md_trip_105 : decode b_Md_trip 105 = .ok (.ireturn, 1) := by decide +kernel
set_option maxRecDepth 100000 in
theorem d_Md_trip_106 : decode b_Md_trip 106 = .ok (.aload_n 0, 1) := by decide +kernel
set_option maxRecDepth 100000 in
theorem d_Md_trip_107 : decode b_Md_trip 107 = .ok (.getfield 167, 3) := by decide +kernel
set_option maxRecDepth 100000 in
theorem d_Md_trip_110 : decode b_Md_trip 110 = .ok (.iload_n 1, 1) := by decide +kernel
set_option maxRecDepth 100000 in
theorem d_Md_trip_111 : decode b_Md_trip 111 = .ok (.iaload, 1) := by decide +kernel
set_option maxRecDepth 100000 in
theorem d_Md_trip_112 : decode b_Md_trip 112 = .ok (.ireturn, 1) := by decide +kernel
set_option maxRecDepth 100000 in
theorem d_Md_trip_113 : decode b_Md_trip 113 = .ok (.aload_n 0, 1) := by decide +kernel
set_option maxRecDepth 100000 in
theorem d_Md_trip_114 : decode b_Md_trip 114 = .ok (.getfield 170, 3) := by decide +kernel
set_option maxRecDepth 100000 in
theorem d_Md_trip_117 : decode b_Md_trip 117 = .ok (.iload_n 1, 1) := by decide +kernel
set_option maxRecDepth 100000 in
theorem d_Md_trip_118 : decode b_Md_trip 118 = .ok (.baload, 1) := by decide +kernel
set_option maxRecDepth 100000 in
theorem d_Md_trip_119 : decode b_Md_trip 119 = .ok (.ifCond .eq 7, 3) := by decide +kernel
set_option maxRecDepth 100000 in
theorem d_Md_trip_122 : decode b_Md_trip 122 = .ok (.iconst 1, 1) := by decide +kernel
set_option maxRecDepth 100000 in
theorem d_Md_trip_123 : decode b_Md_trip 123 = .ok (.goto 4, 3) := by decide +kernel
set_option maxRecDepth 100000 in
theorem d_Md_trip_126 : decode b_Md_trip 126 = .ok (.iconst 0, 1) := by decide +kernel
set_option maxRecDepth 100000 in
theorem d_Md_trip_127 : decode b_Md_trip 127 = .ok (.ireturn, 1) := by decide +kernel
set_option maxRecDepth 100000 in
theorem d_Md_trip_128 : decode b_Md_trip 128 = .ok (.bipush (-2), 2) := by decide +kernel
set_option maxRecDepth 100000 in
theorem d_Md_trip_130 : decode b_Md_trip 130 = .ok (.ireturn, 1) := by decide +kernel
set_option maxRecDepth 100000 in
theorem d_Md_why_0 : decode b_Md_why 0 = .ok (.aload_n 0, 1) := by decide +kernel
set_option maxRecDepth 100000 in
theorem d_Md_why_1 : decode b_Md_why 1 = .ok (.iload_n 1, 1) := by decide +kernel
set_option maxRecDepth 100000 in
theorem d_Md_why_2 : decode b_Md_why 2 = .ok (.iload_n 2, 1) := by decide +kernel
set_option maxRecDepth 100000 in
theorem d_Md_why_3 : decode b_Md_why 3 = .ok (.iload_n 3, 1) := by decide +kernel
set_option maxRecDepth 100000 in
theorem d_Md_why_4 : decode b_Md_why 4 = .ok (.invokevirtual 306, 3) := by decide +kernel
set_option maxRecDepth 100000 in
theorem d_Md_why_7 : decode b_Md_why 7 = .ok (.ifCond .eq 13, 3) := by decide +kernel
set_option maxRecDepth 100000 in
theorem d_Md_why_10 : decode b_Md_why 10 = .ok (.aload_n 0, 1) := by decide +kernel
set_option maxRecDepth 100000 in
theorem d_Md_why_11 : decode b_Md_why 11 = .ok (.iload_n 1, 1) := by decide +kernel
set_option maxRecDepth 100000 in
theorem d_Md_why_12 : decode b_Md_why 12 = .ok (.iload_n 2, 1) := by decide +kernel
set_option maxRecDepth 100000 in
theorem d_Md_why_13 : decode b_Md_why 13 = .ok (.iload_n 3, 1) := by decide +kernel
set_option maxRecDepth 100000 in
theorem d_Md_why_14 : decode b_Md_why 14 = .ok (.invokevirtual 309, 3) := by decide +kernel
set_option maxRecDepth 100000 in
theorem d_Md_why_20 : decode b_Md_why 20 = .ok (.iconst (-1), 1) := by decide +kernel
set_option maxRecDepth 100000 in
theorem d_Md_why_21 : decode b_Md_why 21 = .ok (.ireturn, 1) := by decide +kernel
