set_option maxRecDepth 100000 in
theorem d_Md_bind_0 : decode b_Md_bind 0 = .ok (.iload_n 1, 1) := by decide +kernel
set_option maxRecDepth 100000 in
theorem d_Md_bind_1 : decode b_Md_bind 1 = .ok (.invokestatic 186, 3) := by decide +kernel
set_option maxRecDepth 100000 in
theorem d_Md_bind_4 : decode b_Md_bind 4 = .ok (.ifCond .eq 10, 3) := by decide +kernel
set_option maxRecDepth 100000 in
theorem d_Md_bind_7 : decode b_Md_bind 7 = .ok (.iload_n 2, 1) := by decide +kernel
set_option maxRecDepth 100000 in
theorem d_Md_bind_8 : decode b_Md_bind 8 = .ok (.invokestatic 186, 3) := by decide +kernel
set_option maxRecDepth 100000 in
theorem d_Md_bind_11 : decode b_Md_bind 11 = .ok (.ifCond .ne 5, 3) := by decide +kernel
set_option maxRecDepth 100000 in
theorem d_Md_bind_14 : decode b_Md_bind 14 = .ok (.iconst (-1), 1) := by decide +kernel
set_option maxRecDepth 100000 in
theorem d_Md_bind_15 : decode b_Md_bind 15 = .ok (.ireturn, 1) := by decide +kernel
set_option maxRecDepth 100000 in
theorem d_Md_bind_16 : decode b_Md_bind 16 = .ok (.aload_n 0, 1) := by decide +kernel
set_option maxRecDepth 100000 in
theorem d_Md_bind_17 : decode b_Md_bind 17 = .ok (.getfield 58, 3) := by decide +kernel
set_option maxRecDepth 100000 in
theorem d_Md_bind_20 : decode b_Md_bind 20 = .ok (.iload_n 1, 1) := by decide +kernel
set_option maxRecDepth 100000 in
theorem d_Md_bind_21 : decode b_Md_bind 21 = .ok (.iaload, 1) := by decide +kernel
set_option maxRecDepth 100000 in
theorem d_Md_bind_22 : decode b_Md_bind 22 = .ok (.ifCond .ne 13, 3) := by decide +kernel
set_option maxRecDepth 100000 in
theorem d_Md_bind_25 : decode b_Md_bind 25 = .ok (.aload_n 0, 1) := by decide +kernel
set_option maxRecDepth 100000 in
theorem d_Md_bind_26 : decode b_Md_bind 26 = .ok (.getfield 58, 3) := by decide +kernel
set_option maxRecDepth 100000 in
theorem d_Md_bind_29 : decode b_Md_bind 29 = .ok (.iload_n 2, 1) := by decide +kernel
set_option maxRecDepth 100000 in
theorem d_Md_bind_30 : decode b_Md_bind 30 = .ok (.iaload, 1) := by decide +kernel
set_option maxRecDepth 100000 in
theorem d_Md_bind_31 : decode b_Md_bind 31 = .ok (.iconst 2, 1) := by decide +kernel
set_option maxRecDepth 100000 in
theorem d_Md_bind_32 : decode b_Md_bind 32 = .ok (.if_icmp .eq 6, 3) := by decide +kernel
set_option maxRecDepth 100000 in
theorem d_Md_bind_35 : decode b_Md_bind 35 = .ok (.bipush (-2), 2) := by decide +kernel
set_option maxRecDepth 100000 in
theorem d_Md_bind_37 : decode b_Md_bind 37 = .ok (.ireturn, 1) := by decide +kernel
set_option maxRecDepth 100000 in
theorem d_Md_free_0 : decode b_Md_free 0 = .ok (.iload_n 1, 1) := by decide +kernel
set_option maxRecDepth 100000 in
theorem d_Md_free_1 : decode b_Md_free 1 = .ok (.invokestatic 186, 3) := by decide +kernel
set_option maxRecDepth 100000 in
theorem d_Md_free_4 : decode b_Md_free 4 = .ok (.ifCond .ne 5, 3) := by decide +kernel
set_option maxRecDepth 100000 in
theorem d_Md_free_7 : decode b_Md_free 7 = .ok (.iconst (-1), 1) := by decide +kernel
set_option maxRecDepth 100000 in
theorem d_Md_free_8 : decode b_Md_free 8 = .ok (.ireturn, 1) := by decide +kernel
set_option maxRecDepth 100000 in
theorem d_Md_free_9 : decode b_Md_free 9 = .ok (.aload_n 0, 1) := by decide +kernel
set_option maxRecDepth 100000 in
theorem d_Md_free_10 : decode b_Md_free 10 = .ok (.getfield 58, 3) := by decide +kernel
set_option maxRecDepth 100000 in
theorem d_Md_free_13 : decode b_Md_free 13 = .ok (.iload_n 1, 1) := by decide +kernel
set_option maxRecDepth 100000 in
theorem d_Md_free_14 : decode b_Md_free 14 = .ok (.iaload, 1) := by decide +kernel
set_option maxRecDepth 100000 in
theorem d_Md_free_15 : decode b_Md_free 15 = .ok (.ifCond .eq 6, 3) := by decide +kernel
set_option maxRecDepth 100000 in
theorem d_Md_free_21 : decode b_Md_free 21 = .ok (.aload_n 0, 1) := by decide +kernel
set_option maxRecDepth 100000 in
theorem d_Md_free_22 : decode b_Md_free 22 = .ok (.getfield 58, 3) := by decide +kernel
set_option maxRecDepth 100000 in
theorem d_Md_free_25 : decode b_Md_free 25 = .ok (.iload_n 1, 1) := by decide +kernel
set_option maxRecDepth 100000 in
theorem d_Md_free_26 : decode b_Md_free 26 = .ok (.iconst 2, 1) := by decide +kernel
set_option maxRecDepth 100000 in
theorem d_Md_free_27 : decode b_Md_free 27 = .ok (.iastore, 1) := by decide +kernel
set_option maxRecDepth 100000 in
theorem d_Md_free_28 : decode b_Md_free 28 = .ok (.iconst 1, 1) := by decide +kernel
set_option maxRecDepth 100000 in
theorem d_Md_free_29 : decode b_Md_free 29 = .ok (.ireturn, 1) := by decide +kernel
set_option maxRecDepth 100000 in
theorem d_Md_in_0 : decode b_Md_in 0 = .ok (.iload_n 0, 1) := by decide +kernel
set_option maxRecDepth 100000 in
theorem d_Md_in_1 : decode b_Md_in 1 = .ok (.iload_n 1, 1) := by decide +kernel
set_option maxRecDepth 100000 in
theorem d_Md_in_2 : decode b_Md_in 2 = .ok (.if_icmp .lt 12, 3) := by decide +kernel
set_option maxRecDepth 100000 in
theorem d_Md_in_5 : decode b_Md_in 5 = .ok (.iload_n 0, 1) := by decide +kernel
set_option maxRecDepth 100000 in
theorem d_Md_in_6 : decode b_Md_in 6 = .ok (.iload_n 2, 1) := by decide +kernel
set_option maxRecDepth 100000 in
theorem d_Md_in_7 : decode b_Md_in 7 = .ok (.if_icmp .gt 7, 3) := by decide +kernel
set_option maxRecDepth 100000 in
theorem d_Md_in_10 : decode b_Md_in 10 = .ok (.iconst 1, 1) := by decide +kernel
set_option maxRecDepth 100000 in
theorem d_Md_in_11 : decode b_Md_in 11 = .ok (.goto 4, 3) := by decide +kernel
set_option maxRecDepth 100000 in
theorem d_Md_in_14 : decode b_Md_in 14 = .ok (.iconst 0, 1) := by decide +kernel
set_option maxRecDepth 100000 in
theorem d_Md_in_15 : decode b_Md_in 15 = .ok (.ireturn, 1) := by decide +kernel
set_option maxRecDepth 100000 in
theorem d_Md_isMan_0 : decode b_Md_isMan 0 = .ok (.iload_n 0, 1) := by decide +kernel
set_option maxRecDepth 100000 in
theorem d_Md_isMan_1 : decode b_Md_isMan 1 = .ok (.iconst 0, 1) := by decide +kernel
set_option maxRecDepth 100000 in
theorem d_Md_isMan_2 : decode b_Md_isMan 2 = .ok (.bipush 39, 2) := by decide +kernel
set_option maxRecDepth 100000 in
theorem d_Md_isMan_4 : decode b_Md_isMan 4 = .ok (.invokestatic 10, 3) := by decide +kernel
set_option maxRecDepth 100000 in
theorem d_Md_isMan_7 : decode b_Md_isMan 7 = .ok (.ireturn, 1) := by decide +kernel
set_option maxRecDepth 100000 in
theorem d_Md_stairs_0 : decode b_Md_stairs 0 = .ok (.iload_n 1, 1) := by decide +kernel
set_option maxRecDepth 100000 in
theorem d_Md_stairs_1 : decode b_Md_stairs 1 = .ok (.iconst 0, 1) := by decide +kernel
set_option maxRecDepth 100000 in
theorem d_Md_stairs_2 : decode b_Md_stairs 2 = .ok (.bipush 60, 2) := by decide +kernel
set_option maxRecDepth 100000 in
theorem d_Md_stairs_4 : decode b_Md_stairs 4 = .ok (.invokestatic 10, 3) := by decide +kernel
set_option maxRecDepth 100000 in
theorem d_Md_stairs_7 : decode b_Md_stairs 7 = .ok (.ifCond .eq 25, 3) := by decide +kernel
set_option maxRecDepth 100000 in
theorem d_Md_stairs_10 : decode b_Md_stairs 10 = .ok (.aload_n 0, 1) := by decide +kernel
set_option maxRecDepth 100000 in
theorem d_Md_stairs_11 : decode b_Md_stairs 11 = .ok (.getfield 14, 3) := by decide +kernel
set_option maxRecDepth 100000 in
theorem d_Md_stairs_14 : decode b_Md_stairs 14 = .ok (.ifCond .le 20, 3) := by decide +kernel
set_option maxRecDepth 100000 in
theorem d_Md_stairs_32 : decode b_Md_stairs 32 = .ok (.iconst (-1), 1) := by decide +kernel
set_option maxRecDepth 100000 in
theorem d_Md_stairs_33 : decode b_Md_stairs 33 = .ok (.ireturn, 1) := by decide +kernel
set_option maxRecDepth 100000 in
theorem d_Md_stairs_34 : decode b_Md_stairs 34 = .ok (.aload_n 0, 1) := by decide +kernel
set_option maxRecDepth 100000 in
theorem d_Md_stairs_35 : decode b_Md_stairs 35 = .ok (.getfield 14, 3) := by decide +kernel
set_option maxRecDepth 100000 in
theorem d_Md_stairs_38 : decode b_Md_stairs 38 = .ok (.bipush 12, 2) := by decide +kernel
set_option maxRecDepth 100000 in
theorem d_Md_stairs_40 : decode b_Md_stairs 40 = .ok (.if_icmp .ne 6, 3) := by decide +kernel
set_option maxRecDepth 100000 in
theorem d_Md_stairs_46 : decode b_Md_stairs 46 = .ok (.aload_n 0, 1) := by decide +kernel
set_option maxRecDepth 100000 in
theorem d_Md_stairs_47 : decode b_Md_stairs 47 = .ok (.getfield 32, 3) := by decide +kernel
set_option maxRecDepth 100000 in
theorem d_Md_stairs_50 : decode b_Md_stairs 50 = .ok (.aload_n 0, 1) := by decide +kernel
set_option maxRecDepth 100000 in
theorem d_Md_stairs_51 : decode b_Md_stairs 51 = .ok (.getfield 14, 3) := by decide +kernel
set_option maxRecDepth 100000 in
theorem d_Md_stairs_54 : decode b_Md_stairs 54 = .ok (.iload_n 1, 1) := by decide +kernel
set_option maxRecDepth 100000 in
theorem d_Md_stairs_55 : decode b_Md_stairs 55 = .ok (.iastore, 1) := by decide +kernel
set_option maxRecDepth 100000 in
theorem d_Md_stairs_56 : decode b_Md_stairs 56 = .ok (.aload_n 0, 1) := by decide +kernel
set_option maxRecDepth 100000 in
theorem d_Md_stairs_57 : decode b_Md_stairs 57 = .ok (.dup, 1) := by decide +kernel
set_option maxRecDepth 100000 in
theorem d_Md_stairs_58 : decode b_Md_stairs 58 = .ok (.getfield 14, 3) := by decide +kernel
set_option maxRecDepth 100000 in
theorem d_Md_stairs_61 : decode b_Md_stairs 61 = .ok (.iconst 1, 1) := by decide +kernel
set_option maxRecDepth 100000 in
theorem d_Md_stairs_62 : decode b_Md_stairs 62 = .ok (.iadd, 1) := by decide +kernel
set_option maxRecDepth 100000 in
theorem d_Md_stairs_63 : decode b_Md_stairs 63 = .ok (.putfield 14, 3) := by decide +kernel
set_option maxRecDepth 100000 in
theorem d_Md_stairs_66 : decode b_Md_stairs 66 = .ok (.aload_n 0, 1) := by decide +kernel
set_option maxRecDepth 100000 in
theorem d_Md_stairs_67 : decode b_Md_stairs 67 = .ok (.getfield 14, 3) := by decide +kernel
set_option maxRecDepth 100000 in
theorem d_Md_stairs_70 : decode b_Md_stairs 70 = .ok (.iconst 1, 1) := by decide +kernel
set_option maxRecDepth 100000 in
theorem d_Md_stairs_71 : decode b_Md_stairs 71 = .ok (.isub, 1) := by decide +kernel
set_option maxRecDepth 100000 in
theorem d_Md_stairs_72 : decode b_Md_stairs 72 = .ok (.ireturn, 1) := by decide +kernel
set_option maxRecDepth 100000 in
theorem d_Md_table_0 : decode b_Md_table 0 = .ok (.iload_n 1, 1) := by decide +kernel
set_option maxRecDepth 100000 in
theorem d_Md_table_1 : decode b_Md_table 1 = .ok (.iconst 0, 1) := by decide +kernel
set_option maxRecDepth 100000 in
theorem d_Md_table_2 : decode b_Md_table 2 = .ok (.bipush 11, 2) := by decide +kernel
set_option maxRecDepth 100000 in
theorem d_Md_table_4 : decode b_Md_table 4 = .ok (.invokestatic 10, 3) := by decide +kernel
set_option maxRecDepth 100000 in
theorem d_Md_table_7 : decode b_Md_table 7 = .ok (.ifCond .eq 14, 3) := by decide +kernel
set_option maxRecDepth 100000 in
theorem d_Md_table_10 : decode b_Md_table 10 = .ok (.iload_n 2, 1) := by decide +kernel
set_option maxRecDepth 100000 in
theorem d_Md_table_11 : decode b_Md_table 11 = .ok (.bipush (-90), 2) := by decide +kernel
set_option maxRecDepth 100000 in
theorem d_Md_table_13 : decode b_Md_table 13 = .ok (.bipush 90, 2) := by decide +kernel
set_option maxRecDepth 100000 in
theorem d_Md_table_15 : decode b_Md_table 15 = .ok (.invokestatic 10, 3) := by decide +kernel
set_option maxRecDepth 100000 in
theorem d_Md_table_18 : decode b_Md_table 18 = .ok (.ifCond .ne 7, 3) := by decide +kernel
set_option maxRecDepth 100000 in
theorem d_Md_table_21 : decode b_Md_table 21 = .ok (.sipush (-1000), 3) := by decide +kernel
set_option maxRecDepth 100000 in
theorem d_Md_table_24 : decode b_Md_table 24 = .ok (.ireturn, 1) := by decide +kernel
set_option maxRecDepth 100000 in
theorem d_Md_table_25 : decode b_Md_table 25 = .ok (.aload_n 0, 1) := by decide +kernel
set_option maxRecDepth 100000 in
theorem d_Md_table_26 : decode b_Md_table 26 = .ok (.getfield 25, 3) := by decide +kernel
set_option maxRecDepth 100000 in
theorem d_Md_table_29 : decode b_Md_table 29 = .ok (.iload_n 1, 1) := by decide +kernel
set_option maxRecDepth 100000 in
theorem d_Md_table_30 : decode b_Md_table 30 = .ok (.iaload, 1) := by decide +kernel
set_option maxRecDepth 100000 in
theorem d_Md_table_31 : decode b_Md_table 31 = .ok (.istore_n 3, 1) := by decide +kernel
set_option maxRecDepth 100000 in
theorem d_Md_table_32 : decode b_Md_table 32 = .ok (.aload_n 0, 1) := by decide +kernel
set_option maxRecDepth 100000 in
theorem d_Md_table_33 : decode b_Md_table 33 = .ok (.getfield 25, 3) := by decide +kernel
set_option maxRecDepth 100000 in
theorem d_Md_table_36 : decode b_Md_table 36 = .ok (.iload_n 1, 1) := by decide +kernel
set_option maxRecDepth 100000 in
theorem d_Md_table_37 : decode b_Md_table 37 = .ok (.iload_n 2, 1) := by decide +kernel
set_option maxRecDepth 100000 in
theorem d_Md_table_38 : decode b_Md_table 38 = .ok (.iastore, 1) := by decide +kernel
set_option maxRecDepth 100000 in
theorem d_Md_table_39 : decode b_Md_table 39 = .ok (.iload_n 3, 1) := by decide +kernel
set_option maxRecDepth 100000 in
theorem d_Md_table_40 : decode b_Md_table 40 = .ok (.ireturn, 1) := by decide +kernel
set_option maxRecDepth 100000 in
theorem d_Rv_addStairs_0 : decode b_Rv_addStairs 0 = .ok (.aload_n 0, 1) := by decide +kernel
set_option maxRecDepth 100000 in
theorem d_Rv_addStairs_1 : decode b_Rv_addStairs 1 = .ok (.getfield 9, 3) := by decide +kernel
set_option maxRecDepth 100000 in
theorem d_Rv_addStairs_4 : decode b_Rv_addStairs 4 = .ok (.aload_n 0, 1) := by decide +kernel
set_option maxRecDepth 100000 in
theorem d_Rv_addStairs_5 : decode b_Rv_addStairs 5 = .ok (.getfield 35, 3) := by decide +kernel
set_option maxRecDepth 100000 in
theorem d_Rv_addStairs_8 : decode b_Rv_addStairs 8 = .ok (.iload_n 1, 1) := by decide +kernel
set_option maxRecDepth 100000 in
theorem d_Rv_addStairs_9 : decode b_Rv_addStairs 9 = .ok (.iastore, 1) := by decide +kernel
set_option maxRecDepth 100000 in
theorem d_Rv_addStairs_10 : decode b_Rv_addStairs 10 = .ok (.aload_n 0, 1) := by decide +kernel
set_option maxRecDepth 100000 in
theorem d_Rv_addStairs_11 : decode b_Rv_addStairs 11 = .ok (.dup, 1) := by decide +kernel
set_option maxRecDepth 100000 in
theorem d_Rv_addStairs_12 : decode b_Rv_addStairs 12 = .ok (.getfield 35, 3) := by decide +kernel
set_option maxRecDepth 100000 in
theorem d_Rv_addStairs_15 : decode b_Rv_addStairs 15 = .ok (.iconst 1, 1) := by decide +kernel
set_option maxRecDepth 100000 in
theorem d_Rv_addStairs_16 : decode b_Rv_addStairs 16 = .ok (.iadd, 1) := by decide +kernel
set_option maxRecDepth 100000 in
theorem d_Rv_addStairs_17 : decode b_Rv_addStairs 17 = .ok (.putfield 35, 3) := by decide +kernel
set_option maxRecDepth 100000 in
theorem d_Rv_addStairs_20 : decode b_Rv_addStairs 20 = .ok (.aload_n 0, 1) := by decide +kernel
set_option maxRecDepth 100000 in
theorem d_Rv_addStairs_21 : decode b_Rv_addStairs 21 = .ok (.getfield 35, 3) := by decide +kernel
set_option maxRecDepth 100000 in
theorem d_Rv_addStairs_24 : decode b_Rv_addStairs 24 = .ok (.iconst 1, 1) := by decide +kernel
set_option maxRecDepth 100000 in
theorem d_Rv_addStairs_25 : decode b_Rv_addStairs 25 = .ok (.isub, 1) := by decide +kernel
set_option maxRecDepth 100000 in
theorem d_Rv_addStairs_26 : decode b_Rv_addStairs 26 = .ok (.ireturn, 1) := by decide +kernel
set_option maxRecDepth 100000 in
theorem d_Rv_highest_0 : decode b_Rv_highest 0 = .ok (.aload_n 0, 1) := by decide +kernel
set_option maxRecDepth 100000 in
theorem d_Rv_highest_1 : decode b_Rv_highest 1 = .ok (.getfield 35, 3) := by decide +kernel
set_option maxRecDepth 100000 in
theorem d_Rv_highest_4 : decode b_Rv_highest 4 = .ok (.ifCond .ne 7, 3) := by decide +kernel
set_option maxRecDepth 100000 in
theorem d_Rv_highest_7 : decode b_Rv_highest 7 = .ok (.iconst (-1), 1) := by decide +kernel
set_option maxRecDepth 100000 in
theorem d_Rv_highest_8 : decode b_Rv_highest 8 = .ok (.goto 14, 3) := by decide +kernel
set_option maxRecDepth 100000 in
theorem d_Rv_highest_22 : decode b_Rv_highest 22 = .ok (.ireturn, 1) := by decide +kernel
set_option maxRecDepth 100000 in
theorem d_WM_bind_0 : decode b_WM_bind 0 = .ok (.aload_n 0, 1) := by decide +kernel
set_option maxRecDepth 100000 in
theorem d_WM_bind_1 : decode b_WM_bind 1 = .ok (.iload_n 1, 1) := by decide +kernel
set_option maxRecDepth 100000 in
theorem d_WM_bind_2 : decode b_WM_bind 2 = .ok (.invokevirtual 107, 3) := by decide +kernel
set_option maxRecDepth 100000 in
theorem d_WM_bind_5 : decode b_WM_bind 5 = .ok (.astore_n 3, 1) := by decide +kernel
set_option maxRecDepth 100000 in
theorem d_WM_bind_6 : decode b_WM_bind 6 = .ok (.aload_n 0, 1) := by decide +kernel
set_option maxRecDepth 100000 in
theorem d_WM_bind_7 : decode b_WM_bind 7 = .ok (.iload_n 2, 1) := by decide +kernel
set_option maxRecDepth 100000 in
theorem d_WM_bind_8 : decode b_WM_bind 8 = .ok (.invokevirtual 107, 3) := by decide +kernel
set_option maxRecDepth 100000 in
theorem d_WM_bind_11 : decode b_WM_bind 11 = .ok (.astore 4, 2) := by decide +kernel
set_option maxRecDepth 100000 in
theorem d_WM_bind_13 : decode b_WM_bind 13 = .ok (.aload_n 3, 1) := by decide +kernel
set_option maxRecDepth 100000 in
theorem d_WM_bind_14 : decode b_WM_bind 14 = .ok (.ifnull 8, 3) := by decide +kernel
set_option maxRecDepth 100000 in
theorem d_WM_bind_17 : decode b_WM_bind 17 = .ok (.aload 4, 2) := by decide +kernel
set_option maxRecDepth 100000 in
theorem d_WM_bind_19 : decode b_WM_bind 19 = .ok (.ifnonnull 5, 3) := by decide +kernel
set_option maxRecDepth 100000 in
theorem d_WM_bind_22 : decode b_WM_bind 22 = .ok (.iconst (-1), 1) := by decide +kernel
set_option maxRecDepth 100000 in
theorem d_WM_bind_23 : decode b_WM_bind 23 = .ok (.ireturn, 1) := by decide +kernel
set_option maxRecDepth 100000 in
theorem d_WM_bind_24 : decode b_WM_bind 24 = .ok (.aload_n 3, 1) := by decide +kernel
set_option maxRecDepth 100000 in
theorem d_WM_bind_25 : decode b_WM_bind 25 = .ok (.getfield 111, 3) := by decide +kernel
set_option maxRecDepth 100000 in
theorem d_WM_bind_28 : decode b_WM_bind 28 = .ok (.ifCond .ne 12, 3) := by decide +kernel
set_option maxRecDepth 100000 in
theorem d_WM_bind_31 : decode b_WM_bind 31 = .ok (.aload 4, 2) := by decide +kernel
set_option maxRecDepth 100000 in
theorem d_WM_bind_33 : decode b_WM_bind 33 = .ok (.getfield 111, 3) := by decide +kernel
set_option maxRecDepth 100000 in
theorem d_WM_bind_36 : decode b_WM_bind 36 = .ok (.iconst 2, 1) := by decide +kernel
set_option maxRecDepth 100000 in
theorem d_WM_bind_37 : decode b_WM_bind 37 = .ok (.if_icmp .eq 6, 3) := by decide +kernel
set_option maxRecDepth 100000 in
theorem d_WM_bind_40 : decode b_WM_bind 40 = .ok (.bipush (-2), 2) := by decide +kernel
set_option maxRecDepth 100000 in
theorem d_WM_bind_42 : decode b_WM_bind 42 = .ok (.ireturn, 1) := by decide +kernel
set_option maxRecDepth 100000 in
theorem d_WM_free_0 : decode b_WM_free 0 = .ok (.aload_n 0, 1) := by decide +kernel
set_option maxRecDepth 100000 in
theorem d_WM_free_1 : decode b_WM_free 1 = .ok (.iload_n 1, 1) := by decide +kernel
set_option maxRecDepth 100000 in
theorem d_WM_free_2 : decode b_WM_free 2 = .ok (.invokevirtual 107, 3) := by decide +kernel
set_option maxRecDepth 100000 in
theorem d_WM_free_5 : decode b_WM_free 5 = .ok (.astore_n 2, 1) := by decide +kernel
set_option maxRecDepth 100000 in
theorem d_WM_free_6 : decode b_WM_free 6 = .ok (.aload_n 2, 1) := by decide +kernel
set_option maxRecDepth 100000 in
theorem d_WM_free_7 : decode b_WM_free 7 = .ok (.ifnonnull 5, 3) := by decide +kernel
set_option maxRecDepth 100000 in
theorem d_WM_free_10 : decode b_WM_free 10 = .ok (.iconst (-1), 1) := by decide +kernel
set_option maxRecDepth 100000 in
theorem d_WM_free_11 : decode b_WM_free 11 = .ok (.ireturn, 1) := by decide +kernel
set_option maxRecDepth 100000 in
theorem d_WM_free_12 : decode b_WM_free 12 = .ok (.aload_n 2, 1) := by decide +kernel
set_option maxRecDepth 100000 in
theorem d_WM_free_13 : decode b_WM_free 13 = .ok (.getfield 111, 3) := by decide +kernel
set_option maxRecDepth 100000 in
theorem d_WM_free_16 : decode b_WM_free 16 = .ok (.ifCond .eq 6, 3) := by decide +kernel
set_option maxRecDepth 100000 in
theorem d_WM_free_22 : decode b_WM_free 22 = .ok (.aload_n 2, 1) := by decide +kernel
set_option maxRecDepth 100000 in
theorem d_WM_free_23 : decode b_WM_free 23 = .ok (.iconst 2, 1) := by decide +kernel
set_option maxRecDepth 100000 in
theorem d_WM_free_24 : decode b_WM_free 24 = .ok (.putfield 111, 3) := by decide +kernel
set_option maxRecDepth 100000 in
theorem d_WM_free_27 : decode b_WM_free 27 = .ok (.iconst 1, 1) := by decide +kernel
set_option maxRecDepth 100000 in
theorem d_WM_free_28 : decode b_WM_free 28 = .ok (.ireturn, 1) := by decide +kernel
set_option maxRecDepth 100000 in
theorem d_WM_isHour_0 : decode b_WM_isHour 0 = .ok (.iload_n 0, 1) := by decide +kernel
set_option maxRecDepth 100000 in
theorem d_WM_isHour_1 : decode b_WM_isHour 1 = .ok (.ifCond .lt 13, 3) := by decide +kernel
set_option maxRecDepth 100000 in
theorem d_WM_isHour_4 : decode b_WM_isHour 4 = .ok (.iload_n 0, 1) := by decide +kernel
set_option maxRecDepth 100000 in
theorem d_WM_isHour_5 : decode b_WM_isHour 5 = .ok (.bipush 12, 2) := by decide +kernel
set_option maxRecDepth 100000 in
theorem d_WM_isHour_7 : decode b_WM_isHour 7 = .ok (.if_icmp .ge 7, 3) := by decide +kernel
set_option maxRecDepth 100000 in
theorem d_WM_isHour_10 : decode b_WM_isHour 10 = .ok (.iconst 1, 1) := by decide +kernel
set_option maxRecDepth 100000 in
theorem d_WM_isHour_11 : decode b_WM_isHour 11 = .ok (.goto 4, 3) := by decide +kernel
set_option maxRecDepth 100000 in
theorem d_WM_isHour_14 : decode b_WM_isHour 14 = .ok (.iconst 0, 1) := by decide +kernel
set_option maxRecDepth 100000 in
theorem d_WM_isHour_15 : decode b_WM_isHour 15 = .ok (.ireturn, 1) := by decide +kernel
set_option maxRecDepth 100000 in
theorem d_WM_isLevel_0 : decode b_WM_isLevel 0 = .ok (.iload_n 0, 1) := by decide +kernel
set_option maxRecDepth 100000 in
theorem d_WM_isLevel_1 : decode b_WM_isLevel 1 = .ok (.bipush (-90), 2) := by decide +kernel
set_option maxRecDepth 100000 in
theorem d_WM_isLevel_3 : decode b_WM_isLevel 3 = .ok (.if_icmp .lt 13, 3) := by decide +kernel
set_option maxRecDepth 100000 in
theorem d_WM_isLevel_6 : decode b_WM_isLevel 6 = .ok (.iload_n 0, 1) := by decide +kernel
set_option maxRecDepth 100000 in
theorem d_WM_isLevel_7 : decode b_WM_isLevel 7 = .ok (.bipush 90, 2) := by decide +kernel
set_option maxRecDepth 100000 in
theorem d_WM_isLevel_9 : decode b_WM_isLevel 9 = .ok (.if_icmp .gt 7, 3) := by decide +kernel
set_option maxRecDepth 100000 in
theorem d_WM_isLevel_12 : decode b_WM_isLevel 12 = .ok (.iconst 1, 1) := by decide +kernel
set_option maxRecDepth 100000 in
theorem d_WM_isLevel_13 : decode b_WM_isLevel 13 = .ok (.goto 4, 3) := by decide +kernel
set_option maxRecDepth 100000 in
theorem d_WM_isLevel_16 : decode b_WM_isLevel 16 = .ok (.iconst 0, 1) := by decide +kernel
set_option maxRecDepth 100000 in
theorem d_WM_isLevel_17 : decode b_WM_isLevel 17 = .ok (.ireturn, 1) := by decide +kernel
set_option maxRecDepth 100000 in
theorem d_WM_manAt_0 : decode b_WM_manAt 0 = .ok (.iload_n 1, 1) := by decide +kernel
set_option maxRecDepth 100000 in
theorem d_WM_manAt_1 : decode b_WM_manAt 1 = .ok (.ifCond .lt 18, 3) := by decide +kernel
set_option maxRecDepth 100000 in
theorem d_WM_manAt_4 : decode b_WM_manAt 4 = .ok (.iload_n 1, 1) := by decide +kernel
set_option maxRecDepth 100000 in
theorem d_WM_manAt_5 : decode b_WM_manAt 5 = .ok (.bipush 40, 2) := by decide +kernel
set_option maxRecDepth 100000 in
theorem d_WM_manAt_7 : decode b_WM_manAt 7 = .ok (.if_icmp .ge 12, 3) := by decide +kernel
set_option maxRecDepth 100000 in
theorem d_WM_manAt_10 : decode b_WM_manAt 10 = .ok (.aload_n 0, 1) := by decide +kernel
set_option maxRecDepth 100000 in
theorem d_WM_manAt_11 : decode b_WM_manAt 11 = .ok (.getfield 18, 3) := by decide +kernel
set_option maxRecDepth 100000 in
theorem d_WM_manAt_14 : decode b_WM_manAt 14 = .ok (.iload_n 1, 1) := by decide +kernel
set_option maxRecDepth 100000 in
theorem d_WM_manAt_15 : decode b_WM_manAt 15 = .ok (.aaload, 1) := by decide +kernel
set_option maxRecDepth 100000 in
theorem d_WM_manAt_16 : decode b_WM_manAt 16 = .ok (.goto 4, 3) := by decide +kernel
set_option maxRecDepth 100000 in
theorem d_WM_manAt_19 : decode b_WM_manAt 19 = .ok (.aconst_null, 1) := by decide +kernel
set_option maxRecDepth 100000 in
theorem d_WM_manAt_20 : decode b_WM_manAt 20 = .ok (.areturn, 1) := by decide +kernel
set_option maxRecDepth 100000 in
theorem d_WM_stairs_0 : decode b_WM_stairs 0 = .ok (.iload_n 1, 1) := by decide +kernel
set_option maxRecDepth 100000 in
theorem d_WM_stairs_1 : decode b_WM_stairs 1 = .ok (.ifCond .lt 20, 3) := by decide +kernel
set_option maxRecDepth 100000 in
theorem d_WM_stairs_4 : decode b_WM_stairs 4 = .ok (.iload_n 1, 1) := by decide +kernel
set_option maxRecDepth 100000 in
theorem d_WM_stairs_5 : decode b_WM_stairs 5 = .ok (.bipush 60, 2) := by decide +kernel
set_option maxRecDepth 100000 in
theorem d_WM_stairs_7 : decode b_WM_stairs 7 = .ok (.if_icmp .gt 14, 3) := by decide +kernel
set_option maxRecDepth 100000 in
theorem d_WM_stairs_10 : decode b_WM_stairs 10 = .ok (.iload_n 1, 1) := by decide +kernel
set_option maxRecDepth 100000 in
theorem d_WM_stairs_11 : decode b_WM_stairs 11 = .ok (.aload_n 0, 1) := by decide +kernel
set_option maxRecDepth 100000 in
theorem d_WM_stairs_12 : decode b_WM_stairs 12 = .ok (.getfield 12, 3) := by decide +kernel
set_option maxRecDepth 100000 in
theorem d_WM_stairs_15 : decode b_WM_stairs 15 = .ok (.invokevirtual 60, 3) := by decide +kernel
set_option maxRecDepth 100000 in
theorem d_WM_stairs_18 : decode b_WM_stairs 18 = .ok (.if_icmp .gt 5, 3) := by decide +kernel
set_option maxRecDepth 100000 in
theorem d_WM_stairs_21 : decode b_WM_stairs 21 = .ok (.iconst (-1), 1) := by decide +kernel
set_option maxRecDepth 100000 in
theorem d_WM_stairs_22 : decode b_WM_stairs 22 = .ok (.ireturn, 1) := by decide +kernel
set_option maxRecDepth 100000 in
theorem d_WM_stairs_23 : decode b_WM_stairs 23 = .ok (.aload_n 0, 1) := by decide +kernel
set_option maxRecDepth 100000 in
theorem d_WM_stairs_24 : decode b_WM_stairs 24 = .ok (.getfield 12, 3) := by decide +kernel
set_option maxRecDepth 100000 in
theorem d_WM_stairs_27 : decode b_WM_stairs 27 = .ok (.getfield 64, 3) := by decide +kernel
set_option maxRecDepth 100000 in
theorem d_WM_stairs_30 : decode b_WM_stairs 30 = .ok (.bipush 12, 2) := by decide +kernel
set_option maxRecDepth 100000 in
theorem d_WM_stairs_32 : decode b_WM_stairs 32 = .ok (.if_icmp .lt 8, 3) := by decide +kernel
set_option maxRecDepth 100000 in
theorem d_WM_stairs_40 : decode b_WM_stairs 40 = .ok (.aload_n 0, 1) := by decide +kernel
set_option maxRecDepth 100000 in
theorem d_WM_stairs_41 : decode b_WM_stairs 41 = .ok (.getfield 12, 3) := by decide +kernel
set_option maxRecDepth 100000 in
theorem d_WM_stairs_44 : decode b_WM_stairs 44 = .ok (.iload_n 1, 1) := by decide +kernel
set_option maxRecDepth 100000 in
theorem d_WM_stairs_45 : decode b_WM_stairs 45 = .ok (.invokevirtual 68, 3) := by decide +kernel
set_option maxRecDepth 100000 in
theorem d_WM_stairs_48 : decode b_WM_stairs 48 = .ok (.ireturn, 1) := by decide +kernel
set_option maxRecDepth 100000 in
theorem d_WM_table_0 : decode b_WM_table 0 = .ok (.iload_n 1, 1) := by decide +kernel
set_option maxRecDepth 100000 in
theorem d_WM_table_1 : decode b_WM_table 1 = .ok (.invokestatic 79, 3) := by decide +kernel
set_option maxRecDepth 100000 in
theorem d_WM_table_4 : decode b_WM_table 4 = .ok (.ifCond .eq 10, 3) := by decide +kernel
set_option maxRecDepth 100000 in
theorem d_WM_table_7 : decode b_WM_table 7 = .ok (.iload_n 2, 1) := by decide +kernel
set_option maxRecDepth 100000 in
theorem d_WM_table_8 : decode b_WM_table 8 = .ok (.invokestatic 82, 3) := by decide +kernel
set_option maxRecDepth 100000 in
theorem d_WM_table_11 : decode b_WM_table 11 = .ok (.ifCond .ne 7, 3) := by decide +kernel
set_option maxRecDepth 100000 in
theorem d_WM_table_14 : decode b_WM_table 14 = .ok (.sipush (-1000), 3) := by decide +kernel
set_option maxRecDepth 100000 in
theorem d_WM_table_17 : decode b_WM_table 17 = .ok (.ireturn, 1) := by decide +kernel
set_option maxRecDepth 100000 in
theorem d_WM_table_18 : decode b_WM_table 18 = .ok (.aload_n 0, 1) := by decide +kernel
set_option maxRecDepth 100000 in
theorem d_WM_table_19 : decode b_WM_table 19 = .ok (.getfield 12, 3) := by decide +kernel
set_option maxRecDepth 100000 in
theorem d_WM_table_22 : decode b_WM_table 22 = .ok (.getfield 89, 3) := by decide +kernel
set_option maxRecDepth 100000 in
theorem d_WM_table_25 : decode b_WM_table 25 = .ok (.iload_n 1, 1) := by decide +kernel
set_option maxRecDepth 100000 in
theorem d_WM_table_26 : decode b_WM_table 26 = .ok (.iaload, 1) := by decide +kernel
set_option maxRecDepth 100000 in
theorem d_WM_table_27 : decode b_WM_table 27 = .ok (.istore_n 3, 1) := by decide +kernel
set_option maxRecDepth 100000 in
theorem d_WM_table_28 : decode b_WM_table 28 = .ok (.aload_n 0, 1) := by decide +kernel
set_option maxRecDepth 100000 in
theorem d_WM_table_29 : decode b_WM_table 29 = .ok (.getfield 12, 3) := by decide +kernel
set_option maxRecDepth 100000 in
theorem d_WM_table_32 : decode b_WM_table 32 = .ok (.getfield 89, 3) := by decide +kernel
set_option maxRecDepth 100000 in
theorem d_WM_table_35 : decode b_WM_table 35 = .ok (.iload_n 1, 1) := by decide +kernel
set_option maxRecDepth 100000 in
theorem d_WM_table_36 : decode b_WM_table 36 = .ok (.iload_n 2, 1) := by decide +kernel
set_option maxRecDepth 100000 in
theorem d_WM_table_37 : decode b_WM_table 37 = .ok (.iastore, 1) := by decide +kernel
set_option maxRecDepth 100000 in
theorem d_WM_table_38 : decode b_WM_table 38 = .ok (.iload_n 3, 1) := by decide +kernel
set_option maxRecDepth 100000 in
theorem d_WM_table_39 : decode b_WM_table 39 = .ok (.ireturn, 1) := by decide +kernel
