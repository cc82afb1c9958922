set_option maxRecDepth 100000 in
theorem d_Bx_firstShortDay_0 : decode b_Bx_firstShortDay 0 = .ok (.lconst 0, 1) := by decide +kernel
set_option maxRecDepth 100000 in
theorem d_Bx_firstShortDay_1 : decode b_Bx_firstShortDay 1 = .ok (.lstore_n 2, 1) := by decide +kernel
set_option maxRecDepth 100000 in
theorem d_Bx_firstShortDay_2 : decode b_Bx_firstShortDay 2 = .ok (.iconst 0, 1) := by decide +kernel
set_option maxRecDepth 100000 in
theorem d_Bx_firstShortDay_3 : decode b_Bx_firstShortDay 3 = .ok (.iload_n 1, 1) := by decide +kernel
set_option maxRecDepth 100000 in
theorem d_Bx_firstShortDay_4 : decode b_Bx_firstShortDay 4 = .ok (.bipush 100, 2) := by decide +kernel
set_option maxRecDepth 100000 in
theorem d_Bx_firstShortDay_6 : decode b_Bx_firstShortDay 6 = .ok (.isub, 1) := by decide +kernel
set_option maxRecDepth 100000 in
theorem d_Bx_firstShortDay_7 : decode b_Bx_firstShortDay 7 = .ok (.invokestatic 51, 3) := by decide +kernel
set_option maxRecDepth 100000 in
theorem d_Bx_firstShortDay_10 : decode b_Bx_firstShortDay 10 = .ok (.istore 4, 2) := by decide +kernel
set_option maxRecDepth 100000 in
theorem d_Bx_firstShortDay_12 : decode b_Bx_firstShortDay 12 = .ok (.iload 4, 2) := by decide +kernel
set_option maxRecDepth 100000 in
theorem d_Bx_firstShortDay_14 : decode b_Bx_firstShortDay 14 = .ok (.iload_n 1, 1) := by decide +kernel
set_option maxRecDepth 100000 in
theorem d_Bx_firstShortDay_15 : decode b_Bx_firstShortDay 15 = .ok (.if_icmp .gt 20, 3) := by decide +kernel
set_option maxRecDepth 100000 in
theorem d_Bx_firstShortDay_18 : decode b_Bx_firstShortDay 18 = .ok (.lload_n 2, 1) := by decide +kernel
set_option maxRecDepth 100000 in
theorem d_Bx_firstShortDay_19 : decode b_Bx_firstShortDay 19 = .ok (.aload_n 0, 1) := by decide +kernel
set_option maxRecDepth 100000 in
theorem d_Bx_firstShortDay_20 : decode b_Bx_firstShortDay 20 = .ok (.getfield 9, 3) := by decide +kernel
set_option maxRecDepth 100000 in
theorem d_Bx_firstShortDay_23 : decode b_Bx_firstShortDay 23 = .ok (.iload 4, 2) := by decide +kernel
set_option maxRecDepth 100000 in
theorem d_Bx_firstShortDay_25 : decode b_Bx_firstShortDay 25 = .ok (.iaload, 1) := by decide +kernel
set_option maxRecDepth 100000 in
theorem d_Bx_firstShortDay_26 : decode b_Bx_firstShortDay 26 = .ok (.i2l, 1) := by decide +kernel
set_option maxRecDepth 100000 in
theorem d_Bx_firstShortDay_27 : decode b_Bx_firstShortDay 27 = .ok (.ladd, 1) := by decide +kernel
set_option maxRecDepth 100000 in
theorem d_Bx_firstShortDay_28 : decode b_Bx_firstShortDay 28 = .ok (.lstore_n 2, 1) := by decide +kernel
set_option maxRecDepth 100000 in
theorem d_Bx_firstShortDay_29 : decode b_Bx_firstShortDay 29 = .ok (.iinc 4 1, 3) := by decide +kernel
set_option maxRecDepth 100000 in
theorem d_Bx_firstShortDay_32 : decode b_Bx_firstShortDay 32 = .ok (.goto (-20), 3) := by decide +kernel
set_option maxRecDepth 100000 in
theorem d_Bx_firstShortDay_35 : decode b_Bx_firstShortDay 35 = .ok (.aload_n 0, 1) := by decide +kernel
set_option maxRecDepth 100000 in
theorem d_Bx_firstShortDay_36 : decode b_Bx_firstShortDay 36 = .ok (.getfield 21, 3) := by decide +kernel
set_option maxRecDepth 100000 in
theorem d_Bx_firstShortDay_39 : decode b_Bx_firstShortDay 39 = .ok (.i2l, 1) := by decide +kernel
set_option maxRecDepth 100000 in
theorem d_Bx_firstShortDay_40 : decode b_Bx_firstShortDay 40 = .ok (.lstore 4, 2) := by decide +kernel
set_option maxRecDepth 100000 in
theorem d_Bx_firstShortDay_42 : decode b_Bx_firstShortDay 42 = .ok (.iload_n 1, 1) := by decide +kernel
set_option maxRecDepth 100000 in
theorem d_Bx_firstShortDay_43 : decode b_Bx_firstShortDay 43 = .ok (.iload_n 1, 1) := by decide +kernel
set_option maxRecDepth 100000 in
theorem d_Bx_firstShortDay_44 : decode b_Bx_firstShortDay 44 = .ok (.bipush 100, 2) := by decide +kernel
set_option maxRecDepth 100000 in
theorem d_Bx_firstShortDay_46 : decode b_Bx_firstShortDay 46 = .ok (.irem, 1) := by decide +kernel
set_option maxRecDepth 100000 in
theorem d_Bx_firstShortDay_47 : decode b_Bx_firstShortDay 47 = .ok (.isub, 1) := by decide +kernel
set_option maxRecDepth 100000 in
theorem d_Bx_firstShortDay_48 : decode b_Bx_firstShortDay 48 = .ok (.istore 6, 2) := by decide +kernel
set_option maxRecDepth 100000 in
theorem d_Bx_firstShortDay_50 : decode b_Bx_firstShortDay 50 = .ok (.iconst 0, 1) := by decide +kernel
set_option maxRecDepth 100000 in
theorem d_Bx_firstShortDay_51 : decode b_Bx_firstShortDay 51 = .ok (.istore 7, 2) := by decide +kernel
set_option maxRecDepth 100000 in
theorem d_Bx_firstShortDay_53 : decode b_Bx_firstShortDay 53 = .ok (.iload 7, 2) := by decide +kernel
set_option maxRecDepth 100000 in
theorem d_Bx_firstShortDay_55 : decode b_Bx_firstShortDay 55 = .ok (.bipush 40, 2) := by decide +kernel
set_option maxRecDepth 100000 in
theorem d_Bx_firstShortDay_57 : decode b_Bx_firstShortDay 57 = .ok (.if_icmp .ge 36, 3) := by decide +kernel
set_option maxRecDepth 100000 in
theorem d_Bx_firstShortDay_60 : decode b_Bx_firstShortDay 60 = .ok (.iinc 6 100, 3) := by decide +kernel
set_option maxRecDepth 100000 in
theorem d_Bx_firstShortDay_63 : decode b_Bx_firstShortDay 63 = .ok (.lload 4, 2) := by decide +kernel
set_option maxRecDepth 100000 in
theorem d_Bx_firstShortDay_65 : decode b_Bx_firstShortDay 65 = .ok (.lload_n 2, 1) := by decide +kernel
set_option maxRecDepth 100000 in
theorem d_Bx_firstShortDay_66 : decode b_Bx_firstShortDay 66 = .ok (.aload_n 0, 1) := by decide +kernel
set_option maxRecDepth 100000 in
theorem d_Bx_firstShortDay_67 : decode b_Bx_firstShortDay 67 = .ok (.iload 6, 2) := by decide +kernel
set_option maxRecDepth 100000 in
theorem d_Bx_firstShortDay_69 : decode b_Bx_firstShortDay 69 = .ok (.invokevirtual 57, 3) := by decide +kernel
set_option maxRecDepth 100000 in
theorem d_Bx_firstShortDay_72 : decode b_Bx_firstShortDay 72 = .ok (.i2l, 1) := by decide +kernel
set_option maxRecDepth 100000 in
theorem d_Bx_firstShortDay_73 : decode b_Bx_firstShortDay 73 = .ok (.lsub, 1) := by decide +kernel
set_option maxRecDepth 100000 in
theorem d_Bx_firstShortDay_74 : decode b_Bx_firstShortDay 74 = .ok (.ladd, 1) := by decide +kernel
set_option maxRecDepth 100000 in
theorem d_Bx_firstShortDay_75 : decode b_Bx_firstShortDay 75 = .ok (.lstore 4, 2) := by decide +kernel
set_option maxRecDepth 100000 in
theorem d_Bx_firstShortDay_77 : decode b_Bx_firstShortDay 77 = .ok (.lload 4, 2) := by decide +kernel
set_option maxRecDepth 100000 in
theorem d_Bx_firstShortDay_79 : decode b_Bx_firstShortDay 79 = .ok (.lconst 0, 1) := by decide +kernel
set_option maxRecDepth 100000 in
theorem d_Bx_firstShortDay_80 : decode b_Bx_firstShortDay 80 = .ok (.lcmp, 1) := by decide +kernel
set_option maxRecDepth 100000 in
theorem d_Bx_firstShortDay_81 : decode b_Bx_firstShortDay 81 = .ok (.ifCond .ge 6, 3) := by decide +kernel
set_option maxRecDepth 100000 in
theorem d_Bx_firstShortDay_84 : decode b_Bx_firstShortDay 84 = .ok (.iload 6, 2) := by decide +kernel
set_option maxRecDepth 100000 in
theorem d_Bx_firstShortDay_86 : decode b_Bx_firstShortDay 86 = .ok (.ireturn, 1) := by decide +kernel
set_option maxRecDepth 100000 in
theorem d_Bx_firstShortDay_87 : decode b_Bx_firstShortDay 87 = .ok (.iinc 7 1, 3) := by decide +kernel
set_option maxRecDepth 100000 in
theorem d_Bx_firstShortDay_90 : decode b_Bx_firstShortDay 90 = .ok (.goto (-37), 3) := by decide +kernel
set_option maxRecDepth 100000 in
theorem d_Bx_firstShortDay_93 : decode b_Bx_firstShortDay 93 = .ok (.iconst (-1), 1) := by decide +kernel
set_option maxRecDepth 100000 in
theorem d_Bx_firstShortDay_94 : decode b_Bx_firstShortDay 94 = .ok (.ireturn, 1) := by decide +kernel
set_option maxRecDepth 100000 in
theorem d_Bx_owedOn_0 : decode b_Bx_owedOn 0 = .ok (.iconst 0, 1) := by decide +kernel
set_option maxRecDepth 100000 in
theorem d_Bx_owedOn_1 : decode b_Bx_owedOn 1 = .ok (.istore_n 2, 1) := by decide +kernel
set_option maxRecDepth 100000 in
theorem d_Bx_owedOn_2 : decode b_Bx_owedOn 2 = .ok (.iconst 0, 1) := by decide +kernel
set_option maxRecDepth 100000 in
theorem d_Bx_owedOn_3 : decode b_Bx_owedOn 3 = .ok (.istore_n 3, 1) := by decide +kernel
set_option maxRecDepth 100000 in
theorem d_Bx_owedOn_4 : decode b_Bx_owedOn 4 = .ok (.iload_n 3, 1) := by decide +kernel
set_option maxRecDepth 100000 in
theorem d_Bx_owedOn_5 : decode b_Bx_owedOn 5 = .ok (.aload_n 0, 1) := by decide +kernel
set_option maxRecDepth 100000 in
theorem d_Bx_owedOn_6 : decode b_Bx_owedOn 6 = .ok (.getfield 29, 3) := by decide +kernel
set_option maxRecDepth 100000 in
theorem d_Bx_owedOn_9 : decode b_Bx_owedOn 9 = .ok (.if_icmp .ge 38, 3) := by decide +kernel
set_option maxRecDepth 100000 in
theorem d_Bx_owedOn_12 : decode b_Bx_owedOn 12 = .ok (.aload_n 0, 1) := by decide +kernel
set_option maxRecDepth 100000 in
theorem d_Bx_owedOn_13 : decode b_Bx_owedOn 13 = .ok (.iload_n 3, 1) := by decide +kernel
set_option maxRecDepth 100000 in
theorem d_Bx_owedOn_14 : decode b_Bx_owedOn 14 = .ok (.invokevirtual 35, 3) := by decide +kernel
set_option maxRecDepth 100000 in
theorem d_Bx_owedOn_17 : decode b_Bx_owedOn 17 = .ok (.astore 4, 2) := by decide +kernel
set_option maxRecDepth 100000 in
theorem d_Bx_owedOn_19 : decode b_Bx_owedOn 19 = .ok (.aload 4, 2) := by decide +kernel
set_option maxRecDepth 100000 in
theorem d_Bx_owedOn_21 : decode b_Bx_owedOn 21 = .ok (.ifnull 20, 3) := by decide +kernel
set_option maxRecDepth 100000 in
theorem d_Bx_owedOn_24 : decode b_Bx_owedOn 24 = .ok (.iload_n 1, 1) := by decide +kernel
set_option maxRecDepth 100000 in
theorem d_Bx_owedOn_25 : decode b_Bx_owedOn 25 = .ok (.aload 4, 2) := by decide +kernel
set_option maxRecDepth 100000 in
theorem d_Bx_owedOn_27 : decode b_Bx_owedOn 27 = .ok (.getfield 39, 3) := by decide +kernel
set_option maxRecDepth 100000 in
theorem d_Bx_owedOn_30 : decode b_Bx_owedOn 30 = .ok (.if_icmp .ge 11, 3) := by decide +kernel
set_option maxRecDepth 100000 in
theorem d_Bx_owedOn_33 : decode b_Bx_owedOn 33 = .ok (.iload_n 2, 1) := by decide +kernel
set_option maxRecDepth 100000 in
theorem d_Bx_owedOn_34 : decode b_Bx_owedOn 34 = .ok (.aload 4, 2) := by decide +kernel
set_option maxRecDepth 100000 in
theorem d_Bx_owedOn_36 : decode b_Bx_owedOn 36 = .ok (.getfield 42, 3) := by decide +kernel
set_option maxRecDepth 100000 in
theorem d_Bx_owedOn_39 : decode b_Bx_owedOn 39 = .ok (.iadd, 1) := by decide +kernel
set_option maxRecDepth 100000 in
theorem d_Bx_owedOn_40 : decode b_Bx_owedOn 40 = .ok (.istore_n 2, 1) := by decide +kernel
set_option maxRecDepth 100000 in
theorem d_Bx_owedOn_41 : decode b_Bx_owedOn 41 = .ok (.iinc 3 1, 3) := by decide +kernel
set_option maxRecDepth 100000 in
theorem d_Bx_owedOn_44 : decode b_Bx_owedOn 44 = .ok (.goto (-40), 3) := by decide +kernel
set_option maxRecDepth 100000 in
theorem d_Bx_owedOn_47 : decode b_Bx_owedOn 47 = .ok (.iload_n 2, 1) := by decide +kernel
set_option maxRecDepth 100000 in
theorem d_Bx_owedOn_48 : decode b_Bx_owedOn 48 = .ok (.ireturn, 1) := by decide +kernel
set_option maxRecDepth 100000 in
theorem d_Bx_pensionerAt_0 : decode b_Bx_pensionerAt 0 = .ok (.iload_n 1, 1) := by decide +kernel
set_option maxRecDepth 100000 in
theorem d_Bx_pensionerAt_1 : decode b_Bx_pensionerAt 1 = .ok (.ifCond .lt 20, 3) := by decide +kernel
set_option maxRecDepth 100000 in
theorem d_Bx_pensionerAt_4 : decode b_Bx_pensionerAt 4 = .ok (.iload_n 1, 1) := by decide +kernel
set_option maxRecDepth 100000 in
theorem d_Bx_pensionerAt_5 : decode b_Bx_pensionerAt 5 = .ok (.aload_n 0, 1) := by decide +kernel
set_option maxRecDepth 100000 in
theorem d_Bx_pensionerAt_6 : decode b_Bx_pensionerAt 6 = .ok (.getfield 29, 3) := by decide +kernel
set_option maxRecDepth 100000 in
theorem d_Bx_pensionerAt_9 : decode b_Bx_pensionerAt 9 = .ok (.if_icmp .ge 12, 3) := by decide +kernel
set_option maxRecDepth 100000 in
theorem d_Bx_pensionerAt_12 : decode b_Bx_pensionerAt 12 = .ok (.aload_n 0, 1) := by decide +kernel
set_option maxRecDepth 100000 in
theorem d_Bx_pensionerAt_13 : decode b_Bx_pensionerAt 13 = .ok (.getfield 17, 3) := by decide +kernel
set_option maxRecDepth 100000 in
theorem d_Bx_pensionerAt_16 : decode b_Bx_pensionerAt 16 = .ok (.iload_n 1, 1) := by decide +kernel
set_option maxRecDepth 100000 in
theorem d_Bx_pensionerAt_17 : decode b_Bx_pensionerAt 17 = .ok (.aaload, 1) := by decide +kernel
set_option maxRecDepth 100000 in
theorem d_Bx_pensionerAt_18 : decode b_Bx_pensionerAt 18 = .ok (.goto 4, 3) := by decide +kernel
set_option maxRecDepth 100000 in
theorem d_Bx_pensionerAt_21 : decode b_Bx_pensionerAt 21 = .ok (.aconst_null, 1) := by decide +kernel
set_option maxRecDepth 100000 in
theorem d_Bx_pensionerAt_22 : decode b_Bx_pensionerAt 22 = .ok (.areturn, 1) := by decide +kernel
set_option maxRecDepth 100000 in
theorem d_Mn_isOnWay_0 : decode b_Mn_isOnWay 0 = .ok (.iload_n 1, 1) := by decide +kernel
set_option maxRecDepth 100000 in
theorem d_Mn_isOnWay_1 : decode b_Mn_isOnWay 1 = .ok (.aload_n 0, 1) := by decide +kernel
set_option maxRecDepth 100000 in
theorem d_Mn_isOnWay_2 : decode b_Mn_isOnWay 2 = .ok (.getfield 21, 3) := by decide +kernel
set_option maxRecDepth 100000 in
theorem d_Mn_isOnWay_5 : decode b_Mn_isOnWay 5 = .ok (.if_icmp .ge 7, 3) := by decide +kernel
set_option maxRecDepth 100000 in
theorem d_Mn_isOnWay_8 : decode b_Mn_isOnWay 8 = .ok (.iconst 1, 1) := by decide +kernel
set_option maxRecDepth 100000 in
theorem d_Mn_isOnWay_9 : decode b_Mn_isOnWay 9 = .ok (.goto 4, 3) := by decide +kernel
set_option maxRecDepth 100000 in
theorem d_Mn_isOnWay_12 : decode b_Mn_isOnWay 12 = .ok (.iconst 0, 1) := by decide +kernel
set_option maxRecDepth 100000 in
theorem d_Mn_isOnWay_13 : decode b_Mn_isOnWay 13 = .ok (.ireturn, 1) := by decide +kernel
set_option maxRecDepth 100000 in
theorem d_WM_coins_0 : decode b_WM_coins 0 = .ok (.iload_n 1, 1) := by decide +kernel
set_option maxRecDepth 100000 in
theorem d_WM_coins_1 : decode b_WM_coins 1 = .ok (.tableswitch 72 0 4 #[35, 43, 51, 56, 64], 35) := by decide +kernel
set_option maxRecDepth 100000 in
theorem d_WM_coins_36 : decode b_WM_coins 36 = .ok (.aload_n 0, 1) := by decide +kernel
set_option maxRecDepth 100000 in
theorem d_WM_coins_37 : decode b_WM_coins 37 = .ok (.getfield 50, 3) := by decide +kernel
set_option maxRecDepth 100000 in
theorem d_WM_coins_40 : decode b_WM_coins 40 = .ok (.getfield 343, 3) := by decide +kernel
set_option maxRecDepth 100000 in
theorem d_WM_coins_43 : decode b_WM_coins 43 = .ok (.ireturn, 1) := by decide +kernel
set_option maxRecDepth 100000 in
theorem d_WM_coins_44 : decode b_WM_coins 44 = .ok (.aload_n 0, 1) := by decide +kernel
set_option maxRecDepth 100000 in
theorem d_WM_coins_45 : decode b_WM_coins 45 = .ok (.getfield 50, 3) := by decide +kernel
set_option maxRecDepth 100000 in
theorem d_WM_coins_48 : decode b_WM_coins 48 = .ok (.getfield 344, 3) := by decide +kernel
set_option maxRecDepth 100000 in
theorem d_WM_coins_51 : decode b_WM_coins 51 = .ok (.ireturn, 1) := by decide +kernel
set_option maxRecDepth 100000 in
theorem d_WM_coins_52 : decode b_WM_coins 52 = .ok (.aload_n 0, 1) := by decide +kernel
set_option maxRecDepth 100000 in
theorem d_WM_coins_53 : decode b_WM_coins 53 = .ok (.invokevirtual 347, 3) := by decide +kernel
set_option maxRecDepth 100000 in
theorem d_WM_coins_56 : decode b_WM_coins 56 = .ok (.ireturn, 1) := by decide +kernel
set_option maxRecDepth 100000 in
theorem d_WM_coins_57 : decode b_WM_coins 57 = .ok (.aload_n 0, 1) := by decide +kernel
set_option maxRecDepth 100000 in
theorem d_WM_coins_58 : decode b_WM_coins 58 = .ok (.getfield 50, 3) := by decide +kernel
set_option maxRecDepth 100000 in
theorem d_WM_coins_61 : decode b_WM_coins 61 = .ok (.getfield 350, 3) := by decide +kernel
set_option maxRecDepth 100000 in
theorem d_WM_coins_64 : decode b_WM_coins 64 = .ok (.ireturn, 1) := by decide +kernel
set_option maxRecDepth 100000 in
theorem d_WM_coins_65 : decode b_WM_coins 65 = .ok (.aload_n 0, 1) := by decide +kernel
set_option maxRecDepth 100000 in
theorem d_WM_coins_66 : decode b_WM_coins 66 = .ok (.getfield 50, 3) := by decide +kernel
set_option maxRecDepth 100000 in
theorem d_WM_coins_69 : decode b_WM_coins 69 = .ok (.getfield 353, 3) := by decide +kernel
set_option maxRecDepth 100000 in
theorem d_WM_coins_72 : decode b_WM_coins 72 = .ok (.ireturn, 1) := by decide +kernel
set_option maxRecDepth 100000 in
theorem d_WM_coins_73 : decode b_WM_coins 73 = .ok (.iconst (-1), 1) := by decide +kernel
set_option maxRecDepth 100000 in
theorem d_WM_coins_74 : decode b_WM_coins 74 = .ok (.ireturn, 1) := by decide +kernel
set_option maxRecDepth 100000 in
theorem d_WM_coinsOfMen_0 : decode b_WM_coinsOfMen 0 = .ok (.iconst 0, 1) := by decide +kernel
set_option maxRecDepth 100000 in
theorem d_WM_coinsOfMen_1 : decode b_WM_coinsOfMen 1 = .ok (.istore_n 1, 1) := by decide +kernel
set_option maxRecDepth 100000 in
theorem d_WM_coinsOfMen_2 : decode b_WM_coinsOfMen 2 = .ok (.iconst 0, 1) := by decide +kernel
set_option maxRecDepth 100000 in
theorem d_WM_coinsOfMen_3 : decode b_WM_coinsOfMen 3 = .ok (.istore_n 2, 1) := by decide +kernel
set_option maxRecDepth 100000 in
theorem d_WM_coinsOfMen_4 : decode b_WM_coinsOfMen 4 = .ok (.iload_n 2, 1) := by decide +kernel
set_option maxRecDepth 100000 in
theorem d_WM_coinsOfMen_5 : decode b_WM_coinsOfMen 5 = .ok (.bipush 40, 2) := by decide +kernel
set_option maxRecDepth 100000 in
theorem d_WM_coinsOfMen_7 : decode b_WM_coinsOfMen 7 = .ok (.if_icmp .ge 31, 3) := by decide +kernel
set_option maxRecDepth 100000 in
theorem d_WM_coinsOfMen_10 : decode b_WM_coinsOfMen 10 = .ok (.aload_n 0, 1) := by decide +kernel
set_option maxRecDepth 100000 in
theorem d_WM_coinsOfMen_11 : decode b_WM_coinsOfMen 11 = .ok (.getfield 18, 3) := by decide +kernel
set_option maxRecDepth 100000 in
theorem d_WM_coinsOfMen_14 : decode b_WM_coinsOfMen 14 = .ok (.iload_n 2, 1) := by decide +kernel
set_option maxRecDepth 100000 in
theorem d_WM_coinsOfMen_15 : decode b_WM_coinsOfMen 15 = .ok (.aaload, 1) := by decide +kernel
set_option maxRecDepth 100000 in
theorem d_WM_coinsOfMen_16 : decode b_WM_coinsOfMen 16 = .ok (.astore_n 3, 1) := by decide +kernel
set_option maxRecDepth 100000 in
theorem d_WM_coinsOfMen_17 : decode b_WM_coinsOfMen 17 = .ok (.iload_n 1, 1) := by decide +kernel
set_option maxRecDepth 100000 in
theorem d_WM_coinsOfMen_18 : decode b_WM_coinsOfMen 18 = .ok (.aload_n 3, 1) := by decide +kernel
set_option maxRecDepth 100000 in
theorem d_WM_coinsOfMen_19 : decode b_WM_coinsOfMen 19 = .ok (.ifnonnull 7, 3) := by decide +kernel
set_option maxRecDepth 100000 in
theorem d_WM_coinsOfMen_22 : decode b_WM_coinsOfMen 22 = .ok (.iconst 0, 1) := by decide +kernel
set_option maxRecDepth 100000 in
theorem d_WM_coinsOfMen_23 : decode b_WM_coinsOfMen 23 = .ok (.goto 7, 3) := by decide +kernel
set_option maxRecDepth 100000 in
theorem d_WM_coinsOfMen_26 : decode b_WM_coinsOfMen 26 = .ok (.aload_n 3, 1) := by decide +kernel
set_option maxRecDepth 100000 in
theorem d_WM_coinsOfMen_27 : decode b_WM_coinsOfMen 27 = .ok (.getfield 152, 3) := by decide +kernel
set_option maxRecDepth 100000 in
theorem d_WM_coinsOfMen_30 : decode b_WM_coinsOfMen 30 = .ok (.iadd, 1) := by decide +kernel
set_option maxRecDepth 100000 in
theorem d_WM_coinsOfMen_31 : decode b_WM_coinsOfMen 31 = .ok (.istore_n 1, 1) := by decide +kernel
set_option maxRecDepth 100000 in
theorem d_WM_coinsOfMen_32 : decode b_WM_coinsOfMen 32 = .ok (.iinc 2 1, 3) := by decide +kernel
set_option maxRecDepth 100000 in
theorem d_WM_coinsOfMen_35 : decode b_WM_coinsOfMen 35 = .ok (.goto (-31), 3) := by decide +kernel
set_option maxRecDepth 100000 in
theorem d_WM_coinsOfMen_38 : decode b_WM_coinsOfMen 38 = .ok (.iload_n 1, 1) := by decide +kernel
set_option maxRecDepth 100000 in
theorem d_WM_coinsOfMen_39 : decode b_WM_coinsOfMen 39 = .ok (.ireturn, 1) := by decide +kernel
set_option maxRecDepth 100000 in
theorem d_WM_foretold_0 : decode b_WM_foretold 0 = .ok (.aload_n 0, 1) := by decide +kernel
set_option maxRecDepth 100000 in
theorem d_WM_foretold_1 : decode b_WM_foretold 1 = .ok (.getfield 50, 3) := by decide +kernel
set_option maxRecDepth 100000 in
theorem d_WM_foretold_4 : decode b_WM_foretold 4 = .ok (.aload_n 0, 1) := by decide +kernel
set_option maxRecDepth 100000 in
theorem d_WM_foretold_5 : decode b_WM_foretold 5 = .ok (.invokevirtual 97, 3) := by decide +kernel
set_option maxRecDepth 100000 in
theorem d_WM_foretold_8 : decode b_WM_foretold 8 = .ok (.invokevirtual 322, 3) := by decide +kernel
set_option maxRecDepth 100000 in
theorem d_WM_foretold_11 : decode b_WM_foretold 11 = .ok (.istore_n 1, 1) := by decide +kernel
set_option maxRecDepth 100000 in
theorem d_WM_foretold_12 : decode b_WM_foretold 12 = .ok (.iload_n 1, 1) := by decide +kernel
set_option maxRecDepth 100000 in
theorem d_WM_foretold_13 : decode b_WM_foretold 13 = .ok (.iconst (-1), 1) := by decide +kernel
set_option maxRecDepth 100000 in
theorem d_WM_foretold_14 : decode b_WM_foretold 14 = .ok (.if_icmp .ne 8, 3) := by decide +kernel
set_option maxRecDepth 100000 in
theorem d_WM_foretold_17 : decode b_WM_foretold 17 = .ok (.bipush (-2), 2) := by decide +kernel
set_option maxRecDepth 100000 in
theorem d_WM_foretold_19 : decode b_WM_foretold 19 = .ok (.goto 4, 3) := by decide +kernel
set_option maxRecDepth 100000 in
theorem d_WM_foretold_22 : decode b_WM_foretold 22 = .ok (.iload_n 1, 1) := by decide +kernel
set_option maxRecDepth 100000 in
theorem d_WM_foretold_23 : decode b_WM_foretold 23 = .ok (.ireturn, 1) := by decide +kernel
set_option maxRecDepth 100000 in
theorem d_WM_man_0 : decode b_WM_man 0 = .ok (.aload_n 0, 1) := by decide +kernel
set_option maxRecDepth 100000 in
theorem d_WM_man_1 : decode b_WM_man 1 = .ok (.iload_n 1, 1) := by decide +kernel
set_option maxRecDepth 100000 in
theorem d_WM_man_2 : decode b_WM_man 2 = .ok (.invokevirtual 107, 3) := by decide +kernel
set_option maxRecDepth 100000 in
theorem d_WM_man_5 : decode b_WM_man 5 = .ok (.astore_n 3, 1) := by decide +kernel
set_option maxRecDepth 100000 in
theorem d_WM_man_6 : decode b_WM_man 6 = .ok (.aload_n 3, 1) := by decide +kernel
set_option maxRecDepth 100000 in
theorem d_WM_man_7 : decode b_WM_man 7 = .ok (.ifnonnull 6, 3) := by decide +kernel
set_option maxRecDepth 100000 in
theorem d_WM_man_10 : decode b_WM_man 10 = .ok (.bipush (-2), 2) := by decide +kernel
set_option maxRecDepth 100000 in
theorem d_WM_man_12 : decode b_WM_man 12 = .ok (.ireturn, 1) := by decide +kernel
set_option maxRecDepth 100000 in
theorem d_WM_man_13 : decode b_WM_man 13 = .ok (.iload_n 2, 1) := by decide +kernel
set_option maxRecDepth 100000 in
theorem d_WM_man_14 : decode b_WM_man 14 = .ok (.tableswitch 112 0 6 #[42, 47, 74, 79, 85, 90, 107], 42) := by decide +kernel
set_option maxRecDepth 100000 in
theorem d_WM_man_56 : decode b_WM_man 56 = .ok (.aload_n 3, 1) := by decide +kernel
set_option maxRecDepth 100000 in
theorem d_WM_man_57 : decode b_WM_man 57 = .ok (.getfield 111, 3) := by decide +kernel
set_option maxRecDepth 100000 in
theorem d_WM_man_60 : decode b_WM_man 60 = .ok (.ireturn, 1) := by decide +kernel
set_option maxRecDepth 100000 in
theorem d_WM_man_61 : decode b_WM_man 61 = .ok (.aload_n 3, 1) := by decide +kernel
set_option maxRecDepth 100000 in
theorem d_WM_man_62 : decode b_WM_man 62 = .ok (.getfield 119, 3) := by decide +kernel
set_option maxRecDepth 100000 in
theorem d_WM_man_65 : decode b_WM_man 65 = .ok (.ifnull 21, 3) := by decide +kernel
set_option maxRecDepth 100000 in
theorem d_WM_man_68 : decode b_WM_man 68 = .ok (.aload_n 3, 1) := by decide +kernel
set_option maxRecDepth 100000 in
theorem d_WM_man_69 : decode b_WM_man 69 = .ok (.getfield 111, 3) := by decide +kernel
set_option maxRecDepth 100000 in
theorem d_WM_man_72 : decode b_WM_man 72 = .ok (.iconst 1, 1) := by decide +kernel
set_option maxRecDepth 100000 in
theorem d_WM_man_73 : decode b_WM_man 73 = .ok (.if_icmp .ne 13, 3) := by decide +kernel
set_option maxRecDepth 100000 in
theorem d_WM_man_76 : decode b_WM_man 76 = .ok (.aload_n 3, 1) := by decide +kernel
set_option maxRecDepth 100000 in
theorem d_WM_man_77 : decode b_WM_man 77 = .ok (.getfield 119, 3) := by decide +kernel
set_option maxRecDepth 100000 in
theorem d_WM_man_80 : decode b_WM_man 80 = .ok (.getfield 142, 3) := by decide +kernel
set_option maxRecDepth 100000 in
theorem d_WM_man_83 : decode b_WM_man 83 = .ok (.goto 4, 3) := by decide +kernel
set_option maxRecDepth 100000 in
theorem d_WM_man_86 : decode b_WM_man 86 = .ok (.iconst (-1), 1) := by decide +kernel
set_option maxRecDepth 100000 in
theorem d_WM_man_87 : decode b_WM_man 87 = .ok (.ireturn, 1) := by decide +kernel
set_option maxRecDepth 100000 in
theorem d_WM_man_88 : decode b_WM_man 88 = .ok (.aload_n 3, 1) := by decide +kernel
set_option maxRecDepth 100000 in
theorem d_WM_man_89 : decode b_WM_man 89 = .ok (.getfield 145, 3) := by decide +kernel
set_option maxRecDepth 100000 in
theorem d_WM_man_92 : decode b_WM_man 92 = .ok (.ireturn, 1) := by decide +kernel
set_option maxRecDepth 100000 in
theorem d_WM_man_93 : decode b_WM_man 93 = .ok (.aload_n 0, 1) := by decide +kernel
set_option maxRecDepth 100000 in
theorem d_WM_man_94 : decode b_WM_man 94 = .ok (.aload_n 3, 1) := by decide +kernel
set_option maxRecDepth 100000 in
theorem d_WM_man_95 : decode b_WM_man 95 = .ok (.invokevirtual 148, 3) := by decide +kernel
set_option maxRecDepth 100000 in
theorem d_WM_man_98 : decode b_WM_man 98 = .ok (.ireturn, 1) := by decide +kernel
set_option maxRecDepth 100000 in
theorem d_WM_man_99 : decode b_WM_man 99 = .ok (.aload_n 3, 1) := by decide +kernel
set_option maxRecDepth 100000 in
theorem d_WM_man_100 : decode b_WM_man 100 = .ok (.getfield 152, 3) := by decide +kernel
set_option maxRecDepth 100000 in
theorem d_WM_man_103 : decode b_WM_man 103 = .ok (.ireturn, 1) := by decide +kernel
set_option maxRecDepth 100000 in
theorem d_WM_man_104 : decode b_WM_man 104 = .ok (.aload_n 3, 1) := by decide +kernel
set_option maxRecDepth 100000 in
theorem d_WM_man_105 : decode b_WM_man 105 = .ok (.aload_n 0, 1) := by decide +kernel
set_option maxRecDepth 100000 in
theorem d_WM_man_106 : decode b_WM_man 106 = .ok (.getfield 155, 3) := by decide +kernel
set_option maxRecDepth 100000 in
theorem d_WM_man_109 : decode b_WM_man 109 = .ok (.invokevirtual 158, 3) := by decide +kernel
set_option maxRecDepth 100000 in
theorem d_WM_man_112 : decode b_WM_man 112 = .ok (.ifCond .eq 7, 3) := by decide +kernel
set_option maxRecDepth 100000 in
theorem d_WM_man_115 : decode b_WM_man 115 = .ok (.iconst 1, 1) := by decide +kernel
set_option maxRecDepth 100000 in
theorem d_WM_man_116 : decode b_WM_man 116 = .ok (.goto 4, 3) := by decide +kernel
set_option maxRecDepth 100000 in
theorem d_WM_man_119 : decode b_WM_man 119 = .ok (.iconst 0, 1) := by decide +kernel
set_option maxRecDepth 100000 in
theorem d_WM_man_120 : decode b_WM_man 120 = .ok (.ireturn, 1) := by decide +kernel
set_option maxRecDepth 100000 in
theorem d_WM_man_121 : decode b_WM_man 121 = .ok (.aload_n 3, 1) := by decide +kernel
set_option maxRecDepth 100000 in
theorem d_WM_man_122 : decode b_WM_man 122 = .ok (.getfield 161, 3) := by decide +kernel
set_option maxRecDepth 100000 in
theorem d_WM_man_125 : decode b_WM_man 125 = .ok (.ireturn, 1) := by decide +kernel
set_option maxRecDepth 100000 in
theorem d_WM_man_126 : decode b_WM_man 126 = .ok (.bipush (-2), 2) := by decide +kernel
set_option maxRecDepth 100000 in
theorem d_WM_man_128 : decode b_WM_man 128 = .ok (.ireturn, 1) := by decide +kernel
set_option maxRecDepth 100000 in
theorem d_WM_manAt_0 : decode b_WM_manAt 0 = .ok (.iload_n 1, 1) := by decide +kernel
set_option maxRecDepth 100000 in
theorem d_WM_manAt_1 : decode b_WM_manAt 1 = .ok (.ifCond .lt 18, 3) := by decide +kernel
set_option maxRecDepth 100000 in
theorem d_WM_manAt_4 : decode b_WM_manAt 4 = .ok (.iload_n 1, 1) := by decide +kernel
set_option maxRecDepth 100000 in
theorem d_WM_manAt_5 : decode b_WM_manAt 5 = .ok (.bipush 40, 2) := by decide +kernel
set_option maxRecDepth 100000 in
theorem d_WM_manAt_7 : decode b_WM_manAt 7 = .ok (.if_icmp .ge 12, 3) := by decide +kernel
set_option maxRecDepth 100000 in
theorem d_WM_manAt_10 : decode b_WM_manAt 10 = .ok (.aload_n 0, 1) := by decide +kernel
set_option maxRecDepth 100000 in
theorem d_WM_manAt_11 : decode b_WM_manAt 11 = .ok (.getfield 18, 3) := by decide +kernel
set_option maxRecDepth 100000 in
theorem d_WM_manAt_14 : decode b_WM_manAt 14 = .ok (.iload_n 1, 1) := by decide +kernel
set_option maxRecDepth 100000 in
theorem d_WM_manAt_15 : decode b_WM_manAt 15 = .ok (.aaload, 1) := by decide +kernel
set_option maxRecDepth 100000 in
theorem d_WM_manAt_16 : decode b_WM_manAt 16 = .ok (.goto 4, 3) := by decide +kernel
set_option maxRecDepth 100000 in
theorem d_WM_manAt_19 : decode b_WM_manAt 19 = .ok (.aconst_null, 1) := by decide +kernel
set_option maxRecDepth 100000 in
theorem d_WM_manAt_20 : decode b_WM_manAt 20 = .ok (.areturn, 1) := by decide +kernel
set_option maxRecDepth 100000 in
theorem d_WM_pensioner_0 : decode b_WM_pensioner 0 = .ok (.aload_n 0, 1) := by decide +kernel
set_option maxRecDepth 100000 in
theorem d_WM_pensioner_1 : decode b_WM_pensioner 1 = .ok (.getfield 50, 3) := by decide +kernel
set_option maxRecDepth 100000 in
theorem d_WM_pensioner_4 : decode b_WM_pensioner 4 = .ok (.iload_n 1, 1) := by decide +kernel
set_option maxRecDepth 100000 in
theorem d_WM_pensioner_5 : decode b_WM_pensioner 5 = .ok (.invokevirtual 325, 3) := by decide +kernel
set_option maxRecDepth 100000 in
theorem d_WM_pensioner_8 : decode b_WM_pensioner 8 = .ok (.astore_n 3, 1) := by decide +kernel
set_option maxRecDepth 100000 in
theorem d_WM_pensioner_9 : decode b_WM_pensioner 9 = .ok (.aload_n 3, 1) := by decide +kernel
set_option maxRecDepth 100000 in
theorem d_WM_pensioner_10 : decode b_WM_pensioner 10 = .ok (.ifnonnull 5, 3) := by decide +kernel
set_option maxRecDepth 100000 in
theorem d_WM_pensioner_13 : decode b_WM_pensioner 13 = .ok (.iconst (-1), 1) := by decide +kernel
set_option maxRecDepth 100000 in
theorem d_WM_pensioner_14 : decode b_WM_pensioner 14 = .ok (.ireturn, 1) := by decide +kernel
set_option maxRecDepth 100000 in
theorem d_WM_pensioner_15 : decode b_WM_pensioner 15 = .ok (.iload_n 2, 1) := by decide +kernel
set_option maxRecDepth 100000 in
theorem d_WM_pensioner_16 : decode b_WM_pensioner 16 = .ok (.tableswitch 43 0 2 #[28, 33, 38], 28) := by decide +kernel
set_option maxRecDepth 100000 in
theorem d_WM_pensioner_44 : decode b_WM_pensioner 44 = .ok (.aload_n 3, 1) := by decide +kernel
set_option maxRecDepth 100000 in
theorem d_WM_pensioner_45 : decode b_WM_pensioner 45 = .ok (.getfield 329, 3) := by decide +kernel
set_option maxRecDepth 100000 in
theorem d_WM_pensioner_48 : decode b_WM_pensioner 48 = .ok (.ireturn, 1) := by decide +kernel
set_option maxRecDepth 100000 in
theorem d_WM_pensioner_49 : decode b_WM_pensioner 49 = .ok (.aload_n 3, 1) := by decide +kernel
set_option maxRecDepth 100000 in
theorem d_WM_pensioner_50 : decode b_WM_pensioner 50 = .ok (.getfield 334, 3) := by decide +kernel
set_option maxRecDepth 100000 in
theorem d_WM_pensioner_53 : decode b_WM_pensioner 53 = .ok (.ireturn, 1) := by decide +kernel
set_option maxRecDepth 100000 in
theorem d_WM_pensioner_54 : decode b_WM_pensioner 54 = .ok (.aload_n 3, 1) := by decide +kernel
set_option maxRecDepth 100000 in
theorem d_WM_pensioner_55 : decode b_WM_pensioner 55 = .ok (.getfield 337, 3) := by decide +kernel
set_option maxRecDepth 100000 in
theorem d_WM_pensioner_58 : decode b_WM_pensioner 58 = .ok (.ireturn, 1) := by decide +kernel
set_option maxRecDepth 100000 in
theorem d_WM_pensioner_59 : decode b_WM_pensioner 59 = .ok (.iconst (-1), 1) := by decide +kernel
set_option maxRecDepth 100000 in
theorem d_WM_pensioner_60 : decode b_WM_pensioner 60 = .ok (.ireturn, 1) := by decide +kernel
set_option maxRecDepth 100000 in
theorem d_WM_placeInTurns_0 : decode b_WM_placeInTurns 0 = .ok (.aload_n 1, 1) := by decide +kernel
set_option maxRecDepth 100000 in
theorem d_WM_placeInTurns_1 : decode b_WM_placeInTurns 1 = .ok (.getfield 145, 3) := by decide +kernel
set_option maxRecDepth 100000 in
theorem d_WM_placeInTurns_4 : decode b_WM_placeInTurns 4 = .ok (.iconst (-1), 1) := by decide +kernel
set_option maxRecDepth 100000 in
theorem d_WM_placeInTurns_5 : decode b_WM_placeInTurns 5 = .ok (.if_icmp .ne 5, 3) := by decide +kernel
set_option maxRecDepth 100000 in
theorem d_WM_placeInTurns_8 : decode b_WM_placeInTurns 8 = .ok (.iconst (-1), 1) := by decide +kernel
set_option maxRecDepth 100000 in
theorem d_WM_placeInTurns_9 : decode b_WM_placeInTurns 9 = .ok (.ireturn, 1) := by decide +kernel
set_option maxRecDepth 100000 in
theorem d_WM_placeInTurns_10 : decode b_WM_placeInTurns 10 = .ok (.iconst 0, 1) := by decide +kernel
set_option maxRecDepth 100000 in
theorem d_WM_placeInTurns_11 : decode b_WM_placeInTurns 11 = .ok (.istore_n 2, 1) := by decide +kernel
set_option maxRecDepth 100000 in
theorem d_WM_placeInTurns_12 : decode b_WM_placeInTurns 12 = .ok (.iconst 0, 1) := by decide +kernel
set_option maxRecDepth 100000 in
theorem d_WM_placeInTurns_13 : decode b_WM_placeInTurns 13 = .ok (.istore_n 3, 1) := by decide +kernel
set_option maxRecDepth 100000 in
theorem d_WM_placeInTurns_14 : decode b_WM_placeInTurns 14 = .ok (.iload_n 3, 1) := by decide +kernel
set_option maxRecDepth 100000 in
theorem d_WM_placeInTurns_15 : decode b_WM_placeInTurns 15 = .ok (.bipush 40, 2) := by decide +kernel
set_option maxRecDepth 100000 in
theorem d_WM_placeInTurns_17 : decode b_WM_placeInTurns 17 = .ok (.if_icmp .ge 49, 3) := by decide +kernel
set_option maxRecDepth 100000 in
theorem d_WM_placeInTurns_20 : decode b_WM_placeInTurns 20 = .ok (.aload_n 0, 1) := by decide +kernel
set_option maxRecDepth 100000 in
theorem d_WM_placeInTurns_21 : decode b_WM_placeInTurns 21 = .ok (.getfield 18, 3) := by decide +kernel
set_option maxRecDepth 100000 in
theorem d_WM_placeInTurns_24 : decode b_WM_placeInTurns 24 = .ok (.iload_n 3, 1) := by decide +kernel
set_option maxRecDepth 100000 in
theorem d_WM_placeInTurns_25 : decode b_WM_placeInTurns 25 = .ok (.aaload, 1) := by decide +kernel
set_option maxRecDepth 100000 in
theorem d_WM_placeInTurns_26 : decode b_WM_placeInTurns 26 = .ok (.astore 4, 2) := by decide +kernel
set_option maxRecDepth 100000 in
theorem d_WM_placeInTurns_28 : decode b_WM_placeInTurns 28 = .ok (.aload 4, 2) := by decide +kernel
set_option maxRecDepth 100000 in
theorem d_WM_placeInTurns_30 : decode b_WM_placeInTurns 30 = .ok (.ifnull 30, 3) := by decide +kernel
set_option maxRecDepth 100000 in
theorem d_WM_placeInTurns_33 : decode b_WM_placeInTurns 33 = .ok (.aload 4, 2) := by decide +kernel
set_option maxRecDepth 100000 in
theorem d_WM_placeInTurns_35 : decode b_WM_placeInTurns 35 = .ok (.getfield 145, 3) := by decide +kernel
set_option maxRecDepth 100000 in
theorem d_WM_placeInTurns_38 : decode b_WM_placeInTurns 38 = .ok (.aload_n 1, 1) := by decide +kernel
set_option maxRecDepth 100000 in
theorem d_WM_placeInTurns_39 : decode b_WM_placeInTurns 39 = .ok (.getfield 145, 3) := by decide +kernel
set_option maxRecDepth 100000 in
theorem d_WM_placeInTurns_42 : decode b_WM_placeInTurns 42 = .ok (.if_icmp .ne 18, 3) := by decide +kernel
set_option maxRecDepth 100000 in
theorem d_WM_placeInTurns_45 : decode b_WM_placeInTurns 45 = .ok (.aload 4, 2) := by decide +kernel
set_option maxRecDepth 100000 in
theorem d_WM_placeInTurns_47 : decode b_WM_placeInTurns 47 = .ok (.getfield 196, 3) := by decide +kernel
set_option maxRecDepth 100000 in
theorem d_WM_placeInTurns_50 : decode b_WM_placeInTurns 50 = .ok (.aload_n 1, 1) := by decide +kernel
set_option maxRecDepth 100000 in
theorem d_WM_placeInTurns_51 : decode b_WM_placeInTurns 51 = .ok (.getfield 196, 3) := by decide +kernel
set_option maxRecDepth 100000 in
theorem d_WM_placeInTurns_54 : decode b_WM_placeInTurns 54 = .ok (.if_icmp .ge 6, 3) := by decide +kernel
set_option maxRecDepth 100000 in
theorem d_WM_placeInTurns_57 : decode b_WM_placeInTurns 57 = .ok (.iinc 2 1, 3) := by decide +kernel
set_option maxRecDepth 100000 in
theorem d_WM_placeInTurns_60 : decode b_WM_placeInTurns 60 = .ok (.iinc 3 1, 3) := by decide +kernel
set_option maxRecDepth 100000 in
theorem d_WM_placeInTurns_63 : decode b_WM_placeInTurns 63 = .ok (.goto (-49), 3) := by decide +kernel
set_option maxRecDepth 100000 in
theorem d_WM_placeInTurns_66 : decode b_WM_placeInTurns 66 = .ok (.iload_n 2, 1) := by decide +kernel
set_option maxRecDepth 100000 in
theorem d_WM_placeInTurns_67 : decode b_WM_placeInTurns 67 = .ok (.ireturn, 1) := by decide +kernel
set_option maxRecDepth 100000 in
theorem d_WM_today_0 : decode b_WM_today 0 = .ok (.aload_n 0, 1) := by decide +kernel
set_option maxRecDepth 100000 in
theorem d_WM_today_1 : decode b_WM_today 1 = .ok (.getfield 155, 3) := by decide +kernel
set_option maxRecDepth 100000 in
theorem d_WM_today_4 : decode b_WM_today 4 = .ok (.sipush 720, 3) := by decide +kernel
set_option maxRecDepth 100000 in
theorem d_WM_today_7 : decode b_WM_today 7 = .ok (.idiv, 1) := by decide +kernel
set_option maxRecDepth 100000 in
theorem d_WM_today_8 : decode b_WM_today 8 = .ok (.ireturn, 1) := by decide +kernel
