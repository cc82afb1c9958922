set_option maxRecDepth 100000 in
theorem d_Rv_isFrozen_4 : decode b_Rv_isFrozen 4 = .ok (.ifCond .eq 16, 3) := by decide +kernel
set_option maxRecDepth 100000 in
theorem d_Rv_isFrozen_7 : decode b_Rv_isFrozen 7 = .ok (.aload_n 0, 1) := by decide +kernel
set_option maxRecDepth 100000 in
theorem d_Rv_isFrozen_8 : decode b_Rv_isFrozen 8 = .ok (.getfield 23, 3) := by decide +kernel
set_option maxRecDepth 100000 in
theorem d_Rv_isFrozen_11 : decode b_Rv_isFrozen 11 = .ok (.iload_n 1, 1) := by decide +kernel
set_option maxRecDepth 100000 in
theorem d_Rv_isFrozen_12 : decode b_Rv_isFrozen 12 = .ok (.baload, 1) := by decide +kernel
set_option maxRecDepth 100000 in
theorem d_Rv_isFrozen_13 : decode b_Rv_isFrozen 13 = .ok (.ifCond .eq 7, 3) := by decide +kernel
set_option maxRecDepth 100000 in
theorem d_Rv_isFrozen_16 : decode b_Rv_isFrozen 16 = .ok (.iconst 1, 1) := by decide +kernel
set_option maxRecDepth 100000 in
theorem d_Rv_isFrozen_17 : decode b_Rv_isFrozen 17 = .ok (.goto 4, 3) := by decide +kernel
set_option maxRecDepth 100000 in
theorem d_Rv_isFrozen_20 : decode b_Rv_isFrozen 20 = .ok (.iconst 0, 1) := by decide +kernel
set_option maxRecDepth 100000 in
theorem d_Rv_isFrozen_21 : decode b_Rv_isFrozen 21 = .ok (.ireturn, 1) := by decide +kernel
set_option maxRecDepth 100000 in
theorem d_Rv_passesBridge_0 : decode b_Rv_passesBridge 0 = .ok (.aload_n 0, 1) := by decide +kernel
set_option maxRecDepth 100000 in
theorem d_Rv_passesBridge_1 : decode b_Rv_passesBridge 1 = .ok (.getfield 27, 3) := by decide +kernel
set_option maxRecDepth 100000 in
theorem d_Rv_passesBridge_4 : decode b_Rv_passesBridge 4 = .ok (.iconst (-1), 1) := by decide +kernel
set_option maxRecDepth 100000 in
theorem d_Rv_passesBridge_5 : decode b_Rv_passesBridge 5 = .ok (.if_icmp .eq 31, 3) := by decide +kernel
set_option maxRecDepth 100000 in
theorem d_Rv_passesBridge_8 : decode b_Rv_passesBridge 8 = .ok (.iload_n 1, 1) := by decide +kernel
set_option maxRecDepth 100000 in
theorem d_Rv_passesBridge_9 : decode b_Rv_passesBridge 9 = .ok (.iload_n 2, 1) := by decide +kernel
set_option maxRecDepth 100000 in
theorem d_Rv_passesBridge_10 : decode b_Rv_passesBridge 10 = .ok (.invokestatic 44, 3) := by decide +kernel
set_option maxRecDepth 100000 in
theorem d_Rv_passesBridge_13 : decode b_Rv_passesBridge 13 = .ok (.aload_n 0, 1) := by decide +kernel
set_option maxRecDepth 100000 in
theorem d_Rv_passesBridge_14 : decode b_Rv_passesBridge 14 = .ok (.getfield 27, 3) := by decide +kernel
set_option maxRecDepth 100000 in
theorem d_Rv_passesBridge_17 : decode b_Rv_passesBridge 17 = .ok (.if_icmp .gt 19, 3) := by decide +kernel
set_option maxRecDepth 100000 in
theorem d_Rv_passesBridge_20 : decode b_Rv_passesBridge 20 = .ok (.iload_n 1, 1) := by decide +kernel
set_option maxRecDepth 100000 in
theorem d_Rv_passesBridge_21 : decode b_Rv_passesBridge 21 = .ok (.iload_n 2, 1) := by decide +kernel
set_option maxRecDepth 100000 in
theorem d_Rv_passesBridge_22 : decode b_Rv_passesBridge 22 = .ok (.invokestatic 48, 3) := by decide +kernel
set_option maxRecDepth 100000 in
theorem d_Rv_passesBridge_25 : decode b_Rv_passesBridge 25 = .ok (.aload_n 0, 1) := by decide +kernel
set_option maxRecDepth 100000 in
theorem d_Rv_passesBridge_26 : decode b_Rv_passesBridge 26 = .ok (.getfield 27, 3) := by decide +kernel
set_option maxRecDepth 100000 in
theorem d_Rv_passesBridge_29 : decode b_Rv_passesBridge 29 = .ok (.if_icmp .le 7, 3) := by decide +kernel
set_option maxRecDepth 100000 in
theorem d_Rv_passesBridge_32 : decode b_Rv_passesBridge 32 = .ok (.iconst 1, 1) := by decide +kernel
set_option maxRecDepth 100000 in
theorem d_Rv_passesBridge_33 : decode b_Rv_passesBridge 33 = .ok (.goto 4, 3) := by decide +kernel
set_option maxRecDepth 100000 in
theorem d_Rv_passesBridge_36 : decode b_Rv_passesBridge 36 = .ok (.iconst 0, 1) := by decide +kernel
set_option maxRecDepth 100000 in
theorem d_Rv_passesBridge_37 : decode b_Rv_passesBridge 37 = .ok (.ireturn, 1) := by decide +kernel
set_option maxRecDepth 100000 in
theorem d_Rv_tell_0 : decode b_Rv_tell 0 = .ok (.aload_n 0, 1) := by decide +kernel
set_option maxRecDepth 100000 in
theorem d_Rv_tell_1 : decode b_Rv_tell 1 = .ok (.getfield 19, 3) := by decide +kernel
set_option maxRecDepth 100000 in
theorem d_Rv_tell_4 : decode b_Rv_tell 4 = .ok (.iload_n 1, 1) := by decide +kernel
set_option maxRecDepth 100000 in
theorem d_Rv_tell_5 : decode b_Rv_tell 5 = .ok (.aaload, 1) := by decide +kernel
set_option maxRecDepth 100000 in
theorem d_Rv_tell_6 : decode b_Rv_tell 6 = .ok (.astore 4, 2) := by decide +kernel
set_option maxRecDepth 100000 in
theorem d_Rv_tell_8 : decode b_Rv_tell 8 = .ok (.aload 4, 2) := by decide +kernel
set_option maxRecDepth 100000 in
theorem d_Rv_tell_10 : decode b_Rv_tell 10 = .ok (.ifnonnull 50, 3) := by decide +kernel
set_option maxRecDepth 100000 in
theorem d_Rv_tell_13 : decode b_Rv_tell 13 = .ok (.bipush 12, 2) := by decide +kernel
set_option maxRecDepth 100000 in
theorem d_Rv_tell_15 : decode b_Rv_tell 15 = .ok (.newarray .int, 2) := by decide +kernel
set_option maxRecDepth 100000 in
theorem d_Rv_tell_17 : decode b_Rv_tell 17 = .ok (.astore 4, 2) := by decide +kernel
set_option maxRecDepth 100000 in
theorem d_Rv_tell_19 : decode b_Rv_tell 19 = .ok (.iconst 0, 1) := by decide +kernel
set_option maxRecDepth 100000 in
theorem d_Rv_tell_20 : decode b_Rv_tell 20 = .ok (.istore 5, 2) := by decide +kernel
set_option maxRecDepth 100000 in
theorem d_Rv_tell_22 : decode b_Rv_tell 22 = .ok (.iload 5, 2) := by decide +kernel
set_option maxRecDepth 100000 in
theorem d_Rv_tell_24 : decode b_Rv_tell 24 = .ok (.bipush 12, 2) := by decide +kernel
set_option maxRecDepth 100000 in
theorem d_Rv_tell_26 : decode b_Rv_tell 26 = .ok (.if_icmp .ge 26, 3) := by decide +kernel
set_option maxRecDepth 100000 in
theorem d_Rv_tell_29 : decode b_Rv_tell 29 = .ok (.aload 4, 2) := by decide +kernel
set_option maxRecDepth 100000 in
theorem d_Rv_tell_31 : decode b_Rv_tell 31 = .ok (.iload 5, 2) := by decide +kernel
set_option maxRecDepth 100000 in
theorem d_Rv_tell_33 : decode b_Rv_tell 33 = .ok (.aload_n 0, 1) := by decide +kernel
set_option maxRecDepth 100000 in
theorem d_Rv_tell_34 : decode b_Rv_tell 34 = .ok (.getfield 15, 3) := by decide +kernel
set_option maxRecDepth 100000 in
theorem d_Rv_tell_37 : decode b_Rv_tell 37 = .ok (.iload 5, 2) := by decide +kernel
set_option maxRecDepth 100000 in
theorem d_Rv_tell_39 : decode b_Rv_tell 39 = .ok (.iload_n 1, 1) := by decide +kernel
set_option maxRecDepth 100000 in
theorem d_Rv_tell_40 : decode b_Rv_tell 40 = .ok (.iadd, 1) := by decide +kernel
set_option maxRecDepth 100000 in
theorem d_Rv_tell_41 : decode b_Rv_tell 41 = .ok (.bipush 12, 2) := by decide +kernel
set_option maxRecDepth 100000 in
theorem d_Rv_tell_43 : decode b_Rv_tell 43 = .ok (.irem, 1) := by decide +kernel
set_option maxRecDepth 100000 in
theorem d_Rv_tell_44 : decode b_Rv_tell 44 = .ok (.iaload, 1) := by decide +kernel
set_option maxRecDepth 100000 in
theorem d_Rv_tell_45 : decode b_Rv_tell 45 = .ok (.iastore, 1) := by decide +kernel
set_option maxRecDepth 100000 in
theorem d_Rv_tell_46 : decode b_Rv_tell 46 = .ok (.iinc 5 1, 3) := by decide +kernel
set_option maxRecDepth 100000 in
theorem d_Rv_tell_49 : decode b_Rv_tell 49 = .ok (.goto (-27), 3) := by decide +kernel
set_option maxRecDepth 100000 in
theorem d_Rv_tell_52 : decode b_Rv_tell 52 = .ok (.aload_n 0, 1) := by decide +kernel
set_option maxRecDepth 100000 in
theorem d_Rv_tell_53 : decode b_Rv_tell 53 = .ok (.getfield 19, 3) := by decide +kernel
set_option maxRecDepth 100000 in
theorem d_Rv_tell_56 : decode b_Rv_tell 56 = .ok (.iload_n 1, 1) := by decide +kernel
set_option maxRecDepth 100000 in
theorem d_Rv_tell_57 : decode b_Rv_tell 57 = .ok (.aload 4, 2) := by decide +kernel
set_option maxRecDepth 100000 in
theorem d_Rv_tell_59 : decode b_Rv_tell 59 = .ok (.aastore, 1) := by decide +kernel
set_option maxRecDepth 100000 in
theorem d_Rv_tell_60 : decode b_Rv_tell 60 = .ok (.aload 4, 2) := by decide +kernel
set_option maxRecDepth 100000 in
theorem d_Rv_tell_62 : decode b_Rv_tell 62 = .ok (.iload_n 2, 1) := by decide +kernel
set_option maxRecDepth 100000 in
theorem d_Rv_tell_63 : decode b_Rv_tell 63 = .ok (.iload_n 3, 1) := by decide +kernel
set_option maxRecDepth 100000 in
theorem d_Rv_tell_64 : decode b_Rv_tell 64 = .ok (.iastore, 1) := by decide +kernel
set_option maxRecDepth 100000 in
theorem d_Rv_tell_65 : decode b_Rv_tell 65 = .ok (.return_, 1) := by decide +kernel
set_option maxRecDepth 100000 in
theorem d_Tp_append_0 : decode b_Tp_append 0 = .ok (.aload_n 0, 1) := by decide +kernel
set_option maxRecDepth 100000 in
theorem d_Tp_append_1 : decode b_Tp_append 1 = .ok (.getfield 15, 3) := by decide +kernel
set_option maxRecDepth 100000 in
theorem d_Tp_append_4 : decode b_Tp_append 4 = .ok (.sipush 396, 3) := by decide +kernel
set_option maxRecDepth 100000 in
theorem d_Tp_append_7 : decode b_Tp_append 7 = .ok (.if_icmp .le 4, 3) := by decide +kernel
set_option maxRecDepth 100000 in
theorem d_Tp_append_10 : decode b_Tp_append 10 = .ok (.return_, 1) := by decide +kernel
set_option maxRecDepth 100000 in
theorem d_Tp_append_11 : decode b_Tp_append 11 = .ok (.aload_n 0, 1) := by decide +kernel
set_option maxRecDepth 100000 in
theorem d_Tp_append_12 : decode b_Tp_append 12 = .ok (.getfield 9, 3) := by decide +kernel
set_option maxRecDepth 100000 in
theorem d_Tp_append_15 : decode b_Tp_append 15 = .ok (.aload_n 0, 1) := by decide +kernel
set_option maxRecDepth 100000 in
theorem d_Tp_append_16 : decode b_Tp_append 16 = .ok (.getfield 15, 3) := by decide +kernel
set_option maxRecDepth 100000 in
theorem d_Tp_append_19 : decode b_Tp_append 19 = .ok (.iload_n 1, 1) := by decide +kernel
set_option maxRecDepth 100000 in
theorem d_Tp_append_20 : decode b_Tp_append 20 = .ok (.bipush 24, 2) := by decide +kernel
set_option maxRecDepth 100000 in
theorem d_Tp_append_22 : decode b_Tp_append 22 = .ok (.iushr, 1) := by decide +kernel
set_option maxRecDepth 100000 in
theorem d_Tp_append_23 : decode b_Tp_append 23 = .ok (.i2b, 1) := by decide +kernel
set_option maxRecDepth 100000 in
theorem d_Tp_append_24 : decode b_Tp_append 24 = .ok (.bastore, 1) := by decide +kernel
set_option maxRecDepth 100000 in
theorem d_Tp_append_25 : decode b_Tp_append 25 = .ok (.aload_n 0, 1) := by decide +kernel
set_option maxRecDepth 100000 in
theorem d_Tp_append_26 : decode b_Tp_append 26 = .ok (.getfield 9, 3) := by decide +kernel
set_option maxRecDepth 100000 in
theorem d_Tp_append_29 : decode b_Tp_append 29 = .ok (.aload_n 0, 1) := by decide +kernel
set_option maxRecDepth 100000 in
theorem d_Tp_append_30 : decode b_Tp_append 30 = .ok (.getfield 15, 3) := by decide +kernel
set_option maxRecDepth 100000 in
theorem d_Tp_append_33 : decode b_Tp_append 33 = .ok (.iconst 1, 1) := by decide +kernel
set_option maxRecDepth 100000 in
theorem d_Tp_append_34 : decode b_Tp_append 34 = .ok (.iadd, 1) := by decide +kernel
set_option maxRecDepth 100000 in
theorem d_Tp_append_35 : decode b_Tp_append 35 = .ok (.iload_n 1, 1) := by decide +kernel
set_option maxRecDepth 100000 in
theorem d_Tp_append_36 : decode b_Tp_append 36 = .ok (.bipush 16, 2) := by decide +kernel
set_option maxRecDepth 100000 in
theorem d_Tp_append_38 : decode b_Tp_append 38 = .ok (.iushr, 1) := by decide +kernel
set_option maxRecDepth 100000 in
theorem d_Tp_append_39 : decode b_Tp_append 39 = .ok (.i2b, 1) := by decide +kernel
set_option maxRecDepth 100000 in
theorem d_Tp_append_40 : decode b_Tp_append 40 = .ok (.bastore, 1) := by decide +kernel
set_option maxRecDepth 100000 in
theorem d_Tp_append_41 : decode b_Tp_append 41 = .ok (.aload_n 0, 1) := by decide +kernel
set_option maxRecDepth 100000 in
theorem d_Tp_append_42 : decode b_Tp_append 42 = .ok (.getfield 9, 3) := by decide +kernel
set_option maxRecDepth 100000 in
theorem d_Tp_append_45 : decode b_Tp_append 45 = .ok (.aload_n 0, 1) := by decide +kernel
set_option maxRecDepth 100000 in
theorem d_Tp_append_46 : decode b_Tp_append 46 = .ok (.getfield 15, 3) := by decide +kernel
set_option maxRecDepth 100000 in
theorem d_Tp_append_49 : decode b_Tp_append 49 = .ok (.iconst 2, 1) := by decide +kernel
set_option maxRecDepth 100000 in
theorem d_Tp_append_50 : decode b_Tp_append 50 = .ok (.iadd, 1) := by decide +kernel
set_option maxRecDepth 100000 in
theorem d_Tp_append_51 : decode b_Tp_append 51 = .ok (.iload_n 1, 1) := by decide +kernel
set_option maxRecDepth 100000 in
theorem d_Tp_append_52 : decode b_Tp_append 52 = .ok (.bipush 8, 2) := by decide +kernel
set_option maxRecDepth 100000 in
theorem d_Tp_append_54 : decode b_Tp_append 54 = .ok (.iushr, 1) := by decide +kernel
set_option maxRecDepth 100000 in
theorem d_Tp_append_55 : decode b_Tp_append 55 = .ok (.i2b, 1) := by decide +kernel
set_option maxRecDepth 100000 in
theorem d_Tp_append_56 : decode b_Tp_append 56 = .ok (.bastore, 1) := by decide +kernel
set_option maxRecDepth 100000 in
theorem d_Tp_append_57 : decode b_Tp_append 57 = .ok (.aload_n 0, 1) := by decide +kernel
set_option maxRecDepth 100000 in
theorem d_Tp_append_58 : decode b_Tp_append 58 = .ok (.getfield 9, 3) := by decide +kernel
set_option maxRecDepth 100000 in
theorem d_Tp_append_61 : decode b_Tp_append 61 = .ok (.aload_n 0, 1) := by decide +kernel
set_option maxRecDepth 100000 in
theorem d_Tp_append_62 : decode b_Tp_append 62 = .ok (.getfield 15, 3) := by decide +kernel
set_option maxRecDepth 100000 in
theorem d_Tp_append_65 : decode b_Tp_append 65 = .ok (.iconst 3, 1) := by decide +kernel
set_option maxRecDepth 100000 in
theorem d_Tp_append_66 : decode b_Tp_append 66 = .ok (.iadd, 1) := by decide +kernel
set_option maxRecDepth 100000 in
theorem d_Tp_append_67 : decode b_Tp_append 67 = .ok (.iload_n 1, 1) := by decide +kernel
set_option maxRecDepth 100000 in
theorem d_Tp_append_68 : decode b_Tp_append 68 = .ok (.i2b, 1) := by decide +kernel
set_option maxRecDepth 100000 in
theorem d_Tp_append_69 : decode b_Tp_append 69 = .ok (.bastore, 1) := by decide +kernel
set_option maxRecDepth 100000 in
theorem d_Tp_append_70 : decode b_Tp_append 70 = .ok (.aload_n 0, 1) := by decide +kernel
set_option maxRecDepth 100000 in
theorem d_Tp_append_71 : decode b_Tp_append 71 = .ok (.dup, 1) := by decide +kernel
set_option maxRecDepth 100000 in
theorem d_Tp_append_72 : decode b_Tp_append 72 = .ok (.getfield 15, 3) := by decide +kernel
set_option maxRecDepth 100000 in
theorem d_Tp_append_75 : decode b_Tp_append 75 = .ok (.iconst 4, 1) := by decide +kernel
set_option maxRecDepth 100000 in
theorem d_Tp_append_76 : decode b_Tp_append 76 = .ok (.iadd, 1) := by decide +kernel
set_option maxRecDepth 100000 in
theorem d_Tp_append_77 : decode b_Tp_append 77 = .ok (.putfield 15, 3) := by decide +kernel
set_option maxRecDepth 100000 in
theorem d_Tp_append_80 : decode b_Tp_append 80 = .ok (.return_, 1) := by decide +kernel
set_option maxRecDepth 100000 in
theorem d_Tp_hasRoomForFive_0 : decode b_Tp_hasRoomForFive 0 = .ok (.aload_n 0, 1) := by decide +kernel
set_option maxRecDepth 100000 in
theorem d_Tp_hasRoomForFive_1 : decode b_Tp_hasRoomForFive 1 = .ok (.getfield 15, 3) := by decide +kernel
set_option maxRecDepth 100000 in
theorem d_Tp_hasRoomForFive_4 : decode b_Tp_hasRoomForFive 4 = .ok (.sipush 380, 3) := by decide +kernel
set_option maxRecDepth 100000 in
theorem d_Tp_hasRoomForFive_7 : decode b_Tp_hasRoomForFive 7 = .ok (.if_icmp .gt 7, 3) := by decide +kernel
set_option maxRecDepth 100000 in
theorem d_Tp_hasRoomForFive_10 : decode b_Tp_hasRoomForFive 10 = .ok (.iconst 1, 1) := by decide +kernel
set_option maxRecDepth 100000 in
theorem d_Tp_hasRoomForFive_11 : decode b_Tp_hasRoomForFive 11 = .ok (.goto 4, 3) := by decide +kernel
set_option maxRecDepth 100000 in
theorem d_Tp_hasRoomForFive_14 : decode b_Tp_hasRoomForFive 14 = .ok (.iconst 0, 1) := by decide +kernel
set_option maxRecDepth 100000 in
theorem d_Tp_hasRoomForFive_15 : decode b_Tp_hasRoomForFive 15 = .ok (.ireturn, 1) := by decide +kernel
set_option maxRecDepth 100000 in
theorem d_Tp_isDigit_0 : decode b_Tp_isDigit 0 = .ok (.iload_n 0, 1) := by decide +kernel
set_option maxRecDepth 100000 in
theorem d_Tp_isDigit_1 : decode b_Tp_isDigit 1 = .ok (.bipush 48, 2) := by decide +kernel
set_option maxRecDepth 100000 in
theorem d_Tp_isDigit_3 : decode b_Tp_isDigit 3 = .ok (.if_icmp .lt 13, 3) := by decide +kernel
set_option maxRecDepth 100000 in
theorem d_Tp_isDigit_6 : decode b_Tp_isDigit 6 = .ok (.iload_n 0, 1) := by decide +kernel
set_option maxRecDepth 100000 in
theorem d_Tp_isDigit_7 : decode b_Tp_isDigit 7 = .ok (.bipush 57, 2) := by decide +kernel
set_option maxRecDepth 100000 in
theorem d_Tp_isDigit_9 : decode b_Tp_isDigit 9 = .ok (.if_icmp .gt 7, 3) := by decide +kernel
set_option maxRecDepth 100000 in
theorem d_Tp_isDigit_12 : decode b_Tp_isDigit 12 = .ok (.iconst 1, 1) := by decide +kernel
set_option maxRecDepth 100000 in
theorem d_Tp_isDigit_13 : decode b_Tp_isDigit 13 = .ok (.goto 4, 3) := by decide +kernel
set_option maxRecDepth 100000 in
theorem d_Tp_isDigit_16 : decode b_Tp_isDigit 16 = .ok (.iconst 0, 1) := by decide +kernel
set_option maxRecDepth 100000 in
theorem d_Tp_isDigit_17 : decode b_Tp_isDigit 17 = .ok (.ireturn, 1) := by decide +kernel
set_option maxRecDepth 100000 in
theorem d_Tp_isLetter_0 : decode b_Tp_isLetter 0 = .ok (.iload_n 0, 1) := by decide +kernel
set_option maxRecDepth 100000 in
theorem d_Tp_isLetter_1 : decode b_Tp_isLetter 1 = .ok (.bipush 97, 2) := by decide +kernel
set_option maxRecDepth 100000 in
theorem d_Tp_isLetter_3 : decode b_Tp_isLetter 3 = .ok (.if_icmp .lt 13, 3) := by decide +kernel
set_option maxRecDepth 100000 in
theorem d_Tp_isLetter_6 : decode b_Tp_isLetter 6 = .ok (.iload_n 0, 1) := by decide +kernel
set_option maxRecDepth 100000 in
theorem d_Tp_isLetter_7 : decode b_Tp_isLetter 7 = .ok (.bipush 122, 2) := by decide +kernel
set_option maxRecDepth 100000 in
theorem d_Tp_isLetter_9 : decode b_Tp_isLetter 9 = .ok (.if_icmp .gt 7, 3) := by decide +kernel
set_option maxRecDepth 100000 in
theorem d_Tp_isLetter_12 : decode b_Tp_isLetter 12 = .ok (.iconst 1, 1) := by decide +kernel
set_option maxRecDepth 100000 in
theorem d_Tp_isLetter_13 : decode b_Tp_isLetter 13 = .ok (.goto 4, 3) := by decide +kernel
set_option maxRecDepth 100000 in
theorem d_Tp_isLetter_16 : decode b_Tp_isLetter 16 = .ok (.iconst 0, 1) := by decide +kernel
set_option maxRecDepth 100000 in
theorem d_Tp_isLetter_17 : decode b_Tp_isLetter 17 = .ok (.ireturn, 1) := by decide +kernel
set_option maxRecDepth 100000 in
theorem d_Tp_isWord_0 : decode b_Tp_isWord 0 = .ok (.aload_n 0, 1) := by decide +kernel
set_option maxRecDepth 100000 in
theorem d_Tp_isWord_1 : decode b_Tp_isWord 1 = .ok (.getfield 24, 3) := by decide +kernel
set_option maxRecDepth 100000 in
theorem d_Tp_isWord_4 : decode b_Tp_isWord 4 = .ok (.aload_n 0, 1) := by decide +kernel
set_option maxRecDepth 100000 in
theorem d_Tp_isWord_5 : decode b_Tp_isWord 5 = .ok (.getfield 34, 3) := by decide +kernel
set_option maxRecDepth 100000 in
theorem d_Tp_isWord_8 : decode b_Tp_isWord 8 = .ok (.isub, 1) := by decide +kernel
set_option maxRecDepth 100000 in
theorem d_Tp_isWord_9 : decode b_Tp_isWord 9 = .ok (.aload_n 1, 1) := by decide +kernel
set_option maxRecDepth 100000 in
theorem d_Tp_isWord_10 : decode b_Tp_isWord 10 = .ok (.invokevirtual 88, 3) := by decide +kernel
set_option maxRecDepth 100000 in
theorem d_Tp_isWord_13 : decode b_Tp_isWord 13 = .ok (.if_icmp .eq 5, 3) := by decide +kernel
set_option maxRecDepth 100000 in
theorem d_Tp_isWord_16 : decode b_Tp_isWord 16 = .ok (.iconst 0, 1) := by decide +kernel
set_option maxRecDepth 100000 in
theorem d_Tp_isWord_17 : decode b_Tp_isWord 17 = .ok (.ireturn, 1) := by decide +kernel
set_option maxRecDepth 100000 in
theorem d_Tp_isWord_18 : decode b_Tp_isWord 18 = .ok (.iconst 0, 1) := by decide +kernel
set_option maxRecDepth 100000 in
theorem d_Tp_isWord_19 : decode b_Tp_isWord 19 = .ok (.istore_n 2, 1) := by decide +kernel
set_option maxRecDepth 100000 in
theorem d_Tp_isWord_20 : decode b_Tp_isWord 20 = .ok (.iload_n 2, 1) := by decide +kernel
set_option maxRecDepth 100000 in
theorem d_Tp_isWord_21 : decode b_Tp_isWord 21 = .ok (.aload_n 1, 1) := by decide +kernel
set_option maxRecDepth 100000 in
theorem d_Tp_isWord_22 : decode b_Tp_isWord 22 = .ok (.invokevirtual 88, 3) := by decide +kernel
set_option maxRecDepth 100000 in
theorem d_Tp_isWord_25 : decode b_Tp_isWord 25 = .ok (.if_icmp .ge 30, 3) := by decide +kernel
set_option maxRecDepth 100000 in
theorem d_Tp_isWord_28 : decode b_Tp_isWord 28 = .ok (.aload_n 0, 1) := by decide +kernel
set_option maxRecDepth 100000 in
theorem d_Tp_isWord_29 : decode b_Tp_isWord 29 = .ok (.getfield 9, 3) := by decide +kernel
set_option maxRecDepth 100000 in
theorem d_Tp_isWord_32 : decode b_Tp_isWord 32 = .ok (.aload_n 0, 1) := by decide +kernel
set_option maxRecDepth 100000 in
theorem d_Tp_isWord_33 : decode b_Tp_isWord 33 = .ok (.getfield 34, 3) := by decide +kernel
set_option maxRecDepth 100000 in
theorem d_Tp_isWord_36 : decode b_Tp_isWord 36 = .ok (.iload_n 2, 1) := by decide +kernel
set_option maxRecDepth 100000 in
theorem d_Tp_isWord_37 : decode b_Tp_isWord 37 = .ok (.iadd, 1) := by decide +kernel
set_option maxRecDepth 100000 in
theorem d_Tp_isWord_38 : decode b_Tp_isWord 38 = .ok (.baload, 1) := by decide +kernel
set_option maxRecDepth 100000 in
theorem d_Tp_isWord_39 : decode b_Tp_isWord 39 = .ok (.aload_n 1, 1) := by decide +kernel
set_option maxRecDepth 100000 in
theorem d_Tp_isWord_40 : decode b_Tp_isWord 40 = .ok (.iload_n 2, 1) := by decide +kernel
set_option maxRecDepth 100000 in
theorem d_Tp_isWord_41 : decode b_Tp_isWord 41 = .ok (.invokevirtual 92, 3) := by decide +kernel
set_option maxRecDepth 100000 in
theorem d_Tp_isWord_44 : decode b_Tp_isWord 44 = .ok (.if_icmp .eq 5, 3) := by decide +kernel
set_option maxRecDepth 100000 in
theorem d_Tp_isWord_47 : decode b_Tp_isWord 47 = .ok (.iconst 0, 1) := by decide +kernel
set_option maxRecDepth 100000 in
theorem d_Tp_isWord_48 : decode b_Tp_isWord 48 = .ok (.ireturn, 1) := by decide +kernel
set_option maxRecDepth 100000 in
theorem d_Tp_isWord_49 : decode b_Tp_isWord 49 = .ok (.iinc 2 1, 3) := by decide +kernel
set_option maxRecDepth 100000 in
theorem d_Tp_isWord_52 : decode b_Tp_isWord 52 = .ok (.goto (-32), 3) := by decide +kernel
set_option maxRecDepth 100000 in
theorem d_Tp_isWord_55 : decode b_Tp_isWord 55 = .ok (.iconst 1, 1) := by decide +kernel
set_option maxRecDepth 100000 in
theorem d_Tp_isWord_56 : decode b_Tp_isWord 56 = .ok (.ireturn, 1) := by decide +kernel
set_option maxRecDepth 100000 in
theorem d_Tp_kindOfLine_0 : decode b_Tp_kindOfLine 0 = .ok (.aload_n 0, 1) := by decide +kernel
set_option maxRecDepth 100000 in
theorem d_Tp_kindOfLine_1 : decode b_Tp_kindOfLine 1 = .ok (.ldc 70, 2) := by decide +kernel
set_option maxRecDepth 100000 in
theorem d_Tp_kindOfLine_3 : decode b_Tp_kindOfLine 3 = .ok (.invokevirtual 67, 3) := by decide +kernel
set_option maxRecDepth 100000 in
theorem d_Tp_kindOfLine_6 : decode b_Tp_kindOfLine 6 = .ok (.ifCond .eq 5, 3) := by decide +kernel
set_option maxRecDepth 100000 in
theorem d_Tp_kindOfLine_9 : decode b_Tp_kindOfLine 9 = .ok (.iconst 0, 1) := by decide +kernel
set_option maxRecDepth 100000 in
theorem d_Tp_kindOfLine_10 : decode b_Tp_kindOfLine 10 = .ok (.ireturn, 1) := by decide +kernel
set_option maxRecDepth 100000 in
theorem d_Tp_kindOfLine_11 : decode b_Tp_kindOfLine 11 = .ok (.aload_n 0, 1) := by decide +kernel
set_option maxRecDepth 100000 in
theorem d_Tp_kindOfLine_12 : decode b_Tp_kindOfLine 12 = .ok (.ldc 72, 2) := by decide +kernel
set_option maxRecDepth 100000 in
theorem d_Tp_kindOfLine_14 : decode b_Tp_kindOfLine 14 = .ok (.invokevirtual 67, 3) := by decide +kernel
set_option maxRecDepth 100000 in
theorem d_Tp_kindOfLine_17 : decode b_Tp_kindOfLine 17 = .ok (.ifCond .eq 5, 3) := by decide +kernel
set_option maxRecDepth 100000 in
theorem d_Tp_kindOfLine_20 : decode b_Tp_kindOfLine 20 = .ok (.iconst 1, 1) := by decide +kernel
set_option maxRecDepth 100000 in
theorem d_Tp_kindOfLine_21 : decode b_Tp_kindOfLine 21 = .ok (.ireturn, 1) := by decide +kernel
set_option maxRecDepth 100000 in
theorem d_Tp_kindOfLine_22 : decode b_Tp_kindOfLine 22 = .ok (.aload_n 0, 1) := by decide +kernel
set_option maxRecDepth 100000 in
theorem d_Tp_kindOfLine_23 : decode b_Tp_kindOfLine 23 = .ok (.ldc 74, 2) := by decide +kernel
set_option maxRecDepth 100000 in
theorem d_Tp_kindOfLine_25 : decode b_Tp_kindOfLine 25 = .ok (.invokevirtual 67, 3) := by decide +kernel
set_option maxRecDepth 100000 in
theorem d_Tp_kindOfLine_28 : decode b_Tp_kindOfLine 28 = .ok (.ifCond .eq 5, 3) := by decide +kernel
set_option maxRecDepth 100000 in
theorem d_Tp_kindOfLine_31 : decode b_Tp_kindOfLine 31 = .ok (.iconst 2, 1) := by decide +kernel
set_option maxRecDepth 100000 in
theorem d_Tp_kindOfLine_32 : decode b_Tp_kindOfLine 32 = .ok (.ireturn, 1) := by decide +kernel
set_option maxRecDepth 100000 in
theorem d_Tp_kindOfLine_33 : decode b_Tp_kindOfLine 33 = .ok (.aload_n 0, 1) := by decide +kernel
set_option maxRecDepth 100000 in
theorem d_Tp_kindOfLine_34 : decode b_Tp_kindOfLine 34 = .ok (.ldc 76, 2) := by decide +kernel
set_option maxRecDepth 100000 in
theorem d_Tp_kindOfLine_36 : decode b_Tp_kindOfLine 36 = .ok (.invokevirtual 67, 3) := by decide +kernel
set_option maxRecDepth 100000 in
theorem d_Tp_kindOfLine_39 : decode b_Tp_kindOfLine 39 = .ok (.ifCond .eq 5, 3) := by decide +kernel
set_option maxRecDepth 100000 in
theorem d_Tp_kindOfLine_42 : decode b_Tp_kindOfLine 42 = .ok (.iconst 3, 1) := by decide +kernel
set_option maxRecDepth 100000 in
theorem d_Tp_kindOfLine_43 : decode b_Tp_kindOfLine 43 = .ok (.ireturn, 1) := by decide +kernel
set_option maxRecDepth 100000 in
theorem d_Tp_kindOfLine_44 : decode b_Tp_kindOfLine 44 = .ok (.aload_n 0, 1) := by decide +kernel
set_option maxRecDepth 100000 in
theorem d_Tp_kindOfLine_45 : decode b_Tp_kindOfLine 45 = .ok (.ldc 78, 2) := by decide +kernel
set_option maxRecDepth 100000 in
theorem d_Tp_kindOfLine_47 : decode b_Tp_kindOfLine 47 = .ok (.invokevirtual 67, 3) := by decide +kernel
set_option maxRecDepth 100000 in
theorem d_Tp_kindOfLine_50 : decode b_Tp_kindOfLine 50 = .ok (.ifCond .eq 5, 3) := by decide +kernel
set_option maxRecDepth 100000 in
theorem d_Tp_kindOfLine_53 : decode b_Tp_kindOfLine 53 = .ok (.iconst 4, 1) := by decide +kernel
set_option maxRecDepth 100000 in
theorem d_Tp_kindOfLine_54 : decode b_Tp_kindOfLine 54 = .ok (.ireturn, 1) := by decide +kernel
set_option maxRecDepth 100000 in
theorem d_Tp_kindOfLine_55 : decode b_Tp_kindOfLine 55 = .ok (.aload_n 0, 1) := by decide +kernel
set_option maxRecDepth 100000 in
theorem d_Tp_kindOfLine_56 : decode b_Tp_kindOfLine 56 = .ok (.ldc 80, 2) := by decide +kernel
set_option maxRecDepth 100000 in
theorem d_Tp_kindOfLine_58 : decode b_Tp_kindOfLine 58 = .ok (.invokevirtual 67, 3) := by decide +kernel
set_option maxRecDepth 100000 in
theorem d_Tp_kindOfLine_61 : decode b_Tp_kindOfLine 61 = .ok (.ifCond .eq 5, 3) := by decide +kernel
set_option maxRecDepth 100000 in
theorem d_Tp_kindOfLine_64 : decode b_Tp_kindOfLine 64 = .ok (.iconst 5, 1) := by decide +kernel
set_option maxRecDepth 100000 in
theorem d_Tp_kindOfLine_65 : decode b_Tp_kindOfLine 65 = .ok (.ireturn, 1) := by decide +kernel
set_option maxRecDepth 100000 in
theorem d_Tp_kindOfLine_66 : decode b_Tp_kindOfLine 66 = .ok (.aload_n 0, 1) := by decide +kernel
set_option maxRecDepth 100000 in
theorem d_Tp_kindOfLine_67 : decode b_Tp_kindOfLine 67 = .ok (.ldc 82, 2) := by decide +kernel
set_option maxRecDepth 100000 in
theorem d_Tp_kindOfLine_69 : decode b_Tp_kindOfLine 69 = .ok (.invokevirtual 67, 3) := by decide +kernel
set_option maxRecDepth 100000 in
theorem d_Tp_kindOfLine_72 : decode b_Tp_kindOfLine 72 = .ok (.ifCond .eq 6, 3) := by decide +kernel
set_option maxRecDepth 100000 in
theorem d_Tp_kindOfLine_75 : decode b_Tp_kindOfLine 75 = .ok (.bipush 6, 2) := by decide +kernel
set_option maxRecDepth 100000 in
theorem d_Tp_kindOfLine_77 : decode b_Tp_kindOfLine 77 = .ok (.ireturn, 1) := by decide +kernel
set_option maxRecDepth 100000 in
theorem d_Tp_kindOfLine_78 : decode b_Tp_kindOfLine 78 = .ok (.aload_n 0, 1) := by decide +kernel
set_option maxRecDepth 100000 in
theorem d_Tp_kindOfLine_79 : decode b_Tp_kindOfLine 79 = .ok (.ldc 84, 2) := by decide +kernel
set_option maxRecDepth 100000 in
theorem d_Tp_kindOfLine_81 : decode b_Tp_kindOfLine 81 = .ok (.invokevirtual 67, 3) := by decide +kernel
set_option maxRecDepth 100000 in
theorem d_Tp_kindOfLine_84 : decode b_Tp_kindOfLine 84 = .ok (.ifCond .eq 6, 3) := by decide +kernel
set_option maxRecDepth 100000 in
theorem d_Tp_kindOfLine_87 : decode b_Tp_kindOfLine 87 = .ok (.bipush 7, 2) := by decide +kernel
set_option maxRecDepth 100000 in
theorem d_Tp_kindOfLine_89 : decode b_Tp_kindOfLine 89 = .ok (.ireturn, 1) := by decide +kernel
set_option maxRecDepth 100000 in
theorem d_Tp_kindOfLine_90 : decode b_Tp_kindOfLine 90 = .ok (.aload_n 0, 1) := by decide +kernel
set_option maxRecDepth 100000 in
theorem d_Tp_kindOfLine_91 : decode b_Tp_kindOfLine 91 = .ok (.ldc 86, 2) := by decide +kernel
set_option maxRecDepth 100000 in
theorem d_Tp_kindOfLine_93 : decode b_Tp_kindOfLine 93 = .ok (.invokevirtual 67, 3) := by decide +kernel
set_option maxRecDepth 100000 in
theorem d_Tp_kindOfLine_96 : decode b_Tp_kindOfLine 96 = .ok (.ifCond .eq 8, 3) := by decide +kernel
set_option maxRecDepth 100000 in
theorem d_Tp_kindOfLine_99 : decode b_Tp_kindOfLine 99 = .ok (.bipush 8, 2) := by decide +kernel
set_option maxRecDepth 100000 in
theorem d_Tp_kindOfLine_101 : decode b_Tp_kindOfLine 101 = .ok (.goto 4, 3) := by decide +kernel
set_option maxRecDepth 100000 in
theorem d_Tp_kindOfLine_104 : decode b_Tp_kindOfLine 104 = .ok (.iconst (-1), 1) := by decide +kernel
set_option maxRecDepth 100000 in
theorem d_Tp_kindOfLine_105 : decode b_Tp_kindOfLine 105 = .ok (.ireturn, 1) := by decide +kernel
set_option maxRecDepth 100000 in
theorem d_Tp_passDigits_0 : decode b_Tp_passDigits 0 = .ok (.aload_n 0, 1) := by decide +kernel
set_option maxRecDepth 100000 in
theorem d_Tp_passDigits_1 : decode b_Tp_passDigits 1 = .ok (.getfield 24, 3) := by decide +kernel
set_option maxRecDepth 100000 in
theorem d_Tp_passDigits_4 : decode b_Tp_passDigits 4 = .ok (.aload_n 0, 1) := by decide +kernel
set_option maxRecDepth 100000 in
theorem d_Tp_passDigits_5 : decode b_Tp_passDigits 5 = .ok (.getfield 15, 3) := by decide +kernel
set_option maxRecDepth 100000 in
theorem d_Tp_passDigits_8 : decode b_Tp_passDigits 8 = .ok (.if_icmp .ge 55, 3) := by decide +kernel
set_option maxRecDepth 100000 in
theorem d_Tp_passDigits_11 : decode b_Tp_passDigits 11 = .ok (.aload_n 0, 1) := by decide +kernel
set_option maxRecDepth 100000 in
theorem d_Tp_passDigits_12 : decode b_Tp_passDigits 12 = .ok (.getfield 9, 3) := by decide +kernel
set_option maxRecDepth 100000 in
theorem d_Tp_passDigits_15 : decode b_Tp_passDigits 15 = .ok (.aload_n 0, 1) := by decide +kernel
set_option maxRecDepth 100000 in
theorem d_Tp_passDigits_16 : decode b_Tp_passDigits 16 = .ok (.getfield 24, 3) := by decide +kernel
set_option maxRecDepth 100000 in
theorem d_Tp_passDigits_19 : decode b_Tp_passDigits 19 = .ok (.baload, 1) := by decide +kernel
set_option maxRecDepth 100000 in
theorem d_Tp_passDigits_20 : decode b_Tp_passDigits 20 = .ok (.invokestatic 103, 3) := by decide +kernel
set_option maxRecDepth 100000 in
theorem d_Tp_passDigits_23 : decode b_Tp_passDigits 23 = .ok (.ifCond .eq 40, 3) := by decide +kernel
set_option maxRecDepth 100000 in
theorem d_Tp_passDigits_26 : decode b_Tp_passDigits 26 = .ok (.aload_n 0, 1) := by decide +kernel
set_option maxRecDepth 100000 in
theorem d_Tp_passDigits_27 : decode b_Tp_passDigits 27 = .ok (.aload_n 0, 1) := by decide +kernel
set_option maxRecDepth 100000 in
theorem d_Tp_passDigits_28 : decode b_Tp_passDigits 28 = .ok (.getfield 48, 3) := by decide +kernel
set_option maxRecDepth 100000 in
theorem d_Tp_passDigits_31 : decode b_Tp_passDigits 31 = .ok (.bipush 10, 2) := by decide +kernel
set_option maxRecDepth 100000 in
theorem d_Tp_passDigits_33 : decode b_Tp_passDigits 33 = .ok (.imul, 1) := by decide +kernel
set_option maxRecDepth 100000 in
theorem d_Tp_passDigits_34 : decode b_Tp_passDigits 34 = .ok (.aload_n 0, 1) := by decide +kernel
set_option maxRecDepth 100000 in
theorem d_Tp_passDigits_35 : decode b_Tp_passDigits 35 = .ok (.getfield 9, 3) := by decide +kernel
set_option maxRecDepth 100000 in
theorem d_Tp_passDigits_38 : decode b_Tp_passDigits 38 = .ok (.aload_n 0, 1) := by decide +kernel
set_option maxRecDepth 100000 in
theorem d_Tp_passDigits_39 : decode b_Tp_passDigits 39 = .ok (.getfield 24, 3) := by decide +kernel
set_option maxRecDepth 100000 in
theorem d_Tp_passDigits_42 : decode b_Tp_passDigits 42 = .ok (.baload, 1) := by decide +kernel
set_option maxRecDepth 100000 in
theorem d_Tp_passDigits_43 : decode b_Tp_passDigits 43 = .ok (.bipush 48, 2) := by decide +kernel
set_option maxRecDepth 100000 in
theorem d_Tp_passDigits_45 : decode b_Tp_passDigits 45 = .ok (.isub, 1) := by decide +kernel
set_option maxRecDepth 100000 in
theorem d_Tp_passDigits_46 : decode b_Tp_passDigits 46 = .ok (.iadd, 1) := by decide +kernel
set_option maxRecDepth 100000 in
theorem d_Tp_passDigits_47 : decode b_Tp_passDigits 47 = .ok (.putfield 48, 3) := by decide +kernel
set_option maxRecDepth 100000 in
theorem d_Tp_passDigits_50 : decode b_Tp_passDigits 50 = .ok (.aload_n 0, 1) := by decide +kernel
set_option maxRecDepth 100000 in
theorem d_Tp_passDigits_51 : decode b_Tp_passDigits 51 = .ok (.dup, 1) := by decide +kernel
set_option maxRecDepth 100000 in
theorem d_Tp_passDigits_52 : decode b_Tp_passDigits 52 = .ok (.getfield 24, 3) := by decide +kernel
set_option maxRecDepth 100000 in
theorem d_Tp_passDigits_55 : decode b_Tp_passDigits 55 = .ok (.iconst 1, 1) := by decide +kernel
set_option maxRecDepth 100000 in
theorem d_Tp_passDigits_56 : decode b_Tp_passDigits 56 = .ok (.iadd, 1) := by decide +kernel
set_option maxRecDepth 100000 in
theorem d_Tp_passDigits_57 : decode b_Tp_passDigits 57 = .ok (.putfield 24, 3) := by decide +kernel
set_option maxRecDepth 100000 in
theorem d_Tp_passDigits_60 : decode b_Tp_passDigits 60 = .ok (.goto (-60), 3) := by decide +kernel
set_option maxRecDepth 100000 in
theorem d_Tp_passDigits_63 : decode b_Tp_passDigits 63 = .ok (.return_, 1) := by decide +kernel
set_option maxRecDepth 100000 in
theorem d_Tp_passLetters_0 : decode b_Tp_passLetters 0 = .ok (.aload_n 0, 1) := by decide +kernel
set_option maxRecDepth 100000 in
theorem d_Tp_passLetters_1 : decode b_Tp_passLetters 1 = .ok (.getfield 24, 3) := by decide +kernel
set_option maxRecDepth 100000 in
theorem d_Tp_passLetters_4 : decode b_Tp_passLetters 4 = .ok (.aload_n 0, 1) := by decide +kernel
set_option maxRecDepth 100000 in
theorem d_Tp_passLetters_5 : decode b_Tp_passLetters 5 = .ok (.getfield 15, 3) := by decide +kernel
set_option maxRecDepth 100000 in
theorem d_Tp_passLetters_8 : decode b_Tp_passLetters 8 = .ok (.if_icmp .ge 31, 3) := by decide +kernel
set_option maxRecDepth 100000 in
theorem d_Tp_passLetters_11 : decode b_Tp_passLetters 11 = .ok (.aload_n 0, 1) := by decide +kernel
set_option maxRecDepth 100000 in
theorem d_Tp_passLetters_12 : decode b_Tp_passLetters 12 = .ok (.getfield 9, 3) := by decide +kernel
set_option maxRecDepth 100000 in
theorem d_Tp_passLetters_15 : decode b_Tp_passLetters 15 = .ok (.aload_n 0, 1) := by decide +kernel
set_option maxRecDepth 100000 in
theorem d_Tp_passLetters_16 : decode b_Tp_passLetters 16 = .ok (.getfield 24, 3) := by decide +kernel
set_option maxRecDepth 100000 in
theorem d_Tp_passLetters_19 : decode b_Tp_passLetters 19 = .ok (.baload, 1) := by decide +kernel
set_option maxRecDepth 100000 in
theorem d_Tp_passLetters_20 : decode b_Tp_passLetters 20 = .ok (.invokestatic 96, 3) := by decide +kernel
set_option maxRecDepth 100000 in
theorem d_Tp_passLetters_23 : decode b_Tp_passLetters 23 = .ok (.ifCond .eq 16, 3) := by decide +kernel
set_option maxRecDepth 100000 in
theorem d_Tp_passLetters_26 : decode b_Tp_passLetters 26 = .ok (.aload_n 0, 1) := by decide +kernel
set_option maxRecDepth 100000 in
theorem d_Tp_passLetters_27 : decode b_Tp_passLetters 27 = .ok (.dup, 1) := by decide +kernel
set_option maxRecDepth 100000 in
theorem d_Tp_passLetters_28 : decode b_Tp_passLetters 28 = .ok (.getfield 24, 3) := by decide +kernel
set_option maxRecDepth 100000 in
theorem d_Tp_passLetters_31 : decode b_Tp_passLetters 31 = .ok (.iconst 1, 1) := by decide +kernel
set_option maxRecDepth 100000 in
theorem d_Tp_passLetters_32 : decode b_Tp_passLetters 32 = .ok (.iadd, 1) := by decide +kernel
set_option maxRecDepth 100000 in
theorem d_Tp_passLetters_33 : decode b_Tp_passLetters 33 = .ok (.putfield 24, 3) := by decide +kernel
set_option maxRecDepth 100000 in
theorem d_Tp_passLetters_36 : decode b_Tp_passLetters 36 = .ok (.goto (-36), 3) := by decide +kernel
set_option maxRecDepth 100000 in
theorem d_Tp_passLetters_39 : decode b_Tp_passLetters 39 = .ok (.return_, 1) := by decide +kernel
set_option maxRecDepth 100000 in
theorem d_Tp_readInto_0 : decode b_Tp_readInto 0 = .ok (.aload_n 1, 1) := by decide +kernel
set_option maxRecDepth 100000 in
theorem d_Tp_readInto_1 : decode b_Tp_readInto 1 = .ok (.invokevirtual 19, 3) := by decide +kernel
set_option maxRecDepth 100000 in
theorem d_Tp_readInto_4 : decode b_Tp_readInto 4 = .ok (.aload_n 0, 1) := by decide +kernel
set_option maxRecDepth 100000 in
theorem d_Tp_readInto_5 : decode b_Tp_readInto 5 = .ok (.iconst 0, 1) := by decide +kernel
set_option maxRecDepth 100000 in
theorem d_Tp_readInto_6 : decode b_Tp_readInto 6 = .ok (.putfield 24, 3) := by decide +kernel
set_option maxRecDepth 100000 in
theorem d_Tp_readInto_9 : decode b_Tp_readInto 9 = .ok (.aload_n 0, 1) := by decide +kernel
set_option maxRecDepth 100000 in
theorem d_Tp_readInto_10 : decode b_Tp_readInto 10 = .ok (.invokevirtual 27, 3) := by decide +kernel
set_option maxRecDepth 100000 in
theorem d_Tp_readInto_13 : decode b_Tp_readInto 13 = .ok (.iconst 0, 1) := by decide +kernel
set_option maxRecDepth 100000 in
theorem d_Tp_readInto_14 : decode b_Tp_readInto 14 = .ok (.istore_n 2, 1) := by decide +kernel
set_option maxRecDepth 100000 in
theorem d_Tp_readInto_15 : decode b_Tp_readInto 15 = .ok (.iload_n 2, 1) := by decide +kernel
set_option maxRecDepth 100000 in
theorem d_Tp_readInto_16 : decode b_Tp_readInto 16 = .ok (.sipush 400, 3) := by decide +kernel
set_option maxRecDepth 100000 in
theorem d_Tp_readInto_19 : decode b_Tp_readInto 19 = .ok (.if_icmp .gt 31, 3) := by decide +kernel
set_option maxRecDepth 100000 in
theorem d_Tp_readInto_22 : decode b_Tp_readInto 22 = .ok (.aload_n 0, 1) := by decide +kernel
set_option maxRecDepth 100000 in
theorem d_Tp_readInto_23 : decode b_Tp_readInto 23 = .ok (.aload_n 1, 1) := by decide +kernel
set_option maxRecDepth 100000 in
theorem d_Tp_readInto_24 : decode b_Tp_readInto 24 = .ok (.invokevirtual 30, 3) := by decide +kernel
set_option maxRecDepth 100000 in
theorem d_Tp_readInto_27 : decode b_Tp_readInto 27 = .ok (.ifCond .ne 8, 3) := by decide +kernel
set_option maxRecDepth 100000 in
theorem d_Tp_readInto_30 : decode b_Tp_readInto 30 = .ok (.aload_n 0, 1) := by decide +kernel
set_option maxRecDepth 100000 in
theorem d_Tp_readInto_31 : decode b_Tp_readInto 31 = .ok (.getfield 34, 3) := by decide +kernel
set_option maxRecDepth 100000 in
theorem d_Tp_readInto_34 : decode b_Tp_readInto 34 = .ok (.ireturn, 1) := by decide +kernel
set_option maxRecDepth 100000 in
theorem d_Tp_readInto_35 : decode b_Tp_readInto 35 = .ok (.aload_n 0, 1) := by decide +kernel
set_option maxRecDepth 100000 in
theorem d_Tp_readInto_36 : decode b_Tp_readInto 36 = .ok (.getfield 37, 3) := by decide +kernel
set_option maxRecDepth 100000 in
theorem d_Tp_readInto_39 : decode b_Tp_readInto 39 = .ok (.ifCond .ne 5, 3) := by decide +kernel
set_option maxRecDepth 100000 in
theorem d_Tp_readInto_42 : decode b_Tp_readInto 42 = .ok (.iconst (-1), 1) := by decide +kernel
set_option maxRecDepth 100000 in
theorem d_Tp_readInto_43 : decode b_Tp_readInto 43 = .ok (.ireturn, 1) := by decide +kernel
set_option maxRecDepth 100000 in
theorem d_Tp_readInto_44 : decode b_Tp_readInto 44 = .ok (.iinc 2 1, 3) := by decide +kernel
set_option maxRecDepth 100000 in
theorem d_Tp_readInto_47 : decode b_Tp_readInto 47 = .ok (.goto (-32), 3) := by decide +kernel
set_option maxRecDepth 100000 in
theorem d_Tp_readInto_50 : decode b_Tp_readInto 50 = .ok (.aload_n 0, 1) := by decide +kernel
set_option maxRecDepth 100000 in
theorem d_Tp_readInto_51 : decode b_Tp_readInto 51 = .ok (.getfield 34, 3) := by decide +kernel
set_option maxRecDepth 100000 in
theorem d_Tp_readInto_54 : decode b_Tp_readInto 54 = .ok (.ireturn, 1) := by decide +kernel
set_option maxRecDepth 100000 in
theorem d_Tp_readLine_0 : decode b_Tp_readLine 0 = .ok (.aload_n 0, 1) := by decide +kernel
set_option maxRecDepth 100000 in
theorem d_Tp_readLine_1 : decode b_Tp_readLine 1 = .ok (.getfield 37, 3) := by decide +kernel
set_option maxRecDepth 100000 in
theorem d_Tp_readLine_4 : decode b_Tp_readLine 4 = .ok (.iconst 1, 1) := by decide +kernel
set_option maxRecDepth 100000 in
theorem d_Tp_readLine_5 : decode b_Tp_readLine 5 = .ok (.if_icmp .ne 10, 3) := by decide +kernel
set_option maxRecDepth 100000 in
theorem d_Tp_readLine_8 : decode b_Tp_readLine 8 = .ok (.aload_n 0, 1) := by decide +kernel
set_option maxRecDepth 100000 in
theorem d_Tp_readLine_9 : decode b_Tp_readLine 9 = .ok (.invokevirtual 40, 3) := by decide +kernel
set_option maxRecDepth 100000 in
theorem d_Tp_readLine_12 : decode b_Tp_readLine 12 = .ok (.goto 4, 3) := by decide +kernel
set_option maxRecDepth 100000 in
theorem d_Tp_readLine_15 : decode b_Tp_readLine 15 = .ok (.iconst (-1), 1) := by decide +kernel
set_option maxRecDepth 100000 in
theorem d_Tp_readLine_16 : decode b_Tp_readLine 16 = .ok (.istore_n 2, 1) := by decide +kernel
set_option maxRecDepth 100000 in
theorem d_Tp_readLine_17 : decode b_Tp_readLine 17 = .ok (.iload_n 2, 1) := by decide +kernel
set_option maxRecDepth 100000 in
theorem d_Tp_readLine_18 : decode b_Tp_readLine 18 = .ok (.iconst (-1), 1) := by decide +kernel
set_option maxRecDepth 100000 in
theorem d_Tp_readLine_19 : decode b_Tp_readLine 19 = .ok (.if_icmp .eq 11, 3) := by decide +kernel
set_option maxRecDepth 100000 in
theorem d_Tp_readLine_22 : decode b_Tp_readLine 22 = .ok (.aload_n 1, 1) := by decide +kernel
set_option maxRecDepth 100000 in
theorem d_Tp_readLine_23 : decode b_Tp_readLine 23 = .ok (.iload_n 2, 1) := by decide +kernel
set_option maxRecDepth 100000 in
theorem d_Tp_readLine_24 : decode b_Tp_readLine 24 = .ok (.invokevirtual 44, 3) := by decide +kernel
set_option maxRecDepth 100000 in
theorem d_Tp_readLine_27 : decode b_Tp_readLine 27 = .ok (.ifCond .ne 5, 3) := by decide +kernel
set_option maxRecDepth 100000 in
theorem d_Tp_readLine_30 : decode b_Tp_readLine 30 = .ok (.iconst 0, 1) := by decide +kernel
set_option maxRecDepth 100000 in
theorem d_Tp_readLine_31 : decode b_Tp_readLine 31 = .ok (.ireturn, 1) := by decide +kernel
set_option maxRecDepth 100000 in
theorem d_Tp_readLine_32 : decode b_Tp_readLine 32 = .ok (.iload_n 2, 1) := by decide +kernel
set_option maxRecDepth 100000 in
theorem d_Tp_readLine_33 : decode b_Tp_readLine 33 = .ok (.ifCond .eq 14, 3) := by decide +kernel
set_option maxRecDepth 100000 in
theorem d_Tp_readLine_36 : decode b_Tp_readLine 36 = .ok (.iload_n 2, 1) := by decide +kernel
set_option maxRecDepth 100000 in
theorem d_Tp_readLine_37 : decode b_Tp_readLine 37 = .ok (.iconst 1, 1) := by decide +kernel
set_option maxRecDepth 100000 in
theorem d_Tp_readLine_38 : decode b_Tp_readLine 38 = .ok (.if_icmp .eq 9, 3) := by decide +kernel
set_option maxRecDepth 100000 in
theorem d_Tp_readLine_41 : decode b_Tp_readLine 41 = .ok (.iload_n 2, 1) := by decide +kernel
set_option maxRecDepth 100000 in
theorem d_Tp_readLine_42 : decode b_Tp_readLine 42 = .ok (.bipush 6, 2) := by decide +kernel
set_option maxRecDepth 100000 in
theorem d_Tp_readLine_44 : decode b_Tp_readLine 44 = .ok (.if_icmp .ne 7, 3) := by decide +kernel
set_option maxRecDepth 100000 in
theorem d_Tp_readLine_47 : decode b_Tp_readLine 47 = .ok (.iconst 1, 1) := by decide +kernel
set_option maxRecDepth 100000 in
theorem d_Tp_readLine_48 : decode b_Tp_readLine 48 = .ok (.goto 4, 3) := by decide +kernel
set_option maxRecDepth 100000 in
theorem d_Tp_readLine_51 : decode b_Tp_readLine 51 = .ok (.iconst 0, 1) := by decide +kernel
set_option maxRecDepth 100000 in
theorem d_Tp_readLine_52 : decode b_Tp_readLine 52 = .ok (.istore_n 3, 1) := by decide +kernel
set_option maxRecDepth 100000 in
theorem d_Tp_readLine_53 : decode b_Tp_readLine 53 = .ok (.iload_n 2, 1) := by decide +kernel
set_option maxRecDepth 100000 in
theorem d_Tp_readLine_54 : decode b_Tp_readLine 54 = .ok (.ifCond .eq 8, 3) := by decide +kernel
set_option maxRecDepth 100000 in
theorem d_Tp_readLine_57 : decode b_Tp_readLine 57 = .ok (.iload_n 2, 1) := by decide +kernel
set_option maxRecDepth 100000 in
theorem d_Tp_readLine_58 : decode b_Tp_readLine 58 = .ok (.iconst 1, 1) := by decide +kernel
set_option maxRecDepth 100000 in
theorem d_Tp_readLine_59 : decode b_Tp_readLine 59 = .ok (.if_icmp .ne 7, 3) := by decide +kernel
set_option maxRecDepth 100000 in
theorem d_Tp_readLine_62 : decode b_Tp_readLine 62 = .ok (.iconst 1, 1) := by decide +kernel
set_option maxRecDepth 100000 in
theorem d_Tp_readLine_63 : decode b_Tp_readLine 63 = .ok (.goto 4, 3) := by decide +kernel
set_option maxRecDepth 100000 in
theorem d_Tp_readLine_66 : decode b_Tp_readLine 66 = .ok (.iconst 0, 1) := by decide +kernel
set_option maxRecDepth 100000 in
theorem d_Tp_readLine_67 : decode b_Tp_readLine 67 = .ok (.istore 4, 2) := by decide +kernel
set_option maxRecDepth 100000 in
theorem d_Tp_readLine_69 : decode b_Tp_readLine 69 = .ok (.aload_n 0, 1) := by decide +kernel
set_option maxRecDepth 100000 in
theorem d_Tp_readLine_70 : decode b_Tp_readLine 70 = .ok (.invokevirtual 27, 3) := by decide +kernel
set_option maxRecDepth 100000 in
theorem d_Tp_readLine_73 : decode b_Tp_readLine 73 = .ok (.aload_n 0, 1) := by decide +kernel
set_option maxRecDepth 100000 in
theorem d_Tp_readLine_74 : decode b_Tp_readLine 74 = .ok (.getfield 48, 3) := by decide +kernel
set_option maxRecDepth 100000 in
theorem d_Tp_readLine_77 : decode b_Tp_readLine 77 = .ok (.istore 5, 2) := by decide +kernel
set_option maxRecDepth 100000 in
theorem d_Tp_readLine_79 : decode b_Tp_readLine 79 = .ok (.aload_n 0, 1) := by decide +kernel
set_option maxRecDepth 100000 in
theorem d_Tp_readLine_80 : decode b_Tp_readLine 80 = .ok (.invokevirtual 51, 3) := by decide +kernel
set_option maxRecDepth 100000 in
theorem d_Tp_readLine_83 : decode b_Tp_readLine 83 = .ok (.ifCond .ne 5, 3) := by decide +kernel
set_option maxRecDepth 100000 in
theorem d_Tp_readLine_86 : decode b_Tp_readLine 86 = .ok (.iconst 0, 1) := by decide +kernel
set_option maxRecDepth 100000 in
theorem d_Tp_readLine_87 : decode b_Tp_readLine 87 = .ok (.ireturn, 1) := by decide +kernel
set_option maxRecDepth 100000 in
theorem d_Tp_readLine_88 : decode b_Tp_readLine 88 = .ok (.iconst 0, 1) := by decide +kernel
set_option maxRecDepth 100000 in
theorem d_Tp_readLine_89 : decode b_Tp_readLine 89 = .ok (.istore 6, 2) := by decide +kernel
set_option maxRecDepth 100000 in
theorem d_Tp_readLine_91 : decode b_Tp_readLine 91 = .ok (.iload_n 3, 1) := by decide +kernel
set_option maxRecDepth 100000 in
theorem d_Tp_readLine_92 : decode b_Tp_readLine 92 = .ok (.ifCond .eq 29, 3) := by decide +kernel
set_option maxRecDepth 100000 in
theorem d_Tp_readLine_95 : decode b_Tp_readLine 95 = .ok (.aload_n 0, 1) := by decide +kernel
set_option maxRecDepth 100000 in
theorem d_Tp_readLine_96 : decode b_Tp_readLine 96 = .ok (.ldc 55, 2) := by decide +kernel
set_option maxRecDepth 100000 in
theorem d_Tp_readLine_98 : decode b_Tp_readLine 98 = .ok (.invokevirtual 57, 3) := by decide +kernel
set_option maxRecDepth 100000 in
theorem d_Tp_readLine_101 : decode b_Tp_readLine 101 = .ok (.ifCond .ne 5, 3) := by decide +kernel
set_option maxRecDepth 100000 in
theorem d_Tp_readLine_104 : decode b_Tp_readLine 104 = .ok (.iconst 0, 1) := by decide +kernel
set_option maxRecDepth 100000 in
theorem d_Tp_readLine_105 : decode b_Tp_readLine 105 = .ok (.ireturn, 1) := by decide +kernel
set_option maxRecDepth 100000 in
theorem d_Tp_readLine_106 : decode b_Tp_readLine 106 = .ok (.aload_n 0, 1) := by decide +kernel
set_option maxRecDepth 100000 in
theorem d_Tp_readLine_107 : decode b_Tp_readLine 107 = .ok (.getfield 48, 3) := by decide +kernel
set_option maxRecDepth 100000 in
theorem d_Tp_readLine_110 : decode b_Tp_readLine 110 = .ok (.istore 6, 2) := by decide +kernel
set_option maxRecDepth 100000 in
theorem d_Tp_readLine_112 : decode b_Tp_readLine 112 = .ok (.aload_n 0, 1) := by decide +kernel
set_option maxRecDepth 100000 in
theorem d_Tp_readLine_113 : decode b_Tp_readLine 113 = .ok (.invokevirtual 51, 3) := by decide +kernel
set_option maxRecDepth 100000 in
theorem d_Tp_readLine_116 : decode b_Tp_readLine 116 = .ok (.ifCond .ne 5, 3) := by decide +kernel
set_option maxRecDepth 100000 in
theorem d_Tp_readLine_119 : decode b_Tp_readLine 119 = .ok (.iconst 0, 1) := by decide +kernel
set_option maxRecDepth 100000 in
theorem d_Tp_readLine_120 : decode b_Tp_readLine 120 = .ok (.ireturn, 1) := by decide +kernel
set_option maxRecDepth 100000 in
theorem d_Tp_readLine_121 : decode b_Tp_readLine 121 = .ok (.iconst 0, 1) := by decide +kernel
set_option maxRecDepth 100000 in
theorem d_Tp_readLine_122 : decode b_Tp_readLine 122 = .ok (.istore 7, 2) := by decide +kernel
set_option maxRecDepth 100000 in
theorem d_Tp_readLine_124 : decode b_Tp_readLine 124 = .ok (.iload 4, 2) := by decide +kernel
set_option maxRecDepth 100000 in
theorem d_Tp_readLine_126 : decode b_Tp_readLine 126 = .ok (.ifCond .eq 29, 3) := by decide +kernel
set_option maxRecDepth 100000 in
theorem d_Tp_readLine_129 : decode b_Tp_readLine 129 = .ok (.aload_n 0, 1) := by decide +kernel
set_option maxRecDepth 100000 in
theorem d_Tp_readLine_130 : decode b_Tp_readLine 130 = .ok (.ldc 61, 2) := by decide +kernel
set_option maxRecDepth 100000 in
theorem d_Tp_readLine_132 : decode b_Tp_readLine 132 = .ok (.invokevirtual 57, 3) := by decide +kernel
set_option maxRecDepth 100000 in
theorem d_Tp_readLine_135 : decode b_Tp_readLine 135 = .ok (.ifCond .ne 5, 3) := by decide +kernel
set_option maxRecDepth 100000 in
theorem d_Tp_readLine_138 : decode b_Tp_readLine 138 = .ok (.iconst 0, 1) := by decide +kernel
set_option maxRecDepth 100000 in
theorem d_Tp_readLine_139 : decode b_Tp_readLine 139 = .ok (.ireturn, 1) := by decide +kernel
set_option maxRecDepth 100000 in
theorem d_Tp_readLine_140 : decode b_Tp_readLine 140 = .ok (.aload_n 0, 1) := by decide +kernel
set_option maxRecDepth 100000 in
theorem d_Tp_readLine_141 : decode b_Tp_readLine 141 = .ok (.getfield 48, 3) := by decide +kernel
set_option maxRecDepth 100000 in
theorem d_Tp_readLine_144 : decode b_Tp_readLine 144 = .ok (.istore 7, 2) := by decide +kernel
