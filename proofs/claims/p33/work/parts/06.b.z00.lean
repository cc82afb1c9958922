set_option maxRecDepth 100000 in
theorem d_Md_coins_0 : decode b_Md_coins 0 = .ok (.lconst 0, 1) := by decide +kernel
set_option maxRecDepth 100000 in
theorem d_Md_coins_1 : decode b_Md_coins 1 = .ok (.lstore_n 2, 1) := by decide +kernel
set_option maxRecDepth 100000 in
theorem d_Md_coins_2 : decode b_Md_coins 2 = .ok (.iload_n 1, 1) := by decide +kernel
set_option maxRecDepth 100000 in
theorem d_Md_coins_3 : decode b_Md_coins 3 = .ok (.tableswitch 113 0 4 #[33, 39, 45, 75, 107], 33) := by decide +kernel
set_option maxRecDepth 100000 in
theorem d_Md_coins_36 : decode b_Md_coins 36 = .ok (.aload_n 0, 1) := by decide +kernel
set_option maxRecDepth 100000 in
theorem d_Md_coins_37 : decode b_Md_coins 37 = .ok (.getfield 316, 3) := by decide +kernel
set_option maxRecDepth 100000 in
theorem d_Md_coins_40 : decode b_Md_coins 40 = .ok (.l2i, 1) := by decide +kernel
set_option maxRecDepth 100000 in
theorem d_Md_coins_41 : decode b_Md_coins 41 = .ok (.ireturn, 1) := by decide +kernel
set_option maxRecDepth 100000 in
theorem d_Md_coins_42 : decode b_Md_coins 42 = .ok (.aload_n 0, 1) := by decide +kernel
set_option maxRecDepth 100000 in
theorem d_Md_coins_43 : decode b_Md_coins 43 = .ok (.getfield 320, 3) := by decide +kernel
set_option maxRecDepth 100000 in
theorem d_Md_coins_46 : decode b_Md_coins 46 = .ok (.l2i, 1) := by decide +kernel
set_option maxRecDepth 100000 in
theorem d_Md_coins_47 : decode b_Md_coins 47 = .ok (.ireturn, 1) := by decide +kernel
set_option maxRecDepth 100000 in
theorem d_Md_coins_48 : decode b_Md_coins 48 = .ok (.iconst 0, 1) := by decide +kernel
set_option maxRecDepth 100000 in
theorem d_Md_coins_49 : decode b_Md_coins 49 = .ok (.istore 4, 2) := by decide +kernel
set_option maxRecDepth 100000 in
theorem d_Md_coins_51 : decode b_Md_coins 51 = .ok (.iload 4, 2) := by decide +kernel
set_option maxRecDepth 100000 in
theorem d_Md_coins_53 : decode b_Md_coins 53 = .ok (.bipush 40, 2) := by decide +kernel
set_option maxRecDepth 100000 in
theorem d_Md_coins_55 : decode b_Md_coins 55 = .ok (.if_icmp .ge 20, 3) := by decide +kernel
set_option maxRecDepth 100000 in
theorem d_Md_coins_58 : decode b_Md_coins 58 = .ok (.lload_n 2, 1) := by decide +kernel
set_option maxRecDepth 100000 in
theorem d_Md_coins_59 : decode b_Md_coins 59 = .ok (.aload_n 0, 1) := by decide +kernel
set_option maxRecDepth 100000 in
theorem d_Md_coins_60 : decode b_Md_coins 60 = .ok (.getfield 76, 3) := by decide +kernel
set_option maxRecDepth 100000 in
theorem d_Md_coins_63 : decode b_Md_coins 63 = .ok (.iload 4, 2) := by decide +kernel
set_option maxRecDepth 100000 in
theorem d_Md_coins_65 : decode b_Md_coins 65 = .ok (.iaload, 1) := by decide +kernel
set_option maxRecDepth 100000 in
theorem d_Md_coins_66 : decode b_Md_coins 66 = .ok (.i2l, 1) := by decide +kernel
set_option maxRecDepth 100000 in
theorem d_Md_coins_67 : decode b_Md_coins 67 = .ok (.ladd, 1) := by decide +kernel
set_option maxRecDepth 100000 in
theorem d_Md_coins_68 : decode b_Md_coins 68 = .ok (.lstore_n 2, 1) := by decide +kernel
set_option maxRecDepth 100000 in
theorem d_Md_coins_69 : decode b_Md_coins 69 = .ok (.iinc 4 1, 3) := by decide +kernel
set_option maxRecDepth 100000 in
theorem d_Md_coins_72 : decode b_Md_coins 72 = .ok (.goto (-21), 3) := by decide +kernel
set_option maxRecDepth 100000 in
theorem d_Md_coins_75 : decode b_Md_coins 75 = .ok (.lload_n 2, 1) := by decide +kernel
set_option maxRecDepth 100000 in
theorem d_Md_coins_76 : decode b_Md_coins 76 = .ok (.l2i, 1) := by decide +kernel
set_option maxRecDepth 100000 in
theorem d_Md_coins_77 : decode b_Md_coins 77 = .ok (.ireturn, 1) := by decide +kernel
set_option maxRecDepth 100000 in
theorem d_Md_coins_78 : decode b_Md_coins 78 = .ok (.iconst 0, 1) := by decide +kernel
set_option maxRecDepth 100000 in
theorem d_Md_coins_79 : decode b_Md_coins 79 = .ok (.istore 4, 2) := by decide +kernel
set_option maxRecDepth 100000 in
theorem d_Md_coins_81 : decode b_Md_coins 81 = .ok (.iload 4, 2) := by decide +kernel
set_option maxRecDepth 100000 in
theorem d_Md_coins_83 : decode b_Md_coins 83 = .ok (.aload_n 0, 1) := by decide +kernel
set_option maxRecDepth 100000 in
theorem d_Md_coins_84 : decode b_Md_coins 84 = .ok (.getfield 313, 3) := by decide +kernel
set_option maxRecDepth 100000 in
theorem d_Md_coins_87 : decode b_Md_coins 87 = .ok (.if_icmp .ge 20, 3) := by decide +kernel
set_option maxRecDepth 100000 in
theorem d_Md_coins_90 : decode b_Md_coins 90 = .ok (.lload_n 2, 1) := by decide +kernel
set_option maxRecDepth 100000 in
theorem d_Md_coins_91 : decode b_Md_coins 91 = .ok (.aload_n 0, 1) := by decide +kernel
set_option maxRecDepth 100000 in
theorem d_Md_coins_92 : decode b_Md_coins 92 = .ok (.getfield 167, 3) := by decide +kernel
set_option maxRecDepth 100000 in
theorem d_Md_coins_95 : decode b_Md_coins 95 = .ok (.iload 4, 2) := by decide +kernel
set_option maxRecDepth 100000 in
theorem d_Md_coins_97 : decode b_Md_coins 97 = .ok (.iaload, 1) := by decide +kernel
set_option maxRecDepth 100000 in
theorem d_Md_coins_98 : decode b_Md_coins 98 = .ok (.i2l, 1) := by decide +kernel
set_option maxRecDepth 100000 in
theorem d_Md_coins_99 : decode b_Md_coins 99 = .ok (.ladd, 1) := by decide +kernel
set_option maxRecDepth 100000 in
theorem d_Md_coins_100 : decode b_Md_coins 100 = .ok (.lstore_n 2, 1) := by decide +kernel
set_option maxRecDepth 100000 in
theorem d_Md_coins_101 : decode b_Md_coins 101 = .ok (.iinc 4 1, 3) := by decide +kernel
set_option maxRecDepth 100000 in
theorem d_Md_coins_104 : decode b_Md_coins 104 = .ok (.goto (-23), 3) := by decide +kernel
set_option maxRecDepth 100000 in
theorem d_Md_coins_107 : decode b_Md_coins 107 = .ok (.lload_n 2, 1) := by decide +kernel
set_option maxRecDepth 100000 in
theorem d_Md_coins_108 : decode b_Md_coins 108 = .ok (.l2i, 1) := by decide +kernel
set_option maxRecDepth 100000 in
theorem d_Md_coins_109 : decode b_Md_coins 109 = .ok (.ireturn, 1) := by decide +kernel
set_option maxRecDepth 100000 in
theorem d_Md_coins_110 : decode b_Md_coins 110 = .ok (.aload_n 0, 1) := by decide +kernel
set_option maxRecDepth 100000 in
theorem d_Md_coins_111 : decode b_Md_coins 111 = .ok (.getfield 326, 3) := by decide +kernel
set_option maxRecDepth 100000 in
theorem d_Md_coins_114 : decode b_Md_coins 114 = .ok (.l2i, 1) := by decide +kernel
set_option maxRecDepth 100000 in
theorem d_Md_coins_115 : decode b_Md_coins 115 = .ok (.ireturn, 1) := by decide +kernel
set_option maxRecDepth 100000 in
theorem d_Md_coins_116 : decode b_Md_coins 116 = .ok (.iconst (-1), 1) := by decide +kernel
set_option maxRecDepth 100000 in
theorem d_Md_coins_117 : decode b_Md_coins 117 = .ok (.ireturn, 1) := by decide +kernel
set_option maxRecDepth 100000 in
theorem d_Md_foretold_0 : decode b_Md_foretold 0 = .ok (.lconst 0, 1) := by decide +kernel
set_option maxRecDepth 100000 in
theorem d_Md_foretold_1 : decode b_Md_foretold 1 = .ok (.lstore_n 1, 1) := by decide +kernel
set_option maxRecDepth 100000 in
theorem d_Md_foretold_2 : decode b_Md_foretold 2 = .ok (.aload_n 0, 1) := by decide +kernel
set_option maxRecDepth 100000 in
theorem d_Md_foretold_3 : decode b_Md_foretold 3 = .ok (.invokevirtual 45, 3) := by decide +kernel
set_option maxRecDepth 100000 in
theorem d_Md_foretold_6 : decode b_Md_foretold 6 = .ok (.bipush 100, 2) := by decide +kernel
set_option maxRecDepth 100000 in
theorem d_Md_foretold_8 : decode b_Md_foretold 8 = .ok (.if_icmp .ge 7, 3) := by decide +kernel
set_option maxRecDepth 100000 in
theorem d_Md_foretold_11 : decode b_Md_foretold 11 = .ok (.iconst 0, 1) := by decide +kernel
set_option maxRecDepth 100000 in
theorem d_Md_foretold_12 : decode b_Md_foretold 12 = .ok (.goto 10, 3) := by decide +kernel
set_option maxRecDepth 100000 in
theorem d_Md_foretold_15 : decode b_Md_foretold 15 = .ok (.aload_n 0, 1) := by decide +kernel
set_option maxRecDepth 100000 in
theorem d_Md_foretold_16 : decode b_Md_foretold 16 = .ok (.invokevirtual 45, 3) := by decide +kernel
set_option maxRecDepth 100000 in
theorem d_Md_foretold_19 : decode b_Md_foretold 19 = .ok (.bipush 100, 2) := by decide +kernel
set_option maxRecDepth 100000 in
theorem d_Md_foretold_21 : decode b_Md_foretold 21 = .ok (.isub, 1) := by decide +kernel
set_option maxRecDepth 100000 in
theorem d_Md_foretold_22 : decode b_Md_foretold 22 = .ok (.istore_n 3, 1) := by decide +kernel
set_option maxRecDepth 100000 in
theorem d_Md_foretold_23 : decode b_Md_foretold 23 = .ok (.iload_n 3, 1) := by decide +kernel
set_option maxRecDepth 100000 in
theorem d_Md_foretold_24 : decode b_Md_foretold 24 = .ok (.aload_n 0, 1) := by decide +kernel
set_option maxRecDepth 100000 in
theorem d_Md_foretold_25 : decode b_Md_foretold 25 = .ok (.invokevirtual 45, 3) := by decide +kernel
set_option maxRecDepth 100000 in
theorem d_Md_foretold_28 : decode b_Md_foretold 28 = .ok (.if_icmp .gt 18, 3) := by decide +kernel
set_option maxRecDepth 100000 in
theorem d_Md_foretold_31 : decode b_Md_foretold 31 = .ok (.lload_n 1, 1) := by decide +kernel
set_option maxRecDepth 100000 in
theorem d_Md_foretold_32 : decode b_Md_foretold 32 = .ok (.aload_n 0, 1) := by decide +kernel
set_option maxRecDepth 100000 in
theorem d_Md_foretold_33 : decode b_Md_foretold 33 = .ok (.getfield 173, 3) := by decide +kernel
set_option maxRecDepth 100000 in
theorem d_Md_foretold_36 : decode b_Md_foretold 36 = .ok (.iload_n 3, 1) := by decide +kernel
set_option maxRecDepth 100000 in
theorem d_Md_foretold_37 : decode b_Md_foretold 37 = .ok (.laload, 1) := by decide +kernel
set_option maxRecDepth 100000 in
theorem d_Md_foretold_38 : decode b_Md_foretold 38 = .ok (.ladd, 1) := by decide +kernel
set_option maxRecDepth 100000 in
theorem d_Md_foretold_39 : decode b_Md_foretold 39 = .ok (.lstore_n 1, 1) := by decide +kernel
set_option maxRecDepth 100000 in
theorem d_Md_foretold_40 : decode b_Md_foretold 40 = .ok (.iinc 3 1, 3) := by decide +kernel
set_option maxRecDepth 100000 in
theorem d_Md_foretold_43 : decode b_Md_foretold 43 = .ok (.goto (-20), 3) := by decide +kernel
set_option maxRecDepth 100000 in
theorem d_Md_foretold_46 : decode b_Md_foretold 46 = .ok (.aload_n 0, 1) := by decide +kernel
set_option maxRecDepth 100000 in
theorem d_Md_foretold_47 : decode b_Md_foretold 47 = .ok (.getfield 316, 3) := by decide +kernel
set_option maxRecDepth 100000 in
theorem d_Md_foretold_50 : decode b_Md_foretold 50 = .ok (.lstore_n 3, 1) := by decide +kernel
set_option maxRecDepth 100000 in
theorem d_Md_foretold_51 : decode b_Md_foretold 51 = .ok (.iconst 1, 1) := by decide +kernel
set_option maxRecDepth 100000 in
theorem d_Md_foretold_52 : decode b_Md_foretold 52 = .ok (.istore 5, 2) := by decide +kernel
set_option maxRecDepth 100000 in
theorem d_Md_foretold_54 : decode b_Md_foretold 54 = .ok (.iload 5, 2) := by decide +kernel
set_option maxRecDepth 100000 in
theorem d_Md_foretold_56 : decode b_Md_foretold 56 = .ok (.bipush 40, 2) := by decide +kernel
set_option maxRecDepth 100000 in
theorem d_Md_foretold_58 : decode b_Md_foretold 58 = .ok (.if_icmp .gt 88, 3) := by decide +kernel
set_option maxRecDepth 100000 in
theorem d_Md_foretold_61 : decode b_Md_foretold 61 = .ok (.aload_n 0, 1) := by decide +kernel
set_option maxRecDepth 100000 in
theorem d_Md_foretold_62 : decode b_Md_foretold 62 = .ok (.invokevirtual 45, 3) := by decide +kernel
set_option maxRecDepth 100000 in
theorem d_Md_foretold_65 : decode b_Md_foretold 65 = .ok (.bipush 100, 2) := by decide +kernel
set_option maxRecDepth 100000 in
theorem d_Md_foretold_67 : decode b_Md_foretold 67 = .ok (.idiv, 1) := by decide +kernel
set_option maxRecDepth 100000 in
theorem d_Md_foretold_68 : decode b_Md_foretold 68 = .ok (.iload 5, 2) := by decide +kernel
set_option maxRecDepth 100000 in
theorem d_Md_foretold_70 : decode b_Md_foretold 70 = .ok (.iadd, 1) := by decide +kernel
set_option maxRecDepth 100000 in
theorem d_Md_foretold_71 : decode b_Md_foretold 71 = .ok (.bipush 100, 2) := by decide +kernel
set_option maxRecDepth 100000 in
theorem d_Md_foretold_73 : decode b_Md_foretold 73 = .ok (.imul, 1) := by decide +kernel
set_option maxRecDepth 100000 in
theorem d_Md_foretold_74 : decode b_Md_foretold 74 = .ok (.istore 6, 2) := by decide +kernel
set_option maxRecDepth 100000 in
theorem d_Md_foretold_76 : decode b_Md_foretold 76 = .ok (.lload_n 3, 1) := by decide +kernel
set_option maxRecDepth 100000 in
theorem d_Md_foretold_77 : decode b_Md_foretold 77 = .ok (.lload_n 1, 1) := by decide +kernel
set_option maxRecDepth 100000 in
theorem d_Md_foretold_78 : decode b_Md_foretold 78 = .ok (.ladd, 1) := by decide +kernel
set_option maxRecDepth 100000 in
theorem d_Md_foretold_79 : decode b_Md_foretold 79 = .ok (.lstore_n 3, 1) := by decide +kernel
set_option maxRecDepth 100000 in
theorem d_Md_foretold_80 : decode b_Md_foretold 80 = .ok (.iconst 0, 1) := by decide +kernel
set_option maxRecDepth 100000 in
theorem d_Md_foretold_81 : decode b_Md_foretold 81 = .ok (.istore 7, 2) := by decide +kernel
set_option maxRecDepth 100000 in
theorem d_Md_foretold_83 : decode b_Md_foretold 83 = .ok (.iload 7, 2) := by decide +kernel
set_option maxRecDepth 100000 in
theorem d_Md_foretold_85 : decode b_Md_foretold 85 = .ok (.aload_n 0, 1) := by decide +kernel
set_option maxRecDepth 100000 in
theorem d_Md_foretold_86 : decode b_Md_foretold 86 = .ok (.getfield 323, 3) := by decide +kernel
set_option maxRecDepth 100000 in
theorem d_Md_foretold_89 : decode b_Md_foretold 89 = .ok (.if_icmp .ge 51, 3) := by decide +kernel
set_option maxRecDepth 100000 in
theorem d_Md_foretold_92 : decode b_Md_foretold 92 = .ok (.iload 6, 2) := by decide +kernel
set_option maxRecDepth 100000 in
theorem d_Md_foretold_94 : decode b_Md_foretold 94 = .ok (.aload_n 0, 1) := by decide +kernel
set_option maxRecDepth 100000 in
theorem d_Md_foretold_95 : decode b_Md_foretold 95 = .ok (.getfield 180, 3) := by decide +kernel
set_option maxRecDepth 100000 in
theorem d_Md_foretold_98 : decode b_Md_foretold 98 = .ok (.iload 7, 2) := by decide +kernel
set_option maxRecDepth 100000 in
theorem d_Md_foretold_100 : decode b_Md_foretold 100 = .ok (.iaload, 1) := by decide +kernel
set_option maxRecDepth 100000 in
theorem d_Md_foretold_101 : decode b_Md_foretold 101 = .ok (.if_icmp .lt 6, 3) := by decide +kernel
set_option maxRecDepth 100000 in
theorem d_Md_foretold_104 : decode b_Md_foretold 104 = .ok (.goto 30, 3) := by decide +kernel
set_option maxRecDepth 100000 in
theorem d_Md_foretold_107 : decode b_Md_foretold 107 = .ok (.lload_n 3, 1) := by decide +kernel
set_option maxRecDepth 100000 in
theorem d_Md_foretold_108 : decode b_Md_foretold 108 = .ok (.aload_n 0, 1) := by decide +kernel
set_option maxRecDepth 100000 in
theorem d_Md_foretold_109 : decode b_Md_foretold 109 = .ok (.getfield 177, 3) := by decide +kernel
set_option maxRecDepth 100000 in
theorem d_Md_foretold_112 : decode b_Md_foretold 112 = .ok (.iload 7, 2) := by decide +kernel
set_option maxRecDepth 100000 in
theorem d_Md_foretold_114 : decode b_Md_foretold 114 = .ok (.iaload, 1) := by decide +kernel
set_option maxRecDepth 100000 in
theorem d_Md_foretold_115 : decode b_Md_foretold 115 = .ok (.i2l, 1) := by decide +kernel
set_option maxRecDepth 100000 in
theorem d_Md_foretold_116 : decode b_Md_foretold 116 = .ok (.lcmp, 1) := by decide +kernel
set_option maxRecDepth 100000 in
theorem d_Md_foretold_117 : decode b_Md_foretold 117 = .ok (.ifCond .ge 6, 3) := by decide +kernel
set_option maxRecDepth 100000 in
theorem d_Md_foretold_120 : decode b_Md_foretold 120 = .ok (.iload 6, 2) := by decide +kernel
set_option maxRecDepth 100000 in
theorem d_Md_foretold_122 : decode b_Md_foretold 122 = .ok (.ireturn, 1) := by decide +kernel
set_option maxRecDepth 100000 in
theorem d_Md_foretold_123 : decode b_Md_foretold 123 = .ok (.lload_n 3, 1) := by decide +kernel
set_option maxRecDepth 100000 in
theorem d_Md_foretold_124 : decode b_Md_foretold 124 = .ok (.aload_n 0, 1) := by decide +kernel
set_option maxRecDepth 100000 in
theorem d_Md_foretold_125 : decode b_Md_foretold 125 = .ok (.getfield 177, 3) := by decide +kernel
set_option maxRecDepth 100000 in
theorem d_Md_foretold_128 : decode b_Md_foretold 128 = .ok (.iload 7, 2) := by decide +kernel
set_option maxRecDepth 100000 in
theorem d_Md_foretold_130 : decode b_Md_foretold 130 = .ok (.iaload, 1) := by decide +kernel
set_option maxRecDepth 100000 in
theorem d_Md_foretold_131 : decode b_Md_foretold 131 = .ok (.i2l, 1) := by decide +kernel
set_option maxRecDepth 100000 in
theorem d_Md_foretold_132 : decode b_Md_foretold 132 = .ok (.lsub, 1) := by decide +kernel
set_option maxRecDepth 100000 in
theorem d_Md_foretold_133 : decode b_Md_foretold 133 = .ok (.lstore_n 3, 1) := by decide +kernel
set_option maxRecDepth 100000 in
theorem d_Md_foretold_134 : decode b_Md_foretold 134 = .ok (.iinc 7 1, 3) := by decide +kernel
set_option maxRecDepth 100000 in
theorem d_Md_foretold_137 : decode b_Md_foretold 137 = .ok (.goto (-54), 3) := by decide +kernel
set_option maxRecDepth 100000 in
theorem d_Md_foretold_140 : decode b_Md_foretold 140 = .ok (.iinc 5 1, 3) := by decide +kernel
set_option maxRecDepth 100000 in
theorem d_Md_foretold_143 : decode b_Md_foretold 143 = .ok (.goto (-89), 3) := by decide +kernel
set_option maxRecDepth 100000 in
theorem d_Md_foretold_146 : decode b_Md_foretold 146 = .ok (.bipush (-2), 2) := by decide +kernel
set_option maxRecDepth 100000 in
theorem d_Md_foretold_148 : decode b_Md_foretold 148 = .ok (.ireturn, 1) := by decide +kernel
set_option maxRecDepth 100000 in
theorem d_Md_in_0 : decode b_Md_in 0 = .ok (.iload_n 0, 1) := by decide +kernel
set_option maxRecDepth 100000 in
theorem d_Md_in_1 : decode b_Md_in 1 = .ok (.iload_n 1, 1) := by decide +kernel
set_option maxRecDepth 100000 in
theorem d_Md_in_2 : decode b_Md_in 2 = .ok (.if_icmp .lt 12, 3) := by decide +kernel
set_option maxRecDepth 100000 in
theorem d_Md_in_5 : decode b_Md_in 5 = .ok (.iload_n 0, 1) := by decide +kernel
set_option maxRecDepth 100000 in
theorem d_Md_in_6 : decode b_Md_in 6 = .ok (.iload_n 2, 1) := by decide +kernel
set_option maxRecDepth 100000 in
theorem d_Md_in_7 : decode b_Md_in 7 = .ok (.if_icmp .gt 7, 3) := by decide +kernel
set_option maxRecDepth 100000 in
theorem d_Md_in_10 : decode b_Md_in 10 = .ok (.iconst 1, 1) := by decide +kernel
set_option maxRecDepth 100000 in
theorem d_Md_in_11 : decode b_Md_in 11 = .ok (.goto 4, 3) := by decide +kernel
set_option maxRecDepth 100000 in
theorem d_Md_in_14 : decode b_Md_in 14 = .ok (.iconst 0, 1) := by decide +kernel
set_option maxRecDepth 100000 in
theorem d_Md_in_15 : decode b_Md_in 15 = .ok (.ireturn, 1) := by decide +kernel
set_option maxRecDepth 100000 in
theorem d_Md_isMan_0 : decode b_Md_isMan 0 = .ok (.iload_n 0, 1) := by decide +kernel
set_option maxRecDepth 100000 in
theorem d_Md_isMan_1 : decode b_Md_isMan 1 = .ok (.iconst 0, 1) := by decide +kernel
set_option maxRecDepth 100000 in
theorem d_Md_isMan_2 : decode b_Md_isMan 2 = .ok (.bipush 39, 2) := by decide +kernel
set_option maxRecDepth 100000 in
theorem d_Md_isMan_4 : decode b_Md_isMan 4 = .ok (.invokestatic 10, 3) := by decide +kernel
set_option maxRecDepth 100000 in
theorem d_Md_isMan_7 : decode b_Md_isMan 7 = .ok (.ireturn, 1) := by decide +kernel
set_option maxRecDepth 100000 in
theorem d_Md_man_0 : decode b_Md_man 0 = .ok (.iload_n 1, 1) := by decide +kernel
set_option maxRecDepth 100000 in
theorem d_Md_man_1 : decode b_Md_man 1 = .ok (.invokestatic 186, 3) := by decide +kernel
set_option maxRecDepth 100000 in
theorem d_Md_man_4 : decode b_Md_man 4 = .ok (.ifCond .ne 6, 3) := by decide +kernel
set_option maxRecDepth 100000 in
theorem d_Md_man_7 : decode b_Md_man 7 = .ok (.bipush (-2), 2) := by decide +kernel
set_option maxRecDepth 100000 in
theorem d_Md_man_9 : decode b_Md_man 9 = .ok (.ireturn, 1) := by decide +kernel
set_option maxRecDepth 100000 in
theorem d_Md_man_10 : decode b_Md_man 10 = .ok (.iload_n 2, 1) := by decide +kernel
set_option maxRecDepth 100000 in
theorem d_Md_man_11 : decode b_Md_man 11 = .ok (.tableswitch 96 0 6 #[41, 48, 55, 61, 67, 74, 89], 41) := by decide +kernel
set_option maxRecDepth 100000 in
theorem d_Md_man_52 : decode b_Md_man 52 = .ok (.aload_n 0, 1) := by decide +kernel
set_option maxRecDepth 100000 in
theorem d_Md_man_53 : decode b_Md_man 53 = .ok (.getfield 58, 3) := by decide +kernel
set_option maxRecDepth 100000 in
theorem d_Md_man_56 : decode b_Md_man 56 = .ok (.iload_n 1, 1) := by decide +kernel
set_option maxRecDepth 100000 in
theorem d_Md_man_57 : decode b_Md_man 57 = .ok (.iaload, 1) := by decide +kernel
set_option maxRecDepth 100000 in
theorem d_Md_man_58 : decode b_Md_man 58 = .ok (.ireturn, 1) := by decide +kernel
set_option maxRecDepth 100000 in
theorem d_Md_man_59 : decode b_Md_man 59 = .ok (.aload_n 0, 1) := by decide +kernel
set_option maxRecDepth 100000 in
theorem d_Md_man_60 : decode b_Md_man 60 = .ok (.getfield 61, 3) := by decide +kernel
set_option maxRecDepth 100000 in
theorem d_Md_man_63 : decode b_Md_man 63 = .ok (.iload_n 1, 1) := by decide +kernel
set_option maxRecDepth 100000 in
theorem d_Md_man_64 : decode b_Md_man 64 = .ok (.iaload, 1) := by decide +kernel
set_option maxRecDepth 100000 in
theorem d_Md_man_65 : decode b_Md_man 65 = .ok (.ireturn, 1) := by decide +kernel
set_option maxRecDepth 100000 in
theorem d_Md_man_66 : decode b_Md_man 66 = .ok (.aload_n 0, 1) := by decide +kernel
set_option maxRecDepth 100000 in
theorem d_Md_man_67 : decode b_Md_man 67 = .ok (.iload_n 1, 1) := by decide +kernel
set_option maxRecDepth 100000 in
theorem d_Md_man_68 : decode b_Md_man 68 = .ok (.invokevirtual 193, 3) := by decide +kernel
set_option maxRecDepth 100000 in
theorem d_Md_man_71 : decode b_Md_man 71 = .ok (.ireturn, 1) := by decide +kernel
set_option maxRecDepth 100000 in
theorem d_Md_man_72 : decode b_Md_man 72 = .ok (.aload_n 0, 1) := by decide +kernel
set_option maxRecDepth 100000 in
theorem d_Md_man_73 : decode b_Md_man 73 = .ok (.iload_n 1, 1) := by decide +kernel
set_option maxRecDepth 100000 in
theorem d_Md_man_74 : decode b_Md_man 74 = .ok (.invokevirtual 196, 3) := by decide +kernel
set_option maxRecDepth 100000 in
theorem d_Md_man_77 : decode b_Md_man 77 = .ok (.ireturn, 1) := by decide +kernel
set_option maxRecDepth 100000 in
theorem d_Md_man_78 : decode b_Md_man 78 = .ok (.aload_n 0, 1) := by decide +kernel
set_option maxRecDepth 100000 in
theorem d_Md_man_79 : decode b_Md_man 79 = .ok (.getfield 76, 3) := by decide +kernel
set_option maxRecDepth 100000 in
theorem d_Md_man_82 : decode b_Md_man 82 = .ok (.iload_n 1, 1) := by decide +kernel
set_option maxRecDepth 100000 in
theorem d_Md_man_83 : decode b_Md_man 83 = .ok (.iaload, 1) := by decide +kernel
set_option maxRecDepth 100000 in
theorem d_Md_man_84 : decode b_Md_man 84 = .ok (.ireturn, 1) := by decide +kernel
set_option maxRecDepth 100000 in
theorem d_Md_man_85 : decode b_Md_man 85 = .ok (.aload_n 0, 1) := by decide +kernel
set_option maxRecDepth 100000 in
theorem d_Md_man_86 : decode b_Md_man 86 = .ok (.getfield 79, 3) := by decide +kernel
set_option maxRecDepth 100000 in
theorem d_Md_man_89 : decode b_Md_man 89 = .ok (.iload_n 1, 1) := by decide +kernel
set_option maxRecDepth 100000 in
theorem d_Md_man_90 : decode b_Md_man 90 = .ok (.iaload, 1) := by decide +kernel
set_option maxRecDepth 100000 in
theorem d_Md_man_91 : decode b_Md_man 91 = .ok (.ifCond .lt 7, 3) := by decide +kernel
set_option maxRecDepth 100000 in
theorem d_Md_man_94 : decode b_Md_man 94 = .ok (.iconst 1, 1) := by decide +kernel
set_option maxRecDepth 100000 in
theorem d_Md_man_95 : decode b_Md_man 95 = .ok (.goto 4, 3) := by decide +kernel
set_option maxRecDepth 100000 in
theorem d_Md_man_98 : decode b_Md_man 98 = .ok (.iconst 0, 1) := by decide +kernel
set_option maxRecDepth 100000 in
theorem d_Md_man_99 : decode b_Md_man 99 = .ok (.ireturn, 1) := by decide +kernel
set_option maxRecDepth 100000 in
theorem d_Md_man_100 : decode b_Md_man 100 = .ok (.aload_n 0, 1) := by decide +kernel
set_option maxRecDepth 100000 in
theorem d_Md_man_101 : decode b_Md_man 101 = .ok (.getfield 82, 3) := by decide +kernel
set_option maxRecDepth 100000 in
theorem d_Md_man_104 : decode b_Md_man 104 = .ok (.iload_n 1, 1) := by decide +kernel
set_option maxRecDepth 100000 in
theorem d_Md_man_105 : decode b_Md_man 105 = .ok (.iaload, 1) := by decide +kernel
set_option maxRecDepth 100000 in
theorem d_Md_man_106 : decode b_Md_man 106 = .ok (.ireturn, 1) := by decide +kernel
set_option maxRecDepth 100000 in
theorem d_Md_man_107 : decode b_Md_man 107 = .ok (.bipush (-2), 2) := by decide +kernel
set_option maxRecDepth 100000 in
theorem d_Md_man_109 : decode b_Md_man 109 = .ok (.ireturn, 1) := by decide +kernel
set_option maxRecDepth 100000 in
theorem d_Md_pensioner_0 : decode b_Md_pensioner 0 = .ok (.iload_n 1, 1) := by decide +kernel
set_option maxRecDepth 100000 in
theorem d_Md_pensioner_1 : decode b_Md_pensioner 1 = .ok (.iconst 0, 1) := by decide +kernel
set_option maxRecDepth 100000 in
theorem d_Md_pensioner_2 : decode b_Md_pensioner 2 = .ok (.aload_n 0, 1) := by decide +kernel
set_option maxRecDepth 100000 in
theorem d_Md_pensioner_3 : decode b_Md_pensioner 3 = .ok (.getfield 323, 3) := by decide +kernel
set_option maxRecDepth 100000 in
theorem d_Md_pensioner_6 : decode b_Md_pensioner 6 = .ok (.iconst 1, 1) := by decide +kernel
set_option maxRecDepth 100000 in
theorem d_Md_pensioner_7 : decode b_Md_pensioner 7 = .ok (.isub, 1) := by decide +kernel
set_option maxRecDepth 100000 in
theorem d_Md_pensioner_8 : decode b_Md_pensioner 8 = .ok (.invokestatic 10, 3) := by decide +kernel
set_option maxRecDepth 100000 in
theorem d_Md_pensioner_11 : decode b_Md_pensioner 11 = .ok (.ifCond .ne 5, 3) := by decide +kernel
set_option maxRecDepth 100000 in
theorem d_Md_pensioner_14 : decode b_Md_pensioner 14 = .ok (.iconst (-1), 1) := by decide +kernel
set_option maxRecDepth 100000 in
theorem d_Md_pensioner_15 : decode b_Md_pensioner 15 = .ok (.ireturn, 1) := by decide +kernel
set_option maxRecDepth 100000 in
theorem d_Md_pensioner_16 : decode b_Md_pensioner 16 = .ok (.iload_n 2, 1) := by decide +kernel
set_option maxRecDepth 100000 in
theorem d_Md_pensioner_17 : decode b_Md_pensioner 17 = .ok (.tableswitch 48 0 2 #[27, 34, 41], 27) := by decide +kernel
set_option maxRecDepth 100000 in
theorem d_Md_pensioner_44 : decode b_Md_pensioner 44 = .ok (.aload_n 0, 1) := by decide +kernel
set_option maxRecDepth 100000 in
theorem d_Md_pensioner_45 : decode b_Md_pensioner 45 = .ok (.getfield 177, 3) := by decide +kernel
set_option maxRecDepth 100000 in
theorem d_Md_pensioner_48 : decode b_Md_pensioner 48 = .ok (.iload_n 1, 1) := by decide +kernel
set_option maxRecDepth 100000 in
theorem d_Md_pensioner_49 : decode b_Md_pensioner 49 = .ok (.iaload, 1) := by decide +kernel
set_option maxRecDepth 100000 in
theorem d_Md_pensioner_50 : decode b_Md_pensioner 50 = .ok (.ireturn, 1) := by decide +kernel
set_option maxRecDepth 100000 in
theorem d_Md_pensioner_51 : decode b_Md_pensioner 51 = .ok (.aload_n 0, 1) := by decide +kernel
set_option maxRecDepth 100000 in
theorem d_Md_pensioner_52 : decode b_Md_pensioner 52 = .ok (.getfield 180, 3) := by decide +kernel
set_option maxRecDepth 100000 in
theorem d_Md_pensioner_55 : decode b_Md_pensioner 55 = .ok (.iload_n 1, 1) := by decide +kernel
set_option maxRecDepth 100000 in
theorem d_Md_pensioner_56 : decode b_Md_pensioner 56 = .ok (.iaload, 1) := by decide +kernel
set_option maxRecDepth 100000 in
theorem d_Md_pensioner_57 : decode b_Md_pensioner 57 = .ok (.ireturn, 1) := by decide +kernel
set_option maxRecDepth 100000 in
theorem d_Md_pensioner_58 : decode b_Md_pensioner 58 = .ok (.aload_n 0, 1) := by decide +kernel
set_option maxRecDepth 100000 in
theorem d_Md_pensioner_59 : decode b_Md_pensioner 59 = .ok (.getfield 183, 3) := by decide +kernel
set_option maxRecDepth 100000 in
theorem d_Md_pensioner_62 : decode b_Md_pensioner 62 = .ok (.iload_n 1, 1) := by decide +kernel
set_option maxRecDepth 100000 in
theorem d_Md_pensioner_63 : decode b_Md_pensioner 63 = .ok (.iaload, 1) := by decide +kernel
set_option maxRecDepth 100000 in
theorem d_Md_pensioner_64 : decode b_Md_pensioner 64 = .ok (.ireturn, 1) := by decide +kernel
set_option maxRecDepth 100000 in
theorem d_Md_pensioner_65 : decode b_Md_pensioner 65 = .ok (.iconst (-1), 1) := by decide +kernel
set_option maxRecDepth 100000 in
theorem d_Md_pensioner_66 : decode b_Md_pensioner 66 = .ok (.ireturn, 1) := by decide +kernel
set_option maxRecDepth 100000 in
theorem d_Md_placeOf_0 : decode b_Md_placeOf 0 = .ok (.aload_n 0, 1) := by decide +kernel
set_option maxRecDepth 100000 in
theorem d_Md_placeOf_1 : decode b_Md_placeOf 1 = .ok (.iload_n 1, 1) := by decide +kernel
set_option maxRecDepth 100000 in
theorem d_Md_placeOf_2 : decode b_Md_placeOf 2 = .ok (.invokevirtual 193, 3) := by decide +kernel
set_option maxRecDepth 100000 in
theorem d_Md_placeOf_5 : decode b_Md_placeOf 5 = .ok (.istore_n 2, 1) := by decide +kernel
set_option maxRecDepth 100000 in
theorem d_Md_placeOf_6 : decode b_Md_placeOf 6 = .ok (.iconst 0, 1) := by decide +kernel
set_option maxRecDepth 100000 in
theorem d_Md_placeOf_7 : decode b_Md_placeOf 7 = .ok (.istore_n 3, 1) := by decide +kernel
set_option maxRecDepth 100000 in
theorem d_Md_placeOf_8 : decode b_Md_placeOf 8 = .ok (.iload_n 2, 1) := by decide +kernel
set_option maxRecDepth 100000 in
theorem d_Md_placeOf_9 : decode b_Md_placeOf 9 = .ok (.ifCond .lt 24, 3) := by decide +kernel
set_option maxRecDepth 100000 in
theorem d_Md_placeOf_12 : decode b_Md_placeOf 12 = .ok (.aload_n 0, 1) := by decide +kernel
set_option maxRecDepth 100000 in
theorem d_Md_placeOf_13 : decode b_Md_placeOf 13 = .ok (.getfield 91, 3) := by decide +kernel
set_option maxRecDepth 100000 in
theorem d_Md_placeOf_16 : decode b_Md_placeOf 16 = .ok (.bipush 40, 2) := by decide +kernel
set_option maxRecDepth 100000 in
theorem d_Md_placeOf_18 : decode b_Md_placeOf 18 = .ok (.iload_n 2, 1) := by decide +kernel
set_option maxRecDepth 100000 in
theorem d_Md_placeOf_19 : decode b_Md_placeOf 19 = .ok (.imul, 1) := by decide +kernel
set_option maxRecDepth 100000 in
theorem d_Md_placeOf_20 : decode b_Md_placeOf 20 = .ok (.iload_n 3, 1) := by decide +kernel
set_option maxRecDepth 100000 in
theorem d_Md_placeOf_21 : decode b_Md_placeOf 21 = .ok (.iadd, 1) := by decide +kernel
set_option maxRecDepth 100000 in
theorem d_Md_placeOf_22 : decode b_Md_placeOf 22 = .ok (.iaload, 1) := by decide +kernel
set_option maxRecDepth 100000 in
theorem d_Md_placeOf_23 : decode b_Md_placeOf 23 = .ok (.iload_n 1, 1) := by decide +kernel
set_option maxRecDepth 100000 in
theorem d_Md_placeOf_24 : decode b_Md_placeOf 24 = .ok (.if_icmp .eq 9, 3) := by decide +kernel
set_option maxRecDepth 100000 in
theorem d_Md_placeOf_27 : decode b_Md_placeOf 27 = .ok (.iinc 3 1, 3) := by decide +kernel
set_option maxRecDepth 100000 in
theorem d_Md_placeOf_30 : decode b_Md_placeOf 30 = .ok (.goto (-22), 3) := by decide +kernel
set_option maxRecDepth 100000 in
theorem d_Md_placeOf_33 : decode b_Md_placeOf 33 = .ok (.iload_n 2, 1) := by decide +kernel
set_option maxRecDepth 100000 in
theorem d_Md_placeOf_34 : decode b_Md_placeOf 34 = .ok (.ifCond .ge 7, 3) := by decide +kernel
set_option maxRecDepth 100000 in
theorem d_Md_placeOf_37 : decode b_Md_placeOf 37 = .ok (.iconst (-1), 1) := by decide +kernel
set_option maxRecDepth 100000 in
theorem d_Md_placeOf_38 : decode b_Md_placeOf 38 = .ok (.goto 4, 3) := by decide +kernel
set_option maxRecDepth 100000 in
theorem d_Md_placeOf_41 : decode b_Md_placeOf 41 = .ok (.iload_n 3, 1) := by decide +kernel
set_option maxRecDepth 100000 in
theorem d_Md_placeOf_42 : decode b_Md_placeOf 42 = .ok (.ireturn, 1) := by decide +kernel
set_option maxRecDepth 100000 in
theorem d_Md_rowOf_0 : decode b_Md_rowOf 0 = .ok (.iconst 0, 1) := by decide +kernel
set_option maxRecDepth 100000 in
theorem d_Md_rowOf_1 : decode b_Md_rowOf 1 = .ok (.istore_n 2, 1) := by decide +kernel
set_option maxRecDepth 100000 in
theorem d_Md_rowOf_2 : decode b_Md_rowOf 2 = .ok (.iload_n 2, 1) := by decide +kernel
set_option maxRecDepth 100000 in
theorem d_Md_rowOf_3 : decode b_Md_rowOf 3 = .ok (.aload_n 0, 1) := by decide +kernel
set_option maxRecDepth 100000 in
theorem d_Md_rowOf_4 : decode b_Md_rowOf 4 = .ok (.getfield 14, 3) := by decide +kernel
set_option maxRecDepth 100000 in
theorem d_Md_rowOf_7 : decode b_Md_rowOf 7 = .ok (.if_icmp .ge 44, 3) := by decide +kernel
set_option maxRecDepth 100000 in
theorem d_Md_rowOf_10 : decode b_Md_rowOf 10 = .ok (.iconst 0, 1) := by decide +kernel
set_option maxRecDepth 100000 in
theorem d_Md_rowOf_11 : decode b_Md_rowOf 11 = .ok (.istore_n 3, 1) := by decide +kernel
set_option maxRecDepth 100000 in
theorem d_Md_rowOf_12 : decode b_Md_rowOf 12 = .ok (.iload_n 3, 1) := by decide +kernel
set_option maxRecDepth 100000 in
theorem d_Md_rowOf_13 : decode b_Md_rowOf 13 = .ok (.aload_n 0, 1) := by decide +kernel
set_option maxRecDepth 100000 in
theorem d_Md_rowOf_14 : decode b_Md_rowOf 14 = .ok (.getfield 88, 3) := by decide +kernel
set_option maxRecDepth 100000 in
theorem d_Md_rowOf_17 : decode b_Md_rowOf 17 = .ok (.iload_n 2, 1) := by decide +kernel
set_option maxRecDepth 100000 in
theorem d_Md_rowOf_18 : decode b_Md_rowOf 18 = .ok (.iaload, 1) := by decide +kernel
set_option maxRecDepth 100000 in
theorem d_Md_rowOf_19 : decode b_Md_rowOf 19 = .ok (.if_icmp .ge 26, 3) := by decide +kernel
set_option maxRecDepth 100000 in
theorem d_Md_rowOf_22 : decode b_Md_rowOf 22 = .ok (.aload_n 0, 1) := by decide +kernel
set_option maxRecDepth 100000 in
theorem d_Md_rowOf_23 : decode b_Md_rowOf 23 = .ok (.getfield 91, 3) := by decide +kernel
set_option maxRecDepth 100000 in
theorem d_Md_rowOf_26 : decode b_Md_rowOf 26 = .ok (.bipush 40, 2) := by decide +kernel
set_option maxRecDepth 100000 in
theorem d_Md_rowOf_28 : decode b_Md_rowOf 28 = .ok (.iload_n 2, 1) := by decide +kernel
set_option maxRecDepth 100000 in
theorem d_Md_rowOf_29 : decode b_Md_rowOf 29 = .ok (.imul, 1) := by decide +kernel
set_option maxRecDepth 100000 in
theorem d_Md_rowOf_30 : decode b_Md_rowOf 30 = .ok (.iload_n 3, 1) := by decide +kernel
set_option maxRecDepth 100000 in
theorem d_Md_rowOf_31 : decode b_Md_rowOf 31 = .ok (.iadd, 1) := by decide +kernel
set_option maxRecDepth 100000 in
theorem d_Md_rowOf_32 : decode b_Md_rowOf 32 = .ok (.iaload, 1) := by decide +kernel
set_option maxRecDepth 100000 in
theorem d_Md_rowOf_33 : decode b_Md_rowOf 33 = .ok (.iload_n 1, 1) := by decide +kernel
set_option maxRecDepth 100000 in
theorem d_Md_rowOf_34 : decode b_Md_rowOf 34 = .ok (.if_icmp .ne 5, 3) := by decide +kernel
set_option maxRecDepth 100000 in
theorem d_Md_rowOf_37 : decode b_Md_rowOf 37 = .ok (.iload_n 2, 1) := by decide +kernel
set_option maxRecDepth 100000 in
theorem d_Md_rowOf_38 : decode b_Md_rowOf 38 = .ok (.ireturn, 1) := by decide +kernel
set_option maxRecDepth 100000 in
theorem d_Md_rowOf_39 : decode b_Md_rowOf 39 = .ok (.iinc 3 1, 3) := by decide +kernel
set_option maxRecDepth 100000 in
theorem d_Md_rowOf_42 : decode b_Md_rowOf 42 = .ok (.goto (-30), 3) := by decide +kernel
set_option maxRecDepth 100000 in
theorem d_Md_rowOf_45 : decode b_Md_rowOf 45 = .ok (.iinc 2 1, 3) := by decide +kernel
set_option maxRecDepth 100000 in
theorem d_Md_rowOf_48 : decode b_Md_rowOf 48 = .ok (.goto (-46), 3) := by decide +kernel
set_option maxRecDepth 100000 in
theorem d_Md_rowOf_51 : decode b_Md_rowOf 51 = .ok (.iconst (-1), 1) := by decide +kernel
set_option maxRecDepth 100000 in
theorem d_Md_rowOf_52 : decode b_Md_rowOf 52 = .ok (.ireturn, 1) := by decide +kernel
set_option maxRecDepth 100000 in
theorem d_Md_today_0 : decode b_Md_today 0 = .ok (.aload_n 0, 1) := by decide +kernel
set_option maxRecDepth 100000 in
theorem d_Md_today_1 : decode b_Md_today 1 = .ok (.getfield 7, 3) := by decide +kernel
set_option maxRecDepth 100000 in
theorem d_Md_today_4 : decode b_Md_today 4 = .ok (.sipush 720, 3) := by decide +kernel
set_option maxRecDepth 100000 in
theorem d_Md_today_7 : decode b_Md_today 7 = .ok (.idiv, 1) := by decide +kernel
set_option maxRecDepth 100000 in
theorem d_Md_today_8 : decode b_Md_today 8 = .ok (.ireturn, 1) := by decide +kernel
