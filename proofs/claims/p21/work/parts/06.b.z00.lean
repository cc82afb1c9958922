set_option maxRecDepth 100000 in
theorem d_Md_absent_0 : decode b_Md_absent 0 = .ok (.iload_n 1, 1) := by decide +kernel
set_option maxRecDepth 100000 in
theorem d_Md_absent_1 : decode b_Md_absent 1 = .ok (.invokestatic 186, 3) := by decide +kernel
set_option maxRecDepth 100000 in
theorem d_Md_absent_4 : decode b_Md_absent 4 = .ok (.ifCond .eq 20, 3) := by decide +kernel
set_option maxRecDepth 100000 in
theorem d_Md_absent_7 : decode b_Md_absent 7 = .ok (.iload_n 2, 1) := by decide +kernel
set_option maxRecDepth 100000 in
theorem d_Md_absent_8 : decode b_Md_absent 8 = .ok (.ifCond .lt 16, 3) := by decide +kernel
set_option maxRecDepth 100000 in
theorem d_Md_absent_11 : decode b_Md_absent 11 = .ok (.iload_n 2, 1) := by decide +kernel
set_option maxRecDepth 100000 in
theorem d_Md_absent_12 : decode b_Md_absent 12 = .ok (.iload_n 3, 1) := by decide +kernel
set_option maxRecDepth 100000 in
theorem d_Md_absent_13 : decode b_Md_absent 13 = .ok (.if_icmp .gt 11, 3) := by decide +kernel
set_option maxRecDepth 100000 in
theorem d_Md_absent_16 : decode b_Md_absent 16 = .ok (.iload_n 3, 1) := by decide +kernel
set_option maxRecDepth 100000 in
theorem d_Md_absent_17 : decode b_Md_absent 17 = .ok (.aload_n 0, 1) := by decide +kernel
set_option maxRecDepth 100000 in
theorem d_Md_absent_18 : decode b_Md_absent 18 = .ok (.invokevirtual 45, 3) := by decide +kernel
set_option maxRecDepth 100000 in
theorem d_Md_absent_21 : decode b_Md_absent 21 = .ok (.if_icmp .le 5, 3) := by decide +kernel
set_option maxRecDepth 100000 in
theorem d_Md_absent_24 : decode b_Md_absent 24 = .ok (.iconst (-1), 1) := by decide +kernel
set_option maxRecDepth 100000 in
theorem d_Md_absent_25 : decode b_Md_absent 25 = .ok (.ireturn, 1) := by decide +kernel
set_option maxRecDepth 100000 in
theorem d_Md_absent_26 : decode b_Md_absent 26 = .ok (.aload_n 0, 1) := by decide +kernel
set_option maxRecDepth 100000 in
theorem d_Md_absent_27 : decode b_Md_absent 27 = .ok (.getfield 58, 3) := by decide +kernel
set_option maxRecDepth 100000 in
theorem d_Md_absent_30 : decode b_Md_absent 30 = .ok (.iload_n 1, 1) := by decide +kernel
set_option maxRecDepth 100000 in
theorem d_Md_absent_31 : decode b_Md_absent 31 = .ok (.iaload, 1) := by decide +kernel
set_option maxRecDepth 100000 in
theorem d_Md_absent_32 : decode b_Md_absent 32 = .ok (.iconst 1, 1) := by decide +kernel
set_option maxRecDepth 100000 in
theorem d_Md_absent_33 : decode b_Md_absent 33 = .ok (.if_icmp .eq 6, 3) := by decide +kernel
set_option maxRecDepth 100000 in
theorem d_Md_absent_36 : decode b_Md_absent 36 = .ok (.bipush (-2), 2) := by decide +kernel
set_option maxRecDepth 100000 in
theorem d_Md_absent_38 : decode b_Md_absent 38 = .ok (.ireturn, 1) := by decide +kernel
set_option maxRecDepth 100000 in
theorem d_Md_absent_39 : decode b_Md_absent 39 = .ok (.iload_n 2, 1) := by decide +kernel
set_option maxRecDepth 100000 in
theorem d_Md_absent_40 : decode b_Md_absent 40 = .ok (.aload_n 0, 1) := by decide +kernel
set_option maxRecDepth 100000 in
theorem d_Md_absent_41 : decode b_Md_absent 41 = .ok (.getfield 64, 3) := by decide +kernel
set_option maxRecDepth 100000 in
theorem d_Md_absent_44 : decode b_Md_absent 44 = .ok (.iload_n 1, 1) := by decide +kernel
set_option maxRecDepth 100000 in
theorem d_Md_absent_45 : decode b_Md_absent 45 = .ok (.iaload, 1) := by decide +kernel
set_option maxRecDepth 100000 in
theorem d_Md_absent_46 : decode b_Md_absent 46 = .ok (.if_icmp .ge 5, 3) := by decide +kernel
set_option maxRecDepth 100000 in
theorem d_Md_absent_49 : decode b_Md_absent 49 = .ok (.iconst (-1), 1) := by decide +kernel
set_option maxRecDepth 100000 in
theorem d_Md_absent_50 : decode b_Md_absent 50 = .ok (.ireturn, 1) := by decide +kernel
set_option maxRecDepth 100000 in
theorem d_Md_absent_51 : decode b_Md_absent 51 = .ok (.iconst 0, 1) := by decide +kernel
set_option maxRecDepth 100000 in
theorem d_Md_absent_52 : decode b_Md_absent 52 = .ok (.istore 4, 2) := by decide +kernel
set_option maxRecDepth 100000 in
theorem d_Md_absent_54 : decode b_Md_absent 54 = .ok (.iload 4, 2) := by decide +kernel
set_option maxRecDepth 100000 in
theorem d_Md_absent_56 : decode b_Md_absent 56 = .ok (.aload_n 0, 1) := by decide +kernel
set_option maxRecDepth 100000 in
theorem d_Md_absent_57 : decode b_Md_absent 57 = .ok (.getfield 67, 3) := by decide +kernel
set_option maxRecDepth 100000 in
theorem d_Md_absent_60 : decode b_Md_absent 60 = .ok (.iload_n 1, 1) := by decide +kernel
set_option maxRecDepth 100000 in
theorem d_Md_absent_61 : decode b_Md_absent 61 = .ok (.iaload, 1) := by decide +kernel
set_option maxRecDepth 100000 in
theorem d_Md_absent_62 : decode b_Md_absent 62 = .ok (.if_icmp .ge 48, 3) := by decide +kernel
set_option maxRecDepth 100000 in
theorem d_Md_absent_65 : decode b_Md_absent 65 = .ok (.iload_n 2, 1) := by decide +kernel
set_option maxRecDepth 100000 in
theorem d_Md_absent_66 : decode b_Md_absent 66 = .ok (.aload_n 0, 1) := by decide +kernel
set_option maxRecDepth 100000 in
theorem d_Md_absent_67 : decode b_Md_absent 67 = .ok (.getfield 73, 3) := by decide +kernel
set_option maxRecDepth 100000 in
theorem d_Md_absent_70 : decode b_Md_absent 70 = .ok (.bipush 6, 2) := by decide +kernel
set_option maxRecDepth 100000 in
theorem d_Md_absent_72 : decode b_Md_absent 72 = .ok (.iload_n 1, 1) := by decide +kernel
set_option maxRecDepth 100000 in
theorem d_Md_absent_73 : decode b_Md_absent 73 = .ok (.imul, 1) := by decide +kernel
set_option maxRecDepth 100000 in
theorem d_Md_absent_74 : decode b_Md_absent 74 = .ok (.iload 4, 2) := by decide +kernel
set_option maxRecDepth 100000 in
theorem d_Md_absent_76 : decode b_Md_absent 76 = .ok (.iadd, 1) := by decide +kernel
set_option maxRecDepth 100000 in
theorem d_Md_absent_77 : decode b_Md_absent 77 = .ok (.iaload, 1) := by decide +kernel
set_option maxRecDepth 100000 in
theorem d_Md_absent_78 : decode b_Md_absent 78 = .ok (.iconst 1, 1) := by decide +kernel
set_option maxRecDepth 100000 in
theorem d_Md_absent_79 : decode b_Md_absent 79 = .ok (.iadd, 1) := by decide +kernel
set_option maxRecDepth 100000 in
theorem d_Md_absent_80 : decode b_Md_absent 80 = .ok (.if_icmp .gt 24, 3) := by decide +kernel
set_option maxRecDepth 100000 in
theorem d_Md_absent_83 : decode b_Md_absent 83 = .ok (.iload_n 3, 1) := by decide +kernel
set_option maxRecDepth 100000 in
theorem d_Md_absent_84 : decode b_Md_absent 84 = .ok (.aload_n 0, 1) := by decide +kernel
set_option maxRecDepth 100000 in
theorem d_Md_absent_85 : decode b_Md_absent 85 = .ok (.getfield 70, 3) := by decide +kernel
set_option maxRecDepth 100000 in
theorem d_Md_absent_88 : decode b_Md_absent 88 = .ok (.bipush 6, 2) := by decide +kernel
set_option maxRecDepth 100000 in
theorem d_Md_absent_90 : decode b_Md_absent 90 = .ok (.iload_n 1, 1) := by decide +kernel
set_option maxRecDepth 100000 in
theorem d_Md_absent_91 : decode b_Md_absent 91 = .ok (.imul, 1) := by decide +kernel
set_option maxRecDepth 100000 in
theorem d_Md_absent_92 : decode b_Md_absent 92 = .ok (.iload 4, 2) := by decide +kernel
set_option maxRecDepth 100000 in
theorem d_Md_absent_94 : decode b_Md_absent 94 = .ok (.iadd, 1) := by decide +kernel
set_option maxRecDepth 100000 in
theorem d_Md_absent_95 : decode b_Md_absent 95 = .ok (.iaload, 1) := by decide +kernel
set_option maxRecDepth 100000 in
theorem d_Md_absent_96 : decode b_Md_absent 96 = .ok (.iconst 1, 1) := by decide +kernel
set_option maxRecDepth 100000 in
theorem d_Md_absent_97 : decode b_Md_absent 97 = .ok (.isub, 1) := by decide +kernel
set_option maxRecDepth 100000 in
theorem d_Md_absent_98 : decode b_Md_absent 98 = .ok (.if_icmp .lt 6, 3) := by decide +kernel
set_option maxRecDepth 100000 in
theorem d_Md_absent_101 : decode b_Md_absent 101 = .ok (.bipush (-2), 2) := by decide +kernel
set_option maxRecDepth 100000 in
theorem d_Md_absent_103 : decode b_Md_absent 103 = .ok (.ireturn, 1) := by decide +kernel
set_option maxRecDepth 100000 in
theorem d_Md_absent_104 : decode b_Md_absent 104 = .ok (.iinc 4 1, 3) := by decide +kernel
set_option maxRecDepth 100000 in
theorem d_Md_absent_107 : decode b_Md_absent 107 = .ok (.goto (-53), 3) := by decide +kernel
set_option maxRecDepth 100000 in
theorem d_Md_absent_110 : decode b_Md_absent 110 = .ok (.aload_n 0, 1) := by decide +kernel
set_option maxRecDepth 100000 in
theorem d_Md_absent_111 : decode b_Md_absent 111 = .ok (.getfield 67, 3) := by decide +kernel
set_option maxRecDepth 100000 in
theorem d_Md_absent_114 : decode b_Md_absent 114 = .ok (.iload_n 1, 1) := by decide +kernel
set_option maxRecDepth 100000 in
theorem d_Md_absent_115 : decode b_Md_absent 115 = .ok (.iaload, 1) := by decide +kernel
set_option maxRecDepth 100000 in
theorem d_Md_absent_116 : decode b_Md_absent 116 = .ok (.bipush 6, 2) := by decide +kernel
set_option maxRecDepth 100000 in
theorem d_Md_absent_118 : decode b_Md_absent 118 = .ok (.if_icmp .ne 6, 3) := by decide +kernel
set_option maxRecDepth 100000 in
theorem d_Md_absent_121 : decode b_Md_absent 121 = .ok (.bipush (-3), 2) := by decide +kernel
set_option maxRecDepth 100000 in
theorem d_Md_absent_123 : decode b_Md_absent 123 = .ok (.ireturn, 1) := by decide +kernel
set_option maxRecDepth 100000 in
theorem d_Md_absent_124 : decode b_Md_absent 124 = .ok (.aload_n 0, 1) := by decide +kernel
set_option maxRecDepth 100000 in
theorem d_Md_absent_125 : decode b_Md_absent 125 = .ok (.getfield 70, 3) := by decide +kernel
set_option maxRecDepth 100000 in
theorem d_Md_absent_128 : decode b_Md_absent 128 = .ok (.bipush 6, 2) := by decide +kernel
set_option maxRecDepth 100000 in
theorem d_Md_absent_130 : decode b_Md_absent 130 = .ok (.iload_n 1, 1) := by decide +kernel
set_option maxRecDepth 100000 in
theorem d_Md_absent_131 : decode b_Md_absent 131 = .ok (.imul, 1) := by decide +kernel
set_option maxRecDepth 100000 in
theorem d_Md_absent_132 : decode b_Md_absent 132 = .ok (.aload_n 0, 1) := by decide +kernel
set_option maxRecDepth 100000 in
theorem d_Md_absent_133 : decode b_Md_absent 133 = .ok (.getfield 67, 3) := by decide +kernel
set_option maxRecDepth 100000 in
theorem d_Md_absent_136 : decode b_Md_absent 136 = .ok (.iload_n 1, 1) := by decide +kernel
set_option maxRecDepth 100000 in
theorem d_Md_absent_137 : decode b_Md_absent 137 = .ok (.iaload, 1) := by decide +kernel
set_option maxRecDepth 100000 in
theorem d_Md_absent_138 : decode b_Md_absent 138 = .ok (.iadd, 1) := by decide +kernel
set_option maxRecDepth 100000 in
theorem d_Md_absent_139 : decode b_Md_absent 139 = .ok (.iload_n 2, 1) := by decide +kernel
set_option maxRecDepth 100000 in
theorem d_Md_absent_140 : decode b_Md_absent 140 = .ok (.iastore, 1) := by decide +kernel
set_option maxRecDepth 100000 in
theorem d_Md_absent_141 : decode b_Md_absent 141 = .ok (.aload_n 0, 1) := by decide +kernel
set_option maxRecDepth 100000 in
theorem d_Md_absent_142 : decode b_Md_absent 142 = .ok (.getfield 73, 3) := by decide +kernel
set_option maxRecDepth 100000 in
theorem d_Md_absent_145 : decode b_Md_absent 145 = .ok (.bipush 6, 2) := by decide +kernel
set_option maxRecDepth 100000 in
theorem d_Md_absent_147 : decode b_Md_absent 147 = .ok (.iload_n 1, 1) := by decide +kernel
set_option maxRecDepth 100000 in
theorem d_Md_absent_148 : decode b_Md_absent 148 = .ok (.imul, 1) := by decide +kernel
set_option maxRecDepth 100000 in
theorem d_Md_absent_149 : decode b_Md_absent 149 = .ok (.aload_n 0, 1) := by decide +kernel
set_option maxRecDepth 100000 in
theorem d_Md_absent_150 : decode b_Md_absent 150 = .ok (.getfield 67, 3) := by decide +kernel
set_option maxRecDepth 100000 in
theorem d_Md_absent_153 : decode b_Md_absent 153 = .ok (.iload_n 1, 1) := by decide +kernel
set_option maxRecDepth 100000 in
theorem d_Md_absent_154 : decode b_Md_absent 154 = .ok (.iaload, 1) := by decide +kernel
set_option maxRecDepth 100000 in
theorem d_Md_absent_155 : decode b_Md_absent 155 = .ok (.iadd, 1) := by decide +kernel
set_option maxRecDepth 100000 in
theorem d_Md_absent_156 : decode b_Md_absent 156 = .ok (.iload_n 3, 1) := by decide +kernel
set_option maxRecDepth 100000 in
theorem d_Md_absent_157 : decode b_Md_absent 157 = .ok (.iastore, 1) := by decide +kernel
set_option maxRecDepth 100000 in
theorem d_Md_absent_158 : decode b_Md_absent 158 = .ok (.aload_n 0, 1) := by decide +kernel
set_option maxRecDepth 100000 in
theorem d_Md_absent_159 : decode b_Md_absent 159 = .ok (.getfield 67, 3) := by decide +kernel
set_option maxRecDepth 100000 in
theorem d_Md_absent_162 : decode b_Md_absent 162 = .ok (.iload_n 1, 1) := by decide +kernel
set_option maxRecDepth 100000 in
theorem d_Md_absent_163 : decode b_Md_absent 163 = .ok (.dup2, 1) := by decide +kernel
set_option maxRecDepth 100000 in
theorem d_Md_absent_164 : decode b_Md_absent 164 = .ok (.iaload, 1) := by decide +kernel
set_option maxRecDepth 100000 in
theorem d_Md_absent_165 : decode b_Md_absent 165 = .ok (.iconst 1, 1) := by decide +kernel
set_option maxRecDepth 100000 in
theorem d_Md_absent_166 : decode b_Md_absent 166 = .ok (.iadd, 1) := by decide +kernel
set_option maxRecDepth 100000 in
theorem d_Md_absent_167 : decode b_Md_absent 167 = .ok (.iastore, 1) := by decide +kernel
set_option maxRecDepth 100000 in
theorem d_Md_absent_168 : decode b_Md_absent 168 = .ok (.aload_n 0, 1) := by decide +kernel
set_option maxRecDepth 100000 in
theorem d_Md_absent_169 : decode b_Md_absent 169 = .ok (.getfield 67, 3) := by decide +kernel
set_option maxRecDepth 100000 in
theorem d_Md_absent_172 : decode b_Md_absent 172 = .ok (.iload_n 1, 1) := by decide +kernel
set_option maxRecDepth 100000 in
theorem d_Md_absent_173 : decode b_Md_absent 173 = .ok (.iaload, 1) := by decide +kernel
set_option maxRecDepth 100000 in
theorem d_Md_absent_174 : decode b_Md_absent 174 = .ok (.ireturn, 1) := by decide +kernel
set_option maxRecDepth 100000 in
theorem d_Md_advance_0 : decode b_Md_advance 0 = .ok (.aload_n 0, 1) := by decide +kernel
set_option maxRecDepth 100000 in
theorem d_Md_advance_1 : decode b_Md_advance 1 = .ok (.getfield 218, 3) := by decide +kernel
set_option maxRecDepth 100000 in
theorem d_Md_advance_4 : decode b_Md_advance 4 = .ok (.aload_n 0, 1) := by decide +kernel
set_option maxRecDepth 100000 in
theorem d_Md_advance_5 : decode b_Md_advance 5 = .ok (.getfield 212, 3) := by decide +kernel
set_option maxRecDepth 100000 in
theorem d_Md_advance_8 : decode b_Md_advance 8 = .ok (.if_icmp .ge 30, 3) := by decide +kernel
set_option maxRecDepth 100000 in
theorem d_Md_advance_11 : decode b_Md_advance 11 = .ok (.aload_n 0, 1) := by decide +kernel
set_option maxRecDepth 100000 in
theorem d_Md_advance_12 : decode b_Md_advance 12 = .ok (.getfield 109, 3) := by decide +kernel
set_option maxRecDepth 100000 in
theorem d_Md_advance_15 : decode b_Md_advance 15 = .ok (.aload_n 0, 1) := by decide +kernel
set_option maxRecDepth 100000 in
theorem d_Md_advance_16 : decode b_Md_advance 16 = .ok (.getfield 218, 3) := by decide +kernel
set_option maxRecDepth 100000 in
theorem d_Md_advance_19 : decode b_Md_advance 19 = .ok (.baload, 1) := by decide +kernel
set_option maxRecDepth 100000 in
theorem d_Md_advance_20 : decode b_Md_advance 20 = .ok (.bipush 32, 2) := by decide +kernel
set_option maxRecDepth 100000 in
theorem d_Md_advance_22 : decode b_Md_advance 22 = .ok (.if_icmp .ne 16, 3) := by decide +kernel
set_option maxRecDepth 100000 in
theorem d_Md_advance_25 : decode b_Md_advance 25 = .ok (.aload_n 0, 1) := by decide +kernel
set_option maxRecDepth 100000 in
theorem d_Md_advance_26 : decode b_Md_advance 26 = .ok (.dup, 1) := by decide +kernel
set_option maxRecDepth 100000 in
theorem d_Md_advance_27 : decode b_Md_advance 27 = .ok (.getfield 218, 3) := by decide +kernel
set_option maxRecDepth 100000 in
theorem d_Md_advance_30 : decode b_Md_advance 30 = .ok (.iconst 1, 1) := by decide +kernel
set_option maxRecDepth 100000 in
theorem d_Md_advance_31 : decode b_Md_advance 31 = .ok (.iadd, 1) := by decide +kernel
set_option maxRecDepth 100000 in
theorem d_Md_advance_32 : decode b_Md_advance 32 = .ok (.putfield 218, 3) := by decide +kernel
set_option maxRecDepth 100000 in
theorem d_Md_advance_35 : decode b_Md_advance 35 = .ok (.goto (-35), 3) := by decide +kernel
set_option maxRecDepth 100000 in
theorem d_Md_advance_38 : decode b_Md_advance 38 = .ok (.aload_n 0, 1) := by decide +kernel
set_option maxRecDepth 100000 in
theorem d_Md_advance_39 : decode b_Md_advance 39 = .ok (.aload_n 0, 1) := by decide +kernel
set_option maxRecDepth 100000 in
theorem d_Md_advance_40 : decode b_Md_advance 40 = .ok (.getfield 218, 3) := by decide +kernel
set_option maxRecDepth 100000 in
theorem d_Md_advance_43 : decode b_Md_advance 43 = .ok (.putfield 221, 3) := by decide +kernel
set_option maxRecDepth 100000 in
theorem d_Md_advance_46 : decode b_Md_advance 46 = .ok (.aload_n 0, 1) := by decide +kernel
set_option maxRecDepth 100000 in
theorem d_Md_advance_47 : decode b_Md_advance 47 = .ok (.getfield 218, 3) := by decide +kernel
set_option maxRecDepth 100000 in
theorem d_Md_advance_50 : decode b_Md_advance 50 = .ok (.aload_n 0, 1) := by decide +kernel
set_option maxRecDepth 100000 in
theorem d_Md_advance_51 : decode b_Md_advance 51 = .ok (.getfield 212, 3) := by decide +kernel
set_option maxRecDepth 100000 in
theorem d_Md_advance_54 : decode b_Md_advance 54 = .ok (.if_icmp .ne 9, 3) := by decide +kernel
set_option maxRecDepth 100000 in
theorem d_Md_advance_57 : decode b_Md_advance 57 = .ok (.aload_n 0, 1) := by decide +kernel
set_option maxRecDepth 100000 in
theorem d_Md_advance_58 : decode b_Md_advance 58 = .ok (.iconst 0, 1) := by decide +kernel
set_option maxRecDepth 100000 in
theorem d_Md_advance_59 : decode b_Md_advance 59 = .ok (.putfield 224, 3) := by decide +kernel
set_option maxRecDepth 100000 in
theorem d_Md_advance_62 : decode b_Md_advance 62 = .ok (.return_, 1) := by decide +kernel
set_option maxRecDepth 100000 in
theorem d_Md_advance_63 : decode b_Md_advance 63 = .ok (.aload_n 0, 1) := by decide +kernel
set_option maxRecDepth 100000 in
theorem d_Md_advance_64 : decode b_Md_advance 64 = .ok (.getfield 109, 3) := by decide +kernel
set_option maxRecDepth 100000 in
theorem d_Md_advance_67 : decode b_Md_advance 67 = .ok (.aload_n 0, 1) := by decide +kernel
set_option maxRecDepth 100000 in
theorem d_Md_advance_68 : decode b_Md_advance 68 = .ok (.getfield 218, 3) := by decide +kernel
set_option maxRecDepth 100000 in
theorem d_Md_advance_71 : decode b_Md_advance 71 = .ok (.baload, 1) := by decide +kernel
set_option maxRecDepth 100000 in
theorem d_Md_advance_72 : decode b_Md_advance 72 = .ok (.istore_n 1, 1) := by decide +kernel
set_option maxRecDepth 100000 in
theorem d_Md_advance_73 : decode b_Md_advance 73 = .ok (.iload_n 1, 1) := by decide +kernel
set_option maxRecDepth 100000 in
theorem d_Md_advance_74 : decode b_Md_advance 74 = .ok (.invokestatic 227, 3) := by decide +kernel
set_option maxRecDepth 100000 in
theorem d_Md_advance_77 : decode b_Md_advance 77 = .ok (.ifCond .eq 102, 3) := by decide +kernel
set_option maxRecDepth 100000 in
theorem d_Md_advance_80 : decode b_Md_advance 80 = .ok (.lconst 0, 1) := by decide +kernel
set_option maxRecDepth 100000 in
theorem d_Md_advance_81 : decode b_Md_advance 81 = .ok (.lstore_n 2, 1) := by decide +kernel
set_option maxRecDepth 100000 in
theorem d_Md_advance_82 : decode b_Md_advance 82 = .ok (.iconst 0, 1) := by decide +kernel
set_option maxRecDepth 100000 in
theorem d_Md_advance_83 : decode b_Md_advance 83 = .ok (.istore 4, 2) := by decide +kernel
set_option maxRecDepth 100000 in
theorem d_Md_advance_85 : decode b_Md_advance 85 = .ok (.aload_n 0, 1) := by decide +kernel
set_option maxRecDepth 100000 in
theorem d_Md_advance_86 : decode b_Md_advance 86 = .ok (.getfield 218, 3) := by decide +kernel
set_option maxRecDepth 100000 in
theorem d_Md_advance_89 : decode b_Md_advance 89 = .ok (.aload_n 0, 1) := by decide +kernel
set_option maxRecDepth 100000 in
theorem d_Md_advance_90 : decode b_Md_advance 90 = .ok (.getfield 212, 3) := by decide +kernel
set_option maxRecDepth 100000 in
theorem d_Md_advance_93 : decode b_Md_advance 93 = .ok (.if_icmp .ge 66, 3) := by decide +kernel
set_option maxRecDepth 100000 in
theorem d_Md_advance_96 : decode b_Md_advance 96 = .ok (.aload_n 0, 1) := by decide +kernel
set_option maxRecDepth 100000 in
theorem d_Md_advance_97 : decode b_Md_advance 97 = .ok (.getfield 109, 3) := by decide +kernel
set_option maxRecDepth 100000 in
theorem d_Md_advance_100 : decode b_Md_advance 100 = .ok (.aload_n 0, 1) := by decide +kernel
set_option maxRecDepth 100000 in
theorem d_Md_advance_101 : decode b_Md_advance 101 = .ok (.getfield 218, 3) := by decide +kernel
set_option maxRecDepth 100000 in
theorem d_Md_advance_104 : decode b_Md_advance 104 = .ok (.baload, 1) := by decide +kernel
set_option maxRecDepth 100000 in
theorem d_Md_advance_105 : decode b_Md_advance 105 = .ok (.invokestatic 227, 3) := by decide +kernel
set_option maxRecDepth 100000 in
theorem d_Md_advance_108 : decode b_Md_advance 108 = .ok (.ifCond .eq 51, 3) := by decide +kernel
set_option maxRecDepth 100000 in
theorem d_Md_advance_111 : decode b_Md_advance 111 = .ok (.iload 4, 2) := by decide +kernel
set_option maxRecDepth 100000 in
theorem d_Md_advance_113 : decode b_Md_advance 113 = .ok (.bipush 8, 2) := by decide +kernel
set_option maxRecDepth 100000 in
theorem d_Md_advance_115 : decode b_Md_advance 115 = .ok (.if_icmp .ge 26, 3) := by decide +kernel
set_option maxRecDepth 100000 in
theorem d_Md_advance_118 : decode b_Md_advance 118 = .ok (.lload_n 2, 1) := by decide +kernel
set_option maxRecDepth 100000 in
theorem d_Md_advance_119 : decode b_Md_advance 119 = .ok (.ldc2_w 230, 3) := by decide +kernel
set_option maxRecDepth 100000 in
theorem d_Md_advance_122 : decode b_Md_advance 122 = .ok (.lmul, 1) := by decide +kernel
set_option maxRecDepth 100000 in
theorem d_Md_advance_123 : decode b_Md_advance 123 = .ok (.aload_n 0, 1) := by decide +kernel
set_option maxRecDepth 100000 in
theorem d_Md_advance_124 : decode b_Md_advance 124 = .ok (.getfield 109, 3) := by decide +kernel
set_option maxRecDepth 100000 in
theorem d_Md_advance_127 : decode b_Md_advance 127 = .ok (.aload_n 0, 1) := by decide +kernel
set_option maxRecDepth 100000 in
theorem d_Md_advance_128 : decode b_Md_advance 128 = .ok (.getfield 218, 3) := by decide +kernel
set_option maxRecDepth 100000 in
theorem d_Md_advance_131 : decode b_Md_advance 131 = .ok (.baload, 1) := by decide +kernel
set_option maxRecDepth 100000 in
theorem d_Md_advance_132 : decode b_Md_advance 132 = .ok (.i2l, 1) := by decide +kernel
set_option maxRecDepth 100000 in
theorem d_Md_advance_133 : decode b_Md_advance 133 = .ok (.ladd, 1) := by decide +kernel
set_option maxRecDepth 100000 in
theorem d_Md_advance_134 : decode b_Md_advance 134 = .ok (.ldc2_w 232, 3) := by decide +kernel
set_option maxRecDepth 100000 in
theorem d_Md_advance_137 : decode b_Md_advance 137 = .ok (.lsub, 1) := by decide +kernel
set_option maxRecDepth 100000 in
theorem d_Md_advance_138 : decode b_Md_advance 138 = .ok (.goto 4, 3) := by decide +kernel
set_option maxRecDepth 100000 in
theorem d_Md_advance_141 : decode b_Md_advance 141 = .ok (.lload_n 2, 1) := by decide +kernel
set_option maxRecDepth 100000 in
theorem d_Md_advance_142 : decode b_Md_advance 142 = .ok (.lstore_n 2, 1) := by decide +kernel
set_option maxRecDepth 100000 in
theorem d_Md_advance_143 : decode b_Md_advance 143 = .ok (.aload_n 0, 1) := by decide +kernel
set_option maxRecDepth 100000 in
theorem d_Md_advance_144 : decode b_Md_advance 144 = .ok (.dup, 1) := by decide +kernel
set_option maxRecDepth 100000 in
theorem d_Md_advance_145 : decode b_Md_advance 145 = .ok (.getfield 218, 3) := by decide +kernel
set_option maxRecDepth 100000 in
theorem d_Md_advance_148 : decode b_Md_advance 148 = .ok (.iconst 1, 1) := by decide +kernel
set_option maxRecDepth 100000 in
theorem d_Md_advance_149 : decode b_Md_advance 149 = .ok (.iadd, 1) := by decide +kernel
set_option maxRecDepth 100000 in
theorem d_Md_advance_150 : decode b_Md_advance 150 = .ok (.putfield 218, 3) := by decide +kernel
set_option maxRecDepth 100000 in
theorem d_Md_advance_153 : decode b_Md_advance 153 = .ok (.iinc 4 1, 3) := by decide +kernel
set_option maxRecDepth 100000 in
theorem d_Md_advance_156 : decode b_Md_advance 156 = .ok (.goto (-71), 3) := by decide +kernel
set_option maxRecDepth 100000 in
theorem d_Md_advance_159 : decode b_Md_advance 159 = .ok (.aload_n 0, 1) := by decide +kernel
set_option maxRecDepth 100000 in
theorem d_Md_advance_160 : decode b_Md_advance 160 = .ok (.iload 4, 2) := by decide +kernel
set_option maxRecDepth 100000 in
theorem d_Md_advance_162 : decode b_Md_advance 162 = .ok (.bipush 7, 2) := by decide +kernel
set_option maxRecDepth 100000 in
theorem d_Md_advance_164 : decode b_Md_advance 164 = .ok (.if_icmp .le 7, 3) := by decide +kernel
set_option maxRecDepth 100000 in
theorem d_Md_advance_167 : decode b_Md_advance 167 = .ok (.iconst 3, 1) := by decide +kernel
set_option maxRecDepth 100000 in
theorem d_Md_advance_168 : decode b_Md_advance 168 = .ok (.goto 7, 3) := by decide +kernel
set_option maxRecDepth 100000 in
theorem d_Md_advance_171 : decode b_Md_advance 171 = .ok (.lload_n 2, 1) := by decide +kernel
set_option maxRecDepth 100000 in
theorem d_Md_advance_172 : decode b_Md_advance 172 = .ok (.invokestatic 234, 3) := by decide +kernel
set_option maxRecDepth 100000 in
theorem d_Md_advance_175 : decode b_Md_advance 175 = .ok (.putfield 224, 3) := by decide +kernel
set_option maxRecDepth 100000 in
theorem d_Md_advance_178 : decode b_Md_advance 178 = .ok (.return_, 1) := by decide +kernel
set_option maxRecDepth 100000 in
theorem d_Md_advance_179 : decode b_Md_advance 179 = .ok (.iload_n 1, 1) := by decide +kernel
set_option maxRecDepth 100000 in
theorem d_Md_advance_180 : decode b_Md_advance 180 = .ok (.invokestatic 238, 3) := by decide +kernel
set_option maxRecDepth 100000 in
theorem d_Md_advance_183 : decode b_Md_advance 183 = .ok (.ifCond .eq 103, 3) := by decide +kernel
set_option maxRecDepth 100000 in
theorem d_Md_advance_186 : decode b_Md_advance 186 = .ok (.iconst 0, 1) := by decide +kernel
set_option maxRecDepth 100000 in
theorem d_Md_advance_187 : decode b_Md_advance 187 = .ok (.istore_n 2, 1) := by decide +kernel
set_option maxRecDepth 100000 in
theorem d_Md_advance_188 : decode b_Md_advance 188 = .ok (.aload_n 0, 1) := by decide +kernel
set_option maxRecDepth 100000 in
theorem d_Md_advance_189 : decode b_Md_advance 189 = .ok (.iconst 0, 1) := by decide +kernel
set_option maxRecDepth 100000 in
theorem d_Md_advance_190 : decode b_Md_advance 190 = .ok (.putfield 241, 3) := by decide +kernel
set_option maxRecDepth 100000 in
theorem d_Md_advance_193 : decode b_Md_advance 193 = .ok (.aload_n 0, 1) := by decide +kernel
set_option maxRecDepth 100000 in
theorem d_Md_advance_194 : decode b_Md_advance 194 = .ok (.getfield 218, 3) := by decide +kernel
set_option maxRecDepth 100000 in
theorem d_Md_advance_197 : decode b_Md_advance 197 = .ok (.aload_n 0, 1) := by decide +kernel
set_option maxRecDepth 100000 in
theorem d_Md_advance_198 : decode b_Md_advance 198 = .ok (.getfield 212, 3) := by decide +kernel
set_option maxRecDepth 100000 in
theorem d_Md_advance_201 : decode b_Md_advance 201 = .ok (.if_icmp .ge 70, 3) := by decide +kernel
set_option maxRecDepth 100000 in
theorem d_Md_advance_204 : decode b_Md_advance 204 = .ok (.aload_n 0, 1) := by decide +kernel
set_option maxRecDepth 100000 in
theorem d_Md_advance_205 : decode b_Md_advance 205 = .ok (.getfield 109, 3) := by decide +kernel
set_option maxRecDepth 100000 in
theorem d_Md_advance_208 : decode b_Md_advance 208 = .ok (.aload_n 0, 1) := by decide +kernel
set_option maxRecDepth 100000 in
theorem d_Md_advance_209 : decode b_Md_advance 209 = .ok (.getfield 218, 3) := by decide +kernel
set_option maxRecDepth 100000 in
theorem d_Md_advance_212 : decode b_Md_advance 212 = .ok (.baload, 1) := by decide +kernel
set_option maxRecDepth 100000 in
theorem d_Md_advance_213 : decode b_Md_advance 213 = .ok (.invokestatic 238, 3) := by decide +kernel
set_option maxRecDepth 100000 in
theorem d_Md_advance_216 : decode b_Md_advance 216 = .ok (.ifCond .eq 55, 3) := by decide +kernel
set_option maxRecDepth 100000 in
theorem d_Md_advance_219 : decode b_Md_advance 219 = .ok (.aload_n 0, 1) := by decide +kernel
set_option maxRecDepth 100000 in
theorem d_Md_advance_220 : decode b_Md_advance 220 = .ok (.iload_n 2, 1) := by decide +kernel
set_option maxRecDepth 100000 in
theorem d_Md_advance_221 : decode b_Md_advance 221 = .ok (.iconst 5, 1) := by decide +kernel
set_option maxRecDepth 100000 in
theorem d_Md_advance_222 : decode b_Md_advance 222 = .ok (.if_icmp .ge 26, 3) := by decide +kernel
set_option maxRecDepth 100000 in
theorem d_Md_advance_225 : decode b_Md_advance 225 = .ok (.bipush 10, 2) := by decide +kernel
set_option maxRecDepth 100000 in
theorem d_Md_advance_227 : decode b_Md_advance 227 = .ok (.aload_n 0, 1) := by decide +kernel
set_option maxRecDepth 100000 in
theorem d_Md_advance_228 : decode b_Md_advance 228 = .ok (.getfield 241, 3) := by decide +kernel
set_option maxRecDepth 100000 in
theorem d_Md_advance_231 : decode b_Md_advance 231 = .ok (.imul, 1) := by decide +kernel
set_option maxRecDepth 100000 in
theorem d_Md_advance_232 : decode b_Md_advance 232 = .ok (.aload_n 0, 1) := by decide +kernel
set_option maxRecDepth 100000 in
theorem d_Md_advance_233 : decode b_Md_advance 233 = .ok (.getfield 109, 3) := by decide +kernel
set_option maxRecDepth 100000 in
theorem d_Md_advance_236 : decode b_Md_advance 236 = .ok (.aload_n 0, 1) := by decide +kernel
set_option maxRecDepth 100000 in
theorem d_Md_advance_237 : decode b_Md_advance 237 = .ok (.getfield 218, 3) := by decide +kernel
set_option maxRecDepth 100000 in
theorem d_Md_advance_240 : decode b_Md_advance 240 = .ok (.baload, 1) := by decide +kernel
set_option maxRecDepth 100000 in
theorem d_Md_advance_241 : decode b_Md_advance 241 = .ok (.iadd, 1) := by decide +kernel
set_option maxRecDepth 100000 in
theorem d_Md_advance_242 : decode b_Md_advance 242 = .ok (.bipush 48, 2) := by decide +kernel
set_option maxRecDepth 100000 in
theorem d_Md_advance_244 : decode b_Md_advance 244 = .ok (.isub, 1) := by decide +kernel
set_option maxRecDepth 100000 in
theorem d_Md_advance_245 : decode b_Md_advance 245 = .ok (.goto 7, 3) := by decide +kernel
set_option maxRecDepth 100000 in
theorem d_Md_advance_248 : decode b_Md_advance 248 = .ok (.aload_n 0, 1) := by decide +kernel
set_option maxRecDepth 100000 in
theorem d_Md_advance_249 : decode b_Md_advance 249 = .ok (.getfield 241, 3) := by decide +kernel
set_option maxRecDepth 100000 in
theorem d_Md_advance_252 : decode b_Md_advance 252 = .ok (.putfield 241, 3) := by decide +kernel
set_option maxRecDepth 100000 in
theorem d_Md_advance_255 : decode b_Md_advance 255 = .ok (.aload_n 0, 1) := by decide +kernel
set_option maxRecDepth 100000 in
theorem d_Md_advance_256 : decode b_Md_advance 256 = .ok (.dup, 1) := by decide +kernel
set_option maxRecDepth 100000 in
theorem d_Md_advance_257 : decode b_Md_advance 257 = .ok (.getfield 218, 3) := by decide +kernel
set_option maxRecDepth 100000 in
theorem d_Md_advance_260 : decode b_Md_advance 260 = .ok (.iconst 1, 1) := by decide +kernel
set_option maxRecDepth 100000 in
theorem d_Md_advance_261 : decode b_Md_advance 261 = .ok (.iadd, 1) := by decide +kernel
set_option maxRecDepth 100000 in
theorem d_Md_advance_262 : decode b_Md_advance 262 = .ok (.putfield 218, 3) := by decide +kernel
set_option maxRecDepth 100000 in
theorem d_Md_advance_265 : decode b_Md_advance 265 = .ok (.iinc 2 1, 3) := by decide +kernel
set_option maxRecDepth 100000 in
theorem d_Md_advance_268 : decode b_Md_advance 268 = .ok (.goto (-75), 3) := by decide +kernel
set_option maxRecDepth 100000 in
theorem d_Md_advance_271 : decode b_Md_advance 271 = .ok (.aload_n 0, 1) := by decide +kernel
set_option maxRecDepth 100000 in
theorem d_Md_advance_272 : decode b_Md_advance 272 = .ok (.iload_n 2, 1) := by decide +kernel
set_option maxRecDepth 100000 in
theorem d_Md_advance_273 : decode b_Md_advance 273 = .ok (.iconst 5, 1) := by decide +kernel
set_option maxRecDepth 100000 in
theorem d_Md_advance_274 : decode b_Md_advance 274 = .ok (.if_icmp .le 7, 3) := by decide +kernel
set_option maxRecDepth 100000 in
theorem d_Md_advance_277 : decode b_Md_advance 277 = .ok (.iconst 3, 1) := by decide +kernel
set_option maxRecDepth 100000 in
theorem d_Md_advance_278 : decode b_Md_advance 278 = .ok (.goto 4, 3) := by decide +kernel
set_option maxRecDepth 100000 in
theorem d_Md_advance_281 : decode b_Md_advance 281 = .ok (.iconst 1, 1) := by decide +kernel
set_option maxRecDepth 100000 in
theorem d_Md_advance_282 : decode b_Md_advance 282 = .ok (.putfield 224, 3) := by decide +kernel
set_option maxRecDepth 100000 in
theorem d_Md_advance_285 : decode b_Md_advance 285 = .ok (.return_, 1) := by decide +kernel
set_option maxRecDepth 100000 in
theorem d_Md_advance_286 : decode b_Md_advance 286 = .ok (.aload_n 0, 1) := by decide +kernel
set_option maxRecDepth 100000 in
theorem d_Md_advance_287 : decode b_Md_advance 287 = .ok (.dup, 1) := by decide +kernel
set_option maxRecDepth 100000 in
theorem d_Md_advance_288 : decode b_Md_advance 288 = .ok (.getfield 218, 3) := by decide +kernel
set_option maxRecDepth 100000 in
theorem d_Md_advance_291 : decode b_Md_advance 291 = .ok (.iconst 1, 1) := by decide +kernel
set_option maxRecDepth 100000 in
theorem d_Md_advance_292 : decode b_Md_advance 292 = .ok (.iadd, 1) := by decide +kernel
set_option maxRecDepth 100000 in
theorem d_Md_advance_293 : decode b_Md_advance 293 = .ok (.putfield 218, 3) := by decide +kernel
set_option maxRecDepth 100000 in
theorem d_Md_advance_296 : decode b_Md_advance 296 = .ok (.aload_n 0, 1) := by decide +kernel
set_option maxRecDepth 100000 in
theorem d_Md_advance_297 : decode b_Md_advance 297 = .ok (.iload_n 1, 1) := by decide +kernel
set_option maxRecDepth 100000 in
theorem d_Md_advance_298 : decode b_Md_advance 298 = .ok (.bipush 59, 2) := by decide +kernel
set_option maxRecDepth 100000 in
theorem d_Md_advance_300 : decode b_Md_advance 300 = .ok (.if_icmp .ne 7, 3) := by decide +kernel
set_option maxRecDepth 100000 in
theorem d_Md_advance_303 : decode b_Md_advance 303 = .ok (.iconst 2, 1) := by decide +kernel
set_option maxRecDepth 100000 in
theorem d_Md_advance_304 : decode b_Md_advance 304 = .ok (.goto 4, 3) := by decide +kernel
set_option maxRecDepth 100000 in
theorem d_Md_advance_307 : decode b_Md_advance 307 = .ok (.iconst 3, 1) := by decide +kernel
set_option maxRecDepth 100000 in
theorem d_Md_advance_308 : decode b_Md_advance 308 = .ok (.putfield 224, 3) := by decide +kernel
set_option maxRecDepth 100000 in
theorem d_Md_advance_311 : decode b_Md_advance 311 = .ok (.return_, 1) := by decide +kernel
set_option maxRecDepth 100000 in
theorem d_Md_arrive_0 : decode b_Md_arrive 0 = .ok (.iconst 0, 1) := by decide +kernel
set_option maxRecDepth 100000 in
theorem d_Md_arrive_1 : decode b_Md_arrive 1 = .ok (.istore_n 1, 1) := by decide +kernel
set_option maxRecDepth 100000 in
theorem d_Md_arrive_2 : decode b_Md_arrive 2 = .ok (.iload_n 1, 1) := by decide +kernel
set_option maxRecDepth 100000 in
theorem d_Md_arrive_3 : decode b_Md_arrive 3 = .ok (.aload_n 0, 1) := by decide +kernel
set_option maxRecDepth 100000 in
theorem d_Md_arrive_4 : decode b_Md_arrive 4 = .ok (.getfield 206, 3) := by decide +kernel
set_option maxRecDepth 100000 in
theorem d_Md_arrive_7 : decode b_Md_arrive 7 = .ok (.if_icmp .ge 55, 3) := by decide +kernel
set_option maxRecDepth 100000 in
theorem d_Md_arrive_10 : decode b_Md_arrive 10 = .ok (.aload_n 0, 1) := by decide +kernel
set_option maxRecDepth 100000 in
theorem d_Md_arrive_11 : decode b_Md_arrive 11 = .ok (.getfield 103, 3) := by decide +kernel
set_option maxRecDepth 100000 in
theorem d_Md_arrive_14 : decode b_Md_arrive 14 = .ok (.iload_n 1, 1) := by decide +kernel
set_option maxRecDepth 100000 in
theorem d_Md_arrive_15 : decode b_Md_arrive 15 = .ok (.iaload, 1) := by decide +kernel
set_option maxRecDepth 100000 in
theorem d_Md_arrive_16 : decode b_Md_arrive 16 = .ok (.istore_n 2, 1) := by decide +kernel
set_option maxRecDepth 100000 in
theorem d_Md_arrive_17 : decode b_Md_arrive 17 = .ok (.iload_n 2, 1) := by decide +kernel
set_option maxRecDepth 100000 in
theorem d_Md_arrive_18 : decode b_Md_arrive 18 = .ok (.ifCond .lt 38, 3) := by decide +kernel
set_option maxRecDepth 100000 in
theorem d_Md_arrive_21 : decode b_Md_arrive 21 = .ok (.aload_n 0, 1) := by decide +kernel
set_option maxRecDepth 100000 in
theorem d_Md_arrive_22 : decode b_Md_arrive 22 = .ok (.getfield 164, 3) := by decide +kernel
set_option maxRecDepth 100000 in
theorem d_Md_arrive_25 : decode b_Md_arrive 25 = .ok (.iload_n 2, 1) := by decide +kernel
set_option maxRecDepth 100000 in
theorem d_Md_arrive_26 : decode b_Md_arrive 26 = .ok (.iaload, 1) := by decide +kernel
set_option maxRecDepth 100000 in
theorem d_Md_arrive_27 : decode b_Md_arrive 27 = .ok (.aload_n 0, 1) := by decide +kernel
set_option maxRecDepth 100000 in
theorem d_Md_arrive_28 : decode b_Md_arrive 28 = .ok (.getfield 7, 3) := by decide +kernel
set_option maxRecDepth 100000 in
theorem d_Md_arrive_31 : decode b_Md_arrive 31 = .ok (.if_icmp .le 6, 3) := by decide +kernel
set_option maxRecDepth 100000 in
theorem d_Md_arrive_34 : decode b_Md_arrive 34 = .ok (.goto 22, 3) := by decide +kernel
set_option maxRecDepth 100000 in
theorem d_Md_arrive_37 : decode b_Md_arrive 37 = .ok (.aload_n 0, 1) := by decide +kernel
set_option maxRecDepth 100000 in
theorem d_Md_arrive_38 : decode b_Md_arrive 38 = .ok (.getfield 103, 3) := by decide +kernel
set_option maxRecDepth 100000 in
theorem d_Md_arrive_41 : decode b_Md_arrive 41 = .ok (.iload_n 1, 1) := by decide +kernel
set_option maxRecDepth 100000 in
theorem d_Md_arrive_42 : decode b_Md_arrive 42 = .ok (.iconst (-1), 1) := by decide +kernel
set_option maxRecDepth 100000 in
theorem d_Md_arrive_43 : decode b_Md_arrive 43 = .ok (.iastore, 1) := by decide +kernel
set_option maxRecDepth 100000 in
theorem d_Md_arrive_44 : decode b_Md_arrive 44 = .ok (.aload_n 0, 1) := by decide +kernel
set_option maxRecDepth 100000 in
theorem d_Md_arrive_45 : decode b_Md_arrive 45 = .ok (.getfield 79, 3) := by decide +kernel
set_option maxRecDepth 100000 in
theorem d_Md_arrive_48 : decode b_Md_arrive 48 = .ok (.aload_n 0, 1) := by decide +kernel
set_option maxRecDepth 100000 in
theorem d_Md_arrive_49 : decode b_Md_arrive 49 = .ok (.getfield 152, 3) := by decide +kernel
set_option maxRecDepth 100000 in
theorem d_Md_arrive_52 : decode b_Md_arrive 52 = .ok (.iload_n 2, 1) := by decide +kernel
set_option maxRecDepth 100000 in
theorem d_Md_arrive_53 : decode b_Md_arrive 53 = .ok (.iaload, 1) := by decide +kernel
set_option maxRecDepth 100000 in
theorem d_Md_arrive_54 : decode b_Md_arrive 54 = .ok (.iconst (-1), 1) := by decide +kernel
set_option maxRecDepth 100000 in
theorem d_Md_arrive_55 : decode b_Md_arrive 55 = .ok (.iastore, 1) := by decide +kernel
set_option maxRecDepth 100000 in
theorem d_Md_arrive_56 : decode b_Md_arrive 56 = .ok (.iinc 1 1, 3) := by decide +kernel
set_option maxRecDepth 100000 in
theorem d_Md_arrive_59 : decode b_Md_arrive 59 = .ok (.goto (-57), 3) := by decide +kernel
set_option maxRecDepth 100000 in
theorem d_Md_arrive_62 : decode b_Md_arrive 62 = .ok (.return_, 1) := by decide +kernel
set_option maxRecDepth 100000 in
theorem d_Md_bind_0 : decode b_Md_bind 0 = .ok (.iload_n 1, 1) := by decide +kernel
set_option maxRecDepth 100000 in
theorem d_Md_bind_1 : decode b_Md_bind 1 = .ok (.invokestatic 186, 3) := by decide +kernel
set_option maxRecDepth 100000 in
theorem d_Md_bind_4 : decode b_Md_bind 4 = .ok (.ifCond .eq 10, 3) := by decide +kernel
set_option maxRecDepth 100000 in
theorem d_Md_bind_7 : decode b_Md_bind 7 = .ok (.iload_n 2, 1) := by decide +kernel
set_option maxRecDepth 100000 in
theorem d_Md_bind_8 : decode b_Md_bind 8 = .ok (.invokestatic 186, 3) := by decide +kernel
set_option maxRecDepth 100000 in
theorem d_Md_bind_11 : decode b_Md_bind 11 = .ok (.ifCond .ne 5, 3) := by decide +kernel
set_option maxRecDepth 100000 in
theorem d_Md_bind_14 : decode b_Md_bind 14 = .ok (.iconst (-1), 1) := by decide +kernel
set_option maxRecDepth 100000 in
theorem d_Md_bind_15 : decode b_Md_bind 15 = .ok (.ireturn, 1) := by decide +kernel
set_option maxRecDepth 100000 in
theorem d_Md_bind_16 : decode b_Md_bind 16 = .ok (.aload_n 0, 1) := by decide +kernel
set_option maxRecDepth 100000 in
theorem d_Md_bind_17 : decode b_Md_bind 17 = .ok (.getfield 58, 3) := by decide +kernel
set_option maxRecDepth 100000 in
theorem d_Md_bind_20 : decode b_Md_bind 20 = .ok (.iload_n 1, 1) := by decide +kernel
set_option maxRecDepth 100000 in
theorem d_Md_bind_21 : decode b_Md_bind 21 = .ok (.iaload, 1) := by decide +kernel
set_option maxRecDepth 100000 in
theorem d_Md_bind_22 : decode b_Md_bind 22 = .ok (.ifCond .ne 13, 3) := by decide +kernel
set_option maxRecDepth 100000 in
theorem d_Md_bind_25 : decode b_Md_bind 25 = .ok (.aload_n 0, 1) := by decide +kernel
set_option maxRecDepth 100000 in
theorem d_Md_bind_26 : decode b_Md_bind 26 = .ok (.getfield 58, 3) := by decide +kernel
set_option maxRecDepth 100000 in
theorem d_Md_bind_29 : decode b_Md_bind 29 = .ok (.iload_n 2, 1) := by decide +kernel
set_option maxRecDepth 100000 in
theorem d_Md_bind_30 : decode b_Md_bind 30 = .ok (.iaload, 1) := by decide +kernel
set_option maxRecDepth 100000 in
theorem d_Md_bind_31 : decode b_Md_bind 31 = .ok (.iconst 2, 1) := by decide +kernel
set_option maxRecDepth 100000 in
theorem d_Md_bind_32 : decode b_Md_bind 32 = .ok (.if_icmp .eq 6, 3) := by decide +kernel
set_option maxRecDepth 100000 in
theorem d_Md_bind_35 : decode b_Md_bind 35 = .ok (.bipush (-2), 2) := by decide +kernel
set_option maxRecDepth 100000 in
theorem d_Md_bind_37 : decode b_Md_bind 37 = .ok (.ireturn, 1) := by decide +kernel
set_option maxRecDepth 100000 in
theorem d_Md_bind_38 : decode b_Md_bind 38 = .ok (.aload_n 0, 1) := by decide +kernel
set_option maxRecDepth 100000 in
theorem d_Md_bind_39 : decode b_Md_bind 39 = .ok (.getfield 58, 3) := by decide +kernel
set_option maxRecDepth 100000 in
theorem d_Md_bind_42 : decode b_Md_bind 42 = .ok (.iload_n 1, 1) := by decide +kernel
set_option maxRecDepth 100000 in
theorem d_Md_bind_43 : decode b_Md_bind 43 = .ok (.iconst 1, 1) := by decide +kernel
set_option maxRecDepth 100000 in
theorem d_Md_bind_44 : decode b_Md_bind 44 = .ok (.iastore, 1) := by decide +kernel
set_option maxRecDepth 100000 in
theorem d_Md_bind_45 : decode b_Md_bind 45 = .ok (.aload_n 0, 1) := by decide +kernel
set_option maxRecDepth 100000 in
theorem d_Md_bind_46 : decode b_Md_bind 46 = .ok (.getfield 61, 3) := by decide +kernel
set_option maxRecDepth 100000 in
theorem d_Md_bind_49 : decode b_Md_bind 49 = .ok (.iload_n 1, 1) := by decide +kernel
set_option maxRecDepth 100000 in
theorem d_Md_bind_50 : decode b_Md_bind 50 = .ok (.iload_n 2, 1) := by decide +kernel
set_option maxRecDepth 100000 in
theorem d_Md_bind_51 : decode b_Md_bind 51 = .ok (.iastore, 1) := by decide +kernel
set_option maxRecDepth 100000 in
theorem d_Md_bind_52 : decode b_Md_bind 52 = .ok (.aload_n 0, 1) := by decide +kernel
set_option maxRecDepth 100000 in
theorem d_Md_bind_53 : decode b_Md_bind 53 = .ok (.getfield 64, 3) := by decide +kernel
set_option maxRecDepth 100000 in
theorem d_Md_bind_56 : decode b_Md_bind 56 = .ok (.iload_n 1, 1) := by decide +kernel
set_option maxRecDepth 100000 in
theorem d_Md_bind_57 : decode b_Md_bind 57 = .ok (.aload_n 0, 1) := by decide +kernel
set_option maxRecDepth 100000 in
theorem d_Md_bind_58 : decode b_Md_bind 58 = .ok (.invokevirtual 45, 3) := by decide +kernel
set_option maxRecDepth 100000 in
theorem d_Md_bind_61 : decode b_Md_bind 61 = .ok (.iastore, 1) := by decide +kernel
set_option maxRecDepth 100000 in
theorem d_Md_bind_62 : decode b_Md_bind 62 = .ok (.aload_n 0, 1) := by decide +kernel
set_option maxRecDepth 100000 in
theorem d_Md_bind_63 : decode b_Md_bind 63 = .ok (.getfield 67, 3) := by decide +kernel
set_option maxRecDepth 100000 in
theorem d_Md_bind_66 : decode b_Md_bind 66 = .ok (.iload_n 1, 1) := by decide +kernel
set_option maxRecDepth 100000 in
theorem d_Md_bind_67 : decode b_Md_bind 67 = .ok (.iconst 0, 1) := by decide +kernel
set_option maxRecDepth 100000 in
theorem d_Md_bind_68 : decode b_Md_bind 68 = .ok (.iastore, 1) := by decide +kernel
set_option maxRecDepth 100000 in
theorem d_Md_bind_69 : decode b_Md_bind 69 = .ok (.iconst 1, 1) := by decide +kernel
set_option maxRecDepth 100000 in
theorem d_Md_bind_70 : decode b_Md_bind 70 = .ok (.ireturn, 1) := by decide +kernel
set_option maxRecDepth 100000 in
theorem d_Md_boat_0 : decode b_Md_boat 0 = .ok (.iload_n 1, 1) := by decide +kernel
set_option maxRecDepth 100000 in
theorem d_Md_boat_1 : decode b_Md_boat 1 = .ok (.iconst 1, 1) := by decide +kernel
set_option maxRecDepth 100000 in
theorem d_Md_boat_2 : decode b_Md_boat 2 = .ok (.iconst 2, 1) := by decide +kernel
set_option maxRecDepth 100000 in
theorem d_Md_boat_3 : decode b_Md_boat 3 = .ok (.invokestatic 10, 3) := by decide +kernel
set_option maxRecDepth 100000 in
theorem d_Md_boat_6 : decode b_Md_boat 6 = .ok (.ifCond .eq 11, 3) := by decide +kernel
set_option maxRecDepth 100000 in
theorem d_Md_boat_9 : decode b_Md_boat 9 = .ok (.aload_n 0, 1) := by decide +kernel
set_option maxRecDepth 100000 in
theorem d_Md_boat_10 : decode b_Md_boat 10 = .ok (.iload_n 2, 1) := by decide +kernel
set_option maxRecDepth 100000 in
theorem d_Md_boat_11 : decode b_Md_boat 11 = .ok (.invokevirtual 199, 3) := by decide +kernel
set_option maxRecDepth 100000 in
theorem d_Md_boat_14 : decode b_Md_boat 14 = .ok (.ifCond .ne 5, 3) := by decide +kernel
set_option maxRecDepth 100000 in
theorem d_Md_boat_17 : decode b_Md_boat 17 = .ok (.iconst (-1), 1) := by decide +kernel
set_option maxRecDepth 100000 in
theorem d_Md_boat_18 : decode b_Md_boat 18 = .ok (.ireturn, 1) := by decide +kernel
set_option maxRecDepth 100000 in
theorem d_Md_boat_19 : decode b_Md_boat 19 = .ok (.aload_n 0, 1) := by decide +kernel
set_option maxRecDepth 100000 in
theorem d_Md_boat_20 : decode b_Md_boat 20 = .ok (.getfield 206, 3) := by decide +kernel
set_option maxRecDepth 100000 in
theorem d_Md_boat_23 : decode b_Md_boat 23 = .ok (.bipush 20, 2) := by decide +kernel
set_option maxRecDepth 100000 in
theorem d_Md_boat_25 : decode b_Md_boat 25 = .ok (.if_icmp .ne 6, 3) := by decide +kernel
set_option maxRecDepth 100000 in
theorem d_Md_boat_28 : decode b_Md_boat 28 = .ok (.bipush (-3), 2) := by decide +kernel
set_option maxRecDepth 100000 in
theorem d_Md_boat_30 : decode b_Md_boat 30 = .ok (.ireturn, 1) := by decide +kernel
set_option maxRecDepth 100000 in
theorem d_Md_boat_31 : decode b_Md_boat 31 = .ok (.aload_n 0, 1) := by decide +kernel
set_option maxRecDepth 100000 in
theorem d_Md_boat_32 : decode b_Md_boat 32 = .ok (.getfield 94, 3) := by decide +kernel
set_option maxRecDepth 100000 in
theorem d_Md_boat_35 : decode b_Md_boat 35 = .ok (.aload_n 0, 1) := by decide +kernel
set_option maxRecDepth 100000 in
theorem d_Md_boat_36 : decode b_Md_boat 36 = .ok (.getfield 206, 3) := by decide +kernel
set_option maxRecDepth 100000 in
theorem d_Md_boat_39 : decode b_Md_boat 39 = .ok (.iload_n 1, 1) := by decide +kernel
set_option maxRecDepth 100000 in
theorem d_Md_boat_40 : decode b_Md_boat 40 = .ok (.iastore, 1) := by decide +kernel
set_option maxRecDepth 100000 in
theorem d_Md_boat_41 : decode b_Md_boat 41 = .ok (.aload_n 0, 1) := by decide +kernel
set_option maxRecDepth 100000 in
theorem d_Md_boat_42 : decode b_Md_boat 42 = .ok (.getfield 97, 3) := by decide +kernel
set_option maxRecDepth 100000 in
theorem d_Md_boat_45 : decode b_Md_boat 45 = .ok (.aload_n 0, 1) := by decide +kernel
set_option maxRecDepth 100000 in
theorem d_Md_boat_46 : decode b_Md_boat 46 = .ok (.getfield 206, 3) := by decide +kernel
set_option maxRecDepth 100000 in
theorem d_Md_boat_49 : decode b_Md_boat 49 = .ok (.iload_n 2, 1) := by decide +kernel
set_option maxRecDepth 100000 in
theorem d_Md_boat_50 : decode b_Md_boat 50 = .ok (.iastore, 1) := by decide +kernel
set_option maxRecDepth 100000 in
theorem d_Md_boat_51 : decode b_Md_boat 51 = .ok (.aload_n 0, 1) := by decide +kernel
set_option maxRecDepth 100000 in
theorem d_Md_boat_52 : decode b_Md_boat 52 = .ok (.getfield 100, 3) := by decide +kernel
set_option maxRecDepth 100000 in
theorem d_Md_boat_55 : decode b_Md_boat 55 = .ok (.aload_n 0, 1) := by decide +kernel
set_option maxRecDepth 100000 in
theorem d_Md_boat_56 : decode b_Md_boat 56 = .ok (.getfield 206, 3) := by decide +kernel
set_option maxRecDepth 100000 in
theorem d_Md_boat_59 : decode b_Md_boat 59 = .ok (.iconst 0, 1) := by decide +kernel
set_option maxRecDepth 100000 in
theorem d_Md_boat_60 : decode b_Md_boat 60 = .ok (.iastore, 1) := by decide +kernel
set_option maxRecDepth 100000 in
theorem d_Md_boat_61 : decode b_Md_boat 61 = .ok (.aload_n 0, 1) := by decide +kernel
set_option maxRecDepth 100000 in
theorem d_Md_boat_62 : decode b_Md_boat 62 = .ok (.getfield 103, 3) := by decide +kernel
set_option maxRecDepth 100000 in
theorem d_Md_boat_65 : decode b_Md_boat 65 = .ok (.aload_n 0, 1) := by decide +kernel
set_option maxRecDepth 100000 in
theorem d_Md_boat_66 : decode b_Md_boat 66 = .ok (.getfield 206, 3) := by decide +kernel
set_option maxRecDepth 100000 in
theorem d_Md_boat_69 : decode b_Md_boat 69 = .ok (.iconst (-1), 1) := by decide +kernel
set_option maxRecDepth 100000 in
theorem d_Md_boat_70 : decode b_Md_boat 70 = .ok (.iastore, 1) := by decide +kernel
set_option maxRecDepth 100000 in
theorem d_Md_boat_71 : decode b_Md_boat 71 = .ok (.aload_n 0, 1) := by decide +kernel
set_option maxRecDepth 100000 in
theorem d_Md_boat_72 : decode b_Md_boat 72 = .ok (.dup, 1) := by decide +kernel
