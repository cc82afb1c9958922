set_option maxRecDepth 100000 in
theorem d_Md_levelOf_1 : decode b_Md_levelOf 1 = .ok (.sipush 500, 3) := by decide +kernel
set_option maxRecDepth 100000 in
theorem d_Md_levelOf_4 : decode b_Md_levelOf 4 = .ok (.if_icmp .ge 26, 3) := by decide +kernel
set_option maxRecDepth 100000 in
theorem d_Md_levelOf_7 : decode b_Md_levelOf 7 = .ok (.aload_n 0, 1) := by decide +kernel
set_option maxRecDepth 100000 in
theorem d_Md_levelOf_8 : decode b_Md_levelOf 8 = .ok (.getfield 17, 3) := by decide +kernel
set_option maxRecDepth 100000 in
theorem d_Md_levelOf_11 : decode b_Md_levelOf 11 = .ok (.iload_n 1, 1) := by decide +kernel
set_option maxRecDepth 100000 in
theorem d_Md_levelOf_12 : decode b_Md_levelOf 12 = .ok (.baload, 1) := by decide +kernel
set_option maxRecDepth 100000 in
theorem d_Md_levelOf_13 : decode b_Md_levelOf 13 = .ok (.ifCond .eq 17, 3) := by decide +kernel
set_option maxRecDepth 100000 in
theorem d_Md_levelOf_16 : decode b_Md_levelOf 16 = .ok (.aload_n 0, 1) := by decide +kernel
set_option maxRecDepth 100000 in
theorem d_Md_levelOf_17 : decode b_Md_levelOf 17 = .ok (.getfield 21, 3) := by decide +kernel
set_option maxRecDepth 100000 in
theorem d_Md_levelOf_20 : decode b_Md_levelOf 20 = .ok (.bipush 12, 2) := by decide +kernel
set_option maxRecDepth 100000 in
theorem d_Md_levelOf_22 : decode b_Md_levelOf 22 = .ok (.iload_n 1, 1) := by decide +kernel
set_option maxRecDepth 100000 in
theorem d_Md_levelOf_23 : decode b_Md_levelOf 23 = .ok (.imul, 1) := by decide +kernel
set_option maxRecDepth 100000 in
theorem d_Md_levelOf_24 : decode b_Md_levelOf 24 = .ok (.iload_n 2, 1) := by decide +kernel
set_option maxRecDepth 100000 in
theorem d_Md_levelOf_25 : decode b_Md_levelOf 25 = .ok (.iadd, 1) := by decide +kernel
set_option maxRecDepth 100000 in
theorem d_Md_levelOf_26 : decode b_Md_levelOf 26 = .ok (.iaload, 1) := by decide +kernel
set_option maxRecDepth 100000 in
theorem d_Md_levelOf_27 : decode b_Md_levelOf 27 = .ok (.goto 14, 3) := by decide +kernel
set_option maxRecDepth 100000 in
theorem d_Md_levelOf_30 : decode b_Md_levelOf 30 = .ok (.aload_n 0, 1) := by decide +kernel
set_option maxRecDepth 100000 in
theorem d_Md_levelOf_31 : decode b_Md_levelOf 31 = .ok (.getfield 25, 3) := by decide +kernel
set_option maxRecDepth 100000 in
theorem d_Md_levelOf_34 : decode b_Md_levelOf 34 = .ok (.iload_n 2, 1) := by decide +kernel
set_option maxRecDepth 100000 in
theorem d_Md_levelOf_35 : decode b_Md_levelOf 35 = .ok (.iload_n 1, 1) := by decide +kernel
set_option maxRecDepth 100000 in
theorem d_Md_levelOf_36 : decode b_Md_levelOf 36 = .ok (.iadd, 1) := by decide +kernel
set_option maxRecDepth 100000 in
theorem d_Md_levelOf_37 : decode b_Md_levelOf 37 = .ok (.bipush 12, 2) := by decide +kernel
set_option maxRecDepth 100000 in
theorem d_Md_levelOf_39 : decode b_Md_levelOf 39 = .ok (.irem, 1) := by decide +kernel
set_option maxRecDepth 100000 in
theorem d_Md_levelOf_40 : decode b_Md_levelOf 40 = .ok (.iaload, 1) := by decide +kernel
set_option maxRecDepth 100000 in
theorem d_Md_levelOf_41 : decode b_Md_levelOf 41 = .ok (.ireturn, 1) := by decide +kernel
set_option maxRecDepth 100000 in
theorem d_Md_line_0 : decode b_Md_line 0 = .ok (.aload_n 0, 1) := by decide +kernel
set_option maxRecDepth 100000 in
theorem d_Md_line_1 : decode b_Md_line 1 = .ok (.getfield 224, 3) := by decide +kernel
set_option maxRecDepth 100000 in
theorem d_Md_line_4 : decode b_Md_line 4 = .ok (.istore_n 2, 1) := by decide +kernel
set_option maxRecDepth 100000 in
theorem d_Md_line_5 : decode b_Md_line 5 = .ok (.iload_n 2, 1) := by decide +kernel
set_option maxRecDepth 100000 in
theorem d_Md_line_6 : decode b_Md_line 6 = .ok (.bipush 10, 2) := by decide +kernel
set_option maxRecDepth 100000 in
theorem d_Md_line_8 : decode b_Md_line 8 = .ok (.if_icmp .ge 5, 3) := by decide +kernel
set_option maxRecDepth 100000 in
theorem d_Md_line_11 : decode b_Md_line 11 = .ok (.iconst 0, 1) := by decide +kernel
set_option maxRecDepth 100000 in
theorem d_Md_line_12 : decode b_Md_line 12 = .ok (.ireturn, 1) := by decide +kernel
set_option maxRecDepth 100000 in
theorem d_Md_line_13 : decode b_Md_line 13 = .ok (.iload_n 2, 1) := by decide +kernel
set_option maxRecDepth 100000 in
theorem d_Md_line_14 : decode b_Md_line 14 = .ok (.bipush 10, 2) := by decide +kernel
set_option maxRecDepth 100000 in
theorem d_Md_line_16 : decode b_Md_line 16 = .ok (.if_icmp .ne 17, 3) := by decide +kernel
set_option maxRecDepth 100000 in
theorem d_Md_line_19 : decode b_Md_line 19 = .ok (.aload_n 0, 1) := by decide +kernel
set_option maxRecDepth 100000 in
theorem d_Md_line_20 : decode b_Md_line 20 = .ok (.getfield 119, 3) := by decide +kernel
set_option maxRecDepth 100000 in
theorem d_Md_line_23 : decode b_Md_line 23 = .ok (.iload_n 1, 1) := by decide +kernel
set_option maxRecDepth 100000 in
theorem d_Md_line_24 : decode b_Md_line 24 = .ok (.iaload, 1) := by decide +kernel
set_option maxRecDepth 100000 in
theorem d_Md_line_25 : decode b_Md_line 25 = .ok (.bipush 12, 2) := by decide +kernel
set_option maxRecDepth 100000 in
theorem d_Md_line_27 : decode b_Md_line 27 = .ok (.if_icmp .ne 45, 3) := by decide +kernel
set_option maxRecDepth 100000 in
theorem d_Md_line_30 : decode b_Md_line 30 = .ok (.goto 40, 3) := by decide +kernel
set_option maxRecDepth 100000 in
theorem d_Md_line_33 : decode b_Md_line 33 = .ok (.iload_n 2, 1) := by decide +kernel
set_option maxRecDepth 100000 in
theorem d_Md_line_34 : decode b_Md_line 34 = .ok (.bipush 11, 2) := by decide +kernel
set_option maxRecDepth 100000 in
theorem d_Md_line_36 : decode b_Md_line 36 = .ok (.if_icmp .ne 17, 3) := by decide +kernel
set_option maxRecDepth 100000 in
theorem d_Md_line_39 : decode b_Md_line 39 = .ok (.aload_n 0, 1) := by decide +kernel
set_option maxRecDepth 100000 in
theorem d_Md_line_40 : decode b_Md_line 40 = .ok (.getfield 131, 3) := by decide +kernel
set_option maxRecDepth 100000 in
theorem d_Md_line_43 : decode b_Md_line 43 = .ok (.iload_n 1, 1) := by decide +kernel
set_option maxRecDepth 100000 in
theorem d_Md_line_44 : decode b_Md_line 44 = .ok (.iaload, 1) := by decide +kernel
set_option maxRecDepth 100000 in
theorem d_Md_line_45 : decode b_Md_line 45 = .ok (.bipush 12, 2) := by decide +kernel
set_option maxRecDepth 100000 in
theorem d_Md_line_47 : decode b_Md_line 47 = .ok (.if_icmp .ne 25, 3) := by decide +kernel
set_option maxRecDepth 100000 in
theorem d_Md_line_50 : decode b_Md_line 50 = .ok (.goto 20, 3) := by decide +kernel
set_option maxRecDepth 100000 in
theorem d_Md_line_53 : decode b_Md_line 53 = .ok (.aload_n 0, 1) := by decide +kernel
set_option maxRecDepth 100000 in
theorem d_Md_line_54 : decode b_Md_line 54 = .ok (.getfield 143, 3) := by decide +kernel
set_option maxRecDepth 100000 in
theorem d_Md_line_57 : decode b_Md_line 57 = .ok (.bipush 9, 2) := by decide +kernel
set_option maxRecDepth 100000 in
theorem d_Md_line_59 : decode b_Md_line 59 = .ok (.iload_n 1, 1) := by decide +kernel
set_option maxRecDepth 100000 in
theorem d_Md_line_60 : decode b_Md_line 60 = .ok (.imul, 1) := by decide +kernel
set_option maxRecDepth 100000 in
theorem d_Md_line_61 : decode b_Md_line 61 = .ok (.iload_n 2, 1) := by decide +kernel
set_option maxRecDepth 100000 in
theorem d_Md_line_62 : decode b_Md_line 62 = .ok (.iadd, 1) := by decide +kernel
set_option maxRecDepth 100000 in
theorem d_Md_line_63 : decode b_Md_line 63 = .ok (.bipush 10, 2) := by decide +kernel
set_option maxRecDepth 100000 in
theorem d_Md_line_65 : decode b_Md_line 65 = .ok (.isub, 1) := by decide +kernel
set_option maxRecDepth 100000 in
theorem d_Md_line_66 : decode b_Md_line 66 = .ok (.iaload, 1) := by decide +kernel
set_option maxRecDepth 100000 in
theorem d_Md_line_67 : decode b_Md_line 67 = .ok (.ifCond .lt 5, 3) := by decide +kernel
set_option maxRecDepth 100000 in
theorem d_Md_line_70 : decode b_Md_line 70 = .ok (.iconst 0, 1) := by decide +kernel
set_option maxRecDepth 100000 in
theorem d_Md_line_71 : decode b_Md_line 71 = .ok (.ireturn, 1) := by decide +kernel
set_option maxRecDepth 100000 in
theorem d_Md_line_72 : decode b_Md_line 72 = .ok (.aload_n 0, 1) := by decide +kernel
set_option maxRecDepth 100000 in
theorem d_Md_line_73 : decode b_Md_line 73 = .ok (.invokevirtual 269, 3) := by decide +kernel
set_option maxRecDepth 100000 in
theorem d_Md_line_76 : decode b_Md_line 76 = .ok (.aload_n 0, 1) := by decide +kernel
set_option maxRecDepth 100000 in
theorem d_Md_line_77 : decode b_Md_line 77 = .ok (.iconst 1, 1) := by decide +kernel
set_option maxRecDepth 100000 in
theorem d_Md_line_78 : decode b_Md_line 78 = .ok (.invokevirtual 272, 3) := by decide +kernel
set_option maxRecDepth 100000 in
theorem d_Md_line_81 : decode b_Md_line 81 = .ok (.ifCond .ne 5, 3) := by decide +kernel
set_option maxRecDepth 100000 in
theorem d_Md_line_84 : decode b_Md_line 84 = .ok (.iconst 0, 1) := by decide +kernel
set_option maxRecDepth 100000 in
theorem d_Md_line_85 : decode b_Md_line 85 = .ok (.ireturn, 1) := by decide +kernel
set_option maxRecDepth 100000 in
theorem d_Md_line_86 : decode b_Md_line 86 = .ok (.aload_n 0, 1) := by decide +kernel
set_option maxRecDepth 100000 in
theorem d_Md_line_87 : decode b_Md_line 87 = .ok (.getfield 266, 3) := by decide +kernel
set_option maxRecDepth 100000 in
theorem d_Md_line_90 : decode b_Md_line 90 = .ok (.istore_n 3, 1) := by decide +kernel
set_option maxRecDepth 100000 in
theorem d_Md_line_91 : decode b_Md_line 91 = .ok (.iconst 0, 1) := by decide +kernel
set_option maxRecDepth 100000 in
theorem d_Md_line_92 : decode b_Md_line 92 = .ok (.istore 4, 2) := by decide +kernel
set_option maxRecDepth 100000 in
theorem d_Md_line_94 : decode b_Md_line 94 = .ok (.iload_n 2, 1) := by decide +kernel
set_option maxRecDepth 100000 in
theorem d_Md_line_95 : decode b_Md_line 95 = .ok (.bipush 10, 2) := by decide +kernel
set_option maxRecDepth 100000 in
theorem d_Md_line_97 : decode b_Md_line 97 = .ok (.if_icmp .eq 15, 3) := by decide +kernel
set_option maxRecDepth 100000 in
theorem d_Md_line_100 : decode b_Md_line 100 = .ok (.iload_n 2, 1) := by decide +kernel
set_option maxRecDepth 100000 in
theorem d_Md_line_101 : decode b_Md_line 101 = .ok (.bipush 11, 2) := by decide +kernel
set_option maxRecDepth 100000 in
theorem d_Md_line_103 : decode b_Md_line 103 = .ok (.if_icmp .eq 9, 3) := by decide +kernel
set_option maxRecDepth 100000 in
theorem d_Md_line_106 : decode b_Md_line 106 = .ok (.iload_n 2, 1) := by decide +kernel
set_option maxRecDepth 100000 in
theorem d_Md_line_107 : decode b_Md_line 107 = .ok (.bipush 16, 2) := by decide +kernel
set_option maxRecDepth 100000 in
theorem d_Md_line_109 : decode b_Md_line 109 = .ok (.if_icmp .ne 27, 3) := by decide +kernel
set_option maxRecDepth 100000 in
theorem d_Md_line_112 : decode b_Md_line 112 = .ok (.aload_n 0, 1) := by decide +kernel
set_option maxRecDepth 100000 in
theorem d_Md_line_113 : decode b_Md_line 113 = .ok (.iconst 4, 1) := by decide +kernel
set_option maxRecDepth 100000 in
theorem d_Md_line_114 : decode b_Md_line 114 = .ok (.invokevirtual 272, 3) := by decide +kernel
set_option maxRecDepth 100000 in
theorem d_Md_line_117 : decode b_Md_line 117 = .ok (.ifCond .eq 11, 3) := by decide +kernel
set_option maxRecDepth 100000 in
theorem d_Md_line_120 : decode b_Md_line 120 = .ok (.aload_n 0, 1) := by decide +kernel
set_option maxRecDepth 100000 in
theorem d_Md_line_121 : decode b_Md_line 121 = .ok (.iconst 1, 1) := by decide +kernel
set_option maxRecDepth 100000 in
theorem d_Md_line_122 : decode b_Md_line 122 = .ok (.invokevirtual 272, 3) := by decide +kernel
set_option maxRecDepth 100000 in
theorem d_Md_line_125 : decode b_Md_line 125 = .ok (.ifCond .ne 5, 3) := by decide +kernel
set_option maxRecDepth 100000 in
theorem d_Md_line_128 : decode b_Md_line 128 = .ok (.iconst 0, 1) := by decide +kernel
set_option maxRecDepth 100000 in
theorem d_Md_line_129 : decode b_Md_line 129 = .ok (.ireturn, 1) := by decide +kernel
set_option maxRecDepth 100000 in
theorem d_Md_line_130 : decode b_Md_line 130 = .ok (.aload_n 0, 1) := by decide +kernel
set_option maxRecDepth 100000 in
theorem d_Md_line_131 : decode b_Md_line 131 = .ok (.getfield 266, 3) := by decide +kernel
set_option maxRecDepth 100000 in
theorem d_Md_line_134 : decode b_Md_line 134 = .ok (.istore 4, 2) := by decide +kernel
set_option maxRecDepth 100000 in
theorem d_Md_line_136 : decode b_Md_line 136 = .ok (.iconst 0, 1) := by decide +kernel
set_option maxRecDepth 100000 in
theorem d_Md_line_137 : decode b_Md_line 137 = .ok (.istore 5, 2) := by decide +kernel
set_option maxRecDepth 100000 in
theorem d_Md_line_139 : decode b_Md_line 139 = .ok (.iload_n 2, 1) := by decide +kernel
set_option maxRecDepth 100000 in
theorem d_Md_line_140 : decode b_Md_line 140 = .ok (.bipush 10, 2) := by decide +kernel
set_option maxRecDepth 100000 in
theorem d_Md_line_142 : decode b_Md_line 142 = .ok (.if_icmp .eq 9, 3) := by decide +kernel
set_option maxRecDepth 100000 in
theorem d_Md_line_145 : decode b_Md_line 145 = .ok (.iload_n 2, 1) := by decide +kernel
set_option maxRecDepth 100000 in
theorem d_Md_line_146 : decode b_Md_line 146 = .ok (.bipush 11, 2) := by decide +kernel
set_option maxRecDepth 100000 in
theorem d_Md_line_148 : decode b_Md_line 148 = .ok (.if_icmp .ne 27, 3) := by decide +kernel
set_option maxRecDepth 100000 in
theorem d_Md_line_151 : decode b_Md_line 151 = .ok (.aload_n 0, 1) := by decide +kernel
set_option maxRecDepth 100000 in
theorem d_Md_line_152 : decode b_Md_line 152 = .ok (.iconst 5, 1) := by decide +kernel
set_option maxRecDepth 100000 in
theorem d_Md_line_153 : decode b_Md_line 153 = .ok (.invokevirtual 272, 3) := by decide +kernel
set_option maxRecDepth 100000 in
theorem d_Md_line_156 : decode b_Md_line 156 = .ok (.ifCond .eq 11, 3) := by decide +kernel
set_option maxRecDepth 100000 in
theorem d_Md_line_159 : decode b_Md_line 159 = .ok (.aload_n 0, 1) := by decide +kernel
set_option maxRecDepth 100000 in
theorem d_Md_line_160 : decode b_Md_line 160 = .ok (.iconst 1, 1) := by decide +kernel
set_option maxRecDepth 100000 in
theorem d_Md_line_161 : decode b_Md_line 161 = .ok (.invokevirtual 272, 3) := by decide +kernel
set_option maxRecDepth 100000 in
theorem d_Md_line_164 : decode b_Md_line 164 = .ok (.ifCond .ne 5, 3) := by decide +kernel
set_option maxRecDepth 100000 in
theorem d_Md_line_167 : decode b_Md_line 167 = .ok (.iconst 0, 1) := by decide +kernel
set_option maxRecDepth 100000 in
theorem d_Md_line_168 : decode b_Md_line 168 = .ok (.ireturn, 1) := by decide +kernel
set_option maxRecDepth 100000 in
theorem d_Md_line_169 : decode b_Md_line 169 = .ok (.aload_n 0, 1) := by decide +kernel
set_option maxRecDepth 100000 in
theorem d_Md_line_170 : decode b_Md_line 170 = .ok (.getfield 266, 3) := by decide +kernel
set_option maxRecDepth 100000 in
theorem d_Md_line_173 : decode b_Md_line 173 = .ok (.istore 5, 2) := by decide +kernel
set_option maxRecDepth 100000 in
theorem d_Md_line_175 : decode b_Md_line 175 = .ok (.aload_n 0, 1) := by decide +kernel
set_option maxRecDepth 100000 in
theorem d_Md_line_176 : decode b_Md_line 176 = .ok (.iconst 2, 1) := by decide +kernel
set_option maxRecDepth 100000 in
theorem d_Md_line_177 : decode b_Md_line 177 = .ok (.invokevirtual 272, 3) := by decide +kernel
set_option maxRecDepth 100000 in
theorem d_Md_line_180 : decode b_Md_line 180 = .ok (.ifCond .ne 5, 3) := by decide +kernel
set_option maxRecDepth 100000 in
theorem d_Md_line_183 : decode b_Md_line 183 = .ok (.iconst 0, 1) := by decide +kernel
set_option maxRecDepth 100000 in
theorem d_Md_line_184 : decode b_Md_line 184 = .ok (.ireturn, 1) := by decide +kernel
set_option maxRecDepth 100000 in
theorem d_Md_line_185 : decode b_Md_line 185 = .ok (.iload_n 2, 1) := by decide +kernel
set_option maxRecDepth 100000 in
theorem d_Md_line_186 : decode b_Md_line 186 = .ok (.bipush 10, 2) := by decide +kernel
set_option maxRecDepth 100000 in
theorem d_Md_line_188 : decode b_Md_line 188 = .ok (.if_icmp .ne 69, 3) := by decide +kernel
set_option maxRecDepth 100000 in
theorem d_Md_line_191 : decode b_Md_line 191 = .ok (.aload_n 0, 1) := by decide +kernel
set_option maxRecDepth 100000 in
theorem d_Md_line_192 : decode b_Md_line 192 = .ok (.getfield 122, 3) := by decide +kernel
set_option maxRecDepth 100000 in
theorem d_Md_line_195 : decode b_Md_line 195 = .ok (.bipush 12, 2) := by decide +kernel
set_option maxRecDepth 100000 in
theorem d_Md_line_197 : decode b_Md_line 197 = .ok (.iload_n 1, 1) := by decide +kernel
set_option maxRecDepth 100000 in
theorem d_Md_line_198 : decode b_Md_line 198 = .ok (.imul, 1) := by decide +kernel
set_option maxRecDepth 100000 in
theorem d_Md_line_199 : decode b_Md_line 199 = .ok (.aload_n 0, 1) := by decide +kernel
set_option maxRecDepth 100000 in
theorem d_Md_line_200 : decode b_Md_line 200 = .ok (.getfield 119, 3) := by decide +kernel
set_option maxRecDepth 100000 in
theorem d_Md_line_203 : decode b_Md_line 203 = .ok (.iload_n 1, 1) := by decide +kernel
set_option maxRecDepth 100000 in
theorem d_Md_line_204 : decode b_Md_line 204 = .ok (.iaload, 1) := by decide +kernel
set_option maxRecDepth 100000 in
theorem d_Md_line_205 : decode b_Md_line 205 = .ok (.iadd, 1) := by decide +kernel
set_option maxRecDepth 100000 in
theorem d_Md_line_206 : decode b_Md_line 206 = .ok (.iload_n 3, 1) := by decide +kernel
set_option maxRecDepth 100000 in
theorem d_Md_line_207 : decode b_Md_line 207 = .ok (.iastore, 1) := by decide +kernel
set_option maxRecDepth 100000 in
theorem d_Md_line_208 : decode b_Md_line 208 = .ok (.aload_n 0, 1) := by decide +kernel
set_option maxRecDepth 100000 in
theorem d_Md_line_209 : decode b_Md_line 209 = .ok (.getfield 125, 3) := by decide +kernel
set_option maxRecDepth 100000 in
theorem d_Md_line_212 : decode b_Md_line 212 = .ok (.bipush 12, 2) := by decide +kernel
set_option maxRecDepth 100000 in
theorem d_Md_line_214 : decode b_Md_line 214 = .ok (.iload_n 1, 1) := by decide +kernel
set_option maxRecDepth 100000 in
theorem d_Md_line_215 : decode b_Md_line 215 = .ok (.imul, 1) := by decide +kernel
set_option maxRecDepth 100000 in
theorem d_Md_line_216 : decode b_Md_line 216 = .ok (.aload_n 0, 1) := by decide +kernel
set_option maxRecDepth 100000 in
theorem d_Md_line_217 : decode b_Md_line 217 = .ok (.getfield 119, 3) := by decide +kernel
set_option maxRecDepth 100000 in
theorem d_Md_line_220 : decode b_Md_line 220 = .ok (.iload_n 1, 1) := by decide +kernel
set_option maxRecDepth 100000 in
theorem d_Md_line_221 : decode b_Md_line 221 = .ok (.iaload, 1) := by decide +kernel
set_option maxRecDepth 100000 in
theorem d_Md_line_222 : decode b_Md_line 222 = .ok (.iadd, 1) := by decide +kernel
set_option maxRecDepth 100000 in
theorem d_Md_line_223 : decode b_Md_line 223 = .ok (.iload 4, 2) := by decide +kernel
set_option maxRecDepth 100000 in
theorem d_Md_line_225 : decode b_Md_line 225 = .ok (.iastore, 1) := by decide +kernel
set_option maxRecDepth 100000 in
theorem d_Md_line_226 : decode b_Md_line 226 = .ok (.aload_n 0, 1) := by decide +kernel
set_option maxRecDepth 100000 in
theorem d_Md_line_227 : decode b_Md_line 227 = .ok (.getfield 128, 3) := by decide +kernel
set_option maxRecDepth 100000 in
theorem d_Md_line_230 : decode b_Md_line 230 = .ok (.bipush 12, 2) := by decide +kernel
set_option maxRecDepth 100000 in
theorem d_Md_line_232 : decode b_Md_line 232 = .ok (.iload_n 1, 1) := by decide +kernel
set_option maxRecDepth 100000 in
theorem d_Md_line_233 : decode b_Md_line 233 = .ok (.imul, 1) := by decide +kernel
set_option maxRecDepth 100000 in
theorem d_Md_line_234 : decode b_Md_line 234 = .ok (.aload_n 0, 1) := by decide +kernel
set_option maxRecDepth 100000 in
theorem d_Md_line_235 : decode b_Md_line 235 = .ok (.getfield 119, 3) := by decide +kernel
set_option maxRecDepth 100000 in
theorem d_Md_line_238 : decode b_Md_line 238 = .ok (.iload_n 1, 1) := by decide +kernel
set_option maxRecDepth 100000 in
theorem d_Md_line_239 : decode b_Md_line 239 = .ok (.iaload, 1) := by decide +kernel
set_option maxRecDepth 100000 in
theorem d_Md_line_240 : decode b_Md_line 240 = .ok (.iadd, 1) := by decide +kernel
set_option maxRecDepth 100000 in
theorem d_Md_line_241 : decode b_Md_line 241 = .ok (.iload 5, 2) := by decide +kernel
set_option maxRecDepth 100000 in
theorem d_Md_line_243 : decode b_Md_line 243 = .ok (.iastore, 1) := by decide +kernel
set_option maxRecDepth 100000 in
theorem d_Md_line_244 : decode b_Md_line 244 = .ok (.aload_n 0, 1) := by decide +kernel
set_option maxRecDepth 100000 in
theorem d_Md_line_245 : decode b_Md_line 245 = .ok (.getfield 119, 3) := by decide +kernel
set_option maxRecDepth 100000 in
theorem d_Md_line_248 : decode b_Md_line 248 = .ok (.iload_n 1, 1) := by decide +kernel
set_option maxRecDepth 100000 in
theorem d_Md_line_249 : decode b_Md_line 249 = .ok (.dup2, 1) := by decide +kernel
set_option maxRecDepth 100000 in
theorem d_Md_line_250 : decode b_Md_line 250 = .ok (.iaload, 1) := by decide +kernel
set_option maxRecDepth 100000 in
theorem d_Md_line_251 : decode b_Md_line 251 = .ok (.iconst 1, 1) := by decide +kernel
set_option maxRecDepth 100000 in
theorem d_Md_line_252 : decode b_Md_line 252 = .ok (.iadd, 1) := by decide +kernel
set_option maxRecDepth 100000 in
theorem d_Md_line_253 : decode b_Md_line 253 = .ok (.iastore, 1) := by decide +kernel
set_option maxRecDepth 100000 in
theorem d_Md_line_254 : decode b_Md_line 254 = .ok (.goto 113, 3) := by decide +kernel
set_option maxRecDepth 100000 in
theorem d_Md_line_257 : decode b_Md_line 257 = .ok (.iload_n 2, 1) := by decide +kernel
set_option maxRecDepth 100000 in
theorem d_Md_line_258 : decode b_Md_line 258 = .ok (.bipush 11, 2) := by decide +kernel
set_option maxRecDepth 100000 in
theorem d_Md_line_260 : decode b_Md_line 260 = .ok (.if_icmp .ne 69, 3) := by decide +kernel
set_option maxRecDepth 100000 in
theorem d_Md_line_263 : decode b_Md_line 263 = .ok (.aload_n 0, 1) := by decide +kernel
set_option maxRecDepth 100000 in
theorem d_Md_line_264 : decode b_Md_line 264 = .ok (.getfield 134, 3) := by decide +kernel
set_option maxRecDepth 100000 in
theorem d_Md_line_267 : decode b_Md_line 267 = .ok (.bipush 12, 2) := by decide +kernel
set_option maxRecDepth 100000 in
theorem d_Md_line_269 : decode b_Md_line 269 = .ok (.iload_n 1, 1) := by decide +kernel
set_option maxRecDepth 100000 in
theorem d_Md_line_270 : decode b_Md_line 270 = .ok (.imul, 1) := by decide +kernel
set_option maxRecDepth 100000 in
theorem d_Md_line_271 : decode b_Md_line 271 = .ok (.aload_n 0, 1) := by decide +kernel
set_option maxRecDepth 100000 in
theorem d_Md_line_272 : decode b_Md_line 272 = .ok (.getfield 131, 3) := by decide +kernel
set_option maxRecDepth 100000 in
theorem d_Md_line_275 : decode b_Md_line 275 = .ok (.iload_n 1, 1) := by decide +kernel
set_option maxRecDepth 100000 in
theorem d_Md_line_276 : decode b_Md_line 276 = .ok (.iaload, 1) := by decide +kernel
set_option maxRecDepth 100000 in
theorem d_Md_line_277 : decode b_Md_line 277 = .ok (.iadd, 1) := by decide +kernel
set_option maxRecDepth 100000 in
theorem d_Md_line_278 : decode b_Md_line 278 = .ok (.iload_n 3, 1) := by decide +kernel
set_option maxRecDepth 100000 in
theorem d_Md_line_279 : decode b_Md_line 279 = .ok (.iastore, 1) := by decide +kernel
set_option maxRecDepth 100000 in
theorem d_Md_line_280 : decode b_Md_line 280 = .ok (.aload_n 0, 1) := by decide +kernel
set_option maxRecDepth 100000 in
theorem d_Md_line_281 : decode b_Md_line 281 = .ok (.getfield 137, 3) := by decide +kernel
set_option maxRecDepth 100000 in
theorem d_Md_line_284 : decode b_Md_line 284 = .ok (.bipush 12, 2) := by decide +kernel
set_option maxRecDepth 100000 in
theorem d_Md_line_286 : decode b_Md_line 286 = .ok (.iload_n 1, 1) := by decide +kernel
set_option maxRecDepth 100000 in
theorem d_Md_line_287 : decode b_Md_line 287 = .ok (.imul, 1) := by decide +kernel
set_option maxRecDepth 100000 in
theorem d_Md_line_288 : decode b_Md_line 288 = .ok (.aload_n 0, 1) := by decide +kernel
set_option maxRecDepth 100000 in
theorem d_Md_line_289 : decode b_Md_line 289 = .ok (.getfield 131, 3) := by decide +kernel
set_option maxRecDepth 100000 in
theorem d_Md_line_292 : decode b_Md_line 292 = .ok (.iload_n 1, 1) := by decide +kernel
set_option maxRecDepth 100000 in
theorem d_Md_line_293 : decode b_Md_line 293 = .ok (.iaload, 1) := by decide +kernel
set_option maxRecDepth 100000 in
theorem d_Md_line_294 : decode b_Md_line 294 = .ok (.iadd, 1) := by decide +kernel
set_option maxRecDepth 100000 in
theorem d_Md_line_295 : decode b_Md_line 295 = .ok (.iload 4, 2) := by decide +kernel
set_option maxRecDepth 100000 in
theorem d_Md_line_297 : decode b_Md_line 297 = .ok (.iastore, 1) := by decide +kernel
set_option maxRecDepth 100000 in
theorem d_Md_line_298 : decode b_Md_line 298 = .ok (.aload_n 0, 1) := by decide +kernel
set_option maxRecDepth 100000 in
theorem d_Md_line_299 : decode b_Md_line 299 = .ok (.getfield 140, 3) := by decide +kernel
set_option maxRecDepth 100000 in
theorem d_Md_line_302 : decode b_Md_line 302 = .ok (.bipush 12, 2) := by decide +kernel
set_option maxRecDepth 100000 in
theorem d_Md_line_304 : decode b_Md_line 304 = .ok (.iload_n 1, 1) := by decide +kernel
set_option maxRecDepth 100000 in
theorem d_Md_line_305 : decode b_Md_line 305 = .ok (.imul, 1) := by decide +kernel
set_option maxRecDepth 100000 in
theorem d_Md_line_306 : decode b_Md_line 306 = .ok (.aload_n 0, 1) := by decide +kernel
set_option maxRecDepth 100000 in
theorem d_Md_line_307 : decode b_Md_line 307 = .ok (.getfield 131, 3) := by decide +kernel
set_option maxRecDepth 100000 in
theorem d_Md_line_310 : decode b_Md_line 310 = .ok (.iload_n 1, 1) := by decide +kernel
set_option maxRecDepth 100000 in
theorem d_Md_line_311 : decode b_Md_line 311 = .ok (.iaload, 1) := by decide +kernel
set_option maxRecDepth 100000 in
theorem d_Md_line_312 : decode b_Md_line 312 = .ok (.iadd, 1) := by decide +kernel
set_option maxRecDepth 100000 in
theorem d_Md_line_313 : decode b_Md_line 313 = .ok (.iload 5, 2) := by decide +kernel
set_option maxRecDepth 100000 in
theorem d_Md_line_315 : decode b_Md_line 315 = .ok (.iastore, 1) := by decide +kernel
set_option maxRecDepth 100000 in
theorem d_Md_line_316 : decode b_Md_line 316 = .ok (.aload_n 0, 1) := by decide +kernel
set_option maxRecDepth 100000 in
theorem d_Md_line_317 : decode b_Md_line 317 = .ok (.getfield 131, 3) := by decide +kernel
set_option maxRecDepth 100000 in
theorem d_Md_line_320 : decode b_Md_line 320 = .ok (.iload_n 1, 1) := by decide +kernel
set_option maxRecDepth 100000 in
theorem d_Md_line_321 : decode b_Md_line 321 = .ok (.dup2, 1) := by decide +kernel
set_option maxRecDepth 100000 in
theorem d_Md_line_322 : decode b_Md_line 322 = .ok (.iaload, 1) := by decide +kernel
set_option maxRecDepth 100000 in
theorem d_Md_line_323 : decode b_Md_line 323 = .ok (.iconst 1, 1) := by decide +kernel
set_option maxRecDepth 100000 in
theorem d_Md_line_324 : decode b_Md_line 324 = .ok (.iadd, 1) := by decide +kernel
set_option maxRecDepth 100000 in
theorem d_Md_line_325 : decode b_Md_line 325 = .ok (.iastore, 1) := by decide +kernel
set_option maxRecDepth 100000 in
theorem d_Md_line_326 : decode b_Md_line 326 = .ok (.goto 41, 3) := by decide +kernel
set_option maxRecDepth 100000 in
theorem d_Md_line_329 : decode b_Md_line 329 = .ok (.aload_n 0, 1) := by decide +kernel
set_option maxRecDepth 100000 in
theorem d_Md_line_330 : decode b_Md_line 330 = .ok (.getfield 143, 3) := by decide +kernel
set_option maxRecDepth 100000 in
theorem d_Md_line_333 : decode b_Md_line 333 = .ok (.bipush 9, 2) := by decide +kernel
set_option maxRecDepth 100000 in
theorem d_Md_line_335 : decode b_Md_line 335 = .ok (.iload_n 1, 1) := by decide +kernel
set_option maxRecDepth 100000 in
theorem d_Md_line_336 : decode b_Md_line 336 = .ok (.imul, 1) := by decide +kernel
set_option maxRecDepth 100000 in
theorem d_Md_line_337 : decode b_Md_line 337 = .ok (.iload_n 2, 1) := by decide +kernel
set_option maxRecDepth 100000 in
theorem d_Md_line_338 : decode b_Md_line 338 = .ok (.iadd, 1) := by decide +kernel
set_option maxRecDepth 100000 in
theorem d_Md_line_339 : decode b_Md_line 339 = .ok (.bipush 10, 2) := by decide +kernel
set_option maxRecDepth 100000 in
theorem d_Md_line_341 : decode b_Md_line 341 = .ok (.isub, 1) := by decide +kernel
set_option maxRecDepth 100000 in
theorem d_Md_line_342 : decode b_Md_line 342 = .ok (.iload_n 3, 1) := by decide +kernel
set_option maxRecDepth 100000 in
theorem d_Md_line_343 : decode b_Md_line 343 = .ok (.iastore, 1) := by decide +kernel
set_option maxRecDepth 100000 in
theorem d_Md_line_344 : decode b_Md_line 344 = .ok (.aload_n 0, 1) := by decide +kernel
set_option maxRecDepth 100000 in
theorem d_Md_line_345 : decode b_Md_line 345 = .ok (.getfield 146, 3) := by decide +kernel
set_option maxRecDepth 100000 in
theorem d_Md_line_348 : decode b_Md_line 348 = .ok (.iload_n 1, 1) := by decide +kernel
set_option maxRecDepth 100000 in
theorem d_Md_line_349 : decode b_Md_line 349 = .ok (.iload_n 2, 1) := by decide +kernel
set_option maxRecDepth 100000 in
theorem d_Md_line_350 : decode b_Md_line 350 = .ok (.bipush 16, 2) := by decide +kernel
set_option maxRecDepth 100000 in
theorem d_Md_line_352 : decode b_Md_line 352 = .ok (.if_icmp .ne 8, 3) := by decide +kernel
set_option maxRecDepth 100000 in
theorem d_Md_line_355 : decode b_Md_line 355 = .ok (.iload 4, 2) := by decide +kernel
set_option maxRecDepth 100000 in
theorem d_Md_line_357 : decode b_Md_line 357 = .ok (.goto 9, 3) := by decide +kernel
set_option maxRecDepth 100000 in
theorem d_Md_line_360 : decode b_Md_line 360 = .ok (.aload_n 0, 1) := by decide +kernel
set_option maxRecDepth 100000 in
theorem d_Md_line_361 : decode b_Md_line 361 = .ok (.getfield 146, 3) := by decide +kernel
set_option maxRecDepth 100000 in
theorem d_Md_line_364 : decode b_Md_line 364 = .ok (.iload_n 1, 1) := by decide +kernel
set_option maxRecDepth 100000 in
theorem d_Md_line_365 : decode b_Md_line 365 = .ok (.iaload, 1) := by decide +kernel
set_option maxRecDepth 100000 in
theorem d_Md_line_366 : decode b_Md_line 366 = .ok (.iastore, 1) := by decide +kernel
set_option maxRecDepth 100000 in
theorem d_Md_line_367 : decode b_Md_line 367 = .ok (.iconst 1, 1) := by decide +kernel
set_option maxRecDepth 100000 in
theorem d_Md_line_368 : decode b_Md_line 368 = .ok (.ireturn, 1) := by decide +kernel
set_option maxRecDepth 100000 in
theorem d_Md_lineOf_0 : decode b_Md_lineOf 0 = .ok (.aload_n 0, 1) := by decide +kernel
set_option maxRecDepth 100000 in
theorem d_Md_lineOf_1 : decode b_Md_lineOf 1 = .ok (.getfield 143, 3) := by decide +kernel
set_option maxRecDepth 100000 in
theorem d_Md_lineOf_4 : decode b_Md_lineOf 4 = .ok (.bipush 9, 2) := by decide +kernel
set_option maxRecDepth 100000 in
theorem d_Md_lineOf_6 : decode b_Md_lineOf 6 = .ok (.iload_n 1, 1) := by decide +kernel
set_option maxRecDepth 100000 in
theorem d_Md_lineOf_7 : decode b_Md_lineOf 7 = .ok (.imul, 1) := by decide +kernel
set_option maxRecDepth 100000 in
theorem d_Md_lineOf_8 : decode b_Md_lineOf 8 = .ok (.iload_n 2, 1) := by decide +kernel
set_option maxRecDepth 100000 in
theorem d_Md_lineOf_9 : decode b_Md_lineOf 9 = .ok (.iadd, 1) := by decide +kernel
set_option maxRecDepth 100000 in
theorem d_Md_lineOf_10 : decode b_Md_lineOf 10 = .ok (.bipush 10, 2) := by decide +kernel
set_option maxRecDepth 100000 in
theorem d_Md_lineOf_12 : decode b_Md_lineOf 12 = .ok (.isub, 1) := by decide +kernel
set_option maxRecDepth 100000 in
theorem d_Md_lineOf_13 : decode b_Md_lineOf 13 = .ok (.iaload, 1) := by decide +kernel
set_option maxRecDepth 100000 in
theorem d_Md_lineOf_14 : decode b_Md_lineOf 14 = .ok (.ireturn, 1) := by decide +kernel
set_option maxRecDepth 100000 in
theorem d_Md_man_0 : decode b_Md_man 0 = .ok (.iload_n 1, 1) := by decide +kernel
set_option maxRecDepth 100000 in
theorem d_Md_man_1 : decode b_Md_man 1 = .ok (.invokestatic 186, 3) := by decide +kernel
set_option maxRecDepth 100000 in
theorem d_Md_man_4 : decode b_Md_man 4 = .ok (.ifCond .ne 6, 3) := by decide +kernel
set_option maxRecDepth 100000 in
theorem d_Md_man_7 : decode b_Md_man 7 = .ok (.bipush (-2), 2) := by decide +kernel
set_option maxRecDepth 100000 in
theorem d_Md_man_9 : decode b_Md_man 9 = .ok (.ireturn, 1) := by decide +kernel
set_option maxRecDepth 100000 in
theorem d_Md_man_10 : decode b_Md_man 10 = .ok (.iload_n 2, 1) := by decide +kernel
set_option maxRecDepth 100000 in
theorem d_Md_man_11 : decode b_Md_man 11 = .ok (.tableswitch 96 0 6 #[41, 48, 55, 61, 67, 74, 89], 41) := by decide +kernel
set_option maxRecDepth 100000 in
theorem d_Md_man_52 : decode b_Md_man 52 = .ok (.aload_n 0, 1) := by decide +kernel
set_option maxRecDepth 100000 in
theorem d_Md_man_53 : decode b_Md_man 53 = .ok (.getfield 58, 3) := by decide +kernel
set_option maxRecDepth 100000 in
theorem d_Md_man_56 : decode b_Md_man 56 = .ok (.iload_n 1, 1) := by decide +kernel
set_option maxRecDepth 100000 in
theorem d_Md_man_57 : decode b_Md_man 57 = .ok (.iaload, 1) := by decide +kernel
set_option maxRecDepth 100000 in
theorem d_Md_man_58 : decode b_Md_man 58 = .ok (.ireturn, 1) := by decide +kernel
set_option maxRecDepth 100000 in
theorem d_Md_man_59 : decode b_Md_man 59 = .ok (.aload_n 0, 1) := by decide +kernel
set_option maxRecDepth 100000 in
theorem d_Md_man_60 : decode b_Md_man 60 = .ok (.getfield 61, 3) := by decide +kernel
set_option maxRecDepth 100000 in
theorem d_Md_man_63 : decode b_Md_man 63 = .ok (.iload_n 1, 1) := by decide +kernel
set_option maxRecDepth 100000 in
theorem d_Md_man_64 : decode b_Md_man 64 = .ok (.iaload, 1) := by decide +kernel
set_option maxRecDepth 100000 in
theorem d_Md_man_65 : decode b_Md_man 65 = .ok (.ireturn, 1) := by decide +kernel
set_option maxRecDepth 100000 in
theorem d_Md_man_66 : decode b_Md_man 66 = .ok (.aload_n 0, 1) := by decide +kernel
set_option maxRecDepth 100000 in
theorem d_Md_man_67 : decode b_Md_man 67 = .ok (.iload_n 1, 1) := by decide +kernel
set_option maxRecDepth 100000 in
theorem d_Md_man_68 : decode b_Md_man 68 = .ok (.invokevirtual 193, 3) := by decide +kernel
set_option maxRecDepth 100000 in
theorem d_Md_man_71 : decode b_Md_man 71 = .ok (.ireturn, 1) := by decide +kernel
set_option maxRecDepth 100000 in
theorem d_Md_man_72 : decode b_Md_man 72 = .ok (.aload_n 0, 1) := by decide +kernel
set_option maxRecDepth 100000 in
theorem d_Md_man_73 : decode b_Md_man 73 = .ok (.iload_n 1, 1) := by decide +kernel
set_option maxRecDepth 100000 in
theorem d_Md_man_74 : decode b_Md_man 74 = .ok (.invokevirtual 196, 3) := by decide +kernel
set_option maxRecDepth 100000 in
theorem d_Md_man_77 : decode b_Md_man 77 = .ok (.ireturn, 1) := by decide +kernel
set_option maxRecDepth 100000 in
theorem d_Md_man_78 : decode b_Md_man 78 = .ok (.aload_n 0, 1) := by decide +kernel
set_option maxRecDepth 100000 in
theorem d_Md_man_79 : decode b_Md_man 79 = .ok (.getfield 76, 3) := by decide +kernel
set_option maxRecDepth 100000 in
theorem d_Md_man_82 : decode b_Md_man 82 = .ok (.iload_n 1, 1) := by decide +kernel
set_option maxRecDepth 100000 in
theorem d_Md_man_83 : decode b_Md_man 83 = .ok (.iaload, 1) := by decide +kernel
set_option maxRecDepth 100000 in
theorem d_Md_man_84 : decode b_Md_man 84 = .ok (.ireturn, 1) := by decide +kernel
set_option maxRecDepth 100000 in
theorem d_Md_man_85 : decode b_Md_man 85 = .ok (.aload_n 0, 1) := by decide +kernel
set_option maxRecDepth 100000 in
theorem d_Md_man_86 : decode b_Md_man 86 = .ok (.getfield 79, 3) := by decide +kernel
set_option maxRecDepth 100000 in
theorem d_Md_man_89 : decode b_Md_man 89 = .ok (.iload_n 1, 1) := by decide +kernel
set_option maxRecDepth 100000 in
theorem d_Md_man_90 : decode b_Md_man 90 = .ok (.iaload, 1) := by decide +kernel
set_option maxRecDepth 100000 in
theorem d_Md_man_91 : decode b_Md_man 91 = .ok (.ifCond .lt 7, 3) := by decide +kernel
set_option maxRecDepth 100000 in
theorem d_Md_man_94 : decode b_Md_man 94 = .ok (.iconst 1, 1) := by decide +kernel
set_option maxRecDepth 100000 in
theorem d_Md_man_95 : decode b_Md_man 95 = .ok (.goto 4, 3) := by decide +kernel
set_option maxRecDepth 100000 in
theorem d_Md_man_98 : decode b_Md_man 98 = .ok (.iconst 0, 1) := by decide +kernel
set_option maxRecDepth 100000 in
theorem d_Md_man_99 : decode b_Md_man 99 = .ok (.ireturn, 1) := by decide +kernel
set_option maxRecDepth 100000 in
theorem d_Md_man_100 : decode b_Md_man 100 = .ok (.aload_n 0, 1) := by decide +kernel
set_option maxRecDepth 100000 in
theorem d_Md_man_101 : decode b_Md_man 101 = .ok (.getfield 82, 3) := by decide +kernel
set_option maxRecDepth 100000 in
theorem d_Md_man_104 : decode b_Md_man 104 = .ok (.iload_n 1, 1) := by decide +kernel
set_option maxRecDepth 100000 in
theorem d_Md_man_105 : decode b_Md_man 105 = .ok (.iaload, 1) := by decide +kernel
set_option maxRecDepth 100000 in
theorem d_Md_man_106 : decode b_Md_man 106 = .ok (.ireturn, 1) := by decide +kernel
set_option maxRecDepth 100000 in
theorem d_Md_man_107 : decode b_Md_man 107 = .ok (.bipush (-2), 2) := by decide +kernel
set_option maxRecDepth 100000 in
theorem d_Md_man_109 : decode b_Md_man 109 = .ok (.ireturn, 1) := by decide +kernel
set_option maxRecDepth 100000 in
theorem d_Md_menAs_0 : decode b_Md_menAs 0 = .ok (.iconst 0, 1) := by decide +kernel
set_option maxRecDepth 100000 in
theorem d_Md_menAs_1 : decode b_Md_menAs 1 = .ok (.istore_n 2, 1) := by decide +kernel
set_option maxRecDepth 100000 in
theorem d_Md_menAs_2 : decode b_Md_menAs 2 = .ok (.iconst 0, 1) := by decide +kernel
set_option maxRecDepth 100000 in
theorem d_Md_menAs_3 : decode b_Md_menAs 3 = .ok (.istore_n 3, 1) := by decide +kernel
set_option maxRecDepth 100000 in
theorem d_Md_menAs_4 : decode b_Md_menAs 4 = .ok (.iload_n 3, 1) := by decide +kernel
set_option maxRecDepth 100000 in
theorem d_Md_menAs_5 : decode b_Md_menAs 5 = .ok (.bipush 40, 2) := by decide +kernel
set_option maxRecDepth 100000 in
theorem d_Md_menAs_7 : decode b_Md_menAs 7 = .ok (.if_icmp .ge 27, 3) := by decide +kernel
set_option maxRecDepth 100000 in
theorem d_Md_menAs_10 : decode b_Md_menAs 10 = .ok (.iload_n 2, 1) := by decide +kernel
set_option maxRecDepth 100000 in
theorem d_Md_menAs_11 : decode b_Md_menAs 11 = .ok (.aload_n 0, 1) := by decide +kernel
set_option maxRecDepth 100000 in
theorem d_Md_menAs_12 : decode b_Md_menAs 12 = .ok (.getfield 58, 3) := by decide +kernel
set_option maxRecDepth 100000 in
theorem d_Md_menAs_15 : decode b_Md_menAs 15 = .ok (.iload_n 3, 1) := by decide +kernel
set_option maxRecDepth 100000 in
theorem d_Md_menAs_16 : decode b_Md_menAs 16 = .ok (.iaload, 1) := by decide +kernel
set_option maxRecDepth 100000 in
theorem d_Md_menAs_17 : decode b_Md_menAs 17 = .ok (.iload_n 1, 1) := by decide +kernel
set_option maxRecDepth 100000 in
theorem d_Md_menAs_18 : decode b_Md_menAs 18 = .ok (.if_icmp .ne 7, 3) := by decide +kernel
set_option maxRecDepth 100000 in
theorem d_Md_menAs_21 : decode b_Md_menAs 21 = .ok (.iconst 1, 1) := by decide +kernel
set_option maxRecDepth 100000 in
theorem d_Md_menAs_22 : decode b_Md_menAs 22 = .ok (.goto 4, 3) := by decide +kernel
set_option maxRecDepth 100000 in
theorem d_Md_menAs_25 : decode b_Md_menAs 25 = .ok (.iconst 0, 1) := by decide +kernel
set_option maxRecDepth 100000 in
theorem d_Md_menAs_26 : decode b_Md_menAs 26 = .ok (.iadd, 1) := by decide +kernel
set_option maxRecDepth 100000 in
theorem d_Md_menAs_27 : decode b_Md_menAs 27 = .ok (.istore_n 2, 1) := by decide +kernel
set_option maxRecDepth 100000 in
theorem d_Md_menAs_28 : decode b_Md_menAs 28 = .ok (.iinc 3 1, 3) := by decide +kernel
set_option maxRecDepth 100000 in
theorem d_Md_menAs_31 : decode b_Md_menAs 31 = .ok (.goto (-27), 3) := by decide +kernel
set_option maxRecDepth 100000 in
theorem d_Md_menAs_34 : decode b_Md_menAs 34 = .ok (.iload_n 2, 1) := by decide +kernel
set_option maxRecDepth 100000 in
theorem d_Md_menAs_35 : decode b_Md_menAs 35 = .ok (.ireturn, 1) := by decide +kernel
set_option maxRecDepth 100000 in
theorem d_Md_minutes_0 : decode b_Md_minutes 0 = .ok (.iload_n 1, 1) := by decide +kernel
set_option maxRecDepth 100000 in
theorem d_Md_minutes_1 : decode b_Md_minutes 1 = .ok (.iconst 1, 1) := by decide +kernel
set_option maxRecDepth 100000 in
theorem d_Md_minutes_2 : decode b_Md_minutes 2 = .ok (.sipush 1440, 3) := by decide +kernel
set_option maxRecDepth 100000 in
theorem d_Md_minutes_5 : decode b_Md_minutes 5 = .ok (.invokestatic 10, 3) := by decide +kernel
set_option maxRecDepth 100000 in
theorem d_Md_minutes_8 : decode b_Md_minutes 8 = .ok (.ifCond .eq 15, 3) := by decide +kernel
set_option maxRecDepth 100000 in
theorem d_Md_minutes_11 : decode b_Md_minutes 11 = .ok (.aload_n 0, 1) := by decide +kernel
set_option maxRecDepth 100000 in
theorem d_Md_minutes_12 : decode b_Md_minutes 12 = .ok (.getfield 7, 3) := by decide +kernel
set_option maxRecDepth 100000 in
theorem d_Md_minutes_15 : decode b_Md_minutes 15 = .ok (.iload_n 1, 1) := by decide +kernel
set_option maxRecDepth 100000 in
theorem d_Md_minutes_16 : decode b_Md_minutes 16 = .ok (.iadd, 1) := by decide +kernel
set_option maxRecDepth 100000 in
theorem d_Md_minutes_17 : decode b_Md_minutes 17 = .ok (.ldc_w 305, 3) := by decide +kernel
set_option maxRecDepth 100000 in
theorem d_Md_minutes_20 : decode b_Md_minutes 20 = .ok (.if_icmp .le 5, 3) := by decide +kernel
set_option maxRecDepth 100000 in
theorem d_Md_minutes_23 : decode b_Md_minutes 23 = .ok (.iconst (-1), 1) := by decide +kernel
set_option maxRecDepth 100000 in
theorem d_Md_minutes_24 : decode b_Md_minutes 24 = .ok (.ireturn, 1) := by decide +kernel
set_option maxRecDepth 100000 in
theorem d_Md_minutes_25 : decode b_Md_minutes 25 = .ok (.iconst 0, 1) := by decide +kernel
set_option maxRecDepth 100000 in
theorem d_Md_minutes_26 : decode b_Md_minutes 26 = .ok (.istore_n 2, 1) := by decide +kernel
set_option maxRecDepth 100000 in
theorem d_Md_minutes_27 : decode b_Md_minutes 27 = .ok (.iload_n 2, 1) := by decide +kernel
set_option maxRecDepth 100000 in
theorem d_Md_minutes_28 : decode b_Md_minutes 28 = .ok (.iload_n 1, 1) := by decide +kernel
set_option maxRecDepth 100000 in
theorem d_Md_minutes_29 : decode b_Md_minutes 29 = .ok (.if_icmp .ge 77, 3) := by decide +kernel
set_option maxRecDepth 100000 in
theorem d_Md_minutes_32 : decode b_Md_minutes 32 = .ok (.aload_n 0, 1) := by decide +kernel
set_option maxRecDepth 100000 in
theorem d_Md_minutes_33 : decode b_Md_minutes 33 = .ok (.dup, 1) := by decide +kernel
set_option maxRecDepth 100000 in
theorem d_Md_minutes_34 : decode b_Md_minutes 34 = .ok (.getfield 7, 3) := by decide +kernel
set_option maxRecDepth 100000 in
theorem d_Md_minutes_37 : decode b_Md_minutes 37 = .ok (.iconst 1, 1) := by decide +kernel
set_option maxRecDepth 100000 in
theorem d_Md_minutes_38 : decode b_Md_minutes 38 = .ok (.iadd, 1) := by decide +kernel
set_option maxRecDepth 100000 in
theorem d_Md_minutes_39 : decode b_Md_minutes 39 = .ok (.putfield 7, 3) := by decide +kernel
set_option maxRecDepth 100000 in
theorem d_Md_minutes_42 : decode b_Md_minutes 42 = .ok (.aload_n 0, 1) := by decide +kernel
set_option maxRecDepth 100000 in
theorem d_Md_minutes_43 : decode b_Md_minutes 43 = .ok (.invokevirtual 329, 3) := by decide +kernel
set_option maxRecDepth 100000 in
theorem d_Md_minutes_46 : decode b_Md_minutes 46 = .ok (.aload_n 0, 1) := by decide +kernel
set_option maxRecDepth 100000 in
theorem d_Md_minutes_47 : decode b_Md_minutes 47 = .ok (.getfield 7, 3) := by decide +kernel
set_option maxRecDepth 100000 in
theorem d_Md_minutes_50 : decode b_Md_minutes 50 = .ok (.sipush 720, 3) := by decide +kernel
set_option maxRecDepth 100000 in
theorem d_Md_minutes_53 : decode b_Md_minutes 53 = .ok (.irem, 1) := by decide +kernel
set_option maxRecDepth 100000 in
theorem d_Md_minutes_54 : decode b_Md_minutes 54 = .ok (.ifCond .eq 6, 3) := by decide +kernel
set_option maxRecDepth 100000 in
theorem d_Md_minutes_57 : decode b_Md_minutes 57 = .ok (.goto 43, 3) := by decide +kernel
set_option maxRecDepth 100000 in
theorem d_Md_minutes_60 : decode b_Md_minutes 60 = .ok (.aload_n 0, 1) := by decide +kernel
set_option maxRecDepth 100000 in
theorem d_Md_minutes_61 : decode b_Md_minutes 61 = .ok (.invokevirtual 45, 3) := by decide +kernel
set_option maxRecDepth 100000 in
theorem d_Md_minutes_64 : decode b_Md_minutes 64 = .ok (.iconst 1, 1) := by decide +kernel
set_option maxRecDepth 100000 in
theorem d_Md_minutes_65 : decode b_Md_minutes 65 = .ok (.isub, 1) := by decide +kernel
set_option maxRecDepth 100000 in
theorem d_Md_minutes_66 : decode b_Md_minutes 66 = .ok (.bipush 7, 2) := by decide +kernel
set_option maxRecDepth 100000 in
theorem d_Md_minutes_68 : decode b_Md_minutes 68 = .ok (.irem, 1) := by decide +kernel
set_option maxRecDepth 100000 in
theorem d_Md_minutes_69 : decode b_Md_minutes 69 = .ok (.ifCond .ne 13, 3) := by decide +kernel
set_option maxRecDepth 100000 in
theorem d_Md_minutes_72 : decode b_Md_minutes 72 = .ok (.aload_n 0, 1) := by decide +kernel
set_option maxRecDepth 100000 in
theorem d_Md_minutes_73 : decode b_Md_minutes 73 = .ok (.aload_n 0, 1) := by decide +kernel
set_option maxRecDepth 100000 in
theorem d_Md_minutes_74 : decode b_Md_minutes 74 = .ok (.invokevirtual 45, 3) := by decide +kernel
set_option maxRecDepth 100000 in
theorem d_Md_minutes_77 : decode b_Md_minutes 77 = .ok (.iconst 1, 1) := by decide +kernel
set_option maxRecDepth 100000 in
theorem d_Md_minutes_78 : decode b_Md_minutes 78 = .ok (.isub, 1) := by decide +kernel
set_option maxRecDepth 100000 in
theorem d_Md_minutes_79 : decode b_Md_minutes 79 = .ok (.invokevirtual 332, 3) := by decide +kernel
set_option maxRecDepth 100000 in
theorem d_Md_minutes_82 : decode b_Md_minutes 82 = .ok (.aload_n 0, 1) := by decide +kernel
set_option maxRecDepth 100000 in
theorem d_Md_minutes_83 : decode b_Md_minutes 83 = .ok (.invokevirtual 45, 3) := by decide +kernel
set_option maxRecDepth 100000 in
theorem d_Md_minutes_86 : decode b_Md_minutes 86 = .ok (.bipush 100, 2) := by decide +kernel
set_option maxRecDepth 100000 in
theorem d_Md_minutes_88 : decode b_Md_minutes 88 = .ok (.irem, 1) := by decide +kernel
set_option maxRecDepth 100000 in
theorem d_Md_minutes_89 : decode b_Md_minutes 89 = .ok (.ifCond .ne 11, 3) := by decide +kernel
set_option maxRecDepth 100000 in
theorem d_Md_minutes_92 : decode b_Md_minutes 92 = .ok (.aload_n 0, 1) := by decide +kernel
set_option maxRecDepth 100000 in
theorem d_Md_minutes_93 : decode b_Md_minutes 93 = .ok (.aload_n 0, 1) := by decide +kernel
set_option maxRecDepth 100000 in
theorem d_Md_minutes_94 : decode b_Md_minutes 94 = .ok (.invokevirtual 45, 3) := by decide +kernel
set_option maxRecDepth 100000 in
theorem d_Md_minutes_97 : decode b_Md_minutes 97 = .ok (.invokevirtual 335, 3) := by decide +kernel
set_option maxRecDepth 100000 in
theorem d_Md_minutes_100 : decode b_Md_minutes 100 = .ok (.iinc 2 1, 3) := by decide +kernel
set_option maxRecDepth 100000 in
theorem d_Md_minutes_103 : decode b_Md_minutes 103 = .ok (.goto (-76), 3) := by decide +kernel
set_option maxRecDepth 100000 in
theorem d_Md_minutes_106 : decode b_Md_minutes 106 = .ok (.aload_n 0, 1) := by decide +kernel
set_option maxRecDepth 100000 in
theorem d_Md_minutes_107 : decode b_Md_minutes 107 = .ok (.getfield 7, 3) := by decide +kernel
set_option maxRecDepth 100000 in
theorem d_Md_minutes_110 : decode b_Md_minutes 110 = .ok (.ireturn, 1) := by decide +kernel
set_option maxRecDepth 100000 in
theorem d_Md_minutesOf_0 : decode b_Md_minutesOf 0 = .ok (.aload_n 0, 1) := by decide +kernel
set_option maxRecDepth 100000 in
theorem d_Md_minutesOf_1 : decode b_Md_minutesOf 1 = .ok (.getfield 32, 3) := by decide +kernel
set_option maxRecDepth 100000 in
theorem d_Md_minutesOf_4 : decode b_Md_minutesOf 4 = .ok (.iload_n 2, 1) := by decide +kernel
set_option maxRecDepth 100000 in
theorem d_Md_minutesOf_5 : decode b_Md_minutesOf 5 = .ok (.iaload, 1) := by decide +kernel
set_option maxRecDepth 100000 in
theorem d_Md_minutesOf_6 : decode b_Md_minutesOf 6 = .ok (.aload_n 0, 1) := by decide +kernel
set_option maxRecDepth 100000 in
theorem d_Md_minutesOf_7 : decode b_Md_minutesOf 7 = .ok (.getfield 32, 3) := by decide +kernel
set_option maxRecDepth 100000 in
theorem d_Md_minutesOf_10 : decode b_Md_minutesOf 10 = .ok (.aload_n 0, 1) := by decide +kernel
set_option maxRecDepth 100000 in
theorem d_Md_minutesOf_11 : decode b_Md_minutesOf 11 = .ok (.getfield 97, 3) := by decide +kernel
set_option maxRecDepth 100000 in
theorem d_Md_minutesOf_14 : decode b_Md_minutesOf 14 = .ok (.iload_n 1, 1) := by decide +kernel
set_option maxRecDepth 100000 in
theorem d_Md_minutesOf_15 : decode b_Md_minutesOf 15 = .ok (.iaload, 1) := by decide +kernel
set_option maxRecDepth 100000 in
theorem d_Md_minutesOf_16 : decode b_Md_minutesOf 16 = .ok (.iaload, 1) := by decide +kernel
