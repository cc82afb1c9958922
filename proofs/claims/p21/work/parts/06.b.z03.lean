set_option maxRecDepth 100000 in
theorem d_Md_hinders_79 : decode b_Md_hinders 79 = .ok (.ireturn, 1) := by decide +kernel
set_option maxRecDepth 100000 in
theorem d_Md_hinders_80 : decode b_Md_hinders 80 = .ok (.aload_n 0, 1) := by decide +kernel
set_option maxRecDepth 100000 in
theorem d_Md_hinders_81 : decode b_Md_hinders 81 = .ok (.aload_n 0, 1) := by decide +kernel
set_option maxRecDepth 100000 in
theorem d_Md_hinders_82 : decode b_Md_hinders 82 = .ok (.invokevirtual 45, 3) := by decide +kernel
set_option maxRecDepth 100000 in
theorem d_Md_hinders_85 : decode b_Md_hinders 85 = .ok (.aload_n 0, 1) := by decide +kernel
set_option maxRecDepth 100000 in
theorem d_Md_hinders_86 : decode b_Md_hinders 86 = .ok (.invokevirtual 45, 3) := by decide +kernel
set_option maxRecDepth 100000 in
theorem d_Md_hinders_89 : decode b_Md_hinders 89 = .ok (.invokevirtual 281, 3) := by decide +kernel
set_option maxRecDepth 100000 in
theorem d_Md_hinders_92 : decode b_Md_hinders 92 = .ok (.istore 5, 2) := by decide +kernel
set_option maxRecDepth 100000 in
theorem d_Md_hinders_94 : decode b_Md_hinders 94 = .ok (.iload 5, 2) := by decide +kernel
set_option maxRecDepth 100000 in
theorem d_Md_hinders_96 : decode b_Md_hinders 96 = .ok (.ifCond .lt 29, 3) := by decide +kernel
set_option maxRecDepth 100000 in
theorem d_Md_hinders_99 : decode b_Md_hinders 99 = .ok (.aload_n 0, 1) := by decide +kernel
set_option maxRecDepth 100000 in
theorem d_Md_hinders_100 : decode b_Md_hinders 100 = .ok (.iload 5, 2) := by decide +kernel
set_option maxRecDepth 100000 in
theorem d_Md_hinders_102 : decode b_Md_hinders 102 = .ok (.iload 4, 2) := by decide +kernel
set_option maxRecDepth 100000 in
theorem d_Md_hinders_104 : decode b_Md_hinders 104 = .ok (.iload_n 3, 1) := by decide +kernel
set_option maxRecDepth 100000 in
theorem d_Md_hinders_105 : decode b_Md_hinders 105 = .ok (.aload_n 0, 1) := by decide +kernel
set_option maxRecDepth 100000 in
theorem d_Md_hinders_106 : decode b_Md_hinders 106 = .ok (.invokevirtual 45, 3) := by decide +kernel
set_option maxRecDepth 100000 in
theorem d_Md_hinders_109 : decode b_Md_hinders 109 = .ok (.aload_n 0, 1) := by decide +kernel
set_option maxRecDepth 100000 in
theorem d_Md_hinders_110 : decode b_Md_hinders 110 = .ok (.invokevirtual 299, 3) := by decide +kernel
set_option maxRecDepth 100000 in
theorem d_Md_hinders_113 : decode b_Md_hinders 113 = .ok (.aload_n 0, 1) := by decide +kernel
set_option maxRecDepth 100000 in
theorem d_Md_hinders_114 : decode b_Md_hinders 114 = .ok (.getfield 94, 3) := by decide +kernel
set_option maxRecDepth 100000 in
theorem d_Md_hinders_117 : decode b_Md_hinders 117 = .ok (.iload_n 1, 1) := by decide +kernel
set_option maxRecDepth 100000 in
theorem d_Md_hinders_118 : decode b_Md_hinders 118 = .ok (.iaload, 1) := by decide +kernel
set_option maxRecDepth 100000 in
theorem d_Md_hinders_119 : decode b_Md_hinders 119 = .ok (.invokevirtual 295, 3) := by decide +kernel
set_option maxRecDepth 100000 in
theorem d_Md_hinders_122 : decode b_Md_hinders 122 = .ok (.ifCond .ge 5, 3) := by decide +kernel
set_option maxRecDepth 100000 in
theorem d_Md_hinders_125 : decode b_Md_hinders 125 = .ok (.iconst 5, 1) := by decide +kernel
set_option maxRecDepth 100000 in
theorem d_Md_hinders_126 : decode b_Md_hinders 126 = .ok (.ireturn, 1) := by decide +kernel
set_option maxRecDepth 100000 in
theorem d_Md_hinders_127 : decode b_Md_hinders 127 = .ok (.aload_n 0, 1) := by decide +kernel
set_option maxRecDepth 100000 in
theorem d_Md_hinders_128 : decode b_Md_hinders 128 = .ok (.getfield 35, 3) := by decide +kernel
set_option maxRecDepth 100000 in
theorem d_Md_hinders_131 : decode b_Md_hinders 131 = .ok (.ifCond .lt 37, 3) := by decide +kernel
set_option maxRecDepth 100000 in
theorem d_Md_hinders_134 : decode b_Md_hinders 134 = .ok (.iload 4, 2) := by decide +kernel
set_option maxRecDepth 100000 in
theorem d_Md_hinders_136 : decode b_Md_hinders 136 = .ok (.aload_n 0, 1) := by decide +kernel
set_option maxRecDepth 100000 in
theorem d_Md_hinders_137 : decode b_Md_hinders 137 = .ok (.getfield 35, 3) := by decide +kernel
set_option maxRecDepth 100000 in
theorem d_Md_hinders_140 : decode b_Md_hinders 140 = .ok (.if_icmp .gt 7, 3) := by decide +kernel
set_option maxRecDepth 100000 in
theorem d_Md_hinders_143 : decode b_Md_hinders 143 = .ok (.iconst 1, 1) := by decide +kernel
set_option maxRecDepth 100000 in
theorem d_Md_hinders_144 : decode b_Md_hinders 144 = .ok (.goto 4, 3) := by decide +kernel
set_option maxRecDepth 100000 in
theorem d_Md_hinders_147 : decode b_Md_hinders 147 = .ok (.iconst 0, 1) := by decide +kernel
set_option maxRecDepth 100000 in
theorem d_Md_hinders_148 : decode b_Md_hinders 148 = .ok (.iload_n 3, 1) := by decide +kernel
set_option maxRecDepth 100000 in
theorem d_Md_hinders_149 : decode b_Md_hinders 149 = .ok (.aload_n 0, 1) := by decide +kernel
set_option maxRecDepth 100000 in
theorem d_Md_hinders_150 : decode b_Md_hinders 150 = .ok (.getfield 35, 3) := by decide +kernel
set_option maxRecDepth 100000 in
theorem d_Md_hinders_153 : decode b_Md_hinders 153 = .ok (.if_icmp .gt 7, 3) := by decide +kernel
set_option maxRecDepth 100000 in
theorem d_Md_hinders_156 : decode b_Md_hinders 156 = .ok (.iconst 1, 1) := by decide +kernel
set_option maxRecDepth 100000 in
theorem d_Md_hinders_157 : decode b_Md_hinders 157 = .ok (.goto 4, 3) := by decide +kernel
set_option maxRecDepth 100000 in
theorem d_Md_hinders_160 : decode b_Md_hinders 160 = .ok (.iconst 0, 1) := by decide +kernel
set_option maxRecDepth 100000 in
theorem d_Md_hinders_161 : decode b_Md_hinders 161 = .ok (.if_icmp .eq 7, 3) := by decide +kernel
set_option maxRecDepth 100000 in
theorem d_Md_hinders_164 : decode b_Md_hinders 164 = .ok (.iconst 1, 1) := by decide +kernel
set_option maxRecDepth 100000 in
theorem d_Md_hinders_165 : decode b_Md_hinders 165 = .ok (.goto 4, 3) := by decide +kernel
set_option maxRecDepth 100000 in
theorem d_Md_hinders_168 : decode b_Md_hinders 168 = .ok (.iconst 0, 1) := by decide +kernel
set_option maxRecDepth 100000 in
theorem d_Md_hinders_169 : decode b_Md_hinders 169 = .ok (.istore 6, 2) := by decide +kernel
set_option maxRecDepth 100000 in
theorem d_Md_hinders_171 : decode b_Md_hinders 171 = .ok (.aload_n 0, 1) := by decide +kernel
set_option maxRecDepth 100000 in
theorem d_Md_hinders_172 : decode b_Md_hinders 172 = .ok (.aload_n 0, 1) := by decide +kernel
set_option maxRecDepth 100000 in
theorem d_Md_hinders_173 : decode b_Md_hinders 173 = .ok (.invokevirtual 45, 3) := by decide +kernel
set_option maxRecDepth 100000 in
theorem d_Md_hinders_176 : decode b_Md_hinders 176 = .ok (.aload_n 0, 1) := by decide +kernel
set_option maxRecDepth 100000 in
theorem d_Md_hinders_177 : decode b_Md_hinders 177 = .ok (.invokevirtual 299, 3) := by decide +kernel
set_option maxRecDepth 100000 in
theorem d_Md_hinders_180 : decode b_Md_hinders 180 = .ok (.invokevirtual 42, 3) := by decide +kernel
set_option maxRecDepth 100000 in
theorem d_Md_hinders_183 : decode b_Md_hinders 183 = .ok (.istore 7, 2) := by decide +kernel
set_option maxRecDepth 100000 in
theorem d_Md_hinders_185 : decode b_Md_hinders 185 = .ok (.iload 6, 2) := by decide +kernel
set_option maxRecDepth 100000 in
theorem d_Md_hinders_187 : decode b_Md_hinders 187 = .ok (.ifCond .eq 42, 3) := by decide +kernel
set_option maxRecDepth 100000 in
theorem d_Md_hinders_190 : decode b_Md_hinders 190 = .ok (.aload_n 0, 1) := by decide +kernel
set_option maxRecDepth 100000 in
theorem d_Md_hinders_191 : decode b_Md_hinders 191 = .ok (.iload 5, 2) := by decide +kernel
set_option maxRecDepth 100000 in
theorem d_Md_hinders_193 : decode b_Md_hinders 193 = .ok (.bipush 16, 2) := by decide +kernel
set_option maxRecDepth 100000 in
theorem d_Md_hinders_195 : decode b_Md_hinders 195 = .ok (.invokevirtual 289, 3) := by decide +kernel
set_option maxRecDepth 100000 in
theorem d_Md_hinders_198 : decode b_Md_hinders 198 = .ok (.ifCond .lt 31, 3) := by decide +kernel
set_option maxRecDepth 100000 in
theorem d_Md_hinders_201 : decode b_Md_hinders 201 = .ok (.aload_n 0, 1) := by decide +kernel
set_option maxRecDepth 100000 in
theorem d_Md_hinders_202 : decode b_Md_hinders 202 = .ok (.invokevirtual 299, 3) := by decide +kernel
set_option maxRecDepth 100000 in
theorem d_Md_hinders_205 : decode b_Md_hinders 205 = .ok (.aload_n 0, 1) := by decide +kernel
set_option maxRecDepth 100000 in
theorem d_Md_hinders_206 : decode b_Md_hinders 206 = .ok (.iload 5, 2) := by decide +kernel
set_option maxRecDepth 100000 in
theorem d_Md_hinders_208 : decode b_Md_hinders 208 = .ok (.bipush 16, 2) := by decide +kernel
set_option maxRecDepth 100000 in
theorem d_Md_hinders_210 : decode b_Md_hinders 210 = .ok (.invokevirtual 289, 3) := by decide +kernel
set_option maxRecDepth 100000 in
theorem d_Md_hinders_213 : decode b_Md_hinders 213 = .ok (.aload_n 0, 1) := by decide +kernel
set_option maxRecDepth 100000 in
theorem d_Md_hinders_214 : decode b_Md_hinders 214 = .ok (.getfield 146, 3) := by decide +kernel
set_option maxRecDepth 100000 in
theorem d_Md_hinders_217 : decode b_Md_hinders 217 = .ok (.iload 5, 2) := by decide +kernel
set_option maxRecDepth 100000 in
theorem d_Md_hinders_219 : decode b_Md_hinders 219 = .ok (.iaload, 1) := by decide +kernel
set_option maxRecDepth 100000 in
theorem d_Md_hinders_220 : decode b_Md_hinders 220 = .ok (.invokestatic 10, 3) := by decide +kernel
set_option maxRecDepth 100000 in
theorem d_Md_hinders_223 : decode b_Md_hinders 223 = .ok (.ifCond .ne 6, 3) := by decide +kernel
set_option maxRecDepth 100000 in
theorem d_Md_hinders_226 : decode b_Md_hinders 226 = .ok (.bipush 6, 2) := by decide +kernel
set_option maxRecDepth 100000 in
theorem d_Md_hinders_228 : decode b_Md_hinders 228 = .ok (.ireturn, 1) := by decide +kernel
set_option maxRecDepth 100000 in
theorem d_Md_hinders_229 : decode b_Md_hinders 229 = .ok (.iload 6, 2) := by decide +kernel
set_option maxRecDepth 100000 in
theorem d_Md_hinders_231 : decode b_Md_hinders 231 = .ok (.ifCond .eq 41, 3) := by decide +kernel
set_option maxRecDepth 100000 in
theorem d_Md_hinders_234 : decode b_Md_hinders 234 = .ok (.aload_n 0, 1) := by decide +kernel
set_option maxRecDepth 100000 in
theorem d_Md_hinders_235 : decode b_Md_hinders 235 = .ok (.iload 5, 2) := by decide +kernel
set_option maxRecDepth 100000 in
theorem d_Md_hinders_237 : decode b_Md_hinders 237 = .ok (.bipush 17, 2) := by decide +kernel
set_option maxRecDepth 100000 in
theorem d_Md_hinders_239 : decode b_Md_hinders 239 = .ok (.invokevirtual 289, 3) := by decide +kernel
set_option maxRecDepth 100000 in
theorem d_Md_hinders_242 : decode b_Md_hinders 242 = .ok (.ifCond .lt 30, 3) := by decide +kernel
set_option maxRecDepth 100000 in
theorem d_Md_hinders_245 : decode b_Md_hinders 245 = .ok (.iload 7, 2) := by decide +kernel
set_option maxRecDepth 100000 in
theorem d_Md_hinders_247 : decode b_Md_hinders 247 = .ok (.ifCond .ge 9, 3) := by decide +kernel
set_option maxRecDepth 100000 in
theorem d_Md_hinders_250 : decode b_Md_hinders 250 = .ok (.iload 7, 2) := by decide +kernel
set_option maxRecDepth 100000 in
theorem d_Md_hinders_252 : decode b_Md_hinders 252 = .ok (.ineg, 1) := by decide +kernel
set_option maxRecDepth 100000 in
theorem d_Md_hinders_253 : decode b_Md_hinders 253 = .ok (.goto 5, 3) := by decide +kernel
set_option maxRecDepth 100000 in
theorem d_Md_hinders_256 : decode b_Md_hinders 256 = .ok (.iload 7, 2) := by decide +kernel
set_option maxRecDepth 100000 in
theorem d_Md_hinders_258 : decode b_Md_hinders 258 = .ok (.aload_n 0, 1) := by decide +kernel
set_option maxRecDepth 100000 in
theorem d_Md_hinders_259 : decode b_Md_hinders 259 = .ok (.iload 5, 2) := by decide +kernel
set_option maxRecDepth 100000 in
theorem d_Md_hinders_261 : decode b_Md_hinders 261 = .ok (.bipush 17, 2) := by decide +kernel
set_option maxRecDepth 100000 in
theorem d_Md_hinders_263 : decode b_Md_hinders 263 = .ok (.invokevirtual 289, 3) := by decide +kernel
set_option maxRecDepth 100000 in
theorem d_Md_hinders_266 : decode b_Md_hinders 266 = .ok (.if_icmp .le 6, 3) := by decide +kernel
set_option maxRecDepth 100000 in
theorem d_Md_hinders_269 : decode b_Md_hinders 269 = .ok (.bipush 6, 2) := by decide +kernel
set_option maxRecDepth 100000 in
theorem d_Md_hinders_271 : decode b_Md_hinders 271 = .ok (.ireturn, 1) := by decide +kernel
set_option maxRecDepth 100000 in
theorem d_Md_hinders_272 : decode b_Md_hinders 272 = .ok (.aload_n 0, 1) := by decide +kernel
set_option maxRecDepth 100000 in
theorem d_Md_hinders_273 : decode b_Md_hinders 273 = .ok (.getfield 7, 3) := by decide +kernel
set_option maxRecDepth 100000 in
theorem d_Md_hinders_276 : decode b_Md_hinders 276 = .ok (.aload_n 0, 1) := by decide +kernel
set_option maxRecDepth 100000 in
theorem d_Md_hinders_277 : decode b_Md_hinders 277 = .ok (.iload_n 1, 1) := by decide +kernel
set_option maxRecDepth 100000 in
theorem d_Md_hinders_278 : decode b_Md_hinders 278 = .ok (.iload_n 3, 1) := by decide +kernel
set_option maxRecDepth 100000 in
theorem d_Md_hinders_279 : decode b_Md_hinders 279 = .ok (.invokevirtual 302, 3) := by decide +kernel
set_option maxRecDepth 100000 in
theorem d_Md_hinders_282 : decode b_Md_hinders 282 = .ok (.iadd, 1) := by decide +kernel
set_option maxRecDepth 100000 in
theorem d_Md_hinders_283 : decode b_Md_hinders 283 = .ok (.ldc_w 305, 3) := by decide +kernel
set_option maxRecDepth 100000 in
theorem d_Md_hinders_286 : decode b_Md_hinders 286 = .ok (.if_icmp .le 8, 3) := by decide +kernel
set_option maxRecDepth 100000 in
theorem d_Md_hinders_289 : decode b_Md_hinders 289 = .ok (.bipush 7, 2) := by decide +kernel
set_option maxRecDepth 100000 in
theorem d_Md_hinders_291 : decode b_Md_hinders 291 = .ok (.goto 4, 3) := by decide +kernel
set_option maxRecDepth 100000 in
theorem d_Md_hinders_294 : decode b_Md_hinders 294 = .ok (.iconst 0, 1) := by decide +kernel
set_option maxRecDepth 100000 in
theorem d_Md_hinders_295 : decode b_Md_hinders 295 = .ok (.ireturn, 1) := by decide +kernel
set_option maxRecDepth 100000 in
theorem d_Md_hourNow_0 : decode b_Md_hourNow 0 = .ok (.aload_n 0, 1) := by decide +kernel
set_option maxRecDepth 100000 in
theorem d_Md_hourNow_1 : decode b_Md_hourNow 1 = .ok (.getfield 7, 3) := by decide +kernel
set_option maxRecDepth 100000 in
theorem d_Md_hourNow_4 : decode b_Md_hourNow 4 = .ok (.sipush 720, 3) := by decide +kernel
set_option maxRecDepth 100000 in
theorem d_Md_hourNow_7 : decode b_Md_hourNow 7 = .ok (.irem, 1) := by decide +kernel
set_option maxRecDepth 100000 in
theorem d_Md_hourNow_8 : decode b_Md_hourNow 8 = .ok (.bipush 60, 2) := by decide +kernel
set_option maxRecDepth 100000 in
theorem d_Md_hourNow_10 : decode b_Md_hourNow 10 = .ok (.idiv, 1) := by decide +kernel
set_option maxRecDepth 100000 in
theorem d_Md_hourNow_11 : decode b_Md_hourNow 11 = .ok (.ireturn, 1) := by decide +kernel
set_option maxRecDepth 100000 in
theorem d_Md_in_0 : decode b_Md_in 0 = .ok (.iload_n 0, 1) := by decide +kernel
set_option maxRecDepth 100000 in
theorem d_Md_in_1 : decode b_Md_in 1 = .ok (.iload_n 1, 1) := by decide +kernel
set_option maxRecDepth 100000 in
theorem d_Md_in_2 : decode b_Md_in 2 = .ok (.if_icmp .lt 12, 3) := by decide +kernel
set_option maxRecDepth 100000 in
theorem d_Md_in_5 : decode b_Md_in 5 = .ok (.iload_n 0, 1) := by decide +kernel
set_option maxRecDepth 100000 in
theorem d_Md_in_6 : decode b_Md_in 6 = .ok (.iload_n 2, 1) := by decide +kernel
set_option maxRecDepth 100000 in
theorem d_Md_in_7 : decode b_Md_in 7 = .ok (.if_icmp .gt 7, 3) := by decide +kernel
set_option maxRecDepth 100000 in
theorem d_Md_in_10 : decode b_Md_in 10 = .ok (.iconst 1, 1) := by decide +kernel
set_option maxRecDepth 100000 in
theorem d_Md_in_11 : decode b_Md_in 11 = .ok (.goto 4, 3) := by decide +kernel
set_option maxRecDepth 100000 in
theorem d_Md_in_14 : decode b_Md_in 14 = .ok (.iconst 0, 1) := by decide +kernel
set_option maxRecDepth 100000 in
theorem d_Md_in_15 : decode b_Md_in 15 = .ok (.ireturn, 1) := by decide +kernel
set_option maxRecDepth 100000 in
theorem d_Md_inForce_0 : decode b_Md_inForce 0 = .ok (.iload_n 1, 1) := by decide +kernel
set_option maxRecDepth 100000 in
theorem d_Md_inForce_1 : decode b_Md_inForce 1 = .ok (.invokestatic 38, 3) := by decide +kernel
set_option maxRecDepth 100000 in
theorem d_Md_inForce_4 : decode b_Md_inForce 4 = .ok (.ifCond .eq 19, 3) := by decide +kernel
set_option maxRecDepth 100000 in
theorem d_Md_inForce_7 : decode b_Md_inForce 7 = .ok (.iload_n 2, 1) := by decide +kernel
set_option maxRecDepth 100000 in
theorem d_Md_inForce_8 : decode b_Md_inForce 8 = .ok (.invokestatic 38, 3) := by decide +kernel
set_option maxRecDepth 100000 in
theorem d_Md_inForce_11 : decode b_Md_inForce 11 = .ok (.ifCond .eq 12, 3) := by decide +kernel
set_option maxRecDepth 100000 in
theorem d_Md_inForce_14 : decode b_Md_inForce 14 = .ok (.aload_n 0, 1) := by decide +kernel
set_option maxRecDepth 100000 in
theorem d_Md_inForce_15 : decode b_Md_inForce 15 = .ok (.iload_n 1, 1) := by decide +kernel
set_option maxRecDepth 100000 in
theorem d_Md_inForce_16 : decode b_Md_inForce 16 = .ok (.iload_n 2, 1) := by decide +kernel
set_option maxRecDepth 100000 in
theorem d_Md_inForce_17 : decode b_Md_inForce 17 = .ok (.invokevirtual 281, 3) := by decide +kernel
set_option maxRecDepth 100000 in
theorem d_Md_inForce_20 : decode b_Md_inForce 20 = .ok (.goto 4, 3) := by decide +kernel
set_option maxRecDepth 100000 in
theorem d_Md_inForce_23 : decode b_Md_inForce 23 = .ok (.iconst (-1), 1) := by decide +kernel
set_option maxRecDepth 100000 in
theorem d_Md_inForce_24 : decode b_Md_inForce 24 = .ok (.ireturn, 1) := by decide +kernel
set_option maxRecDepth 100000 in
theorem d_Md_isAsked_0 : decode b_Md_isAsked 0 = .ok (.aload_n 0, 1) := by decide +kernel
set_option maxRecDepth 100000 in
theorem d_Md_isAsked_1 : decode b_Md_isAsked 1 = .ok (.iload_n 1, 1) := by decide +kernel
set_option maxRecDepth 100000 in
theorem d_Md_isAsked_2 : decode b_Md_isAsked 2 = .ok (.invokevirtual 209, 3) := by decide +kernel
set_option maxRecDepth 100000 in
theorem d_Md_isAsked_5 : decode b_Md_isAsked 5 = .ok (.ifCond .eq 41, 3) := by decide +kernel
set_option maxRecDepth 100000 in
theorem d_Md_isAsked_8 : decode b_Md_isAsked 8 = .ok (.aload_n 0, 1) := by decide +kernel
set_option maxRecDepth 100000 in
theorem d_Md_isAsked_9 : decode b_Md_isAsked 9 = .ok (.getfield 106, 3) := by decide +kernel
set_option maxRecDepth 100000 in
theorem d_Md_isAsked_12 : decode b_Md_isAsked 12 = .ok (.iload_n 1, 1) := by decide +kernel
set_option maxRecDepth 100000 in
theorem d_Md_isAsked_13 : decode b_Md_isAsked 13 = .ok (.baload, 1) := by decide +kernel
set_option maxRecDepth 100000 in
theorem d_Md_isAsked_14 : decode b_Md_isAsked 14 = .ok (.ifCond .ne 32, 3) := by decide +kernel
set_option maxRecDepth 100000 in
theorem d_Md_isAsked_17 : decode b_Md_isAsked 17 = .ok (.iload_n 2, 1) := by decide +kernel
set_option maxRecDepth 100000 in
theorem d_Md_isAsked_18 : decode b_Md_isAsked 18 = .ok (.invokestatic 186, 3) := by decide +kernel
set_option maxRecDepth 100000 in
theorem d_Md_isAsked_21 : decode b_Md_isAsked 21 = .ok (.ifCond .eq 25, 3) := by decide +kernel
set_option maxRecDepth 100000 in
theorem d_Md_isAsked_24 : decode b_Md_isAsked 24 = .ok (.aload_n 0, 1) := by decide +kernel
set_option maxRecDepth 100000 in
theorem d_Md_isAsked_25 : decode b_Md_isAsked 25 = .ok (.iload_n 3, 1) := by decide +kernel
set_option maxRecDepth 100000 in
theorem d_Md_isAsked_26 : decode b_Md_isAsked 26 = .ok (.invokevirtual 199, 3) := by decide +kernel
set_option maxRecDepth 100000 in
theorem d_Md_isAsked_29 : decode b_Md_isAsked 29 = .ok (.ifCond .eq 17, 3) := by decide +kernel
set_option maxRecDepth 100000 in
theorem d_Md_isAsked_32 : decode b_Md_isAsked 32 = .ok (.iload_n 3, 1) := by decide +kernel
set_option maxRecDepth 100000 in
theorem d_Md_isAsked_33 : decode b_Md_isAsked 33 = .ok (.aload_n 0, 1) := by decide +kernel
set_option maxRecDepth 100000 in
theorem d_Md_isAsked_34 : decode b_Md_isAsked 34 = .ok (.getfield 97, 3) := by decide +kernel
set_option maxRecDepth 100000 in
theorem d_Md_isAsked_37 : decode b_Md_isAsked 37 = .ok (.iload_n 1, 1) := by decide +kernel
set_option maxRecDepth 100000 in
theorem d_Md_isAsked_38 : decode b_Md_isAsked 38 = .ok (.iaload, 1) := by decide +kernel
set_option maxRecDepth 100000 in
theorem d_Md_isAsked_39 : decode b_Md_isAsked 39 = .ok (.if_icmp .eq 7, 3) := by decide +kernel
set_option maxRecDepth 100000 in
theorem d_Md_isAsked_42 : decode b_Md_isAsked 42 = .ok (.iconst 1, 1) := by decide +kernel
set_option maxRecDepth 100000 in
theorem d_Md_isAsked_43 : decode b_Md_isAsked 43 = .ok (.goto 4, 3) := by decide +kernel
set_option maxRecDepth 100000 in
theorem d_Md_isAsked_46 : decode b_Md_isAsked 46 = .ok (.iconst 0, 1) := by decide +kernel
set_option maxRecDepth 100000 in
theorem d_Md_isAsked_47 : decode b_Md_isAsked 47 = .ok (.ireturn, 1) := by decide +kernel
set_option maxRecDepth 100000 in
theorem d_Md_isBoat_0 : decode b_Md_isBoat 0 = .ok (.iload_n 1, 1) := by decide +kernel
set_option maxRecDepth 100000 in
theorem d_Md_isBoat_1 : decode b_Md_isBoat 1 = .ok (.iconst 0, 1) := by decide +kernel
set_option maxRecDepth 100000 in
theorem d_Md_isBoat_2 : decode b_Md_isBoat 2 = .ok (.aload_n 0, 1) := by decide +kernel
set_option maxRecDepth 100000 in
theorem d_Md_isBoat_3 : decode b_Md_isBoat 3 = .ok (.getfield 206, 3) := by decide +kernel
set_option maxRecDepth 100000 in
theorem d_Md_isBoat_6 : decode b_Md_isBoat 6 = .ok (.iconst 1, 1) := by decide +kernel
set_option maxRecDepth 100000 in
theorem d_Md_isBoat_7 : decode b_Md_isBoat 7 = .ok (.isub, 1) := by decide +kernel
set_option maxRecDepth 100000 in
theorem d_Md_isBoat_8 : decode b_Md_isBoat 8 = .ok (.invokestatic 10, 3) := by decide +kernel
set_option maxRecDepth 100000 in
theorem d_Md_isBoat_11 : decode b_Md_isBoat 11 = .ok (.ireturn, 1) := by decide +kernel
set_option maxRecDepth 100000 in
theorem d_Md_isDay_0 : decode b_Md_isDay 0 = .ok (.iload_n 0, 1) := by decide +kernel
set_option maxRecDepth 100000 in
theorem d_Md_isDay_1 : decode b_Md_isDay 1 = .ok (.iconst 0, 1) := by decide +kernel
set_option maxRecDepth 100000 in
theorem d_Md_isDay_2 : decode b_Md_isDay 2 = .ok (.sipush 499, 3) := by decide +kernel
set_option maxRecDepth 100000 in
theorem d_Md_isDay_5 : decode b_Md_isDay 5 = .ok (.invokestatic 10, 3) := by decide +kernel
set_option maxRecDepth 100000 in
theorem d_Md_isDay_8 : decode b_Md_isDay 8 = .ok (.ireturn, 1) := by decide +kernel
set_option maxRecDepth 100000 in
theorem d_Md_isDigit_0 : decode b_Md_isDigit 0 = .ok (.iload_n 0, 1) := by decide +kernel
set_option maxRecDepth 100000 in
theorem d_Md_isDigit_1 : decode b_Md_isDigit 1 = .ok (.bipush 48, 2) := by decide +kernel
set_option maxRecDepth 100000 in
theorem d_Md_isDigit_3 : decode b_Md_isDigit 3 = .ok (.if_icmp .lt 13, 3) := by decide +kernel
set_option maxRecDepth 100000 in
theorem d_Md_isDigit_6 : decode b_Md_isDigit 6 = .ok (.iload_n 0, 1) := by decide +kernel
set_option maxRecDepth 100000 in
theorem d_Md_isDigit_7 : decode b_Md_isDigit 7 = .ok (.bipush 57, 2) := by decide +kernel
set_option maxRecDepth 100000 in
theorem d_Md_isDigit_9 : decode b_Md_isDigit 9 = .ok (.if_icmp .gt 7, 3) := by decide +kernel
set_option maxRecDepth 100000 in
theorem d_Md_isDigit_12 : decode b_Md_isDigit 12 = .ok (.iconst 1, 1) := by decide +kernel
set_option maxRecDepth 100000 in
theorem d_Md_isDigit_13 : decode b_Md_isDigit 13 = .ok (.goto 4, 3) := by decide +kernel
set_option maxRecDepth 100000 in
theorem d_Md_isDigit_16 : decode b_Md_isDigit 16 = .ok (.iconst 0, 1) := by decide +kernel
set_option maxRecDepth 100000 in
theorem d_Md_isDigit_17 : decode b_Md_isDigit 17 = .ok (.ireturn, 1) := by decide +kernel
set_option maxRecDepth 100000 in
theorem d_Md_isLetter_0 : decode b_Md_isLetter 0 = .ok (.iload_n 0, 1) := by decide +kernel
set_option maxRecDepth 100000 in
theorem d_Md_isLetter_1 : decode b_Md_isLetter 1 = .ok (.bipush 97, 2) := by decide +kernel
set_option maxRecDepth 100000 in
theorem d_Md_isLetter_3 : decode b_Md_isLetter 3 = .ok (.if_icmp .lt 13, 3) := by decide +kernel
set_option maxRecDepth 100000 in
theorem d_Md_isLetter_6 : decode b_Md_isLetter 6 = .ok (.iload_n 0, 1) := by decide +kernel
set_option maxRecDepth 100000 in
theorem d_Md_isLetter_7 : decode b_Md_isLetter 7 = .ok (.bipush 122, 2) := by decide +kernel
set_option maxRecDepth 100000 in
theorem d_Md_isLetter_9 : decode b_Md_isLetter 9 = .ok (.if_icmp .gt 7, 3) := by decide +kernel
set_option maxRecDepth 100000 in
theorem d_Md_isLetter_12 : decode b_Md_isLetter 12 = .ok (.iconst 1, 1) := by decide +kernel
set_option maxRecDepth 100000 in
theorem d_Md_isLetter_13 : decode b_Md_isLetter 13 = .ok (.goto 4, 3) := by decide +kernel
set_option maxRecDepth 100000 in
theorem d_Md_isLetter_16 : decode b_Md_isLetter 16 = .ok (.iconst 0, 1) := by decide +kernel
set_option maxRecDepth 100000 in
theorem d_Md_isLetter_17 : decode b_Md_isLetter 17 = .ok (.ireturn, 1) := by decide +kernel
set_option maxRecDepth 100000 in
theorem d_Md_isMan_0 : decode b_Md_isMan 0 = .ok (.iload_n 0, 1) := by decide +kernel
set_option maxRecDepth 100000 in
theorem d_Md_isMan_1 : decode b_Md_isMan 1 = .ok (.iconst 0, 1) := by decide +kernel
set_option maxRecDepth 100000 in
theorem d_Md_isMan_2 : decode b_Md_isMan 2 = .ok (.bipush 39, 2) := by decide +kernel
set_option maxRecDepth 100000 in
theorem d_Md_isMan_4 : decode b_Md_isMan 4 = .ok (.invokestatic 10, 3) := by decide +kernel
set_option maxRecDepth 100000 in
theorem d_Md_isMan_7 : decode b_Md_isMan 7 = .ok (.ireturn, 1) := by decide +kernel
set_option maxRecDepth 100000 in
theorem d_Md_isPension_0 : decode b_Md_isPension 0 = .ok (.iload_n 0, 1) := by decide +kernel
set_option maxRecDepth 100000 in
theorem d_Md_isPension_1 : decode b_Md_isPension 1 = .ok (.iconst 1, 1) := by decide +kernel
set_option maxRecDepth 100000 in
theorem d_Md_isPension_2 : decode b_Md_isPension 2 = .ok (.sipush 10000, 3) := by decide +kernel
set_option maxRecDepth 100000 in
theorem d_Md_isPension_5 : decode b_Md_isPension 5 = .ok (.invokestatic 10, 3) := by decide +kernel
set_option maxRecDepth 100000 in
theorem d_Md_isPension_8 : decode b_Md_isPension 8 = .ok (.ifCond .eq 18, 3) := by decide +kernel
set_option maxRecDepth 100000 in
theorem d_Md_isPension_11 : decode b_Md_isPension 11 = .ok (.iload_n 1, 1) := by decide +kernel
set_option maxRecDepth 100000 in
theorem d_Md_isPension_12 : decode b_Md_isPension 12 = .ok (.iconst 0, 1) := by decide +kernel
set_option maxRecDepth 100000 in
theorem d_Md_isPension_13 : decode b_Md_isPension 13 = .ok (.sipush 9999, 3) := by decide +kernel
set_option maxRecDepth 100000 in
theorem d_Md_isPension_16 : decode b_Md_isPension 16 = .ok (.invokestatic 10, 3) := by decide +kernel
set_option maxRecDepth 100000 in
theorem d_Md_isPension_19 : decode b_Md_isPension 19 = .ok (.ifCond .eq 7, 3) := by decide +kernel
set_option maxRecDepth 100000 in
theorem d_Md_isPension_22 : decode b_Md_isPension 22 = .ok (.iconst 1, 1) := by decide +kernel
set_option maxRecDepth 100000 in
theorem d_Md_isPension_23 : decode b_Md_isPension 23 = .ok (.goto 4, 3) := by decide +kernel
set_option maxRecDepth 100000 in
theorem d_Md_isPension_26 : decode b_Md_isPension 26 = .ok (.iconst 0, 1) := by decide +kernel
set_option maxRecDepth 100000 in
theorem d_Md_isPension_27 : decode b_Md_isPension 27 = .ok (.ireturn, 1) := by decide +kernel
set_option maxRecDepth 100000 in
theorem d_Md_isStairs_0 : decode b_Md_isStairs 0 = .ok (.iload_n 1, 1) := by decide +kernel
set_option maxRecDepth 100000 in
theorem d_Md_isStairs_1 : decode b_Md_isStairs 1 = .ok (.iconst 0, 1) := by decide +kernel
set_option maxRecDepth 100000 in
theorem d_Md_isStairs_2 : decode b_Md_isStairs 2 = .ok (.aload_n 0, 1) := by decide +kernel
set_option maxRecDepth 100000 in
theorem d_Md_isStairs_3 : decode b_Md_isStairs 3 = .ok (.getfield 14, 3) := by decide +kernel
set_option maxRecDepth 100000 in
theorem d_Md_isStairs_6 : decode b_Md_isStairs 6 = .ok (.iconst 1, 1) := by decide +kernel
set_option maxRecDepth 100000 in
theorem d_Md_isStairs_7 : decode b_Md_isStairs 7 = .ok (.isub, 1) := by decide +kernel
set_option maxRecDepth 100000 in
theorem d_Md_isStairs_8 : decode b_Md_isStairs 8 = .ok (.invokestatic 10, 3) := by decide +kernel
set_option maxRecDepth 100000 in
theorem d_Md_isStairs_11 : decode b_Md_isStairs 11 = .ok (.ireturn, 1) := by decide +kernel
set_option maxRecDepth 100000 in
theorem d_Md_join_0 : decode b_Md_join 0 = .ok (.aload_n 0, 1) := by decide +kernel
set_option maxRecDepth 100000 in
theorem d_Md_join_1 : decode b_Md_join 1 = .ok (.iload_n 1, 1) := by decide +kernel
set_option maxRecDepth 100000 in
theorem d_Md_join_2 : decode b_Md_join 2 = .ok (.invokevirtual 199, 3) := by decide +kernel
set_option maxRecDepth 100000 in
theorem d_Md_join_5 : decode b_Md_join 5 = .ok (.ifCond .eq 10, 3) := by decide +kernel
set_option maxRecDepth 100000 in
theorem d_Md_join_8 : decode b_Md_join 8 = .ok (.iload_n 2, 1) := by decide +kernel
set_option maxRecDepth 100000 in
theorem d_Md_join_9 : decode b_Md_join 9 = .ok (.invokestatic 186, 3) := by decide +kernel
set_option maxRecDepth 100000 in
theorem d_Md_join_12 : decode b_Md_join 12 = .ok (.ifCond .ne 5, 3) := by decide +kernel
set_option maxRecDepth 100000 in
theorem d_Md_join_15 : decode b_Md_join 15 = .ok (.iconst (-1), 1) := by decide +kernel
set_option maxRecDepth 100000 in
theorem d_Md_join_16 : decode b_Md_join 16 = .ok (.ireturn, 1) := by decide +kernel
set_option maxRecDepth 100000 in
theorem d_Md_join_17 : decode b_Md_join 17 = .ok (.aload_n 0, 1) := by decide +kernel
set_option maxRecDepth 100000 in
theorem d_Md_join_18 : decode b_Md_join 18 = .ok (.getfield 58, 3) := by decide +kernel
set_option maxRecDepth 100000 in
theorem d_Md_join_21 : decode b_Md_join 21 = .ok (.iload_n 2, 1) := by decide +kernel
set_option maxRecDepth 100000 in
theorem d_Md_join_22 : decode b_Md_join 22 = .ok (.iaload, 1) := by decide +kernel
set_option maxRecDepth 100000 in
theorem d_Md_join_23 : decode b_Md_join 23 = .ok (.iconst 2, 1) := by decide +kernel
set_option maxRecDepth 100000 in
theorem d_Md_join_24 : decode b_Md_join 24 = .ok (.if_icmp .ne 20, 3) := by decide +kernel
set_option maxRecDepth 100000 in
theorem d_Md_join_27 : decode b_Md_join 27 = .ok (.aload_n 0, 1) := by decide +kernel
set_option maxRecDepth 100000 in
theorem d_Md_join_28 : decode b_Md_join 28 = .ok (.getfield 79, 3) := by decide +kernel
set_option maxRecDepth 100000 in
theorem d_Md_join_31 : decode b_Md_join 31 = .ok (.iload_n 2, 1) := by decide +kernel
set_option maxRecDepth 100000 in
theorem d_Md_join_32 : decode b_Md_join 32 = .ok (.iaload, 1) := by decide +kernel
set_option maxRecDepth 100000 in
theorem d_Md_join_33 : decode b_Md_join 33 = .ok (.ifCond .ge 11, 3) := by decide +kernel
set_option maxRecDepth 100000 in
theorem d_Md_join_36 : decode b_Md_join 36 = .ok (.aload_n 0, 1) := by decide +kernel
set_option maxRecDepth 100000 in
theorem d_Md_join_37 : decode b_Md_join 37 = .ok (.iload_n 2, 1) := by decide +kernel
set_option maxRecDepth 100000 in
theorem d_Md_join_38 : decode b_Md_join 38 = .ok (.invokevirtual 193, 3) := by decide +kernel
set_option maxRecDepth 100000 in
theorem d_Md_join_41 : decode b_Md_join 41 = .ok (.ifCond .lt 6, 3) := by decide +kernel
set_option maxRecDepth 100000 in
theorem d_Md_join_44 : decode b_Md_join 44 = .ok (.bipush (-2), 2) := by decide +kernel
set_option maxRecDepth 100000 in
theorem d_Md_join_46 : decode b_Md_join 46 = .ok (.ireturn, 1) := by decide +kernel
set_option maxRecDepth 100000 in
theorem d_Md_join_47 : decode b_Md_join 47 = .ok (.aload_n 0, 1) := by decide +kernel
set_option maxRecDepth 100000 in
theorem d_Md_join_48 : decode b_Md_join 48 = .ok (.getfield 91, 3) := by decide +kernel
set_option maxRecDepth 100000 in
theorem d_Md_join_51 : decode b_Md_join 51 = .ok (.bipush 40, 2) := by decide +kernel
set_option maxRecDepth 100000 in
theorem d_Md_join_53 : decode b_Md_join 53 = .ok (.iload_n 1, 1) := by decide +kernel
set_option maxRecDepth 100000 in
theorem d_Md_join_54 : decode b_Md_join 54 = .ok (.imul, 1) := by decide +kernel
set_option maxRecDepth 100000 in
theorem d_Md_join_55 : decode b_Md_join 55 = .ok (.aload_n 0, 1) := by decide +kernel
set_option maxRecDepth 100000 in
theorem d_Md_join_56 : decode b_Md_join 56 = .ok (.getfield 88, 3) := by decide +kernel
set_option maxRecDepth 100000 in
theorem d_Md_join_59 : decode b_Md_join 59 = .ok (.iload_n 1, 1) := by decide +kernel
set_option maxRecDepth 100000 in
theorem d_Md_join_60 : decode b_Md_join 60 = .ok (.iaload, 1) := by decide +kernel
set_option maxRecDepth 100000 in
theorem d_Md_join_61 : decode b_Md_join 61 = .ok (.iadd, 1) := by decide +kernel
set_option maxRecDepth 100000 in
theorem d_Md_join_62 : decode b_Md_join 62 = .ok (.iload_n 2, 1) := by decide +kernel
set_option maxRecDepth 100000 in
theorem d_Md_join_63 : decode b_Md_join 63 = .ok (.iastore, 1) := by decide +kernel
set_option maxRecDepth 100000 in
theorem d_Md_join_64 : decode b_Md_join 64 = .ok (.aload_n 0, 1) := by decide +kernel
set_option maxRecDepth 100000 in
theorem d_Md_join_65 : decode b_Md_join 65 = .ok (.getfield 88, 3) := by decide +kernel
set_option maxRecDepth 100000 in
theorem d_Md_join_68 : decode b_Md_join 68 = .ok (.iload_n 1, 1) := by decide +kernel
set_option maxRecDepth 100000 in
theorem d_Md_join_69 : decode b_Md_join 69 = .ok (.dup2, 1) := by decide +kernel
set_option maxRecDepth 100000 in
theorem d_Md_join_70 : decode b_Md_join 70 = .ok (.iaload, 1) := by decide +kernel
set_option maxRecDepth 100000 in
theorem d_Md_join_71 : decode b_Md_join 71 = .ok (.iconst 1, 1) := by decide +kernel
set_option maxRecDepth 100000 in
theorem d_Md_join_72 : decode b_Md_join 72 = .ok (.iadd, 1) := by decide +kernel
set_option maxRecDepth 100000 in
theorem d_Md_join_73 : decode b_Md_join 73 = .ok (.iastore, 1) := by decide +kernel
set_option maxRecDepth 100000 in
theorem d_Md_join_74 : decode b_Md_join 74 = .ok (.aload_n 0, 1) := by decide +kernel
set_option maxRecDepth 100000 in
theorem d_Md_join_75 : decode b_Md_join 75 = .ok (.getfield 88, 3) := by decide +kernel
set_option maxRecDepth 100000 in
theorem d_Md_join_78 : decode b_Md_join 78 = .ok (.iload_n 1, 1) := by decide +kernel
set_option maxRecDepth 100000 in
theorem d_Md_join_79 : decode b_Md_join 79 = .ok (.iaload, 1) := by decide +kernel
set_option maxRecDepth 100000 in
theorem d_Md_join_80 : decode b_Md_join 80 = .ok (.ireturn, 1) := by decide +kernel
set_option maxRecDepth 100000 in
theorem d_Md_leave_0 : decode b_Md_leave 0 = .ok (.iload_n 1, 1) := by decide +kernel
set_option maxRecDepth 100000 in
theorem d_Md_leave_1 : decode b_Md_leave 1 = .ok (.invokestatic 186, 3) := by decide +kernel
set_option maxRecDepth 100000 in
theorem d_Md_leave_4 : decode b_Md_leave 4 = .ok (.ifCond .ne 5, 3) := by decide +kernel
set_option maxRecDepth 100000 in
theorem d_Md_leave_7 : decode b_Md_leave 7 = .ok (.iconst (-1), 1) := by decide +kernel
set_option maxRecDepth 100000 in
theorem d_Md_leave_8 : decode b_Md_leave 8 = .ok (.ireturn, 1) := by decide +kernel
set_option maxRecDepth 100000 in
theorem d_Md_leave_9 : decode b_Md_leave 9 = .ok (.aload_n 0, 1) := by decide +kernel
set_option maxRecDepth 100000 in
theorem d_Md_leave_10 : decode b_Md_leave 10 = .ok (.iload_n 1, 1) := by decide +kernel
set_option maxRecDepth 100000 in
theorem d_Md_leave_11 : decode b_Md_leave 11 = .ok (.invokevirtual 193, 3) := by decide +kernel
set_option maxRecDepth 100000 in
theorem d_Md_leave_14 : decode b_Md_leave 14 = .ok (.ifCond .ge 6, 3) := by decide +kernel
set_option maxRecDepth 100000 in
theorem d_Md_leave_17 : decode b_Md_leave 17 = .ok (.bipush (-2), 2) := by decide +kernel
set_option maxRecDepth 100000 in
theorem d_Md_leave_19 : decode b_Md_leave 19 = .ok (.ireturn, 1) := by decide +kernel
set_option maxRecDepth 100000 in
theorem d_Md_leave_20 : decode b_Md_leave 20 = .ok (.aload_n 0, 1) := by decide +kernel
set_option maxRecDepth 100000 in
theorem d_Md_leave_21 : decode b_Md_leave 21 = .ok (.iload_n 1, 1) := by decide +kernel
set_option maxRecDepth 100000 in
theorem d_Md_leave_22 : decode b_Md_leave 22 = .ok (.invokevirtual 202, 3) := by decide +kernel
set_option maxRecDepth 100000 in
theorem d_Md_leave_25 : decode b_Md_leave 25 = .ok (.iconst 1, 1) := by decide +kernel
set_option maxRecDepth 100000 in
theorem d_Md_leave_26 : decode b_Md_leave 26 = .ok (.ireturn, 1) := by decide +kernel
set_option maxRecDepth 100000 in
theorem d_Md_leaves_0 : decode b_Md_leaves 0 = .ok (.aload_n 0, 1) := by decide +kernel
set_option maxRecDepth 100000 in
theorem d_Md_leaves_1 : decode b_Md_leaves 1 = .ok (.iload_n 1, 1) := by decide +kernel
set_option maxRecDepth 100000 in
theorem d_Md_leaves_2 : decode b_Md_leaves 2 = .ok (.invokevirtual 193, 3) := by decide +kernel
set_option maxRecDepth 100000 in
theorem d_Md_leaves_5 : decode b_Md_leaves 5 = .ok (.istore_n 2, 1) := by decide +kernel
set_option maxRecDepth 100000 in
theorem d_Md_leaves_6 : decode b_Md_leaves 6 = .ok (.iload_n 2, 1) := by decide +kernel
set_option maxRecDepth 100000 in
theorem d_Md_leaves_7 : decode b_Md_leaves 7 = .ok (.ifCond .ge 4, 3) := by decide +kernel
set_option maxRecDepth 100000 in
theorem d_Md_leaves_10 : decode b_Md_leaves 10 = .ok (.return_, 1) := by decide +kernel
set_option maxRecDepth 100000 in
theorem d_Md_leaves_11 : decode b_Md_leaves 11 = .ok (.aload_n 0, 1) := by decide +kernel
set_option maxRecDepth 100000 in
theorem d_Md_leaves_12 : decode b_Md_leaves 12 = .ok (.iload_n 1, 1) := by decide +kernel
set_option maxRecDepth 100000 in
theorem d_Md_leaves_13 : decode b_Md_leaves 13 = .ok (.invokevirtual 196, 3) := by decide +kernel
set_option maxRecDepth 100000 in
theorem d_Md_leaves_16 : decode b_Md_leaves 16 = .ok (.istore_n 3, 1) := by decide +kernel
set_option maxRecDepth 100000 in
theorem d_Md_leaves_17 : decode b_Md_leaves 17 = .ok (.aload_n 0, 1) := by decide +kernel
set_option maxRecDepth 100000 in
theorem d_Md_leaves_18 : decode b_Md_leaves 18 = .ok (.getfield 88, 3) := by decide +kernel
set_option maxRecDepth 100000 in
theorem d_Md_leaves_21 : decode b_Md_leaves 21 = .ok (.iload_n 2, 1) := by decide +kernel
set_option maxRecDepth 100000 in
theorem d_Md_leaves_22 : decode b_Md_leaves 22 = .ok (.dup2, 1) := by decide +kernel
set_option maxRecDepth 100000 in
theorem d_Md_leaves_23 : decode b_Md_leaves 23 = .ok (.iaload, 1) := by decide +kernel
set_option maxRecDepth 100000 in
theorem d_Md_leaves_24 : decode b_Md_leaves 24 = .ok (.iconst 1, 1) := by decide +kernel
set_option maxRecDepth 100000 in
theorem d_Md_leaves_25 : decode b_Md_leaves 25 = .ok (.isub, 1) := by decide +kernel
set_option maxRecDepth 100000 in
theorem d_Md_leaves_26 : decode b_Md_leaves 26 = .ok (.iastore, 1) := by decide +kernel
set_option maxRecDepth 100000 in
theorem d_Md_leaves_27 : decode b_Md_leaves 27 = .ok (.iload_n 3, 1) := by decide +kernel
set_option maxRecDepth 100000 in
theorem d_Md_leaves_28 : decode b_Md_leaves 28 = .ok (.istore 4, 2) := by decide +kernel
set_option maxRecDepth 100000 in
theorem d_Md_leaves_30 : decode b_Md_leaves 30 = .ok (.iload 4, 2) := by decide +kernel
set_option maxRecDepth 100000 in
theorem d_Md_leaves_32 : decode b_Md_leaves 32 = .ok (.aload_n 0, 1) := by decide +kernel
set_option maxRecDepth 100000 in
theorem d_Md_leaves_33 : decode b_Md_leaves 33 = .ok (.getfield 88, 3) := by decide +kernel
set_option maxRecDepth 100000 in
theorem d_Md_leaves_36 : decode b_Md_leaves 36 = .ok (.iload_n 2, 1) := by decide +kernel
set_option maxRecDepth 100000 in
theorem d_Md_leaves_37 : decode b_Md_leaves 37 = .ok (.iaload, 1) := by decide +kernel
set_option maxRecDepth 100000 in
theorem d_Md_leaves_38 : decode b_Md_leaves 38 = .ok (.if_icmp .ge 35, 3) := by decide +kernel
set_option maxRecDepth 100000 in
theorem d_Md_leaves_41 : decode b_Md_leaves 41 = .ok (.aload_n 0, 1) := by decide +kernel
set_option maxRecDepth 100000 in
theorem d_Md_leaves_42 : decode b_Md_leaves 42 = .ok (.getfield 91, 3) := by decide +kernel
set_option maxRecDepth 100000 in
theorem d_Md_leaves_45 : decode b_Md_leaves 45 = .ok (.bipush 40, 2) := by decide +kernel
set_option maxRecDepth 100000 in
theorem d_Md_leaves_47 : decode b_Md_leaves 47 = .ok (.iload_n 2, 1) := by decide +kernel
set_option maxRecDepth 100000 in
theorem d_Md_leaves_48 : decode b_Md_leaves 48 = .ok (.imul, 1) := by decide +kernel
set_option maxRecDepth 100000 in
theorem d_Md_leaves_49 : decode b_Md_leaves 49 = .ok (.iload 4, 2) := by decide +kernel
set_option maxRecDepth 100000 in
theorem d_Md_leaves_51 : decode b_Md_leaves 51 = .ok (.iadd, 1) := by decide +kernel
set_option maxRecDepth 100000 in
theorem d_Md_leaves_52 : decode b_Md_leaves 52 = .ok (.aload_n 0, 1) := by decide +kernel
set_option maxRecDepth 100000 in
theorem d_Md_leaves_53 : decode b_Md_leaves 53 = .ok (.getfield 91, 3) := by decide +kernel
set_option maxRecDepth 100000 in
theorem d_Md_leaves_56 : decode b_Md_leaves 56 = .ok (.bipush 40, 2) := by decide +kernel
set_option maxRecDepth 100000 in
theorem d_Md_leaves_58 : decode b_Md_leaves 58 = .ok (.iload_n 2, 1) := by decide +kernel
set_option maxRecDepth 100000 in
theorem d_Md_leaves_59 : decode b_Md_leaves 59 = .ok (.imul, 1) := by decide +kernel
set_option maxRecDepth 100000 in
theorem d_Md_leaves_60 : decode b_Md_leaves 60 = .ok (.iload 4, 2) := by decide +kernel
set_option maxRecDepth 100000 in
theorem d_Md_leaves_62 : decode b_Md_leaves 62 = .ok (.iadd, 1) := by decide +kernel
set_option maxRecDepth 100000 in
theorem d_Md_leaves_63 : decode b_Md_leaves 63 = .ok (.iconst 1, 1) := by decide +kernel
set_option maxRecDepth 100000 in
theorem d_Md_leaves_64 : decode b_Md_leaves 64 = .ok (.iadd, 1) := by decide +kernel
set_option maxRecDepth 100000 in
theorem d_Md_leaves_65 : decode b_Md_leaves 65 = .ok (.iaload, 1) := by decide +kernel
set_option maxRecDepth 100000 in
theorem d_Md_leaves_66 : decode b_Md_leaves 66 = .ok (.iastore, 1) := by decide +kernel
set_option maxRecDepth 100000 in
theorem d_Md_leaves_67 : decode b_Md_leaves 67 = .ok (.iinc 4 1, 3) := by decide +kernel
set_option maxRecDepth 100000 in
theorem d_Md_leaves_70 : decode b_Md_leaves 70 = .ok (.goto (-40), 3) := by decide +kernel
set_option maxRecDepth 100000 in
theorem d_Md_leaves_73 : decode b_Md_leaves 73 = .ok (.return_, 1) := by decide +kernel
set_option maxRecDepth 100000 in
theorem d_Md_level_0 : decode b_Md_level 0 = .ok (.iload_n 1, 1) := by decide +kernel
set_option maxRecDepth 100000 in
theorem d_Md_level_1 : decode b_Md_level 1 = .ok (.invokestatic 38, 3) := by decide +kernel
set_option maxRecDepth 100000 in
theorem d_Md_level_4 : decode b_Md_level 4 = .ok (.ifCond .eq 24, 3) := by decide +kernel
set_option maxRecDepth 100000 in
theorem d_Md_level_7 : decode b_Md_level 7 = .ok (.iload_n 2, 1) := by decide +kernel
set_option maxRecDepth 100000 in
theorem d_Md_level_8 : decode b_Md_level 8 = .ok (.iconst 0, 1) := by decide +kernel
set_option maxRecDepth 100000 in
theorem d_Md_level_9 : decode b_Md_level 9 = .ok (.bipush 11, 2) := by decide +kernel
set_option maxRecDepth 100000 in
theorem d_Md_level_11 : decode b_Md_level 11 = .ok (.invokestatic 10, 3) := by decide +kernel
set_option maxRecDepth 100000 in
theorem d_Md_level_14 : decode b_Md_level 14 = .ok (.ifCond .eq 14, 3) := by decide +kernel
set_option maxRecDepth 100000 in
theorem d_Md_level_17 : decode b_Md_level 17 = .ok (.iload_n 3, 1) := by decide +kernel
set_option maxRecDepth 100000 in
theorem d_Md_level_18 : decode b_Md_level 18 = .ok (.bipush (-90), 2) := by decide +kernel
set_option maxRecDepth 100000 in
theorem d_Md_level_20 : decode b_Md_level 20 = .ok (.bipush 90, 2) := by decide +kernel
set_option maxRecDepth 100000 in
theorem d_Md_level_22 : decode b_Md_level 22 = .ok (.invokestatic 10, 3) := by decide +kernel
set_option maxRecDepth 100000 in
theorem d_Md_level_25 : decode b_Md_level 25 = .ok (.ifCond .ne 5, 3) := by decide +kernel
set_option maxRecDepth 100000 in
theorem d_Md_level_28 : decode b_Md_level 28 = .ok (.iconst (-1), 1) := by decide +kernel
set_option maxRecDepth 100000 in
theorem d_Md_level_29 : decode b_Md_level 29 = .ok (.ireturn, 1) := by decide +kernel
set_option maxRecDepth 100000 in
theorem d_Md_level_30 : decode b_Md_level 30 = .ok (.iconst 0, 1) := by decide +kernel
set_option maxRecDepth 100000 in
theorem d_Md_level_31 : decode b_Md_level 31 = .ok (.istore 4, 2) := by decide +kernel
set_option maxRecDepth 100000 in
theorem d_Md_level_33 : decode b_Md_level 33 = .ok (.iload 4, 2) := by decide +kernel
set_option maxRecDepth 100000 in
theorem d_Md_level_35 : decode b_Md_level 35 = .ok (.bipush 12, 2) := by decide +kernel
set_option maxRecDepth 100000 in
theorem d_Md_level_37 : decode b_Md_level 37 = .ok (.if_icmp .ge 42, 3) := by decide +kernel
set_option maxRecDepth 100000 in
theorem d_Md_level_40 : decode b_Md_level 40 = .ok (.aload_n 0, 1) := by decide +kernel
set_option maxRecDepth 100000 in
theorem d_Md_level_41 : decode b_Md_level 41 = .ok (.getfield 17, 3) := by decide +kernel
set_option maxRecDepth 100000 in
theorem d_Md_level_44 : decode b_Md_level 44 = .ok (.iload_n 1, 1) := by decide +kernel
set_option maxRecDepth 100000 in
theorem d_Md_level_45 : decode b_Md_level 45 = .ok (.baload, 1) := by decide +kernel
set_option maxRecDepth 100000 in
theorem d_Md_level_46 : decode b_Md_level 46 = .ok (.ifCond .ne 33, 3) := by decide +kernel
set_option maxRecDepth 100000 in
theorem d_Md_level_49 : decode b_Md_level 49 = .ok (.aload_n 0, 1) := by decide +kernel
set_option maxRecDepth 100000 in
theorem d_Md_level_50 : decode b_Md_level 50 = .ok (.getfield 21, 3) := by decide +kernel
set_option maxRecDepth 100000 in
theorem d_Md_level_53 : decode b_Md_level 53 = .ok (.bipush 12, 2) := by decide +kernel
set_option maxRecDepth 100000 in
theorem d_Md_level_55 : decode b_Md_level 55 = .ok (.iload_n 1, 1) := by decide +kernel
set_option maxRecDepth 100000 in
theorem d_Md_level_56 : decode b_Md_level 56 = .ok (.imul, 1) := by decide +kernel
set_option maxRecDepth 100000 in
theorem d_Md_level_57 : decode b_Md_level 57 = .ok (.iload 4, 2) := by decide +kernel
set_option maxRecDepth 100000 in
theorem d_Md_level_59 : decode b_Md_level 59 = .ok (.iadd, 1) := by decide +kernel
set_option maxRecDepth 100000 in
theorem d_Md_level_60 : decode b_Md_level 60 = .ok (.aload_n 0, 1) := by decide +kernel
set_option maxRecDepth 100000 in
theorem d_Md_level_61 : decode b_Md_level 61 = .ok (.getfield 25, 3) := by decide +kernel
set_option maxRecDepth 100000 in
theorem d_Md_level_64 : decode b_Md_level 64 = .ok (.iload 4, 2) := by decide +kernel
set_option maxRecDepth 100000 in
theorem d_Md_level_66 : decode b_Md_level 66 = .ok (.iload_n 1, 1) := by decide +kernel
set_option maxRecDepth 100000 in
theorem d_Md_level_67 : decode b_Md_level 67 = .ok (.iadd, 1) := by decide +kernel
set_option maxRecDepth 100000 in
theorem d_Md_level_68 : decode b_Md_level 68 = .ok (.bipush 12, 2) := by decide +kernel
set_option maxRecDepth 100000 in
theorem d_Md_level_70 : decode b_Md_level 70 = .ok (.irem, 1) := by decide +kernel
set_option maxRecDepth 100000 in
theorem d_Md_level_71 : decode b_Md_level 71 = .ok (.iaload, 1) := by decide +kernel
set_option maxRecDepth 100000 in
theorem d_Md_level_72 : decode b_Md_level 72 = .ok (.iastore, 1) := by decide +kernel
set_option maxRecDepth 100000 in
theorem d_Md_level_73 : decode b_Md_level 73 = .ok (.iinc 4 1, 3) := by decide +kernel
set_option maxRecDepth 100000 in
theorem d_Md_level_76 : decode b_Md_level 76 = .ok (.goto (-43), 3) := by decide +kernel
set_option maxRecDepth 100000 in
theorem d_Md_level_79 : decode b_Md_level 79 = .ok (.aload_n 0, 1) := by decide +kernel
set_option maxRecDepth 100000 in
theorem d_Md_level_80 : decode b_Md_level 80 = .ok (.getfield 17, 3) := by decide +kernel
set_option maxRecDepth 100000 in
theorem d_Md_level_83 : decode b_Md_level 83 = .ok (.iload_n 1, 1) := by decide +kernel
set_option maxRecDepth 100000 in
theorem d_Md_level_84 : decode b_Md_level 84 = .ok (.iconst 1, 1) := by decide +kernel
set_option maxRecDepth 100000 in
theorem d_Md_level_85 : decode b_Md_level 85 = .ok (.bastore, 1) := by decide +kernel
set_option maxRecDepth 100000 in
theorem d_Md_level_86 : decode b_Md_level 86 = .ok (.aload_n 0, 1) := by decide +kernel
set_option maxRecDepth 100000 in
theorem d_Md_level_87 : decode b_Md_level 87 = .ok (.getfield 21, 3) := by decide +kernel
set_option maxRecDepth 100000 in
theorem d_Md_level_90 : decode b_Md_level 90 = .ok (.bipush 12, 2) := by decide +kernel
set_option maxRecDepth 100000 in
theorem d_Md_level_92 : decode b_Md_level 92 = .ok (.iload_n 1, 1) := by decide +kernel
set_option maxRecDepth 100000 in
theorem d_Md_level_93 : decode b_Md_level 93 = .ok (.imul, 1) := by decide +kernel
set_option maxRecDepth 100000 in
theorem d_Md_level_94 : decode b_Md_level 94 = .ok (.iload_n 2, 1) := by decide +kernel
set_option maxRecDepth 100000 in
theorem d_Md_level_95 : decode b_Md_level 95 = .ok (.iadd, 1) := by decide +kernel
set_option maxRecDepth 100000 in
theorem d_Md_level_96 : decode b_Md_level 96 = .ok (.iload_n 3, 1) := by decide +kernel
set_option maxRecDepth 100000 in
theorem d_Md_level_97 : decode b_Md_level 97 = .ok (.iastore, 1) := by decide +kernel
set_option maxRecDepth 100000 in
theorem d_Md_level_98 : decode b_Md_level 98 = .ok (.iconst 1, 1) := by decide +kernel
set_option maxRecDepth 100000 in
theorem d_Md_level_99 : decode b_Md_level 99 = .ok (.ireturn, 1) := by decide +kernel
set_option maxRecDepth 100000 in
theorem d_Md_levelOf_0 : decode b_Md_levelOf 0 = .ok (.iload_n 1, 1) := by decide +kernel
