set_option maxRecDepth 100000 in
theorem d_Md_fareOf_153 : decode b_Md_fareOf 153 = .ok (.iload 8, 2) := by decide +kernel
set_option maxRecDepth 100000 in
theorem d_Md_fareOf_155 : decode b_Md_fareOf 155 = .ok (.if_icmp .ne 8, 3) := by decide +kernel
set_option maxRecDepth 100000 in
theorem d_Md_fareOf_158 : decode b_Md_fareOf 158 = .ok (.bipush 12, 2) := by decide +kernel
set_option maxRecDepth 100000 in
theorem d_Md_fareOf_160 : decode b_Md_fareOf 160 = .ok (.goto 5, 3) := by decide +kernel
set_option maxRecDepth 100000 in
theorem d_Md_fareOf_163 : decode b_Md_fareOf 163 = .ok (.bipush 13, 2) := by decide +kernel
set_option maxRecDepth 100000 in
theorem d_Md_fareOf_165 : decode b_Md_fareOf 165 = .ok (.istore 11, 2) := by decide +kernel
set_option maxRecDepth 100000 in
theorem d_Md_fareOf_167 : decode b_Md_fareOf 167 = .ok (.iload 11, 2) := by decide +kernel
set_option maxRecDepth 100000 in
theorem d_Md_fareOf_169 : decode b_Md_fareOf 169 = .ok (.ifCond .le 27, 3) := by decide +kernel
set_option maxRecDepth 100000 in
theorem d_Md_fareOf_172 : decode b_Md_fareOf 172 = .ok (.aload_n 0, 1) := by decide +kernel
set_option maxRecDepth 100000 in
theorem d_Md_fareOf_173 : decode b_Md_fareOf 173 = .ok (.iload_n 1, 1) := by decide +kernel
set_option maxRecDepth 100000 in
theorem d_Md_fareOf_174 : decode b_Md_fareOf 174 = .ok (.iload 11, 2) := by decide +kernel
set_option maxRecDepth 100000 in
theorem d_Md_fareOf_176 : decode b_Md_fareOf 176 = .ok (.invokevirtual 289, 3) := by decide +kernel
set_option maxRecDepth 100000 in
theorem d_Md_fareOf_179 : decode b_Md_fareOf 179 = .ok (.ifCond .lt 17, 3) := by decide +kernel
set_option maxRecDepth 100000 in
theorem d_Md_fareOf_182 : decode b_Md_fareOf 182 = .ok (.iload 9, 2) := by decide +kernel
set_option maxRecDepth 100000 in
theorem d_Md_fareOf_184 : decode b_Md_fareOf 184 = .ok (.aload_n 0, 1) := by decide +kernel
set_option maxRecDepth 100000 in
theorem d_Md_fareOf_185 : decode b_Md_fareOf 185 = .ok (.iload_n 1, 1) := by decide +kernel
set_option maxRecDepth 100000 in
theorem d_Md_fareOf_186 : decode b_Md_fareOf 186 = .ok (.iload 11, 2) := by decide +kernel
set_option maxRecDepth 100000 in
theorem d_Md_fareOf_188 : decode b_Md_fareOf 188 = .ok (.invokevirtual 289, 3) := by decide +kernel
set_option maxRecDepth 100000 in
theorem d_Md_fareOf_191 : decode b_Md_fareOf 191 = .ok (.invokestatic 292, 3) := by decide +kernel
set_option maxRecDepth 100000 in
theorem d_Md_fareOf_194 : decode b_Md_fareOf 194 = .ok (.istore 9, 2) := by decide +kernel
set_option maxRecDepth 100000 in
theorem d_Md_fareOf_196 : decode b_Md_fareOf 196 = .ok (.iconst 0, 1) := by decide +kernel
set_option maxRecDepth 100000 in
theorem d_Md_fareOf_197 : decode b_Md_fareOf 197 = .ok (.istore 12, 2) := by decide +kernel
set_option maxRecDepth 100000 in
theorem d_Md_fareOf_199 : decode b_Md_fareOf 199 = .ok (.iload 12, 2) := by decide +kernel
set_option maxRecDepth 100000 in
theorem d_Md_fareOf_201 : decode b_Md_fareOf 201 = .ok (.aload_n 0, 1) := by decide +kernel
set_option maxRecDepth 100000 in
theorem d_Md_fareOf_202 : decode b_Md_fareOf 202 = .ok (.getfield 131, 3) := by decide +kernel
set_option maxRecDepth 100000 in
theorem d_Md_fareOf_205 : decode b_Md_fareOf 205 = .ok (.iload_n 1, 1) := by decide +kernel
set_option maxRecDepth 100000 in
theorem d_Md_fareOf_206 : decode b_Md_fareOf 206 = .ok (.iaload, 1) := by decide +kernel
set_option maxRecDepth 100000 in
theorem d_Md_fareOf_207 : decode b_Md_fareOf 207 = .ok (.if_icmp .ge 60, 3) := by decide +kernel
set_option maxRecDepth 100000 in
theorem d_Md_fareOf_210 : decode b_Md_fareOf 210 = .ok (.iload 5, 2) := by decide +kernel
set_option maxRecDepth 100000 in
theorem d_Md_fareOf_212 : decode b_Md_fareOf 212 = .ok (.aload_n 0, 1) := by decide +kernel
set_option maxRecDepth 100000 in
theorem d_Md_fareOf_213 : decode b_Md_fareOf 213 = .ok (.getfield 134, 3) := by decide +kernel
set_option maxRecDepth 100000 in
theorem d_Md_fareOf_216 : decode b_Md_fareOf 216 = .ok (.bipush 12, 2) := by decide +kernel
set_option maxRecDepth 100000 in
theorem d_Md_fareOf_218 : decode b_Md_fareOf 218 = .ok (.iload_n 1, 1) := by decide +kernel
set_option maxRecDepth 100000 in
theorem d_Md_fareOf_219 : decode b_Md_fareOf 219 = .ok (.imul, 1) := by decide +kernel
set_option maxRecDepth 100000 in
theorem d_Md_fareOf_220 : decode b_Md_fareOf 220 = .ok (.iload 12, 2) := by decide +kernel
set_option maxRecDepth 100000 in
theorem d_Md_fareOf_222 : decode b_Md_fareOf 222 = .ok (.iadd, 1) := by decide +kernel
set_option maxRecDepth 100000 in
theorem d_Md_fareOf_223 : decode b_Md_fareOf 223 = .ok (.iaload, 1) := by decide +kernel
set_option maxRecDepth 100000 in
theorem d_Md_fareOf_224 : decode b_Md_fareOf 224 = .ok (.aload_n 0, 1) := by decide +kernel
set_option maxRecDepth 100000 in
theorem d_Md_fareOf_225 : decode b_Md_fareOf 225 = .ok (.getfield 137, 3) := by decide +kernel
set_option maxRecDepth 100000 in
theorem d_Md_fareOf_228 : decode b_Md_fareOf 228 = .ok (.bipush 12, 2) := by decide +kernel
set_option maxRecDepth 100000 in
theorem d_Md_fareOf_230 : decode b_Md_fareOf 230 = .ok (.iload_n 1, 1) := by decide +kernel
set_option maxRecDepth 100000 in
theorem d_Md_fareOf_231 : decode b_Md_fareOf 231 = .ok (.imul, 1) := by decide +kernel
set_option maxRecDepth 100000 in
theorem d_Md_fareOf_232 : decode b_Md_fareOf 232 = .ok (.iload 12, 2) := by decide +kernel
set_option maxRecDepth 100000 in
theorem d_Md_fareOf_234 : decode b_Md_fareOf 234 = .ok (.iadd, 1) := by decide +kernel
set_option maxRecDepth 100000 in
theorem d_Md_fareOf_235 : decode b_Md_fareOf 235 = .ok (.iaload, 1) := by decide +kernel
set_option maxRecDepth 100000 in
theorem d_Md_fareOf_236 : decode b_Md_fareOf 236 = .ok (.invokestatic 10, 3) := by decide +kernel
set_option maxRecDepth 100000 in
theorem d_Md_fareOf_239 : decode b_Md_fareOf 239 = .ok (.ifCond .eq 22, 3) := by decide +kernel
set_option maxRecDepth 100000 in
theorem d_Md_fareOf_242 : decode b_Md_fareOf 242 = .ok (.iload 9, 2) := by decide +kernel
set_option maxRecDepth 100000 in
theorem d_Md_fareOf_244 : decode b_Md_fareOf 244 = .ok (.aload_n 0, 1) := by decide +kernel
set_option maxRecDepth 100000 in
theorem d_Md_fareOf_245 : decode b_Md_fareOf 245 = .ok (.getfield 140, 3) := by decide +kernel
set_option maxRecDepth 100000 in
theorem d_Md_fareOf_248 : decode b_Md_fareOf 248 = .ok (.bipush 12, 2) := by decide +kernel
set_option maxRecDepth 100000 in
theorem d_Md_fareOf_250 : decode b_Md_fareOf 250 = .ok (.iload_n 1, 1) := by decide +kernel
set_option maxRecDepth 100000 in
theorem d_Md_fareOf_251 : decode b_Md_fareOf 251 = .ok (.imul, 1) := by decide +kernel
set_option maxRecDepth 100000 in
theorem d_Md_fareOf_252 : decode b_Md_fareOf 252 = .ok (.iload 12, 2) := by decide +kernel
set_option maxRecDepth 100000 in
theorem d_Md_fareOf_254 : decode b_Md_fareOf 254 = .ok (.iadd, 1) := by decide +kernel
set_option maxRecDepth 100000 in
theorem d_Md_fareOf_255 : decode b_Md_fareOf 255 = .ok (.iaload, 1) := by decide +kernel
set_option maxRecDepth 100000 in
theorem d_Md_fareOf_256 : decode b_Md_fareOf 256 = .ok (.invokestatic 292, 3) := by decide +kernel
set_option maxRecDepth 100000 in
theorem d_Md_fareOf_259 : decode b_Md_fareOf 259 = .ok (.istore 9, 2) := by decide +kernel
set_option maxRecDepth 100000 in
theorem d_Md_fareOf_261 : decode b_Md_fareOf 261 = .ok (.iinc 12 1, 3) := by decide +kernel
set_option maxRecDepth 100000 in
theorem d_Md_fareOf_264 : decode b_Md_fareOf 264 = .ok (.goto (-65), 3) := by decide +kernel
set_option maxRecDepth 100000 in
theorem d_Md_fareOf_267 : decode b_Md_fareOf 267 = .ok (.iload 4, 2) := by decide +kernel
set_option maxRecDepth 100000 in
theorem d_Md_fareOf_269 : decode b_Md_fareOf 269 = .ok (.bipush 7, 2) := by decide +kernel
set_option maxRecDepth 100000 in
theorem d_Md_fareOf_271 : decode b_Md_fareOf 271 = .ok (.irem, 1) := by decide +kernel
set_option maxRecDepth 100000 in
theorem d_Md_fareOf_272 : decode b_Md_fareOf 272 = .ok (.ifCond .ne 27, 3) := by decide +kernel
set_option maxRecDepth 100000 in
theorem d_Md_fareOf_275 : decode b_Md_fareOf 275 = .ok (.aload_n 0, 1) := by decide +kernel
set_option maxRecDepth 100000 in
theorem d_Md_fareOf_276 : decode b_Md_fareOf 276 = .ok (.iload_n 1, 1) := by decide +kernel
set_option maxRecDepth 100000 in
theorem d_Md_fareOf_277 : decode b_Md_fareOf 277 = .ok (.bipush 14, 2) := by decide +kernel
set_option maxRecDepth 100000 in
theorem d_Md_fareOf_279 : decode b_Md_fareOf 279 = .ok (.invokevirtual 289, 3) := by decide +kernel
set_option maxRecDepth 100000 in
theorem d_Md_fareOf_282 : decode b_Md_fareOf 282 = .ok (.ifCond .lt 17, 3) := by decide +kernel
set_option maxRecDepth 100000 in
theorem d_Md_fareOf_285 : decode b_Md_fareOf 285 = .ok (.iload 9, 2) := by decide +kernel
set_option maxRecDepth 100000 in
theorem d_Md_fareOf_287 : decode b_Md_fareOf 287 = .ok (.aload_n 0, 1) := by decide +kernel
set_option maxRecDepth 100000 in
theorem d_Md_fareOf_288 : decode b_Md_fareOf 288 = .ok (.iload_n 1, 1) := by decide +kernel
set_option maxRecDepth 100000 in
theorem d_Md_fareOf_289 : decode b_Md_fareOf 289 = .ok (.bipush 14, 2) := by decide +kernel
set_option maxRecDepth 100000 in
theorem d_Md_fareOf_291 : decode b_Md_fareOf 291 = .ok (.invokevirtual 289, 3) := by decide +kernel
set_option maxRecDepth 100000 in
theorem d_Md_fareOf_294 : decode b_Md_fareOf 294 = .ok (.invokestatic 292, 3) := by decide +kernel
set_option maxRecDepth 100000 in
theorem d_Md_fareOf_297 : decode b_Md_fareOf 297 = .ok (.istore 9, 2) := by decide +kernel
set_option maxRecDepth 100000 in
theorem d_Md_fareOf_299 : decode b_Md_fareOf 299 = .ok (.iload 6, 2) := by decide +kernel
set_option maxRecDepth 100000 in
theorem d_Md_fareOf_301 : decode b_Md_fareOf 301 = .ok (.iconst 2, 1) := by decide +kernel
set_option maxRecDepth 100000 in
theorem d_Md_fareOf_302 : decode b_Md_fareOf 302 = .ok (.if_icmp .ne 27, 3) := by decide +kernel
set_option maxRecDepth 100000 in
theorem d_Md_fareOf_305 : decode b_Md_fareOf 305 = .ok (.aload_n 0, 1) := by decide +kernel
set_option maxRecDepth 100000 in
theorem d_Md_fareOf_306 : decode b_Md_fareOf 306 = .ok (.iload_n 1, 1) := by decide +kernel
set_option maxRecDepth 100000 in
theorem d_Md_fareOf_307 : decode b_Md_fareOf 307 = .ok (.bipush 18, 2) := by decide +kernel
set_option maxRecDepth 100000 in
theorem d_Md_fareOf_309 : decode b_Md_fareOf 309 = .ok (.invokevirtual 289, 3) := by decide +kernel
set_option maxRecDepth 100000 in
theorem d_Md_fareOf_312 : decode b_Md_fareOf 312 = .ok (.ifCond .lt 17, 3) := by decide +kernel
set_option maxRecDepth 100000 in
theorem d_Md_fareOf_315 : decode b_Md_fareOf 315 = .ok (.iload 9, 2) := by decide +kernel
set_option maxRecDepth 100000 in
theorem d_Md_fareOf_317 : decode b_Md_fareOf 317 = .ok (.aload_n 0, 1) := by decide +kernel
set_option maxRecDepth 100000 in
theorem d_Md_fareOf_318 : decode b_Md_fareOf 318 = .ok (.iload_n 1, 1) := by decide +kernel
set_option maxRecDepth 100000 in
theorem d_Md_fareOf_319 : decode b_Md_fareOf 319 = .ok (.bipush 18, 2) := by decide +kernel
set_option maxRecDepth 100000 in
theorem d_Md_fareOf_321 : decode b_Md_fareOf 321 = .ok (.invokevirtual 289, 3) := by decide +kernel
set_option maxRecDepth 100000 in
theorem d_Md_fareOf_324 : decode b_Md_fareOf 324 = .ok (.invokestatic 292, 3) := by decide +kernel
set_option maxRecDepth 100000 in
theorem d_Md_fareOf_327 : decode b_Md_fareOf 327 = .ok (.istore 9, 2) := by decide +kernel
set_option maxRecDepth 100000 in
theorem d_Md_fareOf_329 : decode b_Md_fareOf 329 = .ok (.aload_n 0, 1) := by decide +kernel
set_option maxRecDepth 100000 in
theorem d_Md_fareOf_330 : decode b_Md_fareOf 330 = .ok (.iload_n 1, 1) := by decide +kernel
set_option maxRecDepth 100000 in
theorem d_Md_fareOf_331 : decode b_Md_fareOf 331 = .ok (.bipush 15, 2) := by decide +kernel
set_option maxRecDepth 100000 in
theorem d_Md_fareOf_333 : decode b_Md_fareOf 333 = .ok (.invokevirtual 289, 3) := by decide +kernel
set_option maxRecDepth 100000 in
theorem d_Md_fareOf_336 : decode b_Md_fareOf 336 = .ok (.iload 9, 2) := by decide +kernel
set_option maxRecDepth 100000 in
theorem d_Md_fareOf_338 : decode b_Md_fareOf 338 = .ok (.if_icmp .le 13, 3) := by decide +kernel
set_option maxRecDepth 100000 in
theorem d_Md_fareOf_341 : decode b_Md_fareOf 341 = .ok (.aload_n 0, 1) := by decide +kernel
set_option maxRecDepth 100000 in
theorem d_Md_fareOf_342 : decode b_Md_fareOf 342 = .ok (.iload_n 1, 1) := by decide +kernel
set_option maxRecDepth 100000 in
theorem d_Md_fareOf_343 : decode b_Md_fareOf 343 = .ok (.bipush 15, 2) := by decide +kernel
set_option maxRecDepth 100000 in
theorem d_Md_fareOf_345 : decode b_Md_fareOf 345 = .ok (.invokevirtual 289, 3) := by decide +kernel
set_option maxRecDepth 100000 in
theorem d_Md_fareOf_348 : decode b_Md_fareOf 348 = .ok (.goto 5, 3) := by decide +kernel
set_option maxRecDepth 100000 in
theorem d_Md_fareOf_351 : decode b_Md_fareOf 351 = .ok (.iload 9, 2) := by decide +kernel
set_option maxRecDepth 100000 in
theorem d_Md_fareOf_353 : decode b_Md_fareOf 353 = .ok (.ireturn, 1) := by decide +kernel
set_option maxRecDepth 100000 in
theorem d_Md_feed_0 : decode b_Md_feed 0 = .ok (.aload_n 0, 1) := by decide +kernel
set_option maxRecDepth 100000 in
theorem d_Md_feed_1 : decode b_Md_feed 1 = .ok (.getfield 212, 3) := by decide +kernel
set_option maxRecDepth 100000 in
theorem d_Md_feed_4 : decode b_Md_feed 4 = .ok (.bipush 20, 2) := by decide +kernel
set_option maxRecDepth 100000 in
theorem d_Md_feed_6 : decode b_Md_feed 6 = .ok (.iadd, 1) := by decide +kernel
set_option maxRecDepth 100000 in
theorem d_Md_feed_7 : decode b_Md_feed 7 = .ok (.sipush 400, 3) := by decide +kernel
set_option maxRecDepth 100000 in
theorem d_Md_feed_10 : decode b_Md_feed 10 = .ok (.if_icmp .le 6, 3) := by decide +kernel
set_option maxRecDepth 100000 in
theorem d_Md_feed_13 : decode b_Md_feed 13 = .ok (.bipush (-3), 2) := by decide +kernel
set_option maxRecDepth 100000 in
theorem d_Md_feed_15 : decode b_Md_feed 15 = .ok (.ireturn, 1) := by decide +kernel
set_option maxRecDepth 100000 in
theorem d_Md_feed_16 : decode b_Md_feed 16 = .ok (.aload_n 0, 1) := by decide +kernel
set_option maxRecDepth 100000 in
theorem d_Md_feed_17 : decode b_Md_feed 17 = .ok (.iload_n 1, 1) := by decide +kernel
set_option maxRecDepth 100000 in
theorem d_Md_feed_18 : decode b_Md_feed 18 = .ok (.invokevirtual 215, 3) := by decide +kernel
set_option maxRecDepth 100000 in
theorem d_Md_feed_21 : decode b_Md_feed 21 = .ok (.aload_n 0, 1) := by decide +kernel
set_option maxRecDepth 100000 in
theorem d_Md_feed_22 : decode b_Md_feed 22 = .ok (.iload_n 2, 1) := by decide +kernel
set_option maxRecDepth 100000 in
theorem d_Md_feed_23 : decode b_Md_feed 23 = .ok (.invokevirtual 215, 3) := by decide +kernel
set_option maxRecDepth 100000 in
theorem d_Md_feed_26 : decode b_Md_feed 26 = .ok (.aload_n 0, 1) := by decide +kernel
set_option maxRecDepth 100000 in
theorem d_Md_feed_27 : decode b_Md_feed 27 = .ok (.iload_n 3, 1) := by decide +kernel
set_option maxRecDepth 100000 in
theorem d_Md_feed_28 : decode b_Md_feed 28 = .ok (.invokevirtual 215, 3) := by decide +kernel
set_option maxRecDepth 100000 in
theorem d_Md_feed_31 : decode b_Md_feed 31 = .ok (.aload_n 0, 1) := by decide +kernel
set_option maxRecDepth 100000 in
theorem d_Md_feed_32 : decode b_Md_feed 32 = .ok (.iload 4, 2) := by decide +kernel
set_option maxRecDepth 100000 in
theorem d_Md_feed_34 : decode b_Md_feed 34 = .ok (.invokevirtual 215, 3) := by decide +kernel
set_option maxRecDepth 100000 in
theorem d_Md_feed_37 : decode b_Md_feed 37 = .ok (.aload_n 0, 1) := by decide +kernel
set_option maxRecDepth 100000 in
theorem d_Md_feed_38 : decode b_Md_feed 38 = .ok (.iload 5, 2) := by decide +kernel
set_option maxRecDepth 100000 in
theorem d_Md_feed_40 : decode b_Md_feed 40 = .ok (.invokevirtual 215, 3) := by decide +kernel
set_option maxRecDepth 100000 in
theorem d_Md_feed_43 : decode b_Md_feed 43 = .ok (.aload_n 0, 1) := by decide +kernel
set_option maxRecDepth 100000 in
theorem d_Md_feed_44 : decode b_Md_feed 44 = .ok (.getfield 212, 3) := by decide +kernel
set_option maxRecDepth 100000 in
theorem d_Md_feed_47 : decode b_Md_feed 47 = .ok (.ireturn, 1) := by decide +kernel
set_option maxRecDepth 100000 in
theorem d_Md_flow_0 : decode b_Md_flow 0 = .ok (.iload_n 1, 1) := by decide +kernel
set_option maxRecDepth 100000 in
theorem d_Md_flow_1 : decode b_Md_flow 1 = .ok (.invokestatic 38, 3) := by decide +kernel
set_option maxRecDepth 100000 in
theorem d_Md_flow_4 : decode b_Md_flow 4 = .ok (.ifCond .eq 22, 3) := by decide +kernel
set_option maxRecDepth 100000 in
theorem d_Md_flow_7 : decode b_Md_flow 7 = .ok (.iload_n 2, 1) := by decide +kernel
set_option maxRecDepth 100000 in
theorem d_Md_flow_8 : decode b_Md_flow 8 = .ok (.iconst 0, 1) := by decide +kernel
set_option maxRecDepth 100000 in
theorem d_Md_flow_9 : decode b_Md_flow 9 = .ok (.bipush 11, 2) := by decide +kernel
set_option maxRecDepth 100000 in
theorem d_Md_flow_11 : decode b_Md_flow 11 = .ok (.invokestatic 10, 3) := by decide +kernel
set_option maxRecDepth 100000 in
theorem d_Md_flow_14 : decode b_Md_flow 14 = .ok (.ifCond .eq 12, 3) := by decide +kernel
set_option maxRecDepth 100000 in
theorem d_Md_flow_17 : decode b_Md_flow 17 = .ok (.aload_n 0, 1) := by decide +kernel
set_option maxRecDepth 100000 in
theorem d_Md_flow_18 : decode b_Md_flow 18 = .ok (.iload_n 1, 1) := by decide +kernel
set_option maxRecDepth 100000 in
theorem d_Md_flow_19 : decode b_Md_flow 19 = .ok (.iload_n 2, 1) := by decide +kernel
set_option maxRecDepth 100000 in
theorem d_Md_flow_20 : decode b_Md_flow 20 = .ok (.invokevirtual 42, 3) := by decide +kernel
set_option maxRecDepth 100000 in
theorem d_Md_flow_23 : decode b_Md_flow 23 = .ok (.goto 6, 3) := by decide +kernel
set_option maxRecDepth 100000 in
theorem d_Md_flow_26 : decode b_Md_flow 26 = .ok (.sipush (-1000), 3) := by decide +kernel
set_option maxRecDepth 100000 in
theorem d_Md_flow_29 : decode b_Md_flow 29 = .ok (.ireturn, 1) := by decide +kernel
set_option maxRecDepth 100000 in
theorem d_Md_flowOf_0 : decode b_Md_flowOf 0 = .ok (.iload_n 2, 1) := by decide +kernel
set_option maxRecDepth 100000 in
theorem d_Md_flowOf_1 : decode b_Md_flowOf 1 = .ok (.bipush 11, 2) := by decide +kernel
set_option maxRecDepth 100000 in
theorem d_Md_flowOf_3 : decode b_Md_flowOf 3 = .ok (.if_icmp .ne 14, 3) := by decide +kernel
set_option maxRecDepth 100000 in
theorem d_Md_flowOf_6 : decode b_Md_flowOf 6 = .ok (.aload_n 0, 1) := by decide +kernel
set_option maxRecDepth 100000 in
theorem d_Md_flowOf_7 : decode b_Md_flowOf 7 = .ok (.iload_n 1, 1) := by decide +kernel
set_option maxRecDepth 100000 in
theorem d_Md_flowOf_8 : decode b_Md_flowOf 8 = .ok (.iconst 1, 1) := by decide +kernel
set_option maxRecDepth 100000 in
theorem d_Md_flowOf_9 : decode b_Md_flowOf 9 = .ok (.iadd, 1) := by decide +kernel
set_option maxRecDepth 100000 in
theorem d_Md_flowOf_10 : decode b_Md_flowOf 10 = .ok (.iconst 0, 1) := by decide +kernel
set_option maxRecDepth 100000 in
theorem d_Md_flowOf_11 : decode b_Md_flowOf 11 = .ok (.invokevirtual 28, 3) := by decide +kernel
set_option maxRecDepth 100000 in
theorem d_Md_flowOf_14 : decode b_Md_flowOf 14 = .ok (.goto 11, 3) := by decide +kernel
set_option maxRecDepth 100000 in
theorem d_Md_flowOf_17 : decode b_Md_flowOf 17 = .ok (.aload_n 0, 1) := by decide +kernel
set_option maxRecDepth 100000 in
theorem d_Md_flowOf_18 : decode b_Md_flowOf 18 = .ok (.iload_n 1, 1) := by decide +kernel
set_option maxRecDepth 100000 in
theorem d_Md_flowOf_19 : decode b_Md_flowOf 19 = .ok (.iload_n 2, 1) := by decide +kernel
set_option maxRecDepth 100000 in
theorem d_Md_flowOf_20 : decode b_Md_flowOf 20 = .ok (.iconst 1, 1) := by decide +kernel
set_option maxRecDepth 100000 in
theorem d_Md_flowOf_21 : decode b_Md_flowOf 21 = .ok (.iadd, 1) := by decide +kernel
set_option maxRecDepth 100000 in
theorem d_Md_flowOf_22 : decode b_Md_flowOf 22 = .ok (.invokevirtual 28, 3) := by decide +kernel
set_option maxRecDepth 100000 in
theorem d_Md_flowOf_25 : decode b_Md_flowOf 25 = .ok (.aload_n 0, 1) := by decide +kernel
set_option maxRecDepth 100000 in
theorem d_Md_flowOf_26 : decode b_Md_flowOf 26 = .ok (.iload_n 1, 1) := by decide +kernel
set_option maxRecDepth 100000 in
theorem d_Md_flowOf_27 : decode b_Md_flowOf 27 = .ok (.iload_n 2, 1) := by decide +kernel
set_option maxRecDepth 100000 in
theorem d_Md_flowOf_28 : decode b_Md_flowOf 28 = .ok (.invokevirtual 28, 3) := by decide +kernel
set_option maxRecDepth 100000 in
theorem d_Md_flowOf_31 : decode b_Md_flowOf 31 = .ok (.isub, 1) := by decide +kernel
set_option maxRecDepth 100000 in
theorem d_Md_flowOf_32 : decode b_Md_flowOf 32 = .ok (.ireturn, 1) := by decide +kernel
set_option maxRecDepth 100000 in
theorem d_Md_forceOn_0 : decode b_Md_forceOn 0 = .ok (.aload_n 0, 1) := by decide +kernel
set_option maxRecDepth 100000 in
theorem d_Md_forceOn_1 : decode b_Md_forceOn 1 = .ok (.getfield 275, 3) := by decide +kernel
set_option maxRecDepth 100000 in
theorem d_Md_forceOn_4 : decode b_Md_forceOn 4 = .ok (.iconst 1, 1) := by decide +kernel
set_option maxRecDepth 100000 in
theorem d_Md_forceOn_5 : decode b_Md_forceOn 5 = .ok (.isub, 1) := by decide +kernel
set_option maxRecDepth 100000 in
theorem d_Md_forceOn_6 : decode b_Md_forceOn 6 = .ok (.istore_n 3, 1) := by decide +kernel
set_option maxRecDepth 100000 in
theorem d_Md_forceOn_7 : decode b_Md_forceOn 7 = .ok (.iload_n 3, 1) := by decide +kernel
set_option maxRecDepth 100000 in
theorem d_Md_forceOn_8 : decode b_Md_forceOn 8 = .ok (.ifCond .lt 31, 3) := by decide +kernel
set_option maxRecDepth 100000 in
theorem d_Md_forceOn_11 : decode b_Md_forceOn 11 = .ok (.aload_n 0, 1) := by decide +kernel
set_option maxRecDepth 100000 in
theorem d_Md_forceOn_12 : decode b_Md_forceOn 12 = .ok (.getfield 116, 3) := by decide +kernel
set_option maxRecDepth 100000 in
theorem d_Md_forceOn_15 : decode b_Md_forceOn 15 = .ok (.iload_n 3, 1) := by decide +kernel
set_option maxRecDepth 100000 in
theorem d_Md_forceOn_16 : decode b_Md_forceOn 16 = .ok (.iaload, 1) := by decide +kernel
set_option maxRecDepth 100000 in
theorem d_Md_forceOn_17 : decode b_Md_forceOn 17 = .ok (.iload_n 2, 1) := by decide +kernel
set_option maxRecDepth 100000 in
theorem d_Md_forceOn_18 : decode b_Md_forceOn 18 = .ok (.if_icmp .gt 15, 3) := by decide +kernel
set_option maxRecDepth 100000 in
theorem d_Md_forceOn_21 : decode b_Md_forceOn 21 = .ok (.aload_n 0, 1) := by decide +kernel
set_option maxRecDepth 100000 in
theorem d_Md_forceOn_22 : decode b_Md_forceOn 22 = .ok (.getfield 113, 3) := by decide +kernel
set_option maxRecDepth 100000 in
theorem d_Md_forceOn_25 : decode b_Md_forceOn 25 = .ok (.iload_n 3, 1) := by decide +kernel
set_option maxRecDepth 100000 in
theorem d_Md_forceOn_26 : decode b_Md_forceOn 26 = .ok (.iaload, 1) := by decide +kernel
set_option maxRecDepth 100000 in
theorem d_Md_forceOn_27 : decode b_Md_forceOn 27 = .ok (.iload_n 1, 1) := by decide +kernel
set_option maxRecDepth 100000 in
theorem d_Md_forceOn_28 : decode b_Md_forceOn 28 = .ok (.if_icmp .gt 5, 3) := by decide +kernel
set_option maxRecDepth 100000 in
theorem d_Md_forceOn_31 : decode b_Md_forceOn 31 = .ok (.iload_n 3, 1) := by decide +kernel
set_option maxRecDepth 100000 in
theorem d_Md_forceOn_32 : decode b_Md_forceOn 32 = .ok (.ireturn, 1) := by decide +kernel
set_option maxRecDepth 100000 in
theorem d_Md_forceOn_33 : decode b_Md_forceOn 33 = .ok (.iinc 3 (-1), 3) := by decide +kernel
set_option maxRecDepth 100000 in
theorem d_Md_forceOn_36 : decode b_Md_forceOn 36 = .ok (.goto (-29), 3) := by decide +kernel
set_option maxRecDepth 100000 in
theorem d_Md_forceOn_39 : decode b_Md_forceOn 39 = .ok (.bipush (-2), 2) := by decide +kernel
set_option maxRecDepth 100000 in
theorem d_Md_forceOn_41 : decode b_Md_forceOn 41 = .ok (.ireturn, 1) := by decide +kernel
set_option maxRecDepth 100000 in
theorem d_Md_foretold_0 : decode b_Md_foretold 0 = .ok (.lconst 0, 1) := by decide +kernel
set_option maxRecDepth 100000 in
theorem d_Md_foretold_1 : decode b_Md_foretold 1 = .ok (.lstore_n 1, 1) := by decide +kernel
set_option maxRecDepth 100000 in
theorem d_Md_foretold_2 : decode b_Md_foretold 2 = .ok (.aload_n 0, 1) := by decide +kernel
set_option maxRecDepth 100000 in
theorem d_Md_foretold_3 : decode b_Md_foretold 3 = .ok (.invokevirtual 45, 3) := by decide +kernel
set_option maxRecDepth 100000 in
theorem d_Md_foretold_6 : decode b_Md_foretold 6 = .ok (.bipush 100, 2) := by decide +kernel
set_option maxRecDepth 100000 in
theorem d_Md_foretold_8 : decode b_Md_foretold 8 = .ok (.if_icmp .ge 7, 3) := by decide +kernel
set_option maxRecDepth 100000 in
theorem d_Md_foretold_11 : decode b_Md_foretold 11 = .ok (.iconst 0, 1) := by decide +kernel
set_option maxRecDepth 100000 in
theorem d_Md_foretold_12 : decode b_Md_foretold 12 = .ok (.goto 10, 3) := by decide +kernel
set_option maxRecDepth 100000 in
theorem d_Md_foretold_15 : decode b_Md_foretold 15 = .ok (.aload_n 0, 1) := by decide +kernel
set_option maxRecDepth 100000 in
theorem d_Md_foretold_16 : decode b_Md_foretold 16 = .ok (.invokevirtual 45, 3) := by decide +kernel
set_option maxRecDepth 100000 in
theorem d_Md_foretold_19 : decode b_Md_foretold 19 = .ok (.bipush 100, 2) := by decide +kernel
set_option maxRecDepth 100000 in
theorem d_Md_foretold_21 : decode b_Md_foretold 21 = .ok (.isub, 1) := by decide +kernel
set_option maxRecDepth 100000 in
theorem d_Md_foretold_22 : decode b_Md_foretold 22 = .ok (.istore_n 3, 1) := by decide +kernel
set_option maxRecDepth 100000 in
theorem d_Md_foretold_23 : decode b_Md_foretold 23 = .ok (.iload_n 3, 1) := by decide +kernel
set_option maxRecDepth 100000 in
theorem d_Md_foretold_24 : decode b_Md_foretold 24 = .ok (.aload_n 0, 1) := by decide +kernel
set_option maxRecDepth 100000 in
theorem d_Md_foretold_25 : decode b_Md_foretold 25 = .ok (.invokevirtual 45, 3) := by decide +kernel
set_option maxRecDepth 100000 in
theorem d_Md_foretold_28 : decode b_Md_foretold 28 = .ok (.if_icmp .gt 18, 3) := by decide +kernel
set_option maxRecDepth 100000 in
theorem d_Md_foretold_31 : decode b_Md_foretold 31 = .ok (.lload_n 1, 1) := by decide +kernel
set_option maxRecDepth 100000 in
theorem d_Md_foretold_32 : decode b_Md_foretold 32 = .ok (.aload_n 0, 1) := by decide +kernel
set_option maxRecDepth 100000 in
theorem d_Md_foretold_33 : decode b_Md_foretold 33 = .ok (.getfield 173, 3) := by decide +kernel
set_option maxRecDepth 100000 in
theorem d_Md_foretold_36 : decode b_Md_foretold 36 = .ok (.iload_n 3, 1) := by decide +kernel
set_option maxRecDepth 100000 in
theorem d_Md_foretold_37 : decode b_Md_foretold 37 = .ok (.laload, 1) := by decide +kernel
set_option maxRecDepth 100000 in
theorem d_Md_foretold_38 : decode b_Md_foretold 38 = .ok (.ladd, 1) := by decide +kernel
set_option maxRecDepth 100000 in
theorem d_Md_foretold_39 : decode b_Md_foretold 39 = .ok (.lstore_n 1, 1) := by decide +kernel
set_option maxRecDepth 100000 in
theorem d_Md_foretold_40 : decode b_Md_foretold 40 = .ok (.iinc 3 1, 3) := by decide +kernel
set_option maxRecDepth 100000 in
theorem d_Md_foretold_43 : decode b_Md_foretold 43 = .ok (.goto (-20), 3) := by decide +kernel
set_option maxRecDepth 100000 in
theorem d_Md_foretold_46 : decode b_Md_foretold 46 = .ok (.aload_n 0, 1) := by decide +kernel
set_option maxRecDepth 100000 in
theorem d_Md_foretold_47 : decode b_Md_foretold 47 = .ok (.getfield 316, 3) := by decide +kernel
set_option maxRecDepth 100000 in
theorem d_Md_foretold_50 : decode b_Md_foretold 50 = .ok (.lstore_n 3, 1) := by decide +kernel
set_option maxRecDepth 100000 in
theorem d_Md_foretold_51 : decode b_Md_foretold 51 = .ok (.iconst 1, 1) := by decide +kernel
set_option maxRecDepth 100000 in
theorem d_Md_foretold_52 : decode b_Md_foretold 52 = .ok (.istore 5, 2) := by decide +kernel
set_option maxRecDepth 100000 in
theorem d_Md_foretold_54 : decode b_Md_foretold 54 = .ok (.iload 5, 2) := by decide +kernel
set_option maxRecDepth 100000 in
theorem d_Md_foretold_56 : decode b_Md_foretold 56 = .ok (.bipush 40, 2) := by decide +kernel
set_option maxRecDepth 100000 in
theorem d_Md_foretold_58 : decode b_Md_foretold 58 = .ok (.if_icmp .gt 88, 3) := by decide +kernel
set_option maxRecDepth 100000 in
theorem d_Md_foretold_61 : decode b_Md_foretold 61 = .ok (.aload_n 0, 1) := by decide +kernel
set_option maxRecDepth 100000 in
theorem d_Md_foretold_62 : decode b_Md_foretold 62 = .ok (.invokevirtual 45, 3) := by decide +kernel
set_option maxRecDepth 100000 in
theorem d_Md_foretold_65 : decode b_Md_foretold 65 = .ok (.bipush 100, 2) := by decide +kernel
set_option maxRecDepth 100000 in
theorem d_Md_foretold_67 : decode b_Md_foretold 67 = .ok (.idiv, 1) := by decide +kernel
set_option maxRecDepth 100000 in
theorem d_Md_foretold_68 : decode b_Md_foretold 68 = .ok (.iload 5, 2) := by decide +kernel
set_option maxRecDepth 100000 in
theorem d_Md_foretold_70 : decode b_Md_foretold 70 = .ok (.iadd, 1) := by decide +kernel
set_option maxRecDepth 100000 in
theorem d_Md_foretold_71 : decode b_Md_foretold 71 = .ok (.bipush 100, 2) := by decide +kernel
set_option maxRecDepth 100000 in
theorem d_Md_foretold_73 : decode b_Md_foretold 73 = .ok (.imul, 1) := by decide +kernel
set_option maxRecDepth 100000 in
theorem d_Md_foretold_74 : decode b_Md_foretold 74 = .ok (.istore 6, 2) := by decide +kernel
set_option maxRecDepth 100000 in
theorem d_Md_foretold_76 : decode b_Md_foretold 76 = .ok (.lload_n 3, 1) := by decide +kernel
set_option maxRecDepth 100000 in
theorem d_Md_foretold_77 : decode b_Md_foretold 77 = .ok (.lload_n 1, 1) := by decide +kernel
set_option maxRecDepth 100000 in
theorem d_Md_foretold_78 : decode b_Md_foretold 78 = .ok (.ladd, 1) := by decide +kernel
set_option maxRecDepth 100000 in
theorem d_Md_foretold_79 : decode b_Md_foretold 79 = .ok (.lstore_n 3, 1) := by decide +kernel
set_option maxRecDepth 100000 in
theorem d_Md_foretold_80 : decode b_Md_foretold 80 = .ok (.iconst 0, 1) := by decide +kernel
set_option maxRecDepth 100000 in
theorem d_Md_foretold_81 : decode b_Md_foretold 81 = .ok (.istore 7, 2) := by decide +kernel
set_option maxRecDepth 100000 in
theorem d_Md_foretold_83 : decode b_Md_foretold 83 = .ok (.iload 7, 2) := by decide +kernel
set_option maxRecDepth 100000 in
theorem d_Md_foretold_85 : decode b_Md_foretold 85 = .ok (.aload_n 0, 1) := by decide +kernel
set_option maxRecDepth 100000 in
theorem d_Md_foretold_86 : decode b_Md_foretold 86 = .ok (.getfield 323, 3) := by decide +kernel
set_option maxRecDepth 100000 in
theorem d_Md_foretold_89 : decode b_Md_foretold 89 = .ok (.if_icmp .ge 51, 3) := by decide +kernel
set_option maxRecDepth 100000 in
theorem d_Md_foretold_92 : decode b_Md_foretold 92 = .ok (.iload 6, 2) := by decide +kernel
set_option maxRecDepth 100000 in
theorem d_Md_foretold_94 : decode b_Md_foretold 94 = .ok (.aload_n 0, 1) := by decide +kernel
set_option maxRecDepth 100000 in
theorem d_Md_foretold_95 : decode b_Md_foretold 95 = .ok (.getfield 180, 3) := by decide +kernel
set_option maxRecDepth 100000 in
theorem d_Md_foretold_98 : decode b_Md_foretold 98 = .ok (.iload 7, 2) := by decide +kernel
set_option maxRecDepth 100000 in
theorem d_Md_foretold_100 : decode b_Md_foretold 100 = .ok (.iaload, 1) := by decide +kernel
set_option maxRecDepth 100000 in
theorem d_Md_foretold_101 : decode b_Md_foretold 101 = .ok (.if_icmp .lt 6, 3) := by decide +kernel
set_option maxRecDepth 100000 in
theorem d_Md_foretold_104 : decode b_Md_foretold 104 = .ok (.goto 30, 3) := by decide +kernel
set_option maxRecDepth 100000 in
theorem d_Md_foretold_107 : decode b_Md_foretold 107 = .ok (.lload_n 3, 1) := by decide +kernel
set_option maxRecDepth 100000 in
theorem d_Md_foretold_108 : decode b_Md_foretold 108 = .ok (.aload_n 0, 1) := by decide +kernel
set_option maxRecDepth 100000 in
theorem d_Md_foretold_109 : decode b_Md_foretold 109 = .ok (.getfield 177, 3) := by decide +kernel
set_option maxRecDepth 100000 in
theorem d_Md_foretold_112 : decode b_Md_foretold 112 = .ok (.iload 7, 2) := by decide +kernel
set_option maxRecDepth 100000 in
theorem d_Md_foretold_114 : decode b_Md_foretold 114 = .ok (.iaload, 1) := by decide +kernel
set_option maxRecDepth 100000 in
theorem d_Md_foretold_115 : decode b_Md_foretold 115 = .ok (.i2l, 1) := by decide +kernel
set_option maxRecDepth 100000 in
theorem d_Md_foretold_116 : decode b_Md_foretold 116 = .ok (.lcmp, 1) := by decide +kernel
set_option maxRecDepth 100000 in
theorem d_Md_foretold_117 : decode b_Md_foretold 117 = .ok (.ifCond .ge 6, 3) := by decide +kernel
set_option maxRecDepth 100000 in
theorem d_Md_foretold_120 : decode b_Md_foretold 120 = .ok (.iload 6, 2) := by decide +kernel
set_option maxRecDepth 100000 in
theorem d_Md_foretold_122 : decode b_Md_foretold 122 = .ok (.ireturn, 1) := by decide +kernel
set_option maxRecDepth 100000 in
theorem d_Md_foretold_123 : decode b_Md_foretold 123 = .ok (.lload_n 3, 1) := by decide +kernel
set_option maxRecDepth 100000 in
theorem d_Md_foretold_124 : decode b_Md_foretold 124 = .ok (.aload_n 0, 1) := by decide +kernel
set_option maxRecDepth 100000 in
theorem d_Md_foretold_125 : decode b_Md_foretold 125 = .ok (.getfield 177, 3) := by decide +kernel
set_option maxRecDepth 100000 in
theorem d_Md_foretold_128 : decode b_Md_foretold 128 = .ok (.iload 7, 2) := by decide +kernel
set_option maxRecDepth 100000 in
theorem d_Md_foretold_130 : decode b_Md_foretold 130 = .ok (.iaload, 1) := by decide +kernel
set_option maxRecDepth 100000 in
theorem d_Md_foretold_131 : decode b_Md_foretold 131 = .ok (.i2l, 1) := by decide +kernel
set_option maxRecDepth 100000 in
theorem d_Md_foretold_132 : decode b_Md_foretold 132 = .ok (.lsub, 1) := by decide +kernel
set_option maxRecDepth 100000 in
theorem d_Md_foretold_133 : decode b_Md_foretold 133 = .ok (.lstore_n 3, 1) := by decide +kernel
set_option maxRecDepth 100000 in
theorem d_Md_foretold_134 : decode b_Md_foretold 134 = .ok (.iinc 7 1, 3) := by decide +kernel
set_option maxRecDepth 100000 in
theorem d_Md_foretold_137 : decode b_Md_foretold 137 = .ok (.goto (-54), 3) := by decide +kernel
set_option maxRecDepth 100000 in
theorem d_Md_foretold_140 : decode b_Md_foretold 140 = .ok (.iinc 5 1, 3) := by decide +kernel
set_option maxRecDepth 100000 in
theorem d_Md_foretold_143 : decode b_Md_foretold 143 = .ok (.goto (-89), 3) := by decide +kernel
set_option maxRecDepth 100000 in
theorem d_Md_foretold_146 : decode b_Md_foretold 146 = .ok (.bipush (-2), 2) := by decide +kernel
set_option maxRecDepth 100000 in
theorem d_Md_foretold_148 : decode b_Md_foretold 148 = .ok (.ireturn, 1) := by decide +kernel
set_option maxRecDepth 100000 in
theorem d_Md_four_0 : decode b_Md_four 0 = .ok (.iconst 3, 1) := by decide +kernel
set_option maxRecDepth 100000 in
theorem d_Md_four_1 : decode b_Md_four 1 = .ok (.istore_n 2, 1) := by decide +kernel
set_option maxRecDepth 100000 in
theorem d_Md_four_2 : decode b_Md_four 2 = .ok (.iload_n 2, 1) := by decide +kernel
set_option maxRecDepth 100000 in
theorem d_Md_four_3 : decode b_Md_four 3 = .ok (.ifCond .lt 35, 3) := by decide +kernel
set_option maxRecDepth 100000 in
theorem d_Md_four_6 : decode b_Md_four 6 = .ok (.aload_n 0, 1) := by decide +kernel
set_option maxRecDepth 100000 in
theorem d_Md_four_7 : decode b_Md_four 7 = .ok (.getfield 109, 3) := by decide +kernel
set_option maxRecDepth 100000 in
theorem d_Md_four_10 : decode b_Md_four 10 = .ok (.aload_n 0, 1) := by decide +kernel
set_option maxRecDepth 100000 in
theorem d_Md_four_11 : decode b_Md_four 11 = .ok (.getfield 212, 3) := by decide +kernel
set_option maxRecDepth 100000 in
theorem d_Md_four_14 : decode b_Md_four 14 = .ok (.iload_n 1, 1) := by decide +kernel
set_option maxRecDepth 100000 in
theorem d_Md_four_15 : decode b_Md_four 15 = .ok (.bipush 8, 2) := by decide +kernel
set_option maxRecDepth 100000 in
theorem d_Md_four_17 : decode b_Md_four 17 = .ok (.iload_n 2, 1) := by decide +kernel
set_option maxRecDepth 100000 in
theorem d_Md_four_18 : decode b_Md_four 18 = .ok (.imul, 1) := by decide +kernel
set_option maxRecDepth 100000 in
theorem d_Md_four_19 : decode b_Md_four 19 = .ok (.ishr, 1) := by decide +kernel
set_option maxRecDepth 100000 in
theorem d_Md_four_20 : decode b_Md_four 20 = .ok (.i2b, 1) := by decide +kernel
set_option maxRecDepth 100000 in
theorem d_Md_four_21 : decode b_Md_four 21 = .ok (.bastore, 1) := by decide +kernel
set_option maxRecDepth 100000 in
theorem d_Md_four_22 : decode b_Md_four 22 = .ok (.aload_n 0, 1) := by decide +kernel
set_option maxRecDepth 100000 in
theorem d_Md_four_23 : decode b_Md_four 23 = .ok (.dup, 1) := by decide +kernel
set_option maxRecDepth 100000 in
theorem d_Md_four_24 : decode b_Md_four 24 = .ok (.getfield 212, 3) := by decide +kernel
set_option maxRecDepth 100000 in
theorem d_Md_four_27 : decode b_Md_four 27 = .ok (.iconst 1, 1) := by decide +kernel
set_option maxRecDepth 100000 in
theorem d_Md_four_28 : decode b_Md_four 28 = .ok (.iadd, 1) := by decide +kernel
set_option maxRecDepth 100000 in
theorem d_Md_four_29 : decode b_Md_four 29 = .ok (.putfield 212, 3) := by decide +kernel
set_option maxRecDepth 100000 in
theorem d_Md_four_32 : decode b_Md_four 32 = .ok (.iinc 2 (-1), 3) := by decide +kernel
set_option maxRecDepth 100000 in
theorem d_Md_four_35 : decode b_Md_four 35 = .ok (.goto (-33), 3) := by decide +kernel
set_option maxRecDepth 100000 in
theorem d_Md_four_38 : decode b_Md_four 38 = .ok (.return_, 1) := by decide +kernel
set_option maxRecDepth 100000 in
theorem d_Md_free_0 : decode b_Md_free 0 = .ok (.iload_n 1, 1) := by decide +kernel
set_option maxRecDepth 100000 in
theorem d_Md_free_1 : decode b_Md_free 1 = .ok (.invokestatic 186, 3) := by decide +kernel
set_option maxRecDepth 100000 in
theorem d_Md_free_4 : decode b_Md_free 4 = .ok (.ifCond .ne 5, 3) := by decide +kernel
set_option maxRecDepth 100000 in
theorem d_Md_free_7 : decode b_Md_free 7 = .ok (.iconst (-1), 1) := by decide +kernel
set_option maxRecDepth 100000 in
theorem d_Md_free_8 : decode b_Md_free 8 = .ok (.ireturn, 1) := by decide +kernel
set_option maxRecDepth 100000 in
theorem d_Md_free_9 : decode b_Md_free 9 = .ok (.aload_n 0, 1) := by decide +kernel
set_option maxRecDepth 100000 in
theorem d_Md_free_10 : decode b_Md_free 10 = .ok (.getfield 58, 3) := by decide +kernel
set_option maxRecDepth 100000 in
theorem d_Md_free_13 : decode b_Md_free 13 = .ok (.iload_n 1, 1) := by decide +kernel
set_option maxRecDepth 100000 in
theorem d_Md_free_14 : decode b_Md_free 14 = .ok (.iaload, 1) := by decide +kernel
set_option maxRecDepth 100000 in
theorem d_Md_free_15 : decode b_Md_free 15 = .ok (.ifCond .eq 6, 3) := by decide +kernel
set_option maxRecDepth 100000 in
theorem d_Md_free_18 : decode b_Md_free 18 = .ok (.bipush (-2), 2) := by decide +kernel
set_option maxRecDepth 100000 in
theorem d_Md_free_20 : decode b_Md_free 20 = .ok (.ireturn, 1) := by decide +kernel
set_option maxRecDepth 100000 in
theorem d_Md_free_21 : decode b_Md_free 21 = .ok (.aload_n 0, 1) := by decide +kernel
set_option maxRecDepth 100000 in
theorem d_Md_free_22 : decode b_Md_free 22 = .ok (.getfield 58, 3) := by decide +kernel
set_option maxRecDepth 100000 in
theorem d_Md_free_25 : decode b_Md_free 25 = .ok (.iload_n 1, 1) := by decide +kernel
set_option maxRecDepth 100000 in
theorem d_Md_free_26 : decode b_Md_free 26 = .ok (.iconst 2, 1) := by decide +kernel
set_option maxRecDepth 100000 in
theorem d_Md_free_27 : decode b_Md_free 27 = .ok (.iastore, 1) := by decide +kernel
set_option maxRecDepth 100000 in
theorem d_Md_free_28 : decode b_Md_free 28 = .ok (.iconst 1, 1) := by decide +kernel
set_option maxRecDepth 100000 in
theorem d_Md_free_29 : decode b_Md_free 29 = .ok (.ireturn, 1) := by decide +kernel
set_option maxRecDepth 100000 in
theorem d_Md_frost_0 : decode b_Md_frost 0 = .ok (.iload_n 1, 1) := by decide +kernel
set_option maxRecDepth 100000 in
theorem d_Md_frost_1 : decode b_Md_frost 1 = .ok (.aload_n 0, 1) := by decide +kernel
set_option maxRecDepth 100000 in
theorem d_Md_frost_2 : decode b_Md_frost 2 = .ok (.invokevirtual 45, 3) := by decide +kernel
set_option maxRecDepth 100000 in
theorem d_Md_frost_5 : decode b_Md_frost 5 = .ok (.sipush 499, 3) := by decide +kernel
set_option maxRecDepth 100000 in
theorem d_Md_frost_8 : decode b_Md_frost 8 = .ok (.invokestatic 10, 3) := by decide +kernel
set_option maxRecDepth 100000 in
theorem d_Md_frost_11 : decode b_Md_frost 11 = .ok (.ifCond .eq 12, 3) := by decide +kernel
set_option maxRecDepth 100000 in
theorem d_Md_frost_14 : decode b_Md_frost 14 = .ok (.iload_n 2, 1) := by decide +kernel
set_option maxRecDepth 100000 in
theorem d_Md_frost_15 : decode b_Md_frost 15 = .ok (.iconst 0, 1) := by decide +kernel
set_option maxRecDepth 100000 in
theorem d_Md_frost_16 : decode b_Md_frost 16 = .ok (.iconst 1, 1) := by decide +kernel
set_option maxRecDepth 100000 in
theorem d_Md_frost_17 : decode b_Md_frost 17 = .ok (.invokestatic 10, 3) := by decide +kernel
set_option maxRecDepth 100000 in
theorem d_Md_frost_20 : decode b_Md_frost 20 = .ok (.ifCond .ne 5, 3) := by decide +kernel
set_option maxRecDepth 100000 in
theorem d_Md_frost_23 : decode b_Md_frost 23 = .ok (.iconst (-1), 1) := by decide +kernel
set_option maxRecDepth 100000 in
theorem d_Md_frost_24 : decode b_Md_frost 24 = .ok (.ireturn, 1) := by decide +kernel
set_option maxRecDepth 100000 in
theorem d_Md_frost_25 : decode b_Md_frost 25 = .ok (.aload_n 0, 1) := by decide +kernel
set_option maxRecDepth 100000 in
theorem d_Md_frost_26 : decode b_Md_frost 26 = .ok (.getfield 49, 3) := by decide +kernel
set_option maxRecDepth 100000 in
theorem d_Md_frost_29 : decode b_Md_frost 29 = .ok (.iload_n 1, 1) := by decide +kernel
set_option maxRecDepth 100000 in
theorem d_Md_frost_30 : decode b_Md_frost 30 = .ok (.baload, 1) := by decide +kernel
set_option maxRecDepth 100000 in
theorem d_Md_frost_31 : decode b_Md_frost 31 = .ok (.ifCond .eq 7, 3) := by decide +kernel
set_option maxRecDepth 100000 in
theorem d_Md_frost_34 : decode b_Md_frost 34 = .ok (.iconst 1, 1) := by decide +kernel
set_option maxRecDepth 100000 in
theorem d_Md_frost_35 : decode b_Md_frost 35 = .ok (.goto 4, 3) := by decide +kernel
set_option maxRecDepth 100000 in
theorem d_Md_frost_38 : decode b_Md_frost 38 = .ok (.iconst 0, 1) := by decide +kernel
set_option maxRecDepth 100000 in
theorem d_Md_frost_39 : decode b_Md_frost 39 = .ok (.istore_n 3, 1) := by decide +kernel
set_option maxRecDepth 100000 in
theorem d_Md_frost_40 : decode b_Md_frost 40 = .ok (.aload_n 0, 1) := by decide +kernel
set_option maxRecDepth 100000 in
theorem d_Md_frost_41 : decode b_Md_frost 41 = .ok (.getfield 49, 3) := by decide +kernel
set_option maxRecDepth 100000 in
theorem d_Md_frost_44 : decode b_Md_frost 44 = .ok (.iload_n 1, 1) := by decide +kernel
set_option maxRecDepth 100000 in
theorem d_Md_frost_45 : decode b_Md_frost 45 = .ok (.iload_n 2, 1) := by decide +kernel
set_option maxRecDepth 100000 in
theorem d_Md_frost_46 : decode b_Md_frost 46 = .ok (.iconst 1, 1) := by decide +kernel
set_option maxRecDepth 100000 in
theorem d_Md_frost_47 : decode b_Md_frost 47 = .ok (.if_icmp .ne 7, 3) := by decide +kernel
set_option maxRecDepth 100000 in
theorem d_Md_frost_50 : decode b_Md_frost 50 = .ok (.iconst 1, 1) := by decide +kernel
set_option maxRecDepth 100000 in
theorem d_Md_frost_51 : decode b_Md_frost 51 = .ok (.goto 4, 3) := by decide +kernel
set_option maxRecDepth 100000 in
theorem d_Md_frost_54 : decode b_Md_frost 54 = .ok (.iconst 0, 1) := by decide +kernel
set_option maxRecDepth 100000 in
theorem d_Md_frost_55 : decode b_Md_frost 55 = .ok (.bastore, 1) := by decide +kernel
set_option maxRecDepth 100000 in
theorem d_Md_frost_56 : decode b_Md_frost 56 = .ok (.iload_n 3, 1) := by decide +kernel
set_option maxRecDepth 100000 in
theorem d_Md_frost_57 : decode b_Md_frost 57 = .ok (.ireturn, 1) := by decide +kernel
set_option maxRecDepth 100000 in
theorem d_Md_hinders_0 : decode b_Md_hinders 0 = .ok (.aload_n 0, 1) := by decide +kernel
set_option maxRecDepth 100000 in
theorem d_Md_hinders_1 : decode b_Md_hinders 1 = .ok (.getfield 49, 3) := by decide +kernel
set_option maxRecDepth 100000 in
theorem d_Md_hinders_4 : decode b_Md_hinders 4 = .ok (.aload_n 0, 1) := by decide +kernel
set_option maxRecDepth 100000 in
theorem d_Md_hinders_5 : decode b_Md_hinders 5 = .ok (.invokevirtual 45, 3) := by decide +kernel
set_option maxRecDepth 100000 in
theorem d_Md_hinders_8 : decode b_Md_hinders 8 = .ok (.baload, 1) := by decide +kernel
set_option maxRecDepth 100000 in
theorem d_Md_hinders_9 : decode b_Md_hinders 9 = .ok (.ifCond .eq 5, 3) := by decide +kernel
set_option maxRecDepth 100000 in
theorem d_Md_hinders_12 : decode b_Md_hinders 12 = .ok (.iconst 1, 1) := by decide +kernel
set_option maxRecDepth 100000 in
theorem d_Md_hinders_13 : decode b_Md_hinders 13 = .ok (.ireturn, 1) := by decide +kernel
set_option maxRecDepth 100000 in
theorem d_Md_hinders_14 : decode b_Md_hinders 14 = .ok (.aload_n 0, 1) := by decide +kernel
set_option maxRecDepth 100000 in
theorem d_Md_hinders_15 : decode b_Md_hinders 15 = .ok (.getfield 103, 3) := by decide +kernel
set_option maxRecDepth 100000 in
theorem d_Md_hinders_18 : decode b_Md_hinders 18 = .ok (.iload_n 1, 1) := by decide +kernel
set_option maxRecDepth 100000 in
theorem d_Md_hinders_19 : decode b_Md_hinders 19 = .ok (.iaload, 1) := by decide +kernel
set_option maxRecDepth 100000 in
theorem d_Md_hinders_20 : decode b_Md_hinders 20 = .ok (.ifCond .lt 5, 3) := by decide +kernel
set_option maxRecDepth 100000 in
theorem d_Md_hinders_23 : decode b_Md_hinders 23 = .ok (.iconst 2, 1) := by decide +kernel
set_option maxRecDepth 100000 in
theorem d_Md_hinders_24 : decode b_Md_hinders 24 = .ok (.ireturn, 1) := by decide +kernel
set_option maxRecDepth 100000 in
theorem d_Md_hinders_25 : decode b_Md_hinders 25 = .ok (.aload_n 0, 1) := by decide +kernel
set_option maxRecDepth 100000 in
theorem d_Md_hinders_26 : decode b_Md_hinders 26 = .ok (.getfield 58, 3) := by decide +kernel
set_option maxRecDepth 100000 in
theorem d_Md_hinders_29 : decode b_Md_hinders 29 = .ok (.iload_n 2, 1) := by decide +kernel
set_option maxRecDepth 100000 in
theorem d_Md_hinders_30 : decode b_Md_hinders 30 = .ok (.iaload, 1) := by decide +kernel
set_option maxRecDepth 100000 in
theorem d_Md_hinders_31 : decode b_Md_hinders 31 = .ok (.iconst 2, 1) := by decide +kernel
set_option maxRecDepth 100000 in
theorem d_Md_hinders_32 : decode b_Md_hinders 32 = .ok (.if_icmp .ne 12, 3) := by decide +kernel
set_option maxRecDepth 100000 in
theorem d_Md_hinders_35 : decode b_Md_hinders 35 = .ok (.aload_n 0, 1) := by decide +kernel
set_option maxRecDepth 100000 in
theorem d_Md_hinders_36 : decode b_Md_hinders 36 = .ok (.getfield 79, 3) := by decide +kernel
set_option maxRecDepth 100000 in
theorem d_Md_hinders_39 : decode b_Md_hinders 39 = .ok (.iload_n 2, 1) := by decide +kernel
set_option maxRecDepth 100000 in
theorem d_Md_hinders_40 : decode b_Md_hinders 40 = .ok (.iaload, 1) := by decide +kernel
set_option maxRecDepth 100000 in
theorem d_Md_hinders_41 : decode b_Md_hinders 41 = .ok (.ifCond .lt 5, 3) := by decide +kernel
set_option maxRecDepth 100000 in
theorem d_Md_hinders_44 : decode b_Md_hinders 44 = .ok (.iconst 3, 1) := by decide +kernel
set_option maxRecDepth 100000 in
theorem d_Md_hinders_45 : decode b_Md_hinders 45 = .ok (.ireturn, 1) := by decide +kernel
set_option maxRecDepth 100000 in
theorem d_Md_hinders_46 : decode b_Md_hinders 46 = .ok (.aload_n 0, 1) := by decide +kernel
set_option maxRecDepth 100000 in
theorem d_Md_hinders_47 : decode b_Md_hinders 47 = .ok (.getfield 97, 3) := by decide +kernel
set_option maxRecDepth 100000 in
theorem d_Md_hinders_50 : decode b_Md_hinders 50 = .ok (.iload_n 1, 1) := by decide +kernel
set_option maxRecDepth 100000 in
theorem d_Md_hinders_51 : decode b_Md_hinders 51 = .ok (.iaload, 1) := by decide +kernel
set_option maxRecDepth 100000 in
theorem d_Md_hinders_52 : decode b_Md_hinders 52 = .ok (.istore 4, 2) := by decide +kernel
set_option maxRecDepth 100000 in
theorem d_Md_hinders_54 : decode b_Md_hinders 54 = .ok (.aload_n 0, 1) := by decide +kernel
set_option maxRecDepth 100000 in
theorem d_Md_hinders_55 : decode b_Md_hinders 55 = .ok (.getfield 88, 3) := by decide +kernel
set_option maxRecDepth 100000 in
theorem d_Md_hinders_58 : decode b_Md_hinders 58 = .ok (.iload 4, 2) := by decide +kernel
set_option maxRecDepth 100000 in
theorem d_Md_hinders_60 : decode b_Md_hinders 60 = .ok (.iaload, 1) := by decide +kernel
set_option maxRecDepth 100000 in
theorem d_Md_hinders_61 : decode b_Md_hinders 61 = .ok (.ifCond .le 19, 3) := by decide +kernel
set_option maxRecDepth 100000 in
theorem d_Md_hinders_64 : decode b_Md_hinders 64 = .ok (.aload_n 0, 1) := by decide +kernel
set_option maxRecDepth 100000 in
theorem d_Md_hinders_65 : decode b_Md_hinders 65 = .ok (.getfield 91, 3) := by decide +kernel
set_option maxRecDepth 100000 in
theorem d_Md_hinders_68 : decode b_Md_hinders 68 = .ok (.bipush 40, 2) := by decide +kernel
set_option maxRecDepth 100000 in
theorem d_Md_hinders_70 : decode b_Md_hinders 70 = .ok (.iload 4, 2) := by decide +kernel
set_option maxRecDepth 100000 in
theorem d_Md_hinders_72 : decode b_Md_hinders 72 = .ok (.imul, 1) := by decide +kernel
set_option maxRecDepth 100000 in
theorem d_Md_hinders_73 : decode b_Md_hinders 73 = .ok (.iaload, 1) := by decide +kernel
set_option maxRecDepth 100000 in
theorem d_Md_hinders_74 : decode b_Md_hinders 74 = .ok (.iload_n 2, 1) := by decide +kernel
set_option maxRecDepth 100000 in
theorem d_Md_hinders_75 : decode b_Md_hinders 75 = .ok (.if_icmp .eq 5, 3) := by decide +kernel
set_option maxRecDepth 100000 in
theorem d_Md_hinders_78 : decode b_Md_hinders 78 = .ok (.iconst 4, 1) := by decide +kernel
