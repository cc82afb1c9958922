def wp_Md_hinders_w (L : List Nat) (f : TF) (q0 : Nat) (p_0 : Int32) (p_1 : Int32) (p_2 : Int32) (Q : Int32 → Prop) : Prop := ∀ q_1 : Nat, tr f q0 8 = some q_1 → wp_Md_today_w L f q0 (fun (r_2 : Int32) => (∀ x_7 : Int32, ti f q_1 (r_2 : Int32).toNatClampNeg = x_7 → ((x_7 = 0 → ∀ q_9 : Nat, tr f q0 25 = some q_9 → ∀ x_10 : Int32, ti f q_9 (p_0 : Int32).toNatClampNeg = x_10 → ((x_10 < 0 → ∀ q_12 : Nat, tr f q0 9 = some q_12 → ∀ x_13 : Int32, ti f q_12 (p_1 : Int32).toNatClampNeg = x_13 → ((x_13 = 2 → ∀ q_15 : Nat, tr f q0 16 = some q_15 → ∀ x_16 : Int32, ti f q_15 (p_1 : Int32).toNatClampNeg = x_16 → ((x_16 < 0 → ∀ q_18 : Nat, tr f q0 23 = some q_18 → ∀ x_19 : Int32, ti f q_18 (p_0 : Int32).toNatClampNeg = x_19 → ∀ q_20 : Nat, tr f q0 19 = some q_20 → ∀ x_21 : Int32, ti f q_20 (x_19 : Int32).toNatClampNeg = x_21 → ((x_21 ≤ 0 → wp_Md_today_w L f q0 (fun (r_23 : Int32) => (wp_Md_today_w L f q0 (fun (r_28 : Int32) => (wp_Md_forceOn_w L f q0 r_23 r_28 (fun (r_33 : Int32) => ((r_33 = (-2) → Q 5) ∧ (¬ (r_33 = (-2)) → wp_Md_today_w L f q0 (fun (r_36 : Int32) => (wp_Md_hourNow_w L f q0 (fun (r_41 : Int32) => (∀ q_44 : Nat, tr f q0 22 = some q_44 → ∀ x_45 : Int32, ti f q_44 (p_0 : Int32).toNatClampNeg = x_45 → wp_Md_fareOf_w L f q0 r_33 x_19 p_2 r_36 r_41 x_45 (fun (r_46 : Int32) => ((0 ≤ r_46 → ∀ x_48 : Int32, ti f q0 4 = x_48 → ((x_48 < 0 → wp_Md_today_w L f q0 (fun (r_50 : Int32) => (wp_Md_hourNow_w L f q0 (fun (r_55 : Int32) => (wp_Md_flowOf_w L f q0 r_50 r_55 (fun (r_58 : Int32) => wp_Md_minutesOf_w L f q0 p_0 p_2 (fun (r_59 : Int32) => ((((ti f q0 1) + r_59) ≤ 359999 → Q 0) ∧ (¬ (((ti f q0 1) + r_59) ≤ 359999) → Q 7))))))))) ∧ (¬ (x_48 < 0) → ((x_48 < x_19 → ((x_48 < p_2 → wp_Md_today_w L f q0 (fun (r_63 : Int32) => (wp_Md_hourNow_w L f q0 (fun (r_68 : Int32) => (wp_Md_flowOf_w L f q0 r_63 r_68 (fun (r_71 : Int32) => wp_Md_minutesOf_w L f q0 p_0 p_2 (fun (r_72 : Int32) => ((((ti f q0 1) + r_72) ≤ 359999 → Q 0) ∧ (¬ (((ti f q0 1) + r_72) ≤ 359999) → Q 7))))))))) ∧ (¬ (x_48 < p_2) → wp_Md_today_w L f q0 (fun (r_74 : Int32) => (wp_Md_hourNow_w L f q0 (fun (r_79 : Int32) => (wp_Md_flowOf_w L f q0 r_74 r_79 (fun (r_82 : Int32) => wp_Md_lineOf_w L f q0 r_33 (16 : Int32) (fun (r_83 : Int32) => ((r_83 < 0 → wp_Md_lineOf_w L f q0 r_33 (17 : Int32) (fun (r_85 : Int32) => ((r_85 < 0 → wp_Md_minutesOf_w L f q0 p_0 p_2 (fun (r_87 : Int32) => ((((ti f q0 1) + r_87) ≤ 359999 → Q 0) ∧ (¬ (((ti f q0 1) + r_87) ≤ 359999) → Q 7)))) ∧ (¬ (r_85 < 0) → ((0 ≤ r_82 → wp_Md_lineOf_w L f q0 r_33 (17 : Int32) (fun (r_90 : Int32) => ((r_82 ≤ r_90 → wp_Md_minutesOf_w L f q0 p_0 p_2 (fun (r_92 : Int32) => ((((ti f q0 1) + r_92) ≤ 359999 → Q 0) ∧ (¬ (((ti f q0 1) + r_92) ≤ 359999) → Q 7)))) ∧ (¬ (r_82 ≤ r_90) → Q 6)))) ∧ (¬ (0 ≤ r_82) → wp_Md_lineOf_w L f q0 r_33 (17 : Int32) (fun (r_94 : Int32) => (((-r_82) ≤ r_94 → wp_Md_minutesOf_w L f q0 p_0 p_2 (fun (r_96 : Int32) => ((((ti f q0 1) + r_96) ≤ 359999 → Q 0) ∧ (¬ (((ti f q0 1) + r_96) ≤ 359999) → Q 7)))) ∧ (¬ ((-r_82) ≤ r_94) → Q 6))))))))) ∧ (¬ (r_83 < 0) → wp_Md_hourNow_w L f q0 (fun (r_98 : Int32) => (wp_Md_lineOf_w L f q0 r_33 (16 : Int32) (fun (r_101 : Int32) => ∀ q_102 : Nat, tr f q0 41 = some q_102 → ∀ x_103 : Int32, ti f q_102 (r_33 : Int32).toNatClampNeg = x_103 → ((r_98 < r_101 → Q 6) ∧ (¬ (r_98 < r_101) → ((x_103 < r_98 → Q 6) ∧ (¬ (x_103 < r_98) → wp_Md_lineOf_w L f q0 r_33 (17 : Int32) (fun (r_107 : Int32) => ((r_107 < 0 → wp_Md_minutesOf_w L f q0 p_0 p_2 (fun (r_109 : Int32) => ((((ti f q0 1) + r_109) ≤ 359999 → Q 0) ∧ (¬ (((ti f q0 1) + r_109) ≤ 359999) → Q 7)))) ∧ (¬ (r_107 < 0) → ((0 ≤ r_82 → wp_Md_lineOf_w L f q0 r_33 (17 : Int32) (fun (r_112 : Int32) => ((r_82 ≤ r_112 → wp_Md_minutesOf_w L f q0 p_0 p_2 (fun (r_114 : Int32) => ((((ti f q0 1) + r_114) ≤ 359999 → Q 0) ∧ (¬ (((ti f q0 1) + r_114) ≤ 359999) → Q 7)))) ∧ (¬ (r_82 ≤ r_112) → Q 6)))) ∧ (¬ (0 ≤ r_82) → wp_Md_lineOf_w L f q0 r_33 (17 : Int32) (fun (r_116 : Int32) => (((-r_82) ≤ r_116 → wp_Md_minutesOf_w L f q0 p_0 p_2 (fun (r_118 : Int32) => ((((ti f q0 1) + r_118) ≤ 359999 → Q 0) ∧ (¬ (((ti f q0 1) + r_118) ≤ 359999) → Q 7)))) ∧ (¬ ((-r_82) ≤ r_116) → Q 6)))))))))))))))))))))))))) ∧ (¬ (x_48 < x_19) → ((x_48 < p_2 → wp_Md_today_w L f q0 (fun (r_121 : Int32) => (wp_Md_hourNow_w L f q0 (fun (r_126 : Int32) => (wp_Md_flowOf_w L f q0 r_121 r_126 (fun (r_129 : Int32) => wp_Md_lineOf_w L f q0 r_33 (16 : Int32) (fun (r_130 : Int32) => ((r_130 < 0 → wp_Md_lineOf_w L f q0 r_33 (17 : Int32) (fun (r_132 : Int32) => ((r_132 < 0 → wp_Md_minutesOf_w L f q0 p_0 p_2 (fun (r_134 : Int32) => ((((ti f q0 1) + r_134) ≤ 359999 → Q 0) ∧ (¬ (((ti f q0 1) + r_134) ≤ 359999) → Q 7)))) ∧ (¬ (r_132 < 0) → ((0 ≤ r_129 → wp_Md_lineOf_w L f q0 r_33 (17 : Int32) (fun (r_137 : Int32) => ((r_129 ≤ r_137 → wp_Md_minutesOf_w L f q0 p_0 p_2 (fun (r_139 : Int32) => ((((ti f q0 1) + r_139) ≤ 359999 → Q 0) ∧ (¬ (((ti f q0 1) + r_139) ≤ 359999) → Q 7)))) ∧ (¬ (r_129 ≤ r_137) → Q 6)))) ∧ (¬ (0 ≤ r_129) → wp_Md_lineOf_w L f q0 r_33 (17 : Int32) (fun (r_141 : Int32) => (((-r_129) ≤ r_141 → wp_Md_minutesOf_w L f q0 p_0 p_2 (fun (r_143 : Int32) => ((((ti f q0 1) + r_143) ≤ 359999 → Q 0) ∧ (¬ (((ti f q0 1) + r_143) ≤ 359999) → Q 7)))) ∧ (¬ ((-r_129) ≤ r_141) → Q 6))))))))) ∧ (¬ (r_130 < 0) → wp_Md_hourNow_w L f q0 (fun (r_145 : Int32) => (wp_Md_lineOf_w L f q0 r_33 (16 : Int32) (fun (r_148 : Int32) => ∀ q_149 : Nat, tr f q0 41 = some q_149 → ∀ x_150 : Int32, ti f q_149 (r_33 : Int32).toNatClampNeg = x_150 → ((r_145 < r_148 → Q 6) ∧ (¬ (r_145 < r_148) → ((x_150 < r_145 → Q 6) ∧ (¬ (x_150 < r_145) → wp_Md_lineOf_w L f q0 r_33 (17 : Int32) (fun (r_154 : Int32) => ((r_154 < 0 → wp_Md_minutesOf_w L f q0 p_0 p_2 (fun (r_156 : Int32) => ((((ti f q0 1) + r_156) ≤ 359999 → Q 0) ∧ (¬ (((ti f q0 1) + r_156) ≤ 359999) → Q 7)))) ∧ (¬ (r_154 < 0) → ((0 ≤ r_129 → wp_Md_lineOf_w L f q0 r_33 (17 : Int32) (fun (r_159 : Int32) => ((r_129 ≤ r_159 → wp_Md_minutesOf_w L f q0 p_0 p_2 (fun (r_161 : Int32) => ((((ti f q0 1) + r_161) ≤ 359999 → Q 0) ∧ (¬ (((ti f q0 1) + r_161) ≤ 359999) → Q 7)))) ∧ (¬ (r_129 ≤ r_159) → Q 6)))) ∧ (¬ (0 ≤ r_129) → wp_Md_lineOf_w L f q0 r_33 (17 : Int32) (fun (r_163 : Int32) => (((-r_129) ≤ r_163 → wp_Md_minutesOf_w L f q0 p_0 p_2 (fun (r_165 : Int32) => ((((ti f q0 1) + r_165) ≤ 359999 → Q 0) ∧ (¬ (((ti f q0 1) + r_165) ≤ 359999) → Q 7)))) ∧ (¬ ((-r_129) ≤ r_163) → Q 6)))))))))))))))))))))))) ∧ (¬ (x_48 < p_2) → wp_Md_today_w L f q0 (fun (r_167 : Int32) => (wp_Md_hourNow_w L f q0 (fun (r_172 : Int32) => (wp_Md_flowOf_w L f q0 r_167 r_172 (fun (r_175 : Int32) => wp_Md_minutesOf_w L f q0 p_0 p_2 (fun (r_176 : Int32) => ((((ti f q0 1) + r_176) ≤ 359999 → Q 0) ∧ (¬ (((ti f q0 1) + r_176) ≤ 359999) → Q 7))))))))))))))) ∧ (¬ (0 ≤ r_46) → Q 5))))))))))))))) ∧ (¬ (x_21 ≤ 0) → ∀ q_178 : Nat, tr f q0 20 = some q_178 → ∀ x_179 : Int32, ti f q_178 ((40 * x_19) : Int32).toNatClampNeg = x_179 → ((x_179 = p_1 → wp_Md_today_w L f q0 (fun (r_181 : Int32) => (wp_Md_today_w L f q0 (fun (r_186 : Int32) => (wp_Md_forceOn_w L f q0 r_181 r_186 (fun (r_191 : Int32) => ((r_191 = (-2) → Q 5) ∧ (¬ (r_191 = (-2)) → wp_Md_today_w L f q0 (fun (r_194 : Int32) => (wp_Md_hourNow_w L f q0 (fun (r_199 : Int32) => (∀ q_202 : Nat, tr f q0 22 = some q_202 → ∀ x_203 : Int32, ti f q_202 (p_0 : Int32).toNatClampNeg = x_203 → wp_Md_fareOf_w L f q0 r_191 x_19 p_2 r_194 r_199 x_203 (fun (r_204 : Int32) => ((0 ≤ r_204 → ∀ x_206 : Int32, ti f q0 4 = x_206 → ((x_206 < 0 → wp_Md_today_w L f q0 (fun (r_208 : Int32) => (wp_Md_hourNow_w L f q0 (fun (r_213 : Int32) => (wp_Md_flowOf_w L f q0 r_208 r_213 (fun (r_216 : Int32) => wp_Md_minutesOf_w L f q0 p_0 p_2 (fun (r_217 : Int32) => ((((ti f q0 1) + r_217) ≤ 359999 → Q 0) ∧ (¬ (((ti f q0 1) + r_217) ≤ 359999) → Q 7))))))))) ∧ (¬ (x_206 < 0) → ((x_206 < x_19 → ((x_206 < p_2 → wp_Md_today_w L f q0 (fun (r_221 : Int32) => (wp_Md_hourNow_w L f q0 (fun (r_226 : Int32) => (wp_Md_flowOf_w L f q0 r_221 r_226 (fun (r_229 : Int32) => wp_Md_minutesOf_w L f q0 p_0 p_2 (fun (r_230 : Int32) => ((((ti f q0 1) + r_230) ≤ 359999 → Q 0) ∧ (¬ (((ti f q0 1) + r_230) ≤ 359999) → Q 7))))))))) ∧ (¬ (x_206 < p_2) → wp_Md_today_w L f q0 (fun (r_232 : Int32) => (wp_Md_hourNow_w L f q0 (fun (r_237 : Int32) => (wp_Md_flowOf_w L f q0 r_232 r_237 (fun (r_240 : Int32) => wp_Md_lineOf_w L f q0 r_191 (16 : Int32) (fun (r_241 : Int32) => ((r_241 < 0 → wp_Md_lineOf_w L f q0 r_191 (17 : Int32) (fun (r_243 : Int32) => ((r_243 < 0 → wp_Md_minutesOf_w L f q0 p_0 p_2 (fun (r_245 : Int32) => ((((ti f q0 1) + r_245) ≤ 359999 → Q 0) ∧ (¬ (((ti f q0 1) + r_245) ≤ 359999) → Q 7)))) ∧ (¬ (r_243 < 0) → ((0 ≤ r_240 → wp_Md_lineOf_w L f q0 r_191 (17 : Int32) (fun (r_248 : Int32) => ((r_240 ≤ r_248 → wp_Md_minutesOf_w L f q0 p_0 p_2 (fun (r_250 : Int32) => ((((ti f q0 1) + r_250) ≤ 359999 → Q 0) ∧ (¬ (((ti f q0 1) + r_250) ≤ 359999) → Q 7)))) ∧ (¬ (r_240 ≤ r_248) → Q 6)))) ∧ (¬ (0 ≤ r_240) → wp_Md_lineOf_w L f q0 r_191 (17 : Int32) (fun (r_252 : Int32) => (((-r_240) ≤ r_252 → wp_Md_minutesOf_w L f q0 p_0 p_2 (fun (r_254 : Int32) => ((((ti f q0 1) + r_254) ≤ 359999 → Q 0) ∧ (¬ (((ti f q0 1) + r_254) ≤ 359999) → Q 7)))) ∧ (¬ ((-r_240) ≤ r_252) → Q 6))))))))) ∧ (¬ (r_241 < 0) → wp_Md_hourNow_w L f q0 (fun (r_256 : Int32) => (wp_Md_lineOf_w L f q0 r_191 (16 : Int32) (fun (r_259 : Int32) => ∀ q_260 : Nat, tr f q0 41 = some q_260 → ∀ x_261 : Int32, ti f q_260 (r_191 : Int32).toNatClampNeg = x_261 → ((r_256 < r_259 → Q 6) ∧ (¬ (r_256 < r_259) → ((x_261 < r_256 → Q 6) ∧ (¬ (x_261 < r_256) → wp_Md_lineOf_w L f q0 r_191 (17 : Int32) (fun (r_265 : Int32) => ((r_265 < 0 → wp_Md_minutesOf_w L f q0 p_0 p_2 (fun (r_267 : Int32) => ((((ti f q0 1) + r_267) ≤ 359999 → Q 0) ∧ (¬ (((ti f q0 1) + r_267) ≤ 359999) → Q 7)))) ∧ (¬ (r_265 < 0) → ((0 ≤ r_240 → wp_Md_lineOf_w L f q0 r_191 (17 : Int32) (fun (r_270 : Int32) => ((r_240 ≤ r_270 → wp_Md_minutesOf_w L f q0 p_0 p_2 (fun (r_272 : Int32) => ((((ti f q0 1) + r_272) ≤ 359999 → Q 0) ∧ (¬ (((ti f q0 1) + r_272) ≤ 359999) → Q 7)))) ∧ (¬ (r_240 ≤ r_270) → Q 6)))) ∧ (¬ (0 ≤ r_240) → wp_Md_lineOf_w L f q0 r_191 (17 : Int32) (fun (r_274 : Int32) => (((-r_240) ≤ r_274 → wp_Md_minutesOf_w L f q0 p_0 p_2 (fun (r_276 : Int32) => ((((ti f q0 1) + r_276) ≤ 359999 → Q 0) ∧ (¬ (((ti f q0 1) + r_276) ≤ 359999) → Q 7)))) ∧ (¬ ((-r_240) ≤ r_274) → Q 6)))))))))))))))))))))))))) ∧ (¬ (x_206 < x_19) → ((x_206 < p_2 → wp_Md_today_w L f q0 (fun (r_279 : Int32) => (wp_Md_hourNow_w L f q0 (fun (r_284 : Int32) => (wp_Md_flowOf_w L f q0 r_279 r_284 (fun (r_287 : Int32) => wp_Md_lineOf_w L f q0 r_191 (16 : Int32) (fun (r_288 : Int32) => ((r_288 < 0 → wp_Md_lineOf_w L f q0 r_191 (17 : Int32) (fun (r_290 : Int32) => ((r_290 < 0 → wp_Md_minutesOf_w L f q0 p_0 p_2 (fun (r_292 : Int32) => ((((ti f q0 1) + r_292) ≤ 359999 → Q 0) ∧ (¬ (((ti f q0 1) + r_292) ≤ 359999) → Q 7)))) ∧ (¬ (r_290 < 0) → ((0 ≤ r_287 → wp_Md_lineOf_w L f q0 r_191 (17 : Int32) (fun (r_295 : Int32) => ((r_287 ≤ r_295 → wp_Md_minutesOf_w L f q0 p_0 p_2 (fun (r_297 : Int32) => ((((ti f q0 1) + r_297) ≤ 359999 → Q 0) ∧ (¬ (((ti f q0 1) + r_297) ≤ 359999) → Q 7)))) ∧ (¬ (r_287 ≤ r_295) → Q 6)))) ∧ (¬ (0 ≤ r_287) → wp_Md_lineOf_w L f q0 r_191 (17 : Int32) (fun (r_299 : Int32) => (((-r_287) ≤ r_299 → wp_Md_minutesOf_w L f q0 p_0 p_2 (fun (r_301 : Int32) => ((((ti f q0 1) + r_301) ≤ 359999 → Q 0) ∧ (¬ (((ti f q0 1) + r_301) ≤ 359999) → Q 7)))) ∧ (¬ ((-r_287) ≤ r_299) → Q 6))))))))) ∧ (¬ (r_288 < 0) → wp_Md_hourNow_w L f q0 (fun (r_303 : Int32) => (wp_Md_lineOf_w L f q0 r_191 (16 : Int32) (fun (r_306 : Int32) => ∀ q_307 : Nat, tr f q0 41 = some q_307 → ∀ x_308 : Int32, ti f q_307 (r_191 : Int32).toNatClampNeg = x_308 → ((r_303 < r_306 → Q 6) ∧ (¬ (r_303 < r_306) → ((x_308 < r_303 → Q 6) ∧ (¬ (x_308 < r_303) → wp_Md_lineOf_w L f q0 r_191 (17 : Int32) (fun (r_312 : Int32) => ((r_312 < 0 → wp_Md_minutesOf_w L f q0 p_0 p_2 (fun (r_314 : Int32) => ((((ti f q0 1) + r_314) ≤ 359999 → Q 0) ∧ (¬ (((ti f q0 1) + r_314) ≤ 359999) → Q 7)))) ∧ (¬ (r_312 < 0) → ((0 ≤ r_287 → wp_Md_lineOf_w L f q0 r_191 (17 : Int32) (fun (r_317 : Int32) => ((r_287 ≤ r_317 → wp_Md_minutesOf_w L f q0 p_0 p_2 (fun (r_319 : Int32) => ((((ti f q0 1) + r_319) ≤ 359999 → Q 0) ∧ (¬ (((ti f q0 1) + r_319) ≤ 359999) → Q 7)))) ∧ (¬ (r_287 ≤ r_317) → Q 6)))) ∧ (¬ (0 ≤ r_287) → wp_Md_lineOf_w L f q0 r_191 (17 : Int32) (fun (r_321 : Int32) => (((-r_287) ≤ r_321 → wp_Md_minutesOf_w L f q0 p_0 p_2 (fun (r_323 : Int32) => ((((ti f q0 1) + r_323) ≤ 359999 → Q 0) ∧ (¬ (((ti f q0 1) + r_323) ≤ 359999) → Q 7)))) ∧ (¬ ((-r_287) ≤ r_321) → Q 6)))))))))))))))))))))))) ∧ (¬ (x_206 < p_2) → wp_Md_today_w L f q0 (fun (r_325 : Int32) => (wp_Md_hourNow_w L f q0 (fun (r_330 : Int32) => (wp_Md_flowOf_w L f q0 r_325 r_330 (fun (r_333 : Int32) => wp_Md_minutesOf_w L f q0 p_0 p_2 (fun (r_334 : Int32) => ((((ti f q0 1) + r_334) ≤ 359999 → Q 0) ∧ (¬ (((ti f q0 1) + r_334) ≤ 359999) → Q 7))))))))))))))) ∧ (¬ (0 ≤ r_204) → Q 5))))))))))))))) ∧ (¬ (x_179 = p_1) → Q 4))))) ∧ (¬ (x_16 < 0) → Q 3))) ∧ (¬ (x_13 = 2) → Q 3))) ∧ (¬ (x_10 < 0) → Q 2))) ∧ (¬ (x_7 = 0) → Q 1))))
set_option maxHeartbeats 4000000 in
set_option maxRecDepth 100000 in
theorem c_Md_hinders_w (l : Launch) (dC : Nat → ClassId) (dI : Nat → Nat → Nat) (ct : Nat → ClassId) (L : List Nat) (f : TF) (hO_0 : Ok L f) (q0 : Nat) (m0 : q0 ∈ L ∧ tk f q0 = 27) (p_0 : Int32) (p_1 : Int32) (p_2 : Int32)  (as_0 : ¬ (p_0 < 0)) (as_1 : ¬ (19 < p_0)) (as_2 : ¬ (p_1 < 0)) (as_3 : ¬ (39 < p_1)) (as_4 : ¬ (p_2 < 0)) (as_5 : ¬ (11 < p_2)) (Q : Int32 → Prop) (hQ : wp_Md_hinders_w L f q0 p_0 p_1 p_2 Q) : Met l y_Md_hinders (.code y_Md_hinders b_Md_hinders 8 (some .int) :: TB) ({ frames := 3, cells := 0, slots := 0, locals := 76 }) (va_Pc [.ref q0, .int p_0, .int p_1, .int p_2] (PR dC dI (TW ct L f) (TT ct))) (vp_Si (fun r => (True) ∧ Q r)) 0 0 (fun _ => False) := by
  refine Met.ofW (cc := b_Md_hinders) (maxL := 8) (ret := (some .int)) (by decide) rfl ?_
  intro p e s m args below meth c s₁ B hml hv
  obtain ⟨rfl, hP, hK, hN⟩ := hv
  have hx := B.exec
  have hb := B.bytes
  have hr := B.returns
  have hts := atoms_spec (ws := (.code y_Md_hinders b_Md_hinders 8 (some .int) :: TB)) B.pre
  have htb := fun w (h : w ∈ TB) => hts w (List.mem_cons_of_mem _ h)
  have hown : s.vm.findClass R_Md = some m.cls := findClass_of_methodNamed B.named
  have hlocks := B.notSynchronized
  have hl := lv_entry ([.ref q0, .int p_0, .int p_1, .int p_2]) (n := 8) (Nat.le_of_ble_eq_true rfl)
  rw [lg_entry_eq]
  generalize (lg_sl ([.ref q0, .int p_0, .int p_1, .int p_2]) ++ List.replicate (8 - (lg_sl ([.ref q0, .int p_0, .int p_1, .int p_2])).length) Slot.unset).toArray = ls at hl ⊢
  have hl : lv_has ls 8 [(0, .ref q0), (1, .int p_0), (2, .int p_1), (3, .int p_2)] := hl
  unfold wp_Md_hinders_w at hQ
  refine lv_aload_n hx hb d_Md_hinders_0 rfl (lv_at hl 0 rfl) ?_
  refine tw_getr (D := (dC, dI)) (C := R_Md) (T := F_Md) (N := 64) (ci := 7) (kd := 27) (ct := ct) hx hb htb i_Md hown hK hP hO_0 m0 rfl rfl 8 (by decide) (htb (.fieldLink R_Md 49 "WaterMenModel" "frosts" "[Z") tw_173) (fun _ h9 => h9) rfl d_Md_hinders_1 (fun q_1 e_1 m_1 => ?_)
  have hQ := hQ q_1 e_1
  refine lv_aload_n hx hb d_Md_hinders_4 rfl (lv_at hl 0 rfl) ?_
  refine vp_callSi (va_Run.run (va_runV (As := []) (rest := [.ref q_1]) ⟨hx, hb, hml, hown, htb⟩ (c_Md_today_w l dC dI ct L f hO_0 q0 m0 _ hQ) (cwV 0 htb (gd_V tw_113 tw_114 tw_115 tw_89 tw_112) rfl rfl rfl (by decide +kernel) ⟨Nat.le_of_ble_eq_true rfl, Nat.le_of_ble_eq_true rfl⟩) ⟨pr_blind, tw_recv hK hP m0 rfl rfl, pr_pre hP hK hN⟩ rfl rfl hl.1 rfl (lv_room (Nat.le_of_ble_eq_true rfl)) d_Md_hinders_5 ⟨Nat.le_of_ble_eq_true rfl, Nat.le_of_ble_eq_true rfl⟩)) (fun r_2 er_2 => ?_)
  obtain ⟨er_2, hQ⟩ := er_2
  obtain ⟨po_3, po_4, po_5, po_6, -⟩ := er_2
  refine tw_aldZ (ct := ct) hx hb hK hP hO_0 m_1 rfl (hb_inl po_3 po_4 (by decide +kernel)) d_Md_hinders_8 (fun x_7 e_7 b_7 => ?_)
  have hQ := hQ x_7 e_7
  refine lv_if_eq (tgt := 14) hx hb d_Md_hinders_9 (by decide) (fun c_8 => ?_) (fun c_8 => ?_)
  · have hQ := hQ.1 c_8
    refine lv_aload_n hx hb d_Md_hinders_14 rfl (lv_at hl 0 rfl) ?_
    refine tw_getr (D := (dC, dI)) (C := R_Md) (T := F_Md) (N := 64) (ci := 7) (kd := 27) (ct := ct) hx hb htb i_Md hown hK hP hO_0 m0 rfl rfl 25 (by decide) (htb (.fieldLink R_Md 103 "WaterMenModel" "boatTrip" "[I") tw_228) (fun _ h9 => h9) rfl d_Md_hinders_15 (fun q_9 e_9 m_9 => ?_)
    have hQ := hQ q_9 e_9
    refine lv_iload_n hx hb d_Md_hinders_18 rfl (lv_at hl 1 rfl) ?_
    refine tw_aldI (ct := ct) hx hb hK hP hO_0 m_9 rfl (hb_inl as_0 as_1 (by decide +kernel)) d_Md_hinders_19 (fun x_10 e_10 b_10 => ?_)
    have hQ := hQ x_10 e_10
    refine lv_if_lt (tgt := 25) hx hb d_Md_hinders_20 (by decide) (fun c_11 => ?_) (fun c_11 => ?_)
    · have hQ := hQ.1 c_11
      refine lv_aload_n hx hb d_Md_hinders_25 rfl (lv_at hl 0 rfl) ?_
      refine tw_getr (D := (dC, dI)) (C := R_Md) (T := F_Md) (N := 64) (ci := 7) (kd := 27) (ct := ct) hx hb htb i_Md hown hK hP hO_0 m0 rfl rfl 9 (by decide) (htb (.fieldLink R_Md 58 "WaterMenModel" "state" "[I") tw_95) (fun _ h9 => h9) rfl d_Md_hinders_26 (fun q_12 e_12 m_12 => ?_)
      have hQ := hQ q_12 e_12
      refine lv_iload_n hx hb d_Md_hinders_29 rfl (lv_at hl 2 rfl) ?_
      refine tw_aldI (ct := ct) hx hb hK hP hO_0 m_12 rfl (hb_inl as_2 as_3 (by decide +kernel)) d_Md_hinders_30 (fun x_13 e_13 b_13 => ?_)
      have hQ := hQ x_13 e_13
      refine lv_iconst (v := 2) hx hb d_Md_hinders_31 (by decide +kernel) ?_
      refine lv_icmp_ne (tgt := 44) hx hb d_Md_hinders_32 (by decide) (fun c_14 => ?_) (fun c_14 => ?_)
      · have hQ := hQ.2 c_14
        refine lv_iconst (v := 3) hx hb d_Md_hinders_44 (by decide +kernel) ?_
        exact W.iret (v := 3) hx hb hr (fun t ht hW => ⟨3, rfl, ⟨trivial, hQ⟩, ht⟩) t_nil d_Md_hinders_45
      · have hQ := hQ.1 c_14
        refine lv_aload_n hx hb d_Md_hinders_35 rfl (lv_at hl 0 rfl) ?_
        refine tw_getr (D := (dC, dI)) (C := R_Md) (T := F_Md) (N := 64) (ci := 7) (kd := 27) (ct := ct) hx hb htb i_Md hown hK hP hO_0 m0 rfl rfl 16 (by decide) (htb (.fieldLink R_Md 79 "WaterMenModel" "wayOf" "[I") tw_109) (fun _ h9 => h9) rfl d_Md_hinders_36 (fun q_15 e_15 m_15 => ?_)
        have hQ := hQ q_15 e_15
        refine lv_iload_n hx hb d_Md_hinders_39 rfl (lv_at hl 2 rfl) ?_
        refine tw_aldI (ct := ct) hx hb hK hP hO_0 m_15 rfl (hb_inl as_2 as_3 (by decide +kernel)) d_Md_hinders_40 (fun x_16 e_16 b_16 => ?_)
        have hQ := hQ x_16 e_16
        refine lv_if_lt (tgt := 46) hx hb d_Md_hinders_41 (by decide) (fun c_17 => ?_) (fun c_17 => ?_)
        · have hQ := hQ.1 c_17
          refine lv_aload_n hx hb d_Md_hinders_46 rfl (lv_at hl 0 rfl) ?_
          refine tw_getr (D := (dC, dI)) (C := R_Md) (T := F_Md) (N := 64) (ci := 7) (kd := 27) (ct := ct) hx hb htb i_Md hown hK hP hO_0 m0 rfl rfl 23 (by decide) (htb (.fieldLink R_Md 97 "WaterMenModel" "boatAt" "[I") tw_511) (fun _ h9 => h9) rfl d_Md_hinders_47 (fun q_18 e_18 m_18 => ?_)
          have hQ := hQ q_18 e_18
          refine lv_iload_n hx hb d_Md_hinders_50 rfl (lv_at hl 1 rfl) ?_
          refine tw_aldI (ct := ct) hx hb hK hP hO_0 m_18 rfl (hb_inl as_0 as_1 (by decide +kernel)) d_Md_hinders_51 (fun x_19 e_19 b_19 => ?_)
          have hQ := hQ x_19 e_19
          refine lv_istore (lv' := [(4, .int x_19), (0, .ref q0), (1, .int p_0), (2, .int p_1), (3, .int p_2)]) hx hb d_Md_hinders_52 hl (by decide) rfl (fun ls hl => ?_)
          refine lv_aload_n hx hb d_Md_hinders_54 rfl (lv_at hl 1 rfl) ?_
          refine tw_getr (D := (dC, dI)) (C := R_Md) (T := F_Md) (N := 64) (ci := 7) (kd := 27) (ct := ct) hx hb htb i_Md hown hK hP hO_0 m0 rfl rfl 19 (by decide) (htb (.fieldLink R_Md 88 "WaterMenModel" "turns" "[I") tw_98) (fun _ h9 => h9) rfl d_Md_hinders_55 (fun q_20 e_20 m_20 => ?_)
          have hQ := hQ q_20 e_20
          refine lv_iload hx hb d_Md_hinders_58 (lv_at hl 0 rfl) ?_
          refine tw_aldI (ct := ct) hx hb hK hP hO_0 m_20 rfl (hb_inl b_19.1 b_19.2 (by decide +kernel)) d_Md_hinders_60 (fun x_21 e_21 b_21 => ?_)
          have hQ := hQ x_21 e_21
          refine lv_if_le (tgt := 80) hx hb d_Md_hinders_61 (by decide) (fun c_22 => ?_) (fun c_22 => ?_)
          · have hQ := hQ.1 c_22
            refine lv_aload_n hx hb d_Md_hinders_80 rfl (lv_at hl 1 rfl) ?_
            refine lv_aload_n hx hb d_Md_hinders_81 rfl (lv_at hl 1 rfl) ?_
            refine vp_callSi (va_Run.run (va_runV (As := []) (rest := [.ref q0]) ⟨hx, hb, hml, hown, htb⟩ (c_Md_today_w l dC dI ct L f hO_0 q0 m0 _ hQ) (cwV 0 htb (gd_V tw_113 tw_114 tw_115 tw_89 tw_112) rfl rfl rfl (by decide +kernel) ⟨Nat.le_of_ble_eq_true rfl, Nat.le_of_ble_eq_true rfl⟩) ⟨pr_blind, tw_recv hK hP m0 rfl rfl, pr_pre hP hK hN⟩ rfl rfl hl.1 rfl (lv_room (Nat.le_of_ble_eq_true rfl)) d_Md_hinders_82 ⟨Nat.le_of_ble_eq_true rfl, Nat.le_of_ble_eq_true rfl⟩)) (fun r_23 er_23 => ?_)
            obtain ⟨er_23, hQ⟩ := er_23
            obtain ⟨po_24, po_25, po_26, po_27, -⟩ := er_23
            refine lv_aload_n hx hb d_Md_hinders_85 rfl (lv_at hl 1 rfl) ?_
            refine vp_callSi (va_Run.run (va_runV (As := []) (rest := [.int r_23, .ref q0]) ⟨hx, hb, hml, hown, htb⟩ (c_Md_today_w l dC dI ct L f hO_0 q0 m0 _ hQ) (cwV 0 htb (gd_V tw_113 tw_114 tw_115 tw_89 tw_112) rfl rfl rfl (by decide +kernel) ⟨Nat.le_of_ble_eq_true rfl, Nat.le_of_ble_eq_true rfl⟩) ⟨pr_blind, tw_recv hK hP m0 rfl rfl, pr_pre hP hK hN⟩ rfl rfl hl.1 rfl (lv_room (Nat.le_of_ble_eq_true rfl)) d_Md_hinders_86 ⟨Nat.le_of_ble_eq_true rfl, Nat.le_of_ble_eq_true rfl⟩)) (fun r_28 er_28 => ?_)
            obtain ⟨er_28, hQ⟩ := er_28
            obtain ⟨po_29, po_30, po_31, po_32, -⟩ := er_28
            refine vp_callSi (va_Run.run (va_runV (As := [.int r_23, .int r_28]) (rest := []) ⟨hx, hb, hml, hown, htb⟩ (c_Md_forceOn_w l dC dI ct L f hO_0 q0 m0 r_23 r_28 _ hQ) (cwV 2 htb (gd_V tw_394 tw_395 tw_396 tw_89 tw_393) rfl rfl rfl (by decide +kernel) ⟨Nat.le_of_ble_eq_true rfl, Nat.le_of_ble_eq_true rfl⟩) ⟨pr_blind, tw_recv hK hP m0 rfl rfl, pr_pre hP hK hN⟩ rfl rfl hl.1 rfl (lv_room (Nat.le_of_ble_eq_true rfl)) d_Md_hinders_89 ⟨Nat.le_of_ble_eq_true rfl, Nat.le_of_ble_eq_true rfl⟩)) (fun r_33 er_33 => ?_)
            obtain ⟨er_33, hQ⟩ := er_33
            rcases er_33 with ⟨rfl, -⟩ | ⟨po_34, po_35, -⟩
            · have hQ := hQ.1 rfl
              refine lv_istore (lv' := [(5, .int (-2)), (4, .int x_19), (0, .ref q0), (1, .int p_0), (2, .int p_1), (3, .int p_2)]) hx hb d_Md_hinders_92 hl (by decide) rfl (fun ls hl => ?_)
              refine lv_iload hx hb d_Md_hinders_94 (lv_at hl 0 rfl) ?_
              refine lv_if_lt (tgt := 125) hx hb d_Md_hinders_96 (by decide) (fun _ => ?_) (fun h => absurd (by decide +kernel) h)
              refine lv_iconst (v := 5) hx hb d_Md_hinders_125 (by decide +kernel) ?_
              exact W.iret (v := 5) hx hb hr (fun t ht hW => ⟨5, rfl, ⟨trivial, hQ⟩, ht⟩) t_nil d_Md_hinders_126
            · have hQ := hQ.2 (fun e9 => po_34 (by rw [e9]; decide))
              refine lv_istore (lv' := [(5, .int r_33), (4, .int x_19), (0, .ref q0), (1, .int p_0), (2, .int p_1), (3, .int p_2)]) hx hb d_Md_hinders_92 hl (by decide) rfl (fun ls hl => ?_)
              refine lv_iload hx hb d_Md_hinders_94 (lv_at hl 0 rfl) ?_
              refine lv_if_lt (tgt := 125) hx hb d_Md_hinders_96 (by decide) (fun h => absurd h po_34) (fun _ => ?_)
              refine lv_aload_n hx hb d_Md_hinders_99 rfl (lv_at hl 2 rfl) ?_
              refine lv_iload hx hb d_Md_hinders_100 (lv_at hl 0 rfl) ?_
              refine lv_iload hx hb d_Md_hinders_102 (lv_at hl 1 rfl) ?_
              refine lv_iload_n hx hb d_Md_hinders_104 rfl (lv_at hl 5 rfl) ?_
              refine lv_aload_n hx hb d_Md_hinders_105 rfl (lv_at hl 2 rfl) ?_
              refine vp_callSi (va_Run.run (va_runV (As := []) (rest := [.int p_2, .int x_19, .int r_33, .ref q0]) ⟨hx, hb, hml, hown, htb⟩ (c_Md_today_w l dC dI ct L f hO_0 q0 m0 _ hQ) (cwV 0 htb (gd_V tw_113 tw_114 tw_115 tw_89 tw_112) rfl rfl rfl (by decide +kernel) ⟨Nat.le_of_ble_eq_true rfl, Nat.le_of_ble_eq_true rfl⟩) ⟨pr_blind, tw_recv hK hP m0 rfl rfl, pr_pre hP hK hN⟩ rfl rfl hl.1 rfl (lv_room (Nat.le_of_ble_eq_true rfl)) d_Md_hinders_106 ⟨Nat.le_of_ble_eq_true rfl, Nat.le_of_ble_eq_true rfl⟩)) (fun r_36 er_36 => ?_)
              obtain ⟨er_36, hQ⟩ := er_36
              obtain ⟨po_37, po_38, po_39, po_40, -⟩ := er_36
              refine lv_aload_n hx hb d_Md_hinders_109 rfl (lv_at hl 2 rfl) ?_
              refine vp_callSi (va_Run.run (va_runV (As := []) (rest := [.int r_36, .int p_2, .int x_19, .int r_33, .ref q0]) ⟨hx, hb, hml, hown, htb⟩ (c_Md_hourNow_w l dC dI ct L f hO_0 q0 m0 _ hQ) (cwV 0 htb (gd_V tw_580 tw_581 tw_582 tw_89 tw_579) rfl rfl rfl (by decide +kernel) ⟨Nat.le_of_ble_eq_true rfl, Nat.le_of_ble_eq_true rfl⟩) ⟨pr_blind, tw_recv hK hP m0 rfl rfl, pr_pre hP hK hN⟩ rfl rfl hl.1 rfl (lv_room (Nat.le_of_ble_eq_true rfl)) d_Md_hinders_110 ⟨Nat.le_of_ble_eq_true rfl, Nat.le_of_ble_eq_true rfl⟩)) (fun r_41 er_41 => ?_)
              obtain ⟨er_41, hQ⟩ := er_41
              obtain ⟨po_42, po_43, -⟩ := er_41
              refine lv_aload_n hx hb d_Md_hinders_113 rfl (lv_at hl 2 rfl) ?_
              refine tw_getr (D := (dC, dI)) (C := R_Md) (T := F_Md) (N := 64) (ci := 7) (kd := 27) (ct := ct) hx hb htb i_Md hown hK hP hO_0 m0 rfl rfl 22 (by decide) (htb (.fieldLink R_Md 94 "WaterMenModel" "boatOars" "[I") tw_510) (fun _ h9 => h9) rfl d_Md_hinders_114 (fun q_44 e_44 m_44 => ?_)
              have hQ := hQ q_44 e_44
              refine lv_iload_n hx hb d_Md_hinders_117 rfl (lv_at hl 3 rfl) ?_
              refine tw_aldI (ct := ct) hx hb hK hP hO_0 m_44 rfl (hb_inl as_0 as_1 (by decide +kernel)) d_Md_hinders_118 (fun x_45 e_45 b_45 => ?_)
              have hQ := hQ x_45 e_45
              refine vp_callSi (va_Run.run (va_runV (As := [.int r_33, .int x_19, .int p_2, .int r_36, .int r_41, .int x_45]) (rest := []) ⟨hx, hb, hml, hown, htb⟩ (c_Md_fareOf_w l dC dI ct L f hO_0 q0 m0 r_33 x_19 p_2 r_36 r_41 x_45 po_34 po_35 b_19.1 b_19.2 as_4 as_5 po_37 po_38 po_42 po_43 _ hQ) (cwV 6 htb (gd_V tw_453 tw_454 tw_455 tw_89 tw_452) rfl rfl rfl (by decide +kernel) ⟨Nat.le_of_ble_eq_true rfl, Nat.le_of_ble_eq_true rfl⟩) ⟨pr_blind, tw_recv hK hP m0 rfl rfl, pr_pre hP hK hN⟩ rfl rfl hl.1 rfl (lv_room (Nat.le_of_ble_eq_true rfl)) d_Md_hinders_119 ⟨Nat.le_of_ble_eq_true rfl, Nat.le_of_ble_eq_true rfl⟩)) (fun r_46 er_46 => ?_)
              obtain ⟨er_46, hQ⟩ := er_46
              clear er_46
              refine lv_if_ge (tgt := 127) hx hb d_Md_hinders_122 (by decide) (fun c_47 => ?_) (fun c_47 => ?_)
              · have hQ := hQ.1 c_47
                refine lv_aload_n hx hb d_Md_hinders_127 rfl (lv_at hl 2 rfl) ?_
                refine tw_geti (D := (dC, dI)) (C := R_Md) (T := F_Md) (N := 64) (ci := 7) (kd := 27) (ct := ct) hx hb htb i_Md hown hK hP hO_0 m0 rfl rfl 4 (by decide) (htb (.fieldLink R_Md 35 "WaterMenModel" "bridge" "I") tw_206) (fun _ h9 => h9) rfl d_Md_hinders_128 (fun x_48 e_48 b_48 => ?_)
                have hQ := hQ x_48 e_48
                refine lv_if_lt (tgt := 168) hx hb d_Md_hinders_131 (by decide) (fun c_49 => ?_) (fun c_49 => ?_)
                · have hQ := hQ.1 c_49
                  refine lv_iconst (v := 0) hx hb d_Md_hinders_168 (by decide +kernel) ?_
                  refine lv_istore (lv' := [(6, .int 0), (5, .int r_33), (4, .int x_19), (0, .ref q0), (1, .int p_0), (2, .int p_1), (3, .int p_2)]) hx hb d_Md_hinders_169 hl (by decide) rfl (fun ls hl => ?_)
                  refine lv_aload_n hx hb d_Md_hinders_171 rfl (lv_at hl 3 rfl) ?_
                  refine lv_aload_n hx hb d_Md_hinders_172 rfl (lv_at hl 3 rfl) ?_
                  refine vp_callSi (va_Run.run (va_runV (As := []) (rest := [.ref q0]) ⟨hx, hb, hml, hown, htb⟩ (c_Md_today_w l dC dI ct L f hO_0 q0 m0 _ hQ) (cwV 0 htb (gd_V tw_113 tw_114 tw_115 tw_89 tw_112) rfl rfl rfl (by decide +kernel) ⟨Nat.le_of_ble_eq_true rfl, Nat.le_of_ble_eq_true rfl⟩) ⟨pr_blind, tw_recv hK hP m0 rfl rfl, pr_pre hP hK hN⟩ rfl rfl hl.1 rfl (lv_room (Nat.le_of_ble_eq_true rfl)) d_Md_hinders_173 ⟨Nat.le_of_ble_eq_true rfl, Nat.le_of_ble_eq_true rfl⟩)) (fun r_50 er_50 => ?_)
                  obtain ⟨er_50, hQ⟩ := er_50
                  obtain ⟨po_51, po_52, po_53, po_54, -⟩ := er_50
                  refine lv_aload_n hx hb d_Md_hinders_176 rfl (lv_at hl 3 rfl) ?_
                  refine vp_callSi (va_Run.run (va_runV (As := []) (rest := [.int r_50, .ref q0]) ⟨hx, hb, hml, hown, htb⟩ (c_Md_hourNow_w l dC dI ct L f hO_0 q0 m0 _ hQ) (cwV 0 htb (gd_V tw_580 tw_581 tw_582 tw_89 tw_579) rfl rfl rfl (by decide +kernel) ⟨Nat.le_of_ble_eq_true rfl, Nat.le_of_ble_eq_true rfl⟩) ⟨pr_blind, tw_recv hK hP m0 rfl rfl, pr_pre hP hK hN⟩ rfl rfl hl.1 rfl (lv_room (Nat.le_of_ble_eq_true rfl)) d_Md_hinders_177 ⟨Nat.le_of_ble_eq_true rfl, Nat.le_of_ble_eq_true rfl⟩)) (fun r_55 er_55 => ?_)
                  obtain ⟨er_55, hQ⟩ := er_55
                  obtain ⟨po_56, po_57, -⟩ := er_55
                  refine vp_callSi (va_Run.run (va_runV (As := [.int r_50, .int r_55]) (rest := []) ⟨hx, hb, hml, hown, htb⟩ (c_Md_flowOf_w l dC dI ct L f hO_0 q0 m0 r_50 r_55 po_51 po_52 po_56 po_57 _ hQ) (cwV 2 htb (gd_V tw_164 tw_165 tw_166 tw_89 tw_163) rfl rfl rfl (by decide +kernel) ⟨Nat.le_of_ble_eq_true rfl, Nat.le_of_ble_eq_true rfl⟩) ⟨pr_blind, tw_recv hK hP m0 rfl rfl, pr_pre hP hK hN⟩ rfl rfl hl.1 rfl (lv_room (Nat.le_of_ble_eq_true rfl)) d_Md_hinders_180 ⟨Nat.le_of_ble_eq_true rfl, Nat.le_of_ble_eq_true rfl⟩)) (fun r_58 er_58 => ?_)
                  obtain ⟨er_58, hQ⟩ := er_58
                  clear er_58
                  refine lv_istore (lv' := [(7, .int r_58), (6, .int 0), (5, .int r_33), (4, .int x_19), (0, .ref q0), (1, .int p_0), (2, .int p_1), (3, .int p_2)]) hx hb d_Md_hinders_183 hl (by decide) rfl (fun ls hl => ?_)
                  refine lv_iload hx hb d_Md_hinders_185 (lv_at hl 1 rfl) ?_
                  refine lv_if_eq (tgt := 229) hx hb d_Md_hinders_187 (by decide) (fun _ => ?_) (fun h => absurd (by decide +kernel) h)
                  refine lv_iload hx hb d_Md_hinders_229 (lv_at hl 1 rfl) ?_
                  refine lv_if_eq (tgt := 272) hx hb d_Md_hinders_231 (by decide) (fun _ => ?_) (fun h => absurd (by decide +kernel) h)
                  refine lv_aload_n hx hb d_Md_hinders_272 rfl (lv_at hl 4 rfl) ?_
                  refine tw_getI (x := (ti f q0 1)) (D := (dC, dI)) (C := R_Md) (T := F_Md) (N := 64) (ci := 7) (kd := 27) (ct := ct) hx hb htb i_Md hown hK hP m0 rfl rfl 1 rfl (by decide) (htb (.fieldLink R_Md 7 "WaterMenModel" "time" "I") tw_111) (fun _ h9 => h9) rfl d_Md_hinders_273 ?_
                  refine lv_aload_n hx hb d_Md_hinders_276 rfl (lv_at hl 4 rfl) ?_
                  refine lv_iload_n hx hb d_Md_hinders_277 rfl (lv_at hl 5 rfl) ?_
                  refine lv_iload_n hx hb d_Md_hinders_278 rfl (lv_at hl 7 rfl) ?_
                  refine vp_callSi (va_Run.run (va_runV (As := [.int p_0, .int p_2]) (rest := [.int (ti f q0 1)]) ⟨hx, hb, hml, hown, htb⟩ (c_Md_minutesOf_w l dC dI ct L f hO_0 q0 m0 p_0 p_2 as_0 as_1 as_4 as_5 _ hQ) (cwV 2 htb (gd_V tw_584 tw_585 tw_586 tw_89 tw_583) rfl rfl rfl (by decide +kernel) ⟨Nat.le_of_ble_eq_true rfl, Nat.le_of_ble_eq_true rfl⟩) ⟨pr_blind, tw_recv hK hP m0 rfl rfl, pr_pre hP hK hN⟩ rfl rfl hl.1 rfl (lv_room (Nat.le_of_ble_eq_true rfl)) d_Md_hinders_279 ⟨Nat.le_of_ble_eq_true rfl, Nat.le_of_ble_eq_true rfl⟩)) (fun r_59 er_59 => ?_)
                  obtain ⟨er_59, hQ⟩ := er_59
                  clear er_59
                  refine lv_iadd hx hb d_Md_hinders_282 ?_
                  refine lv_ldcw (v := 359999) hx hb hown (htb (.constant R_Md 305 359999) tw_226) d_Md_hinders_283 ?_
                  refine lv_icmp_le (tgt := 294) hx hb d_Md_hinders_286 (by decide) (fun c_60 => ?_) (fun c_60 => ?_)
                  · have hQ := hQ.1 c_60
                    refine lv_iconst (v := 0) hx hb d_Md_hinders_294 (by decide +kernel) ?_
                    exact W.iret (v := 0) hx hb hr (fun t ht hW => ⟨0, rfl, ⟨trivial, hQ⟩, ht⟩) t_nil d_Md_hinders_295
                  · have hQ := hQ.2 c_60
                    refine lv_bipush (v := 7) hx hb d_Md_hinders_289 (by decide +kernel) ?_
                    refine lv_goto (tgt := 295) hx hb d_Md_hinders_291 (by decide) ?_
                    exact W.iret (v := 7) hx hb hr (fun t ht hW => ⟨7, rfl, ⟨trivial, hQ⟩, ht⟩) t_nil d_Md_hinders_295
                · have hQ := hQ.2 c_49
                  refine lv_iload hx hb d_Md_hinders_134 (lv_at hl 1 rfl) ?_
                  refine lv_aload_n hx hb d_Md_hinders_136 rfl (lv_at hl 2 rfl) ?_
                  refine tw_getI (x := x_48) (D := (dC, dI)) (C := R_Md) (T := F_Md) (N := 64) (ci := 7) (kd := 27) (ct := ct) hx hb htb i_Md hown hK hP m0 rfl rfl 4 e_48 (by decide) (htb (.fieldLink R_Md 35 "WaterMenModel" "bridge" "I") tw_206) (fun _ h9 => h9) rfl d_Md_hinders_137 ?_
                  refine lv_icmp_gt (tgt := 147) hx hb d_Md_hinders_140 (by decide) (fun c_61 => ?_) (fun c_61 => ?_)
                  · have hQ := hQ.1 c_61
                    refine lv_iconst (v := 0) hx hb d_Md_hinders_147 (by decide +kernel) ?_
                    refine lv_iload_n hx hb d_Md_hinders_148 rfl (lv_at hl 5 rfl) ?_
                    refine lv_aload_n hx hb d_Md_hinders_149 rfl (lv_at hl 2 rfl) ?_
                    refine tw_getI (x := x_48) (D := (dC, dI)) (C := R_Md) (T := F_Md) (N := 64) (ci := 7) (kd := 27) (ct := ct) hx hb htb i_Md hown hK hP m0 rfl rfl 4 e_48 (by decide) (htb (.fieldLink R_Md 35 "WaterMenModel" "bridge" "I") tw_206) (fun _ h9 => h9) rfl d_Md_hinders_150 ?_
                    refine lv_icmp_gt (tgt := 160) hx hb d_Md_hinders_153 (by decide) (fun c_62 => ?_) (fun c_62 => ?_)
                    · have hQ := hQ.1 c_62
                      refine lv_iconst (v := 0) hx hb d_Md_hinders_160 (by decide +kernel) ?_
                      refine lv_icmp_eq (tgt := 168) hx hb d_Md_hinders_161 (by decide) (fun _ => ?_) (fun h => absurd (by decide +kernel) h)
                      refine lv_iconst (v := 0) hx hb d_Md_hinders_168 (by decide +kernel) ?_
                      refine lv_istore (lv' := [(6, .int 0), (5, .int r_33), (4, .int x_19), (0, .ref q0), (1, .int p_0), (2, .int p_1), (3, .int p_2)]) hx hb d_Md_hinders_169 hl (by decide) rfl (fun ls hl => ?_)
                      refine lv_aload_n hx hb d_Md_hinders_171 rfl (lv_at hl 3 rfl) ?_
                      refine lv_aload_n hx hb d_Md_hinders_172 rfl (lv_at hl 3 rfl) ?_
                      refine vp_callSi (va_Run.run (va_runV (As := []) (rest := [.ref q0]) ⟨hx, hb, hml, hown, htb⟩ (c_Md_today_w l dC dI ct L f hO_0 q0 m0 _ hQ) (cwV 0 htb (gd_V tw_113 tw_114 tw_115 tw_89 tw_112) rfl rfl rfl (by decide +kernel) ⟨Nat.le_of_ble_eq_true rfl, Nat.le_of_ble_eq_true rfl⟩) ⟨pr_blind, tw_recv hK hP m0 rfl rfl, pr_pre hP hK hN⟩ rfl rfl hl.1 rfl (lv_room (Nat.le_of_ble_eq_true rfl)) d_Md_hinders_173 ⟨Nat.le_of_ble_eq_true rfl, Nat.le_of_ble_eq_true rfl⟩)) (fun r_63 er_63 => ?_)
                      obtain ⟨er_63, hQ⟩ := er_63
                      obtain ⟨po_64, po_65, po_66, po_67, -⟩ := er_63
                      refine lv_aload_n hx hb d_Md_hinders_176 rfl (lv_at hl 3 rfl) ?_
                      refine vp_callSi (va_Run.run (va_runV (As := []) (rest := [.int r_63, .ref q0]) ⟨hx, hb, hml, hown, htb⟩ (c_Md_hourNow_w l dC dI ct L f hO_0 q0 m0 _ hQ) (cwV 0 htb (gd_V tw_580 tw_581 tw_582 tw_89 tw_579) rfl rfl rfl (by decide +kernel) ⟨Nat.le_of_ble_eq_true rfl, Nat.le_of_ble_eq_true rfl⟩) ⟨pr_blind, tw_recv hK hP m0 rfl rfl, pr_pre hP hK hN⟩ rfl rfl hl.1 rfl (lv_room (Nat.le_of_ble_eq_true rfl)) d_Md_hinders_177 ⟨Nat.le_of_ble_eq_true rfl, Nat.le_of_ble_eq_true rfl⟩)) (fun r_68 er_68 => ?_)
                      obtain ⟨er_68, hQ⟩ := er_68
                      obtain ⟨po_69, po_70, -⟩ := er_68
                      refine vp_callSi (va_Run.run (va_runV (As := [.int r_63, .int r_68]) (rest := []) ⟨hx, hb, hml, hown, htb⟩ (c_Md_flowOf_w l dC dI ct L f hO_0 q0 m0 r_63 r_68 po_64 po_65 po_69 po_70 _ hQ) (cwV 2 htb (gd_V tw_164 tw_165 tw_166 tw_89 tw_163) rfl rfl rfl (by decide +kernel) ⟨Nat.le_of_ble_eq_true rfl, Nat.le_of_ble_eq_true rfl⟩) ⟨pr_blind, tw_recv hK hP m0 rfl rfl, pr_pre hP hK hN⟩ rfl rfl hl.1 rfl (lv_room (Nat.le_of_ble_eq_true rfl)) d_Md_hinders_180 ⟨Nat.le_of_ble_eq_true rfl, Nat.le_of_ble_eq_true rfl⟩)) (fun r_71 er_71 => ?_)
                      obtain ⟨er_71, hQ⟩ := er_71
                      clear er_71
                      refine lv_istore (lv' := [(7, .int r_71), (6, .int 0), (5, .int r_33), (4, .int x_19), (0, .ref q0), (1, .int p_0), (2, .int p_1), (3, .int p_2)]) hx hb d_Md_hinders_183 hl (by decide) rfl (fun ls hl => ?_)
                      refine lv_iload hx hb d_Md_hinders_185 (lv_at hl 1 rfl) ?_
                      refine lv_if_eq (tgt := 229) hx hb d_Md_hinders_187 (by decide) (fun _ => ?_) (fun h => absurd (by decide +kernel) h)
                      refine lv_iload hx hb d_Md_hinders_229 (lv_at hl 1 rfl) ?_
                      refine lv_if_eq (tgt := 272) hx hb d_Md_hinders_231 (by decide) (fun _ => ?_) (fun h => absurd (by decide +kernel) h)
                      refine lv_aload_n hx hb d_Md_hinders_272 rfl (lv_at hl 4 rfl) ?_
                      refine tw_getI (x := (ti f q0 1)) (D := (dC, dI)) (C := R_Md) (T := F_Md) (N := 64) (ci := 7) (kd := 27) (ct := ct) hx hb htb i_Md hown hK hP m0 rfl rfl 1 rfl (by decide) (htb (.fieldLink R_Md 7 "WaterMenModel" "time" "I") tw_111) (fun _ h9 => h9) rfl d_Md_hinders_273 ?_
                      refine lv_aload_n hx hb d_Md_hinders_276 rfl (lv_at hl 4 rfl) ?_
                      refine lv_iload_n hx hb d_Md_hinders_277 rfl (lv_at hl 5 rfl) ?_
                      refine lv_iload_n hx hb d_Md_hinders_278 rfl (lv_at hl 7 rfl) ?_
                      refine vp_callSi (va_Run.run (va_runV (As := [.int p_0, .int p_2]) (rest := [.int (ti f q0 1)]) ⟨hx, hb, hml, hown, htb⟩ (c_Md_minutesOf_w l dC dI ct L f hO_0 q0 m0 p_0 p_2 as_0 as_1 as_4 as_5 _ hQ) (cwV 2 htb (gd_V tw_584 tw_585 tw_586 tw_89 tw_583) rfl rfl rfl (by decide +kernel) ⟨Nat.le_of_ble_eq_true rfl, Nat.le_of_ble_eq_true rfl⟩) ⟨pr_blind, tw_recv hK hP m0 rfl rfl, pr_pre hP hK hN⟩ rfl rfl hl.1 rfl (lv_room (Nat.le_of_ble_eq_true rfl)) d_Md_hinders_279 ⟨Nat.le_of_ble_eq_true rfl, Nat.le_of_ble_eq_true rfl⟩)) (fun r_72 er_72 => ?_)
                      obtain ⟨er_72, hQ⟩ := er_72
                      clear er_72
                      refine lv_iadd hx hb d_Md_hinders_282 ?_
                      refine lv_ldcw (v := 359999) hx hb hown (htb (.constant R_Md 305 359999) tw_226) d_Md_hinders_283 ?_
                      refine lv_icmp_le (tgt := 294) hx hb d_Md_hinders_286 (by decide) (fun c_73 => ?_) (fun c_73 => ?_)
                      · have hQ := hQ.1 c_73
                        refine lv_iconst (v := 0) hx hb d_Md_hinders_294 (by decide +kernel) ?_
                        exact W.iret (v := 0) hx hb hr (fun t ht hW => ⟨0, rfl, ⟨trivial, hQ⟩, ht⟩) t_nil d_Md_hinders_295
                      · have hQ := hQ.2 c_73
                        refine lv_bipush (v := 7) hx hb d_Md_hinders_289 (by decide +kernel) ?_
                        refine lv_goto (tgt := 295) hx hb d_Md_hinders_291 (by decide) ?_
                        exact W.iret (v := 7) hx hb hr (fun t ht hW => ⟨7, rfl, ⟨trivial, hQ⟩, ht⟩) t_nil d_Md_hinders_295
                    · have hQ := hQ.2 c_62
                      refine lv_iconst (v := 1) hx hb d_Md_hinders_156 (by decide +kernel) ?_
                      refine lv_goto (tgt := 161) hx hb d_Md_hinders_157 (by decide) ?_
                      refine lv_icmp_eq (tgt := 168) hx hb d_Md_hinders_161 (by decide) (fun h => absurd h (by decide +kernel)) (fun _ => ?_)
                      refine lv_iconst (v := 1) hx hb d_Md_hinders_164 (by decide +kernel) ?_
                      refine lv_goto (tgt := 169) hx hb d_Md_hinders_165 (by decide) ?_
                      refine lv_istore (lv' := [(6, .int 1), (5, .int r_33), (4, .int x_19), (0, .ref q0), (1, .int p_0), (2, .int p_1), (3, .int p_2)]) hx hb d_Md_hinders_169 hl (by decide) rfl (fun ls hl => ?_)
                      refine lv_aload_n hx hb d_Md_hinders_171 rfl (lv_at hl 3 rfl) ?_
                      refine lv_aload_n hx hb d_Md_hinders_172 rfl (lv_at hl 3 rfl) ?_
                      refine vp_callSi (va_Run.run (va_runV (As := []) (rest := [.ref q0]) ⟨hx, hb, hml, hown, htb⟩ (c_Md_today_w l dC dI ct L f hO_0 q0 m0 _ hQ) (cwV 0 htb (gd_V tw_113 tw_114 tw_115 tw_89 tw_112) rfl rfl rfl (by decide +kernel) ⟨Nat.le_of_ble_eq_true rfl, Nat.le_of_ble_eq_true rfl⟩) ⟨pr_blind, tw_recv hK hP m0 rfl rfl, pr_pre hP hK hN⟩ rfl rfl hl.1 rfl (lv_room (Nat.le_of_ble_eq_true rfl)) d_Md_hinders_173 ⟨Nat.le_of_ble_eq_true rfl, Nat.le_of_ble_eq_true rfl⟩)) (fun r_74 er_74 => ?_)
                      obtain ⟨er_74, hQ⟩ := er_74
                      obtain ⟨po_75, po_76, po_77, po_78, -⟩ := er_74
                      refine lv_aload_n hx hb d_Md_hinders_176 rfl (lv_at hl 3 rfl) ?_
                      refine vp_callSi (va_Run.run (va_runV (As := []) (rest := [.int r_74, .ref q0]) ⟨hx, hb, hml, hown, htb⟩ (c_Md_hourNow_w l dC dI ct L f hO_0 q0 m0 _ hQ) (cwV 0 htb (gd_V tw_580 tw_581 tw_582 tw_89 tw_579) rfl rfl rfl (by decide +kernel) ⟨Nat.le_of_ble_eq_true rfl, Nat.le_of_ble_eq_true rfl⟩) ⟨pr_blind, tw_recv hK hP m0 rfl rfl, pr_pre hP hK hN⟩ rfl rfl hl.1 rfl (lv_room (Nat.le_of_ble_eq_true rfl)) d_Md_hinders_177 ⟨Nat.le_of_ble_eq_true rfl, Nat.le_of_ble_eq_true rfl⟩)) (fun r_79 er_79 => ?_)
                      obtain ⟨er_79, hQ⟩ := er_79
                      obtain ⟨po_80, po_81, -⟩ := er_79
                      refine vp_callSi (va_Run.run (va_runV (As := [.int r_74, .int r_79]) (rest := []) ⟨hx, hb, hml, hown, htb⟩ (c_Md_flowOf_w l dC dI ct L f hO_0 q0 m0 r_74 r_79 po_75 po_76 po_80 po_81 _ hQ) (cwV 2 htb (gd_V tw_164 tw_165 tw_166 tw_89 tw_163) rfl rfl rfl (by decide +kernel) ⟨Nat.le_of_ble_eq_true rfl, Nat.le_of_ble_eq_true rfl⟩) ⟨pr_blind, tw_recv hK hP m0 rfl rfl, pr_pre hP hK hN⟩ rfl rfl hl.1 rfl (lv_room (Nat.le_of_ble_eq_true rfl)) d_Md_hinders_180 ⟨Nat.le_of_ble_eq_true rfl, Nat.le_of_ble_eq_true rfl⟩)) (fun r_82 er_82 => ?_)
                      obtain ⟨er_82, hQ⟩ := er_82
                      clear er_82
                      refine lv_istore (lv' := [(7, .int r_82), (6, .int 1), (5, .int r_33), (4, .int x_19), (0, .ref q0), (1, .int p_0), (2, .int p_1), (3, .int p_2)]) hx hb d_Md_hinders_183 hl (by decide) rfl (fun ls hl => ?_)
                      refine lv_iload hx hb d_Md_hinders_185 (lv_at hl 1 rfl) ?_
                      refine lv_if_eq (tgt := 229) hx hb d_Md_hinders_187 (by decide) (fun h => absurd h (by decide +kernel)) (fun _ => ?_)
                      refine lv_aload_n hx hb d_Md_hinders_190 rfl (lv_at hl 4 rfl) ?_
                      refine lv_iload hx hb d_Md_hinders_191 (lv_at hl 2 rfl) ?_
                      refine lv_bipush (v := 16) hx hb d_Md_hinders_193 (by decide +kernel) ?_
                      refine vp_callSi (va_Run.run (va_runV (As := [.int r_33, .int 16]) (rest := []) ⟨hx, hb, hml, hown, htb⟩ (c_Md_lineOf_w l dC dI ct L f hO_0 q0 m0 r_33 (16 : Int32) po_34 po_35 (by decide +kernel) (by decide +kernel) _ hQ) (cwV 2 htb (gd_V tw_443 tw_444 tw_445 tw_89 tw_442) rfl rfl rfl (by decide +kernel) ⟨Nat.le_of_ble_eq_true rfl, Nat.le_of_ble_eq_true rfl⟩) ⟨pr_blind, tw_recv hK hP m0 rfl rfl, pr_pre hP hK hN⟩ rfl rfl hl.1 rfl (lv_room (Nat.le_of_ble_eq_true rfl)) d_Md_hinders_195 ⟨Nat.le_of_ble_eq_true rfl, Nat.le_of_ble_eq_true rfl⟩)) (fun r_83 er_83 => ?_)
                      obtain ⟨er_83, hQ⟩ := er_83
                      clear er_83
                      refine lv_if_lt (tgt := 229) hx hb d_Md_hinders_198 (by decide) (fun c_84 => ?_) (fun c_84 => ?_)
                      · have hQ := hQ.1 c_84
                        refine lv_iload hx hb d_Md_hinders_229 (lv_at hl 1 rfl) ?_
                        refine lv_if_eq (tgt := 272) hx hb d_Md_hinders_231 (by decide) (fun h => absurd h (by decide +kernel)) (fun _ => ?_)
                        refine lv_aload_n hx hb d_Md_hinders_234 rfl (lv_at hl 4 rfl) ?_
                        refine lv_iload hx hb d_Md_hinders_235 (lv_at hl 2 rfl) ?_
                        refine lv_bipush (v := 17) hx hb d_Md_hinders_237 (by decide +kernel) ?_
                        refine vp_callSi (va_Run.run (va_runV (As := [.int r_33, .int 17]) (rest := []) ⟨hx, hb, hml, hown, htb⟩ (c_Md_lineOf_w l dC dI ct L f hO_0 q0 m0 r_33 (17 : Int32) po_34 po_35 (by decide +kernel) (by decide +kernel) _ hQ) (cwV 2 htb (gd_V tw_443 tw_444 tw_445 tw_89 tw_442) rfl rfl rfl (by decide +kernel) ⟨Nat.le_of_ble_eq_true rfl, Nat.le_of_ble_eq_true rfl⟩) ⟨pr_blind, tw_recv hK hP m0 rfl rfl, pr_pre hP hK hN⟩ rfl rfl hl.1 rfl (lv_room (Nat.le_of_ble_eq_true rfl)) d_Md_hinders_239 ⟨Nat.le_of_ble_eq_true rfl, Nat.le_of_ble_eq_true rfl⟩)) (fun r_85 er_85 => ?_)
                        obtain ⟨er_85, hQ⟩ := er_85
                        clear er_85
                        refine lv_if_lt (tgt := 272) hx hb d_Md_hinders_242 (by decide) (fun c_86 => ?_) (fun c_86 => ?_)
                        · have hQ := hQ.1 c_86
                          refine lv_aload_n hx hb d_Md_hinders_272 rfl (lv_at hl 4 rfl) ?_
                          refine tw_getI (x := (ti f q0 1)) (D := (dC, dI)) (C := R_Md) (T := F_Md) (N := 64) (ci := 7) (kd := 27) (ct := ct) hx hb htb i_Md hown hK hP m0 rfl rfl 1 rfl (by decide) (htb (.fieldLink R_Md 7 "WaterMenModel" "time" "I") tw_111) (fun _ h9 => h9) rfl d_Md_hinders_273 ?_
                          refine lv_aload_n hx hb d_Md_hinders_276 rfl (lv_at hl 4 rfl) ?_
                          refine lv_iload_n hx hb d_Md_hinders_277 rfl (lv_at hl 5 rfl) ?_
                          refine lv_iload_n hx hb d_Md_hinders_278 rfl (lv_at hl 7 rfl) ?_
                          refine vp_callSi (va_Run.run (va_runV (As := [.int p_0, .int p_2]) (rest := [.int (ti f q0 1)]) ⟨hx, hb, hml, hown, htb⟩ (c_Md_minutesOf_w l dC dI ct L f hO_0 q0 m0 p_0 p_2 as_0 as_1 as_4 as_5 _ hQ) (cwV 2 htb (gd_V tw_584 tw_585 tw_586 tw_89 tw_583) rfl rfl rfl (by decide +kernel) ⟨Nat.le_of_ble_eq_true rfl, Nat.le_of_ble_eq_true rfl⟩) ⟨pr_blind, tw_recv hK hP m0 rfl rfl, pr_pre hP hK hN⟩ rfl rfl hl.1 rfl (lv_room (Nat.le_of_ble_eq_true rfl)) d_Md_hinders_279 ⟨Nat.le_of_ble_eq_true rfl, Nat.le_of_ble_eq_true rfl⟩)) (fun r_87 er_87 => ?_)
                          obtain ⟨er_87, hQ⟩ := er_87
                          clear er_87
                          refine lv_iadd hx hb d_Md_hinders_282 ?_
                          refine lv_ldcw (v := 359999) hx hb hown (htb (.constant R_Md 305 359999) tw_226) d_Md_hinders_283 ?_
                          refine lv_icmp_le (tgt := 294) hx hb d_Md_hinders_286 (by decide) (fun c_88 => ?_) (fun c_88 => ?_)
                          · have hQ := hQ.1 c_88
                            refine lv_iconst (v := 0) hx hb d_Md_hinders_294 (by decide +kernel) ?_
                            exact W.iret (v := 0) hx hb hr (fun t ht hW => ⟨0, rfl, ⟨trivial, hQ⟩, ht⟩) t_nil d_Md_hinders_295
                          · have hQ := hQ.2 c_88
                            refine lv_bipush (v := 7) hx hb d_Md_hinders_289 (by decide +kernel) ?_
                            refine lv_goto (tgt := 295) hx hb d_Md_hinders_291 (by decide) ?_
                            exact W.iret (v := 7) hx hb hr (fun t ht hW => ⟨7, rfl, ⟨trivial, hQ⟩, ht⟩) t_nil d_Md_hinders_295
                        · have hQ := hQ.2 c_86
                          refine lv_iload hx hb d_Md_hinders_245 (lv_at hl 0 rfl) ?_
                          refine lv_if_ge (tgt := 256) hx hb d_Md_hinders_247 (by decide) (fun c_89 => ?_) (fun c_89 => ?_)
                          · have hQ := hQ.1 c_89
                            refine lv_iload hx hb d_Md_hinders_256 (lv_at hl 0 rfl) ?_
                            refine lv_aload_n hx hb d_Md_hinders_258 rfl (lv_at hl 4 rfl) ?_
                            refine lv_iload hx hb d_Md_hinders_259 (lv_at hl 2 rfl) ?_
                            refine lv_bipush (v := 17) hx hb d_Md_hinders_261 (by decide +kernel) ?_
                            refine vp_callSi (va_Run.run (va_runV (As := [.int r_33, .int 17]) (rest := [.int r_82]) ⟨hx, hb, hml, hown, htb⟩ (c_Md_lineOf_w l dC dI ct L f hO_0 q0 m0 r_33 (17 : Int32) po_34 po_35 (by decide +kernel) (by decide +kernel) _ hQ) (cwV 2 htb (gd_V tw_443 tw_444 tw_445 tw_89 tw_442) rfl rfl rfl (by decide +kernel) ⟨Nat.le_of_ble_eq_true rfl, Nat.le_of_ble_eq_true rfl⟩) ⟨pr_blind, tw_recv hK hP m0 rfl rfl, pr_pre hP hK hN⟩ rfl rfl hl.1 rfl (lv_room (Nat.le_of_ble_eq_true rfl)) d_Md_hinders_263 ⟨Nat.le_of_ble_eq_true rfl, Nat.le_of_ble_eq_true rfl⟩)) (fun r_90 er_90 => ?_)
                            obtain ⟨er_90, hQ⟩ := er_90
                            clear er_90
                            refine lv_icmp_le (tgt := 272) hx hb d_Md_hinders_266 (by decide) (fun c_91 => ?_) (fun c_91 => ?_)
                            · have hQ := hQ.1 c_91
                              refine lv_aload_n hx hb d_Md_hinders_272 rfl (lv_at hl 4 rfl) ?_
                              refine tw_getI (x := (ti f q0 1)) (D := (dC, dI)) (C := R_Md) (T := F_Md) (N := 64) (ci := 7) (kd := 27) (ct := ct) hx hb htb i_Md hown hK hP m0 rfl rfl 1 rfl (by decide) (htb (.fieldLink R_Md 7 "WaterMenModel" "time" "I") tw_111) (fun _ h9 => h9) rfl d_Md_hinders_273 ?_
                              refine lv_aload_n hx hb d_Md_hinders_276 rfl (lv_at hl 4 rfl) ?_
                              refine lv_iload_n hx hb d_Md_hinders_277 rfl (lv_at hl 5 rfl) ?_
                              refine lv_iload_n hx hb d_Md_hinders_278 rfl (lv_at hl 7 rfl) ?_
                              refine vp_callSi (va_Run.run (va_runV (As := [.int p_0, .int p_2]) (rest := [.int (ti f q0 1)]) ⟨hx, hb, hml, hown, htb⟩ (c_Md_minutesOf_w l dC dI ct L f hO_0 q0 m0 p_0 p_2 as_0 as_1 as_4 as_5 _ hQ) (cwV 2 htb (gd_V tw_584 tw_585 tw_586 tw_89 tw_583) rfl rfl rfl (by decide +kernel) ⟨Nat.le_of_ble_eq_true rfl, Nat.le_of_ble_eq_true rfl⟩) ⟨pr_blind, tw_recv hK hP m0 rfl rfl, pr_pre hP hK hN⟩ rfl rfl hl.1 rfl (lv_room (Nat.le_of_ble_eq_true rfl)) d_Md_hinders_279 ⟨Nat.le_of_ble_eq_true rfl, Nat.le_of_ble_eq_true rfl⟩)) (fun r_92 er_92 => ?_)
                              obtain ⟨er_92, hQ⟩ := er_92
                              clear er_92
                              refine lv_iadd hx hb d_Md_hinders_282 ?_
                              refine lv_ldcw (v := 359999) hx hb hown (htb (.constant R_Md 305 359999) tw_226) d_Md_hinders_283 ?_
                              refine lv_icmp_le (tgt := 294) hx hb d_Md_hinders_286 (by decide) (fun c_93 => ?_) (fun c_93 => ?_)
                              · have hQ := hQ.1 c_93
                                refine lv_iconst (v := 0) hx hb d_Md_hinders_294 (by decide +kernel) ?_
                                exact W.iret (v := 0) hx hb hr (fun t ht hW => ⟨0, rfl, ⟨trivial, hQ⟩, ht⟩) t_nil d_Md_hinders_295
                              · have hQ := hQ.2 c_93
                                refine lv_bipush (v := 7) hx hb d_Md_hinders_289 (by decide +kernel) ?_
                                refine lv_goto (tgt := 295) hx hb d_Md_hinders_291 (by decide) ?_
                                exact W.iret (v := 7) hx hb hr (fun t ht hW => ⟨7, rfl, ⟨trivial, hQ⟩, ht⟩) t_nil d_Md_hinders_295
                            · have hQ := hQ.2 c_91
                              refine lv_bipush (v := 6) hx hb d_Md_hinders_269 (by decide +kernel) ?_
                              exact W.iret (v := 6) hx hb hr (fun t ht hW => ⟨6, rfl, ⟨trivial, hQ⟩, ht⟩) t_nil d_Md_hinders_271
                          · have hQ := hQ.2 c_89
                            refine lv_iload hx hb d_Md_hinders_250 (lv_at hl 0 rfl) ?_
                            refine lv_ineg hx hb d_Md_hinders_252 ?_
                            refine lv_goto (tgt := 258) hx hb d_Md_hinders_253 (by decide) ?_
                            refine lv_aload_n hx hb d_Md_hinders_258 rfl (lv_at hl 4 rfl) ?_
                            refine lv_iload hx hb d_Md_hinders_259 (lv_at hl 2 rfl) ?_
                            refine lv_bipush (v := 17) hx hb d_Md_hinders_261 (by decide +kernel) ?_
                            refine vp_callSi (va_Run.run (va_runV (As := [.int r_33, .int 17]) (rest := [.int (-r_82)]) ⟨hx, hb, hml, hown, htb⟩ (c_Md_lineOf_w l dC dI ct L f hO_0 q0 m0 r_33 (17 : Int32) po_34 po_35 (by decide +kernel) (by decide +kernel) _ hQ) (cwV 2 htb (gd_V tw_443 tw_444 tw_445 tw_89 tw_442) rfl rfl rfl (by decide +kernel) ⟨Nat.le_of_ble_eq_true rfl, Nat.le_of_ble_eq_true rfl⟩) ⟨pr_blind, tw_recv hK hP m0 rfl rfl, pr_pre hP hK hN⟩ rfl rfl hl.1 rfl (lv_room (Nat.le_of_ble_eq_true rfl)) d_Md_hinders_263 ⟨Nat.le_of_ble_eq_true rfl, Nat.le_of_ble_eq_true rfl⟩)) (fun r_94 er_94 => ?_)
                            obtain ⟨er_94, hQ⟩ := er_94
                            clear er_94
                            refine lv_icmp_le (tgt := 272) hx hb d_Md_hinders_266 (by decide) (fun c_95 => ?_) (fun c_95 => ?_)
                            · have hQ := hQ.1 c_95
                              refine lv_aload_n hx hb d_Md_hinders_272 rfl (lv_at hl 4 rfl) ?_
                              refine tw_getI (x := (ti f q0 1)) (D := (dC, dI)) (C := R_Md) (T := F_Md) (N := 64) (ci := 7) (kd := 27) (ct := ct) hx hb htb i_Md hown hK hP m0 rfl rfl 1 rfl (by decide) (htb (.fieldLink R_Md 7 "WaterMenModel" "time" "I") tw_111) (fun _ h9 => h9) rfl d_Md_hinders_273 ?_
                              refine lv_aload_n hx hb d_Md_hinders_276 rfl (lv_at hl 4 rfl) ?_
                              refine lv_iload_n hx hb d_Md_hinders_277 rfl (lv_at hl 5 rfl) ?_
                              refine lv_iload_n hx hb d_Md_hinders_278 rfl (lv_at hl 7 rfl) ?_
                              refine vp_callSi (va_Run.run (va_runV (As := [.int p_0, .int p_2]) (rest := [.int (ti f q0 1)]) ⟨hx, hb, hml, hown, htb⟩ (c_Md_minutesOf_w l dC dI ct L f hO_0 q0 m0 p_0 p_2 as_0 as_1 as_4 as_5 _ hQ) (cwV 2 htb (gd_V tw_584 tw_585 tw_586 tw_89 tw_583) rfl rfl rfl (by decide +kernel) ⟨Nat.le_of_ble_eq_true rfl, Nat.le_of_ble_eq_true rfl⟩) ⟨pr_blind, tw_recv hK hP m0 rfl rfl, pr_pre hP hK hN⟩ rfl rfl hl.1 rfl (lv_room (Nat.le_of_ble_eq_true rfl)) d_Md_hinders_279 ⟨Nat.le_of_ble_eq_true rfl, Nat.le_of_ble_eq_true rfl⟩)) (fun r_96 er_96 => ?_)
                              obtain ⟨er_96, hQ⟩ := er_96
                              clear er_96
                              refine lv_iadd hx hb d_Md_hinders_282 ?_
                              refine lv_ldcw (v := 359999) hx hb hown (htb (.constant R_Md 305 359999) tw_226) d_Md_hinders_283 ?_
                              refine lv_icmp_le (tgt := 294) hx hb d_Md_hinders_286 (by decide) (fun c_97 => ?_) (fun c_97 => ?_)
                              · have hQ := hQ.1 c_97
                                refine lv_iconst (v := 0) hx hb d_Md_hinders_294 (by decide +kernel) ?_
                                exact W.iret (v := 0) hx hb hr (fun t ht hW => ⟨0, rfl, ⟨trivial, hQ⟩, ht⟩) t_nil d_Md_hinders_295
                              · have hQ := hQ.2 c_97
                                refine lv_bipush (v := 7) hx hb d_Md_hinders_289 (by decide +kernel) ?_
                                refine lv_goto (tgt := 295) hx hb d_Md_hinders_291 (by decide) ?_
                                exact W.iret (v := 7) hx hb hr (fun t ht hW => ⟨7, rfl, ⟨trivial, hQ⟩, ht⟩) t_nil d_Md_hinders_295
                            · have hQ := hQ.2 c_95
                              refine lv_bipush (v := 6) hx hb d_Md_hinders_269 (by decide +kernel) ?_
                              exact W.iret (v := 6) hx hb hr (fun t ht hW => ⟨6, rfl, ⟨trivial, hQ⟩, ht⟩) t_nil d_Md_hinders_271
                      · have hQ := hQ.2 c_84
                        refine lv_aload_n hx hb d_Md_hinders_201 rfl (lv_at hl 4 rfl) ?_
                        refine vp_callSi (va_Run.run (va_runV (As := []) (rest := []) ⟨hx, hb, hml, hown, htb⟩ (c_Md_hourNow_w l dC dI ct L f hO_0 q0 m0 _ hQ) (cwV 0 htb (gd_V tw_580 tw_581 tw_582 tw_89 tw_579) rfl rfl rfl (by decide +kernel) ⟨Nat.le_of_ble_eq_true rfl, Nat.le_of_ble_eq_true rfl⟩) ⟨pr_blind, tw_recv hK hP m0 rfl rfl, pr_pre hP hK hN⟩ rfl rfl hl.1 rfl (lv_room (Nat.le_of_ble_eq_true rfl)) d_Md_hinders_202 ⟨Nat.le_of_ble_eq_true rfl, Nat.le_of_ble_eq_true rfl⟩)) (fun r_98 er_98 => ?_)
                        obtain ⟨er_98, hQ⟩ := er_98
                        obtain ⟨po_99, po_100, -⟩ := er_98
                        refine lv_aload_n hx hb d_Md_hinders_205 rfl (lv_at hl 4 rfl) ?_
                        refine lv_iload hx hb d_Md_hinders_206 (lv_at hl 2 rfl) ?_
                        refine lv_bipush (v := 16) hx hb d_Md_hinders_208 (by decide +kernel) ?_
                        refine vp_callSi (va_Run.run (va_runV (As := [.int r_33, .int 16]) (rest := [.int r_98]) ⟨hx, hb, hml, hown, htb⟩ (c_Md_lineOf_w l dC dI ct L f hO_0 q0 m0 r_33 (16 : Int32) po_34 po_35 (by decide +kernel) (by decide +kernel) _ hQ) (cwV 2 htb (gd_V tw_443 tw_444 tw_445 tw_89 tw_442) rfl rfl rfl (by decide +kernel) ⟨Nat.le_of_ble_eq_true rfl, Nat.le_of_ble_eq_true rfl⟩) ⟨pr_blind, tw_recv hK hP m0 rfl rfl, pr_pre hP hK hN⟩ rfl rfl hl.1 rfl (lv_room (Nat.le_of_ble_eq_true rfl)) d_Md_hinders_210 ⟨Nat.le_of_ble_eq_true rfl, Nat.le_of_ble_eq_true rfl⟩)) (fun r_101 er_101 => ?_)
                        obtain ⟨er_101, hQ⟩ := er_101
                        clear er_101
                        refine lv_aload_n hx hb d_Md_hinders_213 rfl (lv_at hl 4 rfl) ?_
                        refine tw_getr (D := (dC, dI)) (C := R_Md) (T := F_Md) (N := 64) (ci := 7) (kd := 27) (ct := ct) hx hb htb i_Md hown hK hP hO_0 m0 rfl rfl 41 (by decide) (htb (.fieldLink R_Md 146 "WaterMenModel" "singleTo" "[I") tw_374) (fun _ h9 => h9) rfl d_Md_hinders_214 (fun q_102 e_102 m_102 => ?_)
                        have hQ := hQ q_102 e_102
                        refine lv_iload hx hb d_Md_hinders_217 (lv_at hl 2 rfl) ?_
                        refine tw_aldI (ct := ct) hx hb hK hP hO_0 m_102 rfl (hb_inl po_34 po_35 (by decide +kernel)) d_Md_hinders_219 (fun x_103 e_103 b_103 => ?_)
                        have hQ := hQ x_103 e_103
                        refine vp_callSi (va_Run.run (va_runS (As := [.int r_98, .int r_101, .int x_103]) (rest := []) ⟨hx, hb, hml, hown, htb⟩ (c_Md_in l r_98 r_101 x_103) (cwS 3 htb (gd_S tw_90 tw_91 tw_89 tw_88) rfl rfl rfl (by decide +kernel) ⟨Nat.le_of_ble_eq_true rfl, Nat.le_of_ble_eq_true rfl⟩) ⟨fun _ _ _ _ h => h, fun U _ _ => ⟨rfl, trivial⟩⟩ rfl rfl hl.1 rfl (lv_room (Nat.le_of_ble_eq_true rfl)) d_Md_hinders_220 ⟨Nat.le_of_ble_eq_true rfl, Nat.le_of_ble_eq_true rfl⟩)) (fun r er => ?_)
                        subst er
                        by_cases c_105 : r_98 < r_101
                        · have hQ := hQ.1 c_105
                          refine hb_ti 0 (by unfold f_Md_in; rw [if_pos c_105]; first | done | rfl) ?_
                          refine lv_if_ne (tgt := 229) hx hb d_Md_hinders_223 (by decide) (fun h => absurd (by decide +kernel) h) (fun _ => ?_)
                          refine lv_bipush (v := 6) hx hb d_Md_hinders_226 (by decide +kernel) ?_
                          exact W.iret (v := 6) hx hb hr (fun t ht hW => ⟨6, rfl, ⟨trivial, hQ⟩, ht⟩) t_nil d_Md_hinders_228
                        · have hQ := hQ.2 c_105
                          by_cases c_106 : x_103 < r_98
                          · have hQ := hQ.1 c_106
                            refine hb_ti 0 (by unfold f_Md_in; rw [if_neg c_105, if_pos c_106]; first | done | rfl) ?_
                            refine lv_if_ne (tgt := 229) hx hb d_Md_hinders_223 (by decide) (fun h => absurd (by decide +kernel) h) (fun _ => ?_)
                            refine lv_bipush (v := 6) hx hb d_Md_hinders_226 (by decide +kernel) ?_
                            exact W.iret (v := 6) hx hb hr (fun t ht hW => ⟨6, rfl, ⟨trivial, hQ⟩, ht⟩) t_nil d_Md_hinders_228
                          · have hQ := hQ.2 c_106
                            refine hb_ti 1 (by unfold f_Md_in; rw [if_neg c_105, if_neg c_106]; first | done | rfl) ?_
                            refine lv_if_ne (tgt := 229) hx hb d_Md_hinders_223 (by decide) (fun _ => ?_) (fun h => absurd h (by decide +kernel))
                            refine lv_iload hx hb d_Md_hinders_229 (lv_at hl 1 rfl) ?_
                            refine lv_if_eq (tgt := 272) hx hb d_Md_hinders_231 (by decide) (fun h => absurd h (by decide +kernel)) (fun _ => ?_)
                            refine lv_aload_n hx hb d_Md_hinders_234 rfl (lv_at hl 4 rfl) ?_
                            refine lv_iload hx hb d_Md_hinders_235 (lv_at hl 2 rfl) ?_
                            refine lv_bipush (v := 17) hx hb d_Md_hinders_237 (by decide +kernel) ?_
                            refine vp_callSi (va_Run.run (va_runV (As := [.int r_33, .int 17]) (rest := []) ⟨hx, hb, hml, hown, htb⟩ (c_Md_lineOf_w l dC dI ct L f hO_0 q0 m0 r_33 (17 : Int32) po_34 po_35 (by decide +kernel) (by decide +kernel) _ hQ) (cwV 2 htb (gd_V tw_443 tw_444 tw_445 tw_89 tw_442) rfl rfl rfl (by decide +kernel) ⟨Nat.le_of_ble_eq_true rfl, Nat.le_of_ble_eq_true rfl⟩) ⟨pr_blind, tw_recv hK hP m0 rfl rfl, pr_pre hP hK hN⟩ rfl rfl hl.1 rfl (lv_room (Nat.le_of_ble_eq_true rfl)) d_Md_hinders_239 ⟨Nat.le_of_ble_eq_true rfl, Nat.le_of_ble_eq_true rfl⟩)) (fun r_107 er_107 => ?_)
                            obtain ⟨er_107, hQ⟩ := er_107
                            clear er_107
                            refine lv_if_lt (tgt := 272) hx hb d_Md_hinders_242 (by decide) (fun c_108 => ?_) (fun c_108 => ?_)
                            · have hQ := hQ.1 c_108
                              refine lv_aload_n hx hb d_Md_hinders_272 rfl (lv_at hl 4 rfl) ?_
                              refine tw_getI (x := (ti f q0 1)) (D := (dC, dI)) (C := R_Md) (T := F_Md) (N := 64) (ci := 7) (kd := 27) (ct := ct) hx hb htb i_Md hown hK hP m0 rfl rfl 1 rfl (by decide) (htb (.fieldLink R_Md 7 "WaterMenModel" "time" "I") tw_111) (fun _ h9 => h9) rfl d_Md_hinders_273 ?_
                              refine lv_aload_n hx hb d_Md_hinders_276 rfl (lv_at hl 4 rfl) ?_
                              refine lv_iload_n hx hb d_Md_hinders_277 rfl (lv_at hl 5 rfl) ?_
                              refine lv_iload_n hx hb d_Md_hinders_278 rfl (lv_at hl 7 rfl) ?_
                              refine vp_callSi (va_Run.run (va_runV (As := [.int p_0, .int p_2]) (rest := [.int (ti f q0 1)]) ⟨hx, hb, hml, hown, htb⟩ (c_Md_minutesOf_w l dC dI ct L f hO_0 q0 m0 p_0 p_2 as_0 as_1 as_4 as_5 _ hQ) (cwV 2 htb (gd_V tw_584 tw_585 tw_586 tw_89 tw_583) rfl rfl rfl (by decide +kernel) ⟨Nat.le_of_ble_eq_true rfl, Nat.le_of_ble_eq_true rfl⟩) ⟨pr_blind, tw_recv hK hP m0 rfl rfl, pr_pre hP hK hN⟩ rfl rfl hl.1 rfl (lv_room (Nat.le_of_ble_eq_true rfl)) d_Md_hinders_279 ⟨Nat.le_of_ble_eq_true rfl, Nat.le_of_ble_eq_true rfl⟩)) (fun r_109 er_109 => ?_)
                              obtain ⟨er_109, hQ⟩ := er_109
                              clear er_109
                              refine lv_iadd hx hb d_Md_hinders_282 ?_
                              refine lv_ldcw (v := 359999) hx hb hown (htb (.constant R_Md 305 359999) tw_226) d_Md_hinders_283 ?_
                              refine lv_icmp_le (tgt := 294) hx hb d_Md_hinders_286 (by decide) (fun c_110 => ?_) (fun c_110 => ?_)
                              · have hQ := hQ.1 c_110
                                refine lv_iconst (v := 0) hx hb d_Md_hinders_294 (by decide +kernel) ?_
                                exact W.iret (v := 0) hx hb hr (fun t ht hW => ⟨0, rfl, ⟨trivial, hQ⟩, ht⟩) t_nil d_Md_hinders_295
                              · have hQ := hQ.2 c_110
                                refine lv_bipush (v := 7) hx hb d_Md_hinders_289 (by decide +kernel) ?_
                                refine lv_goto (tgt := 295) hx hb d_Md_hinders_291 (by decide) ?_
                                exact W.iret (v := 7) hx hb hr (fun t ht hW => ⟨7, rfl, ⟨trivial, hQ⟩, ht⟩) t_nil d_Md_hinders_295
                            · have hQ := hQ.2 c_108
                              refine lv_iload hx hb d_Md_hinders_245 (lv_at hl 0 rfl) ?_
                              refine lv_if_ge (tgt := 256) hx hb d_Md_hinders_247 (by decide) (fun c_111 => ?_) (fun c_111 => ?_)
                              · have hQ := hQ.1 c_111
                                refine lv_iload hx hb d_Md_hinders_256 (lv_at hl 0 rfl) ?_
                                refine lv_aload_n hx hb d_Md_hinders_258 rfl (lv_at hl 4 rfl) ?_
                                refine lv_iload hx hb d_Md_hinders_259 (lv_at hl 2 rfl) ?_
                                refine lv_bipush (v := 17) hx hb d_Md_hinders_261 (by decide +kernel) ?_
                                refine vp_callSi (va_Run.run (va_runV (As := [.int r_33, .int 17]) (rest := [.int r_82]) ⟨hx, hb, hml, hown, htb⟩ (c_Md_lineOf_w l dC dI ct L f hO_0 q0 m0 r_33 (17 : Int32) po_34 po_35 (by decide +kernel) (by decide +kernel) _ hQ) (cwV 2 htb (gd_V tw_443 tw_444 tw_445 tw_89 tw_442) rfl rfl rfl (by decide +kernel) ⟨Nat.le_of_ble_eq_true rfl, Nat.le_of_ble_eq_true rfl⟩) ⟨pr_blind, tw_recv hK hP m0 rfl rfl, pr_pre hP hK hN⟩ rfl rfl hl.1 rfl (lv_room (Nat.le_of_ble_eq_true rfl)) d_Md_hinders_263 ⟨Nat.le_of_ble_eq_true rfl, Nat.le_of_ble_eq_true rfl⟩)) (fun r_112 er_112 => ?_)
                                obtain ⟨er_112, hQ⟩ := er_112
                                clear er_112
                                refine lv_icmp_le (tgt := 272) hx hb d_Md_hinders_266 (by decide) (fun c_113 => ?_) (fun c_113 => ?_)
                                · have hQ := hQ.1 c_113
                                  refine lv_aload_n hx hb d_Md_hinders_272 rfl (lv_at hl 4 rfl) ?_
                                  refine tw_getI (x := (ti f q0 1)) (D := (dC, dI)) (C := R_Md) (T := F_Md) (N := 64) (ci := 7) (kd := 27) (ct := ct) hx hb htb i_Md hown hK hP m0 rfl rfl 1 rfl (by decide) (htb (.fieldLink R_Md 7 "WaterMenModel" "time" "I") tw_111) (fun _ h9 => h9) rfl d_Md_hinders_273 ?_
                                  refine lv_aload_n hx hb d_Md_hinders_276 rfl (lv_at hl 4 rfl) ?_
                                  refine lv_iload_n hx hb d_Md_hinders_277 rfl (lv_at hl 5 rfl) ?_
                                  refine lv_iload_n hx hb d_Md_hinders_278 rfl (lv_at hl 7 rfl) ?_
                                  refine vp_callSi (va_Run.run (va_runV (As := [.int p_0, .int p_2]) (rest := [.int (ti f q0 1)]) ⟨hx, hb, hml, hown, htb⟩ (c_Md_minutesOf_w l dC dI ct L f hO_0 q0 m0 p_0 p_2 as_0 as_1 as_4 as_5 _ hQ) (cwV 2 htb (gd_V tw_584 tw_585 tw_586 tw_89 tw_583) rfl rfl rfl (by decide +kernel) ⟨Nat.le_of_ble_eq_true rfl, Nat.le_of_ble_eq_true rfl⟩) ⟨pr_blind, tw_recv hK hP m0 rfl rfl, pr_pre hP hK hN⟩ rfl rfl hl.1 rfl (lv_room (Nat.le_of_ble_eq_true rfl)) d_Md_hinders_279 ⟨Nat.le_of_ble_eq_true rfl, Nat.le_of_ble_eq_true rfl⟩)) (fun r_114 er_114 => ?_)
                                  obtain ⟨er_114, hQ⟩ := er_114
                                  clear er_114
                                  refine lv_iadd hx hb d_Md_hinders_282 ?_
                                  refine lv_ldcw (v := 359999) hx hb hown (htb (.constant R_Md 305 359999) tw_226) d_Md_hinders_283 ?_
                                  refine lv_icmp_le (tgt := 294) hx hb d_Md_hinders_286 (by decide) (fun c_115 => ?_) (fun c_115 => ?_)
                                  · have hQ := hQ.1 c_115
                                    refine lv_iconst (v := 0) hx hb d_Md_hinders_294 (by decide +kernel) ?_
                                    exact W.iret (v := 0) hx hb hr (fun t ht hW => ⟨0, rfl, ⟨trivial, hQ⟩, ht⟩) t_nil d_Md_hinders_295
                                  · have hQ := hQ.2 c_115
                                    refine lv_bipush (v := 7) hx hb d_Md_hinders_289 (by decide +kernel) ?_
                                    refine lv_goto (tgt := 295) hx hb d_Md_hinders_291 (by decide) ?_
                                    exact W.iret (v := 7) hx hb hr (fun t ht hW => ⟨7, rfl, ⟨trivial, hQ⟩, ht⟩) t_nil d_Md_hinders_295
                                · have hQ := hQ.2 c_113
                                  refine lv_bipush (v := 6) hx hb d_Md_hinders_269 (by decide +kernel) ?_
                                  exact W.iret (v := 6) hx hb hr (fun t ht hW => ⟨6, rfl, ⟨trivial, hQ⟩, ht⟩) t_nil d_Md_hinders_271
                              · have hQ := hQ.2 c_111
                                refine lv_iload hx hb d_Md_hinders_250 (lv_at hl 0 rfl) ?_
                                refine lv_ineg hx hb d_Md_hinders_252 ?_
                                refine lv_goto (tgt := 258) hx hb d_Md_hinders_253 (by decide) ?_
                                refine lv_aload_n hx hb d_Md_hinders_258 rfl (lv_at hl 4 rfl) ?_
                                refine lv_iload hx hb d_Md_hinders_259 (lv_at hl 2 rfl) ?_
                                refine lv_bipush (v := 17) hx hb d_Md_hinders_261 (by decide +kernel) ?_
                                refine vp_callSi (va_Run.run (va_runV (As := [.int r_33, .int 17]) (rest := [.int (-r_82)]) ⟨hx, hb, hml, hown, htb⟩ (c_Md_lineOf_w l dC dI ct L f hO_0 q0 m0 r_33 (17 : Int32) po_34 po_35 (by decide +kernel) (by decide +kernel) _ hQ) (cwV 2 htb (gd_V tw_443 tw_444 tw_445 tw_89 tw_442) rfl rfl rfl (by decide +kernel) ⟨Nat.le_of_ble_eq_true rfl, Nat.le_of_ble_eq_true rfl⟩) ⟨pr_blind, tw_recv hK hP m0 rfl rfl, pr_pre hP hK hN⟩ rfl rfl hl.1 rfl (lv_room (Nat.le_of_ble_eq_true rfl)) d_Md_hinders_263 ⟨Nat.le_of_ble_eq_true rfl, Nat.le_of_ble_eq_true rfl⟩)) (fun r_116 er_116 => ?_)
                                obtain ⟨er_116, hQ⟩ := er_116
                                clear er_116
                                refine lv_icmp_le (tgt := 272) hx hb d_Md_hinders_266 (by decide) (fun c_117 => ?_) (fun c_117 => ?_)
                                · have hQ := hQ.1 c_117
                                  refine lv_aload_n hx hb d_Md_hinders_272 rfl (lv_at hl 4 rfl) ?_
                                  refine tw_getI (x := (ti f q0 1)) (D := (dC, dI)) (C := R_Md) (T := F_Md) (N := 64) (ci := 7) (kd := 27) (ct := ct) hx hb htb i_Md hown hK hP m0 rfl rfl 1 rfl (by decide) (htb (.fieldLink R_Md 7 "WaterMenModel" "time" "I") tw_111) (fun _ h9 => h9) rfl d_Md_hinders_273 ?_
                                  refine lv_aload_n hx hb d_Md_hinders_276 rfl (lv_at hl 4 rfl) ?_
                                  refine lv_iload_n hx hb d_Md_hinders_277 rfl (lv_at hl 5 rfl) ?_
                                  refine lv_iload_n hx hb d_Md_hinders_278 rfl (lv_at hl 7 rfl) ?_
                                  refine vp_callSi (va_Run.run (va_runV (As := [.int p_0, .int p_2]) (rest := [.int (ti f q0 1)]) ⟨hx, hb, hml, hown, htb⟩ (c_Md_minutesOf_w l dC dI ct L f hO_0 q0 m0 p_0 p_2 as_0 as_1 as_4 as_5 _ hQ) (cwV 2 htb (gd_V tw_584 tw_585 tw_586 tw_89 tw_583) rfl rfl rfl (by decide +kernel) ⟨Nat.le_of_ble_eq_true rfl, Nat.le_of_ble_eq_true rfl⟩) ⟨pr_blind, tw_recv hK hP m0 rfl rfl, pr_pre hP hK hN⟩ rfl rfl hl.1 rfl (lv_room (Nat.le_of_ble_eq_true rfl)) d_Md_hinders_279 ⟨Nat.le_of_ble_eq_true rfl, Nat.le_of_ble_eq_true rfl⟩)) (fun r_118 er_118 => ?_)
                                  obtain ⟨er_118, hQ⟩ := er_118
                                  clear er_118
                                  refine lv_iadd hx hb d_Md_hinders_282 ?_
                                  refine lv_ldcw (v := 359999) hx hb hown (htb (.constant R_Md 305 359999) tw_226) d_Md_hinders_283 ?_
                                  refine lv_icmp_le (tgt := 294) hx hb d_Md_hinders_286 (by decide) (fun c_119 => ?_) (fun c_119 => ?_)
                                  · have hQ := hQ.1 c_119
                                    refine lv_iconst (v := 0) hx hb d_Md_hinders_294 (by decide +kernel) ?_
                                    exact W.iret (v := 0) hx hb hr (fun t ht hW => ⟨0, rfl, ⟨trivial, hQ⟩, ht⟩) t_nil d_Md_hinders_295
                                  · have hQ := hQ.2 c_119
                                    refine lv_bipush (v := 7) hx hb d_Md_hinders_289 (by decide +kernel) ?_
                                    refine lv_goto (tgt := 295) hx hb d_Md_hinders_291 (by decide) ?_
                                    exact W.iret (v := 7) hx hb hr (fun t ht hW => ⟨7, rfl, ⟨trivial, hQ⟩, ht⟩) t_nil d_Md_hinders_295
                                · have hQ := hQ.2 c_117
                                  refine lv_bipush (v := 6) hx hb d_Md_hinders_269 (by decide +kernel) ?_
                                  exact W.iret (v := 6) hx hb hr (fun t ht hW => ⟨6, rfl, ⟨trivial, hQ⟩, ht⟩) t_nil d_Md_hinders_271
                  · have hQ := hQ.2 c_61
                    refine lv_iconst (v := 1) hx hb d_Md_hinders_143 (by decide +kernel) ?_
                    refine lv_goto (tgt := 148) hx hb d_Md_hinders_144 (by decide) ?_
                    refine lv_iload_n hx hb d_Md_hinders_148 rfl (lv_at hl 5 rfl) ?_
                    refine lv_aload_n hx hb d_Md_hinders_149 rfl (lv_at hl 2 rfl) ?_
                    refine tw_getI (x := x_48) (D := (dC, dI)) (C := R_Md) (T := F_Md) (N := 64) (ci := 7) (kd := 27) (ct := ct) hx hb htb i_Md hown hK hP m0 rfl rfl 4 e_48 (by decide) (htb (.fieldLink R_Md 35 "WaterMenModel" "bridge" "I") tw_206) (fun _ h9 => h9) rfl d_Md_hinders_150 ?_
                    refine lv_icmp_gt (tgt := 160) hx hb d_Md_hinders_153 (by decide) (fun c_120 => ?_) (fun c_120 => ?_)
                    · have hQ := hQ.1 c_120
                      refine lv_iconst (v := 0) hx hb d_Md_hinders_160 (by decide +kernel) ?_
                      refine lv_icmp_eq (tgt := 168) hx hb d_Md_hinders_161 (by decide) (fun h => absurd h (by decide +kernel)) (fun _ => ?_)
                      refine lv_iconst (v := 1) hx hb d_Md_hinders_164 (by decide +kernel) ?_
                      refine lv_goto (tgt := 169) hx hb d_Md_hinders_165 (by decide) ?_
                      refine lv_istore (lv' := [(6, .int 1), (5, .int r_33), (4, .int x_19), (0, .ref q0), (1, .int p_0), (2, .int p_1), (3, .int p_2)]) hx hb d_Md_hinders_169 hl (by decide) rfl (fun ls hl => ?_)
                      refine lv_aload_n hx hb d_Md_hinders_171 rfl (lv_at hl 3 rfl) ?_
                      refine lv_aload_n hx hb d_Md_hinders_172 rfl (lv_at hl 3 rfl) ?_
                      refine vp_callSi (va_Run.run (va_runV (As := []) (rest := [.ref q0]) ⟨hx, hb, hml, hown, htb⟩ (c_Md_today_w l dC dI ct L f hO_0 q0 m0 _ hQ) (cwV 0 htb (gd_V tw_113 tw_114 tw_115 tw_89 tw_112) rfl rfl rfl (by decide +kernel) ⟨Nat.le_of_ble_eq_true rfl, Nat.le_of_ble_eq_true rfl⟩) ⟨pr_blind, tw_recv hK hP m0 rfl rfl, pr_pre hP hK hN⟩ rfl rfl hl.1 rfl (lv_room (Nat.le_of_ble_eq_true rfl)) d_Md_hinders_173 ⟨Nat.le_of_ble_eq_true rfl, Nat.le_of_ble_eq_true rfl⟩)) (fun r_121 er_121 => ?_)
                      obtain ⟨er_121, hQ⟩ := er_121
                      obtain ⟨po_122, po_123, po_124, po_125, -⟩ := er_121
                      refine lv_aload_n hx hb d_Md_hinders_176 rfl (lv_at hl 3 rfl) ?_
                      refine vp_callSi (va_Run.run (va_runV (As := []) (rest := [.int r_121, .ref q0]) ⟨hx, hb, hml, hown, htb⟩ (c_Md_hourNow_w l dC dI ct L f hO_0 q0 m0 _ hQ) (cwV 0 htb (gd_V tw_580 tw_581 tw_582 tw_89 tw_579) rfl rfl rfl (by decide +kernel) ⟨Nat.le_of_ble_eq_true rfl, Nat.le_of_ble_eq_true rfl⟩) ⟨pr_blind, tw_recv hK hP m0 rfl rfl, pr_pre hP hK hN⟩ rfl rfl hl.1 rfl (lv_room (Nat.le_of_ble_eq_true rfl)) d_Md_hinders_177 ⟨Nat.le_of_ble_eq_true rfl, Nat.le_of_ble_eq_true rfl⟩)) (fun r_126 er_126 => ?_)
                      obtain ⟨er_126, hQ⟩ := er_126
                      obtain ⟨po_127, po_128, -⟩ := er_126
                      refine vp_callSi (va_Run.run (va_runV (As := [.int r_121, .int r_126]) (rest := []) ⟨hx, hb, hml, hown, htb⟩ (c_Md_flowOf_w l dC dI ct L f hO_0 q0 m0 r_121 r_126 po_122 po_123 po_127 po_128 _ hQ) (cwV 2 htb (gd_V tw_164 tw_165 tw_166 tw_89 tw_163) rfl rfl rfl (by decide +kernel) ⟨Nat.le_of_ble_eq_true rfl, Nat.le_of_ble_eq_true rfl⟩) ⟨pr_blind, tw_recv hK hP m0 rfl rfl, pr_pre hP hK hN⟩ rfl rfl hl.1 rfl (lv_room (Nat.le_of_ble_eq_true rfl)) d_Md_hinders_180 ⟨Nat.le_of_ble_eq_true rfl, Nat.le_of_ble_eq_true rfl⟩)) (fun r_129 er_129 => ?_)
                      obtain ⟨er_129, hQ⟩ := er_129
                      clear er_129
                      refine lv_istore (lv' := [(7, .int r_129), (6, .int 1), (5, .int r_33), (4, .int x_19), (0, .ref q0), (1, .int p_0), (2, .int p_1), (3, .int p_2)]) hx hb d_Md_hinders_183 hl (by decide) rfl (fun ls hl => ?_)
                      refine lv_iload hx hb d_Md_hinders_185 (lv_at hl 1 rfl) ?_
                      refine lv_if_eq (tgt := 229) hx hb d_Md_hinders_187 (by decide) (fun h => absurd h (by decide +kernel)) (fun _ => ?_)
                      refine lv_aload_n hx hb d_Md_hinders_190 rfl (lv_at hl 4 rfl) ?_
                      refine lv_iload hx hb d_Md_hinders_191 (lv_at hl 2 rfl) ?_
                      refine lv_bipush (v := 16) hx hb d_Md_hinders_193 (by decide +kernel) ?_
                      refine vp_callSi (va_Run.run (va_runV (As := [.int r_33, .int 16]) (rest := []) ⟨hx, hb, hml, hown, htb⟩ (c_Md_lineOf_w l dC dI ct L f hO_0 q0 m0 r_33 (16 : Int32) po_34 po_35 (by decide +kernel) (by decide +kernel) _ hQ) (cwV 2 htb (gd_V tw_443 tw_444 tw_445 tw_89 tw_442) rfl rfl rfl (by decide +kernel) ⟨Nat.le_of_ble_eq_true rfl, Nat.le_of_ble_eq_true rfl⟩) ⟨pr_blind, tw_recv hK hP m0 rfl rfl, pr_pre hP hK hN⟩ rfl rfl hl.1 rfl (lv_room (Nat.le_of_ble_eq_true rfl)) d_Md_hinders_195 ⟨Nat.le_of_ble_eq_true rfl, Nat.le_of_ble_eq_true rfl⟩)) (fun r_130 er_130 => ?_)
                      obtain ⟨er_130, hQ⟩ := er_130
                      clear er_130
                      refine lv_if_lt (tgt := 229) hx hb d_Md_hinders_198 (by decide) (fun c_131 => ?_) (fun c_131 => ?_)
                      · have hQ := hQ.1 c_131
                        refine lv_iload hx hb d_Md_hinders_229 (lv_at hl 1 rfl) ?_
                        refine lv_if_eq (tgt := 272) hx hb d_Md_hinders_231 (by decide) (fun h => absurd h (by decide +kernel)) (fun _ => ?_)
                        refine lv_aload_n hx hb d_Md_hinders_234 rfl (lv_at hl 4 rfl) ?_
                        refine lv_iload hx hb d_Md_hinders_235 (lv_at hl 2 rfl) ?_
                        refine lv_bipush (v := 17) hx hb d_Md_hinders_237 (by decide +kernel) ?_
                        refine vp_callSi (va_Run.run (va_runV (As := [.int r_33, .int 17]) (rest := []) ⟨hx, hb, hml, hown, htb⟩ (c_Md_lineOf_w l dC dI ct L f hO_0 q0 m0 r_33 (17 : Int32) po_34 po_35 (by decide +kernel) (by decide +kernel) _ hQ) (cwV 2 htb (gd_V tw_443 tw_444 tw_445 tw_89 tw_442) rfl rfl rfl (by decide +kernel) ⟨Nat.le_of_ble_eq_true rfl, Nat.le_of_ble_eq_true rfl⟩) ⟨pr_blind, tw_recv hK hP m0 rfl rfl, pr_pre hP hK hN⟩ rfl rfl hl.1 rfl (lv_room (Nat.le_of_ble_eq_true rfl)) d_Md_hinders_239 ⟨Nat.le_of_ble_eq_true rfl, Nat.le_of_ble_eq_true rfl⟩)) (fun r_132 er_132 => ?_)
                        obtain ⟨er_132, hQ⟩ := er_132
                        clear er_132
                        refine lv_if_lt (tgt := 272) hx hb d_Md_hinders_242 (by decide) (fun c_133 => ?_) (fun c_133 => ?_)
                        · have hQ := hQ.1 c_133
                          refine lv_aload_n hx hb d_Md_hinders_272 rfl (lv_at hl 4 rfl) ?_
                          refine tw_getI (x := (ti f q0 1)) (D := (dC, dI)) (C := R_Md) (T := F_Md) (N := 64) (ci := 7) (kd := 27) (ct := ct) hx hb htb i_Md hown hK hP m0 rfl rfl 1 rfl (by decide) (htb (.fieldLink R_Md 7 "WaterMenModel" "time" "I") tw_111) (fun _ h9 => h9) rfl d_Md_hinders_273 ?_
                          refine lv_aload_n hx hb d_Md_hinders_276 rfl (lv_at hl 4 rfl) ?_
                          refine lv_iload_n hx hb d_Md_hinders_277 rfl (lv_at hl 5 rfl) ?_
                          refine lv_iload_n hx hb d_Md_hinders_278 rfl (lv_at hl 7 rfl) ?_
                          refine vp_callSi (va_Run.run (va_runV (As := [.int p_0, .int p_2]) (rest := [.int (ti f q0 1)]) ⟨hx, hb, hml, hown, htb⟩ (c_Md_minutesOf_w l dC dI ct L f hO_0 q0 m0 p_0 p_2 as_0 as_1 as_4 as_5 _ hQ) (cwV 2 htb (gd_V tw_584 tw_585 tw_586 tw_89 tw_583) rfl rfl rfl (by decide +kernel) ⟨Nat.le_of_ble_eq_true rfl, Nat.le_of_ble_eq_true rfl⟩) ⟨pr_blind, tw_recv hK hP m0 rfl rfl, pr_pre hP hK hN⟩ rfl rfl hl.1 rfl (lv_room (Nat.le_of_ble_eq_true rfl)) d_Md_hinders_279 ⟨Nat.le_of_ble_eq_true rfl, Nat.le_of_ble_eq_true rfl⟩)) (fun r_134 er_134 => ?_)
                          obtain ⟨er_134, hQ⟩ := er_134
                          clear er_134
                          refine lv_iadd hx hb d_Md_hinders_282 ?_
                          refine lv_ldcw (v := 359999) hx hb hown (htb (.constant R_Md 305 359999) tw_226) d_Md_hinders_283 ?_
                          refine lv_icmp_le (tgt := 294) hx hb d_Md_hinders_286 (by decide) (fun c_135 => ?_) (fun c_135 => ?_)
                          · have hQ := hQ.1 c_135
                            refine lv_iconst (v := 0) hx hb d_Md_hinders_294 (by decide +kernel) ?_
                            exact W.iret (v := 0) hx hb hr (fun t ht hW => ⟨0, rfl, ⟨trivial, hQ⟩, ht⟩) t_nil d_Md_hinders_295
                          · have hQ := hQ.2 c_135
                            refine lv_bipush (v := 7) hx hb d_Md_hinders_289 (by decide +kernel) ?_
                            refine lv_goto (tgt := 295) hx hb d_Md_hinders_291 (by decide) ?_
                            exact W.iret (v := 7) hx hb hr (fun t ht hW => ⟨7, rfl, ⟨trivial, hQ⟩, ht⟩) t_nil d_Md_hinders_295
                        · have hQ := hQ.2 c_133
                          refine lv_iload hx hb d_Md_hinders_245 (lv_at hl 0 rfl) ?_
                          refine lv_if_ge (tgt := 256) hx hb d_Md_hinders_247 (by decide) (fun c_136 => ?_) (fun c_136 => ?_)
                          · have hQ := hQ.1 c_136
                            refine lv_iload hx hb d_Md_hinders_256 (lv_at hl 0 rfl) ?_
                            refine lv_aload_n hx hb d_Md_hinders_258 rfl (lv_at hl 4 rfl) ?_
                            refine lv_iload hx hb d_Md_hinders_259 (lv_at hl 2 rfl) ?_
                            refine lv_bipush (v := 17) hx hb d_Md_hinders_261 (by decide +kernel) ?_
                            refine vp_callSi (va_Run.run (va_runV (As := [.int r_33, .int 17]) (rest := [.int r_129]) ⟨hx, hb, hml, hown, htb⟩ (c_Md_lineOf_w l dC dI ct L f hO_0 q0 m0 r_33 (17 : Int32) po_34 po_35 (by decide +kernel) (by decide +kernel) _ hQ) (cwV 2 htb (gd_V tw_443 tw_444 tw_445 tw_89 tw_442) rfl rfl rfl (by decide +kernel) ⟨Nat.le_of_ble_eq_true rfl, Nat.le_of_ble_eq_true rfl⟩) ⟨pr_blind, tw_recv hK hP m0 rfl rfl, pr_pre hP hK hN⟩ rfl rfl hl.1 rfl (lv_room (Nat.le_of_ble_eq_true rfl)) d_Md_hinders_263 ⟨Nat.le_of_ble_eq_true rfl, Nat.le_of_ble_eq_true rfl⟩)) (fun r_137 er_137 => ?_)
                            obtain ⟨er_137, hQ⟩ := er_137
                            clear er_137
                            refine lv_icmp_le (tgt := 272) hx hb d_Md_hinders_266 (by decide) (fun c_138 => ?_) (fun c_138 => ?_)
                            · have hQ := hQ.1 c_138
                              refine lv_aload_n hx hb d_Md_hinders_272 rfl (lv_at hl 4 rfl) ?_
                              refine tw_getI (x := (ti f q0 1)) (D := (dC, dI)) (C := R_Md) (T := F_Md) (N := 64) (ci := 7) (kd := 27) (ct := ct) hx hb htb i_Md hown hK hP m0 rfl rfl 1 rfl (by decide) (htb (.fieldLink R_Md 7 "WaterMenModel" "time" "I") tw_111) (fun _ h9 => h9) rfl d_Md_hinders_273 ?_
                              refine lv_aload_n hx hb d_Md_hinders_276 rfl (lv_at hl 4 rfl) ?_
                              refine lv_iload_n hx hb d_Md_hinders_277 rfl (lv_at hl 5 rfl) ?_
                              refine lv_iload_n hx hb d_Md_hinders_278 rfl (lv_at hl 7 rfl) ?_
                              refine vp_callSi (va_Run.run (va_runV (As := [.int p_0, .int p_2]) (rest := [.int (ti f q0 1)]) ⟨hx, hb, hml, hown, htb⟩ (c_Md_minutesOf_w l dC dI ct L f hO_0 q0 m0 p_0 p_2 as_0 as_1 as_4 as_5 _ hQ) (cwV 2 htb (gd_V tw_584 tw_585 tw_586 tw_89 tw_583) rfl rfl rfl (by decide +kernel) ⟨Nat.le_of_ble_eq_true rfl, Nat.le_of_ble_eq_true rfl⟩) ⟨pr_blind, tw_recv hK hP m0 rfl rfl, pr_pre hP hK hN⟩ rfl rfl hl.1 rfl (lv_room (Nat.le_of_ble_eq_true rfl)) d_Md_hinders_279 ⟨Nat.le_of_ble_eq_true rfl, Nat.le_of_ble_eq_true rfl⟩)) (fun r_139 er_139 => ?_)
                              obtain ⟨er_139, hQ⟩ := er_139
                              clear er_139
                              refine lv_iadd hx hb d_Md_hinders_282 ?_
                              refine lv_ldcw (v := 359999) hx hb hown (htb (.constant R_Md 305 359999) tw_226) d_Md_hinders_283 ?_
                              refine lv_icmp_le (tgt := 294) hx hb d_Md_hinders_286 (by decide) (fun c_140 => ?_) (fun c_140 => ?_)
                              · have hQ := hQ.1 c_140
                                refine lv_iconst (v := 0) hx hb d_Md_hinders_294 (by decide +kernel) ?_
                                exact W.iret (v := 0) hx hb hr (fun t ht hW => ⟨0, rfl, ⟨trivial, hQ⟩, ht⟩) t_nil d_Md_hinders_295
                              · have hQ := hQ.2 c_140
                                refine lv_bipush (v := 7) hx hb d_Md_hinders_289 (by decide +kernel) ?_
                                refine lv_goto (tgt := 295) hx hb d_Md_hinders_291 (by decide) ?_
                                exact W.iret (v := 7) hx hb hr (fun t ht hW => ⟨7, rfl, ⟨trivial, hQ⟩, ht⟩) t_nil d_Md_hinders_295
                            · have hQ := hQ.2 c_138
                              refine lv_bipush (v := 6) hx hb d_Md_hinders_269 (by decide +kernel) ?_
                              exact W.iret (v := 6) hx hb hr (fun t ht hW => ⟨6, rfl, ⟨trivial, hQ⟩, ht⟩) t_nil d_Md_hinders_271
                          · have hQ := hQ.2 c_136
                            refine lv_iload hx hb d_Md_hinders_250 (lv_at hl 0 rfl) ?_
                            refine lv_ineg hx hb d_Md_hinders_252 ?_
                            refine lv_goto (tgt := 258) hx hb d_Md_hinders_253 (by decide) ?_
                            refine lv_aload_n hx hb d_Md_hinders_258 rfl (lv_at hl 4 rfl) ?_
                            refine lv_iload hx hb d_Md_hinders_259 (lv_at hl 2 rfl) ?_
                            refine lv_bipush (v := 17) hx hb d_Md_hinders_261 (by decide +kernel) ?_
                            refine vp_callSi (va_Run.run (va_runV (As := [.int r_33, .int 17]) (rest := [.int (-r_129)]) ⟨hx, hb, hml, hown, htb⟩ (c_Md_lineOf_w l dC dI ct L f hO_0 q0 m0 r_33 (17 : Int32) po_34 po_35 (by decide +kernel) (by decide +kernel) _ hQ) (cwV 2 htb (gd_V tw_443 tw_444 tw_445 tw_89 tw_442) rfl rfl rfl (by decide +kernel) ⟨Nat.le_of_ble_eq_true rfl, Nat.le_of_ble_eq_true rfl⟩) ⟨pr_blind, tw_recv hK hP m0 rfl rfl, pr_pre hP hK hN⟩ rfl rfl hl.1 rfl (lv_room (Nat.le_of_ble_eq_true rfl)) d_Md_hinders_263 ⟨Nat.le_of_ble_eq_true rfl, Nat.le_of_ble_eq_true rfl⟩)) (fun r_141 er_141 => ?_)
                            obtain ⟨er_141, hQ⟩ := er_141
                            clear er_141
                            refine lv_icmp_le (tgt := 272) hx hb d_Md_hinders_266 (by decide) (fun c_142 => ?_) (fun c_142 => ?_)
                            · have hQ := hQ.1 c_142
                              refine lv_aload_n hx hb d_Md_hinders_272 rfl (lv_at hl 4 rfl) ?_
                              refine tw_getI (x := (ti f q0 1)) (D := (dC, dI)) (C := R_Md) (T := F_Md) (N := 64) (ci := 7) (kd := 27) (ct := ct) hx hb htb i_Md hown hK hP m0 rfl rfl 1 rfl (by decide) (htb (.fieldLink R_Md 7 "WaterMenModel" "time" "I") tw_111) (fun _ h9 => h9) rfl d_Md_hinders_273 ?_
                              refine lv_aload_n hx hb d_Md_hinders_276 rfl (lv_at hl 4 rfl) ?_
                              refine lv_iload_n hx hb d_Md_hinders_277 rfl (lv_at hl 5 rfl) ?_
                              refine lv_iload_n hx hb d_Md_hinders_278 rfl (lv_at hl 7 rfl) ?_
                              refine vp_callSi (va_Run.run (va_runV (As := [.int p_0, .int p_2]) (rest := [.int (ti f q0 1)]) ⟨hx, hb, hml, hown, htb⟩ (c_Md_minutesOf_w l dC dI ct L f hO_0 q0 m0 p_0 p_2 as_0 as_1 as_4 as_5 _ hQ) (cwV 2 htb (gd_V tw_584 tw_585 tw_586 tw_89 tw_583) rfl rfl rfl (by decide +kernel) ⟨Nat.le_of_ble_eq_true rfl, Nat.le_of_ble_eq_true rfl⟩) ⟨pr_blind, tw_recv hK hP m0 rfl rfl, pr_pre hP hK hN⟩ rfl rfl hl.1 rfl (lv_room (Nat.le_of_ble_eq_true rfl)) d_Md_hinders_279 ⟨Nat.le_of_ble_eq_true rfl, Nat.le_of_ble_eq_true rfl⟩)) (fun r_143 er_143 => ?_)
                              obtain ⟨er_143, hQ⟩ := er_143
                              clear er_143
                              refine lv_iadd hx hb d_Md_hinders_282 ?_
                              refine lv_ldcw (v := 359999) hx hb hown (htb (.constant R_Md 305 359999) tw_226) d_Md_hinders_283 ?_
                              refine lv_icmp_le (tgt := 294) hx hb d_Md_hinders_286 (by decide) (fun c_144 => ?_) (fun c_144 => ?_)
                              · have hQ := hQ.1 c_144
                                refine lv_iconst (v := 0) hx hb d_Md_hinders_294 (by decide +kernel) ?_
                                exact W.iret (v := 0) hx hb hr (fun t ht hW => ⟨0, rfl, ⟨trivial, hQ⟩, ht⟩) t_nil d_Md_hinders_295
                              · have hQ := hQ.2 c_144
                                refine lv_bipush (v := 7) hx hb d_Md_hinders_289 (by decide +kernel) ?_
                                refine lv_goto (tgt := 295) hx hb d_Md_hinders_291 (by decide) ?_
                                exact W.iret (v := 7) hx hb hr (fun t ht hW => ⟨7, rfl, ⟨trivial, hQ⟩, ht⟩) t_nil d_Md_hinders_295
                            · have hQ := hQ.2 c_142
                              refine lv_bipush (v := 6) hx hb d_Md_hinders_269 (by decide +kernel) ?_
                              exact W.iret (v := 6) hx hb hr (fun t ht hW => ⟨6, rfl, ⟨trivial, hQ⟩, ht⟩) t_nil d_Md_hinders_271
                      · have hQ := hQ.2 c_131
                        refine lv_aload_n hx hb d_Md_hinders_201 rfl (lv_at hl 4 rfl) ?_
                        refine vp_callSi (va_Run.run (va_runV (As := []) (rest := []) ⟨hx, hb, hml, hown, htb⟩ (c_Md_hourNow_w l dC dI ct L f hO_0 q0 m0 _ hQ) (cwV 0 htb (gd_V tw_580 tw_581 tw_582 tw_89 tw_579) rfl rfl rfl (by decide +kernel) ⟨Nat.le_of_ble_eq_true rfl, Nat.le_of_ble_eq_true rfl⟩) ⟨pr_blind, tw_recv hK hP m0 rfl rfl, pr_pre hP hK hN⟩ rfl rfl hl.1 rfl (lv_room (Nat.le_of_ble_eq_true rfl)) d_Md_hinders_202 ⟨Nat.le_of_ble_eq_true rfl, Nat.le_of_ble_eq_true rfl⟩)) (fun r_145 er_145 => ?_)
                        obtain ⟨er_145, hQ⟩ := er_145
                        obtain ⟨po_146, po_147, -⟩ := er_145
                        refine lv_aload_n hx hb d_Md_hinders_205 rfl (lv_at hl 4 rfl) ?_
                        refine lv_iload hx hb d_Md_hinders_206 (lv_at hl 2 rfl) ?_
                        refine lv_bipush (v := 16) hx hb d_Md_hinders_208 (by decide +kernel) ?_
                        refine vp_callSi (va_Run.run (va_runV (As := [.int r_33, .int 16]) (rest := [.int r_145]) ⟨hx, hb, hml, hown, htb⟩ (c_Md_lineOf_w l dC dI ct L f hO_0 q0 m0 r_33 (16 : Int32) po_34 po_35 (by decide +kernel) (by decide +kernel) _ hQ) (cwV 2 htb (gd_V tw_443 tw_444 tw_445 tw_89 tw_442) rfl rfl rfl (by decide +kernel) ⟨Nat.le_of_ble_eq_true rfl, Nat.le_of_ble_eq_true rfl⟩) ⟨pr_blind, tw_recv hK hP m0 rfl rfl, pr_pre hP hK hN⟩ rfl rfl hl.1 rfl (lv_room (Nat.le_of_ble_eq_true rfl)) d_Md_hinders_210 ⟨Nat.le_of_ble_eq_true rfl, Nat.le_of_ble_eq_true rfl⟩)) (fun r_148 er_148 => ?_)
                        obtain ⟨er_148, hQ⟩ := er_148
                        clear er_148
                        refine lv_aload_n hx hb d_Md_hinders_213 rfl (lv_at hl 4 rfl) ?_
                        refine tw_getr (D := (dC, dI)) (C := R_Md) (T := F_Md) (N := 64) (ci := 7) (kd := 27) (ct := ct) hx hb htb i_Md hown hK hP hO_0 m0 rfl rfl 41 (by decide) (htb (.fieldLink R_Md 146 "WaterMenModel" "singleTo" "[I") tw_374) (fun _ h9 => h9) rfl d_Md_hinders_214 (fun q_149 e_149 m_149 => ?_)
                        have hQ := hQ q_149 e_149
                        refine lv_iload hx hb d_Md_hinders_217 (lv_at hl 2 rfl) ?_
                        refine tw_aldI (ct := ct) hx hb hK hP hO_0 m_149 rfl (hb_inl po_34 po_35 (by decide +kernel)) d_Md_hinders_219 (fun x_150 e_150 b_150 => ?_)
                        have hQ := hQ x_150 e_150
                        refine vp_callSi (va_Run.run (va_runS (As := [.int r_145, .int r_148, .int x_150]) (rest := []) ⟨hx, hb, hml, hown, htb⟩ (c_Md_in l r_145 r_148 x_150) (cwS 3 htb (gd_S tw_90 tw_91 tw_89 tw_88) rfl rfl rfl (by decide +kernel) ⟨Nat.le_of_ble_eq_true rfl, Nat.le_of_ble_eq_true rfl⟩) ⟨fun _ _ _ _ h => h, fun U _ _ => ⟨rfl, trivial⟩⟩ rfl rfl hl.1 rfl (lv_room (Nat.le_of_ble_eq_true rfl)) d_Md_hinders_220 ⟨Nat.le_of_ble_eq_true rfl, Nat.le_of_ble_eq_true rfl⟩)) (fun r er => ?_)
                        subst er
                        by_cases c_152 : r_145 < r_148
                        · have hQ := hQ.1 c_152
                          refine hb_ti 0 (by unfold f_Md_in; rw [if_pos c_152]; first | done | rfl) ?_
                          refine lv_if_ne (tgt := 229) hx hb d_Md_hinders_223 (by decide) (fun h => absurd (by decide +kernel) h) (fun _ => ?_)
                          refine lv_bipush (v := 6) hx hb d_Md_hinders_226 (by decide +kernel) ?_
                          exact W.iret (v := 6) hx hb hr (fun t ht hW => ⟨6, rfl, ⟨trivial, hQ⟩, ht⟩) t_nil d_Md_hinders_228
                        · have hQ := hQ.2 c_152
                          by_cases c_153 : x_150 < r_145
                          · have hQ := hQ.1 c_153
                            refine hb_ti 0 (by unfold f_Md_in; rw [if_neg c_152, if_pos c_153]; first | done | rfl) ?_
                            refine lv_if_ne (tgt := 229) hx hb d_Md_hinders_223 (by decide) (fun h => absurd (by decide +kernel) h) (fun _ => ?_)
                            refine lv_bipush (v := 6) hx hb d_Md_hinders_226 (by decide +kernel) ?_
                            exact W.iret (v := 6) hx hb hr (fun t ht hW => ⟨6, rfl, ⟨trivial, hQ⟩, ht⟩) t_nil d_Md_hinders_228
                          · have hQ := hQ.2 c_153
                            refine hb_ti 1 (by unfold f_Md_in; rw [if_neg c_152, if_neg c_153]; first | done | rfl) ?_
                            refine lv_if_ne (tgt := 229) hx hb d_Md_hinders_223 (by decide) (fun _ => ?_) (fun h => absurd h (by decide +kernel))
                            refine lv_iload hx hb d_Md_hinders_229 (lv_at hl 1 rfl) ?_
                            refine lv_if_eq (tgt := 272) hx hb d_Md_hinders_231 (by decide) (fun h => absurd h (by decide +kernel)) (fun _ => ?_)
                            refine lv_aload_n hx hb d_Md_hinders_234 rfl (lv_at hl 4 rfl) ?_
                            refine lv_iload hx hb d_Md_hinders_235 (lv_at hl 2 rfl) ?_
                            refine lv_bipush (v := 17) hx hb d_Md_hinders_237 (by decide +kernel) ?_
                            refine vp_callSi (va_Run.run (va_runV (As := [.int r_33, .int 17]) (rest := []) ⟨hx, hb, hml, hown, htb⟩ (c_Md_lineOf_w l dC dI ct L f hO_0 q0 m0 r_33 (17 : Int32) po_34 po_35 (by decide +kernel) (by decide +kernel) _ hQ) (cwV 2 htb (gd_V tw_443 tw_444 tw_445 tw_89 tw_442) rfl rfl rfl (by decide +kernel) ⟨Nat.le_of_ble_eq_true rfl, Nat.le_of_ble_eq_true rfl⟩) ⟨pr_blind, tw_recv hK hP m0 rfl rfl, pr_pre hP hK hN⟩ rfl rfl hl.1 rfl (lv_room (Nat.le_of_ble_eq_true rfl)) d_Md_hinders_239 ⟨Nat.le_of_ble_eq_true rfl, Nat.le_of_ble_eq_true rfl⟩)) (fun r_154 er_154 => ?_)
                            obtain ⟨er_154, hQ⟩ := er_154
                            clear er_154
                            refine lv_if_lt (tgt := 272) hx hb d_Md_hinders_242 (by decide) (fun c_155 => ?_) (fun c_155 => ?_)
                            · have hQ := hQ.1 c_155
                              refine lv_aload_n hx hb d_Md_hinders_272 rfl (lv_at hl 4 rfl) ?_
                              refine tw_getI (x := (ti f q0 1)) (D := (dC, dI)) (C := R_Md) (T := F_Md) (N := 64) (ci := 7) (kd := 27) (ct := ct) hx hb htb i_Md hown hK hP m0 rfl rfl 1 rfl (by decide) (htb (.fieldLink R_Md 7 "WaterMenModel" "time" "I") tw_111) (fun _ h9 => h9) rfl d_Md_hinders_273 ?_
                              refine lv_aload_n hx hb d_Md_hinders_276 rfl (lv_at hl 4 rfl) ?_
                              refine lv_iload_n hx hb d_Md_hinders_277 rfl (lv_at hl 5 rfl) ?_
                              refine lv_iload_n hx hb d_Md_hinders_278 rfl (lv_at hl 7 rfl) ?_
                              refine vp_callSi (va_Run.run (va_runV (As := [.int p_0, .int p_2]) (rest := [.int (ti f q0 1)]) ⟨hx, hb, hml, hown, htb⟩ (c_Md_minutesOf_w l dC dI ct L f hO_0 q0 m0 p_0 p_2 as_0 as_1 as_4 as_5 _ hQ) (cwV 2 htb (gd_V tw_584 tw_585 tw_586 tw_89 tw_583) rfl rfl rfl (by decide +kernel) ⟨Nat.le_of_ble_eq_true rfl, Nat.le_of_ble_eq_true rfl⟩) ⟨pr_blind, tw_recv hK hP m0 rfl rfl, pr_pre hP hK hN⟩ rfl rfl hl.1 rfl (lv_room (Nat.le_of_ble_eq_true rfl)) d_Md_hinders_279 ⟨Nat.le_of_ble_eq_true rfl, Nat.le_of_ble_eq_true rfl⟩)) (fun r_156 er_156 => ?_)
                              obtain ⟨er_156, hQ⟩ := er_156
                              clear er_156
                              refine lv_iadd hx hb d_Md_hinders_282 ?_
                              refine lv_ldcw (v := 359999) hx hb hown (htb (.constant R_Md 305 359999) tw_226) d_Md_hinders_283 ?_
                              refine lv_icmp_le (tgt := 294) hx hb d_Md_hinders_286 (by decide) (fun c_157 => ?_) (fun c_157 => ?_)
                              · have hQ := hQ.1 c_157
                                refine lv_iconst (v := 0) hx hb d_Md_hinders_294 (by decide +kernel) ?_
                                exact W.iret (v := 0) hx hb hr (fun t ht hW => ⟨0, rfl, ⟨trivial, hQ⟩, ht⟩) t_nil d_Md_hinders_295
                              · have hQ := hQ.2 c_157
                                refine lv_bipush (v := 7) hx hb d_Md_hinders_289 (by decide +kernel) ?_
                                refine lv_goto (tgt := 295) hx hb d_Md_hinders_291 (by decide) ?_
                                exact W.iret (v := 7) hx hb hr (fun t ht hW => ⟨7, rfl, ⟨trivial, hQ⟩, ht⟩) t_nil d_Md_hinders_295
                            · have hQ := hQ.2 c_155
                              refine lv_iload hx hb d_Md_hinders_245 (lv_at hl 0 rfl) ?_
                              refine lv_if_ge (tgt := 256) hx hb d_Md_hinders_247 (by decide) (fun c_158 => ?_) (fun c_158 => ?_)
                              · have hQ := hQ.1 c_158
                                refine lv_iload hx hb d_Md_hinders_256 (lv_at hl 0 rfl) ?_
                                refine lv_aload_n hx hb d_Md_hinders_258 rfl (lv_at hl 4 rfl) ?_
                                refine lv_iload hx hb d_Md_hinders_259 (lv_at hl 2 rfl) ?_
                                refine lv_bipush (v := 17) hx hb d_Md_hinders_261 (by decide +kernel) ?_
                                refine vp_callSi (va_Run.run (va_runV (As := [.int r_33, .int 17]) (rest := [.int r_129]) ⟨hx, hb, hml, hown, htb⟩ (c_Md_lineOf_w l dC dI ct L f hO_0 q0 m0 r_33 (17 : Int32) po_34 po_35 (by decide +kernel) (by decide +kernel) _ hQ) (cwV 2 htb (gd_V tw_443 tw_444 tw_445 tw_89 tw_442) rfl rfl rfl (by decide +kernel) ⟨Nat.le_of_ble_eq_true rfl, Nat.le_of_ble_eq_true rfl⟩) ⟨pr_blind, tw_recv hK hP m0 rfl rfl, pr_pre hP hK hN⟩ rfl rfl hl.1 rfl (lv_room (Nat.le_of_ble_eq_true rfl)) d_Md_hinders_263 ⟨Nat.le_of_ble_eq_true rfl, Nat.le_of_ble_eq_true rfl⟩)) (fun r_159 er_159 => ?_)
                                obtain ⟨er_159, hQ⟩ := er_159
                                clear er_159
                                refine lv_icmp_le (tgt := 272) hx hb d_Md_hinders_266 (by decide) (fun c_160 => ?_) (fun c_160 => ?_)
                                · have hQ := hQ.1 c_160
                                  refine lv_aload_n hx hb d_Md_hinders_272 rfl (lv_at hl 4 rfl) ?_
                                  refine tw_getI (x := (ti f q0 1)) (D := (dC, dI)) (C := R_Md) (T := F_Md) (N := 64) (ci := 7) (kd := 27) (ct := ct) hx hb htb i_Md hown hK hP m0 rfl rfl 1 rfl (by decide) (htb (.fieldLink R_Md 7 "WaterMenModel" "time" "I") tw_111) (fun _ h9 => h9) rfl d_Md_hinders_273 ?_
                                  refine lv_aload_n hx hb d_Md_hinders_276 rfl (lv_at hl 4 rfl) ?_
                                  refine lv_iload_n hx hb d_Md_hinders_277 rfl (lv_at hl 5 rfl) ?_
                                  refine lv_iload_n hx hb d_Md_hinders_278 rfl (lv_at hl 7 rfl) ?_
                                  refine vp_callSi (va_Run.run (va_runV (As := [.int p_0, .int p_2]) (rest := [.int (ti f q0 1)]) ⟨hx, hb, hml, hown, htb⟩ (c_Md_minutesOf_w l dC dI ct L f hO_0 q0 m0 p_0 p_2 as_0 as_1 as_4 as_5 _ hQ) (cwV 2 htb (gd_V tw_584 tw_585 tw_586 tw_89 tw_583) rfl rfl rfl (by decide +kernel) ⟨Nat.le_of_ble_eq_true rfl, Nat.le_of_ble_eq_true rfl⟩) ⟨pr_blind, tw_recv hK hP m0 rfl rfl, pr_pre hP hK hN⟩ rfl rfl hl.1 rfl (lv_room (Nat.le_of_ble_eq_true rfl)) d_Md_hinders_279 ⟨Nat.le_of_ble_eq_true rfl, Nat.le_of_ble_eq_true rfl⟩)) (fun r_161 er_161 => ?_)
                                  obtain ⟨er_161, hQ⟩ := er_161
                                  clear er_161
                                  refine lv_iadd hx hb d_Md_hinders_282 ?_
                                  refine lv_ldcw (v := 359999) hx hb hown (htb (.constant R_Md 305 359999) tw_226) d_Md_hinders_283 ?_
                                  refine lv_icmp_le (tgt := 294) hx hb d_Md_hinders_286 (by decide) (fun c_162 => ?_) (fun c_162 => ?_)
                                  · have hQ := hQ.1 c_162
                                    refine lv_iconst (v := 0) hx hb d_Md_hinders_294 (by decide +kernel) ?_
                                    exact W.iret (v := 0) hx hb hr (fun t ht hW => ⟨0, rfl, ⟨trivial, hQ⟩, ht⟩) t_nil d_Md_hinders_295
                                  · have hQ := hQ.2 c_162
                                    refine lv_bipush (v := 7) hx hb d_Md_hinders_289 (by decide +kernel) ?_
                                    refine lv_goto (tgt := 295) hx hb d_Md_hinders_291 (by decide) ?_
                                    exact W.iret (v := 7) hx hb hr (fun t ht hW => ⟨7, rfl, ⟨trivial, hQ⟩, ht⟩) t_nil d_Md_hinders_295
                                · have hQ := hQ.2 c_160
                                  refine lv_bipush (v := 6) hx hb d_Md_hinders_269 (by decide +kernel) ?_
                                  exact W.iret (v := 6) hx hb hr (fun t ht hW => ⟨6, rfl, ⟨trivial, hQ⟩, ht⟩) t_nil d_Md_hinders_271
                              · have hQ := hQ.2 c_158
                                refine lv_iload hx hb d_Md_hinders_250 (lv_at hl 0 rfl) ?_
                                refine lv_ineg hx hb d_Md_hinders_252 ?_
                                refine lv_goto (tgt := 258) hx hb d_Md_hinders_253 (by decide) ?_
                                refine lv_aload_n hx hb d_Md_hinders_258 rfl (lv_at hl 4 rfl) ?_
                                refine lv_iload hx hb d_Md_hinders_259 (lv_at hl 2 rfl) ?_
                                refine lv_bipush (v := 17) hx hb d_Md_hinders_261 (by decide +kernel) ?_
                                refine vp_callSi (va_Run.run (va_runV (As := [.int r_33, .int 17]) (rest := [.int (-r_129)]) ⟨hx, hb, hml, hown, htb⟩ (c_Md_lineOf_w l dC dI ct L f hO_0 q0 m0 r_33 (17 : Int32) po_34 po_35 (by decide +kernel) (by decide +kernel) _ hQ) (cwV 2 htb (gd_V tw_443 tw_444 tw_445 tw_89 tw_442) rfl rfl rfl (by decide +kernel) ⟨Nat.le_of_ble_eq_true rfl, Nat.le_of_ble_eq_true rfl⟩) ⟨pr_blind, tw_recv hK hP m0 rfl rfl, pr_pre hP hK hN⟩ rfl rfl hl.1 rfl (lv_room (Nat.le_of_ble_eq_true rfl)) d_Md_hinders_263 ⟨Nat.le_of_ble_eq_true rfl, Nat.le_of_ble_eq_true rfl⟩)) (fun r_163 er_163 => ?_)
                                obtain ⟨er_163, hQ⟩ := er_163
                                clear er_163
                                refine lv_icmp_le (tgt := 272) hx hb d_Md_hinders_266 (by decide) (fun c_164 => ?_) (fun c_164 => ?_)
                                · have hQ := hQ.1 c_164
                                  refine lv_aload_n hx hb d_Md_hinders_272 rfl (lv_at hl 4 rfl) ?_
                                  refine tw_getI (x := (ti f q0 1)) (D := (dC, dI)) (C := R_Md) (T := F_Md) (N := 64) (ci := 7) (kd := 27) (ct := ct) hx hb htb i_Md hown hK hP m0 rfl rfl 1 rfl (by decide) (htb (.fieldLink R_Md 7 "WaterMenModel" "time" "I") tw_111) (fun _ h9 => h9) rfl d_Md_hinders_273 ?_
                                  refine lv_aload_n hx hb d_Md_hinders_276 rfl (lv_at hl 4 rfl) ?_
                                  refine lv_iload_n hx hb d_Md_hinders_277 rfl (lv_at hl 5 rfl) ?_
                                  refine lv_iload_n hx hb d_Md_hinders_278 rfl (lv_at hl 7 rfl) ?_
                                  refine vp_callSi (va_Run.run (va_runV (As := [.int p_0, .int p_2]) (rest := [.int (ti f q0 1)]) ⟨hx, hb, hml, hown, htb⟩ (c_Md_minutesOf_w l dC dI ct L f hO_0 q0 m0 p_0 p_2 as_0 as_1 as_4 as_5 _ hQ) (cwV 2 htb (gd_V tw_584 tw_585 tw_586 tw_89 tw_583) rfl rfl rfl (by decide +kernel) ⟨Nat.le_of_ble_eq_true rfl, Nat.le_of_ble_eq_true rfl⟩) ⟨pr_blind, tw_recv hK hP m0 rfl rfl, pr_pre hP hK hN⟩ rfl rfl hl.1 rfl (lv_room (Nat.le_of_ble_eq_true rfl)) d_Md_hinders_279 ⟨Nat.le_of_ble_eq_true rfl, Nat.le_of_ble_eq_true rfl⟩)) (fun r_165 er_165 => ?_)
                                  obtain ⟨er_165, hQ⟩ := er_165
                                  clear er_165
                                  refine lv_iadd hx hb d_Md_hinders_282 ?_
                                  refine lv_ldcw (v := 359999) hx hb hown (htb (.constant R_Md 305 359999) tw_226) d_Md_hinders_283 ?_
                                  refine lv_icmp_le (tgt := 294) hx hb d_Md_hinders_286 (by decide) (fun c_166 => ?_) (fun c_166 => ?_)
                                  · have hQ := hQ.1 c_166
                                    refine lv_iconst (v := 0) hx hb d_Md_hinders_294 (by decide +kernel) ?_
                                    exact W.iret (v := 0) hx hb hr (fun t ht hW => ⟨0, rfl, ⟨trivial, hQ⟩, ht⟩) t_nil d_Md_hinders_295
                                  · have hQ := hQ.2 c_166
                                    refine lv_bipush (v := 7) hx hb d_Md_hinders_289 (by decide +kernel) ?_
                                    refine lv_goto (tgt := 295) hx hb d_Md_hinders_291 (by decide) ?_
                                    exact W.iret (v := 7) hx hb hr (fun t ht hW => ⟨7, rfl, ⟨trivial, hQ⟩, ht⟩) t_nil d_Md_hinders_295
                                · have hQ := hQ.2 c_164
                                  refine lv_bipush (v := 6) hx hb d_Md_hinders_269 (by decide +kernel) ?_
                                  exact W.iret (v := 6) hx hb hr (fun t ht hW => ⟨6, rfl, ⟨trivial, hQ⟩, ht⟩) t_nil d_Md_hinders_271
                    · have hQ := hQ.2 c_120
                      refine lv_iconst (v := 1) hx hb d_Md_hinders_156 (by decide +kernel) ?_
                      refine lv_goto (tgt := 161) hx hb d_Md_hinders_157 (by decide) ?_
                      refine lv_icmp_eq (tgt := 168) hx hb d_Md_hinders_161 (by decide) (fun _ => ?_) (fun h => absurd (by decide +kernel) h)
                      refine lv_iconst (v := 0) hx hb d_Md_hinders_168 (by decide +kernel) ?_
                      refine lv_istore (lv' := [(6, .int 0), (5, .int r_33), (4, .int x_19), (0, .ref q0), (1, .int p_0), (2, .int p_1), (3, .int p_2)]) hx hb d_Md_hinders_169 hl (by decide) rfl (fun ls hl => ?_)
                      refine lv_aload_n hx hb d_Md_hinders_171 rfl (lv_at hl 3 rfl) ?_
                      refine lv_aload_n hx hb d_Md_hinders_172 rfl (lv_at hl 3 rfl) ?_
                      refine vp_callSi (va_Run.run (va_runV (As := []) (rest := [.ref q0]) ⟨hx, hb, hml, hown, htb⟩ (c_Md_today_w l dC dI ct L f hO_0 q0 m0 _ hQ) (cwV 0 htb (gd_V tw_113 tw_114 tw_115 tw_89 tw_112) rfl rfl rfl (by decide +kernel) ⟨Nat.le_of_ble_eq_true rfl, Nat.le_of_ble_eq_true rfl⟩) ⟨pr_blind, tw_recv hK hP m0 rfl rfl, pr_pre hP hK hN⟩ rfl rfl hl.1 rfl (lv_room (Nat.le_of_ble_eq_true rfl)) d_Md_hinders_173 ⟨Nat.le_of_ble_eq_true rfl, Nat.le_of_ble_eq_true rfl⟩)) (fun r_167 er_167 => ?_)
                      obtain ⟨er_167, hQ⟩ := er_167
                      obtain ⟨po_168, po_169, po_170, po_171, -⟩ := er_167
                      refine lv_aload_n hx hb d_Md_hinders_176 rfl (lv_at hl 3 rfl) ?_
                      refine vp_callSi (va_Run.run (va_runV (As := []) (rest := [.int r_167, .ref q0]) ⟨hx, hb, hml, hown, htb⟩ (c_Md_hourNow_w l dC dI ct L f hO_0 q0 m0 _ hQ) (cwV 0 htb (gd_V tw_580 tw_581 tw_582 tw_89 tw_579) rfl rfl rfl (by decide +kernel) ⟨Nat.le_of_ble_eq_true rfl, Nat.le_of_ble_eq_true rfl⟩) ⟨pr_blind, tw_recv hK hP m0 rfl rfl, pr_pre hP hK hN⟩ rfl rfl hl.1 rfl (lv_room (Nat.le_of_ble_eq_true rfl)) d_Md_hinders_177 ⟨Nat.le_of_ble_eq_true rfl, Nat.le_of_ble_eq_true rfl⟩)) (fun r_172 er_172 => ?_)
                      obtain ⟨er_172, hQ⟩ := er_172
                      obtain ⟨po_173, po_174, -⟩ := er_172
                      refine vp_callSi (va_Run.run (va_runV (As := [.int r_167, .int r_172]) (rest := []) ⟨hx, hb, hml, hown, htb⟩ (c_Md_flowOf_w l dC dI ct L f hO_0 q0 m0 r_167 r_172 po_168 po_169 po_173 po_174 _ hQ) (cwV 2 htb (gd_V tw_164 tw_165 tw_166 tw_89 tw_163) rfl rfl rfl (by decide +kernel) ⟨Nat.le_of_ble_eq_true rfl, Nat.le_of_ble_eq_true rfl⟩) ⟨pr_blind, tw_recv hK hP m0 rfl rfl, pr_pre hP hK hN⟩ rfl rfl hl.1 rfl (lv_room (Nat.le_of_ble_eq_true rfl)) d_Md_hinders_180 ⟨Nat.le_of_ble_eq_true rfl, Nat.le_of_ble_eq_true rfl⟩)) (fun r_175 er_175 => ?_)
                      obtain ⟨er_175, hQ⟩ := er_175
                      clear er_175
                      refine lv_istore (lv' := [(7, .int r_175), (6, .int 0), (5, .int r_33), (4, .int x_19), (0, .ref q0), (1, .int p_0), (2, .int p_1), (3, .int p_2)]) hx hb d_Md_hinders_183 hl (by decide) rfl (fun ls hl => ?_)
                      refine lv_iload hx hb d_Md_hinders_185 (lv_at hl 1 rfl) ?_
                      refine lv_if_eq (tgt := 229) hx hb d_Md_hinders_187 (by decide) (fun _ => ?_) (fun h => absurd (by decide +kernel) h)
                      refine lv_iload hx hb d_Md_hinders_229 (lv_at hl 1 rfl) ?_
                      refine lv_if_eq (tgt := 272) hx hb d_Md_hinders_231 (by decide) (fun _ => ?_) (fun h => absurd (by decide +kernel) h)
                      refine lv_aload_n hx hb d_Md_hinders_272 rfl (lv_at hl 4 rfl) ?_
                      refine tw_getI (x := (ti f q0 1)) (D := (dC, dI)) (C := R_Md) (T := F_Md) (N := 64) (ci := 7) (kd := 27) (ct := ct) hx hb htb i_Md hown hK hP m0 rfl rfl 1 rfl (by decide) (htb (.fieldLink R_Md 7 "WaterMenModel" "time" "I") tw_111) (fun _ h9 => h9) rfl d_Md_hinders_273 ?_
                      refine lv_aload_n hx hb d_Md_hinders_276 rfl (lv_at hl 4 rfl) ?_
                      refine lv_iload_n hx hb d_Md_hinders_277 rfl (lv_at hl 5 rfl) ?_
                      refine lv_iload_n hx hb d_Md_hinders_278 rfl (lv_at hl 7 rfl) ?_
                      refine vp_callSi (va_Run.run (va_runV (As := [.int p_0, .int p_2]) (rest := [.int (ti f q0 1)]) ⟨hx, hb, hml, hown, htb⟩ (c_Md_minutesOf_w l dC dI ct L f hO_0 q0 m0 p_0 p_2 as_0 as_1 as_4 as_5 _ hQ) (cwV 2 htb (gd_V tw_584 tw_585 tw_586 tw_89 tw_583) rfl rfl rfl (by decide +kernel) ⟨Nat.le_of_ble_eq_true rfl, Nat.le_of_ble_eq_true rfl⟩) ⟨pr_blind, tw_recv hK hP m0 rfl rfl, pr_pre hP hK hN⟩ rfl rfl hl.1 rfl (lv_room (Nat.le_of_ble_eq_true rfl)) d_Md_hinders_279 ⟨Nat.le_of_ble_eq_true rfl, Nat.le_of_ble_eq_true rfl⟩)) (fun r_176 er_176 => ?_)
                      obtain ⟨er_176, hQ⟩ := er_176
                      clear er_176
                      refine lv_iadd hx hb d_Md_hinders_282 ?_
                      refine lv_ldcw (v := 359999) hx hb hown (htb (.constant R_Md 305 359999) tw_226) d_Md_hinders_283 ?_
                      refine lv_icmp_le (tgt := 294) hx hb d_Md_hinders_286 (by decide) (fun c_177 => ?_) (fun c_177 => ?_)
                      · have hQ := hQ.1 c_177
                        refine lv_iconst (v := 0) hx hb d_Md_hinders_294 (by decide +kernel) ?_
                        exact W.iret (v := 0) hx hb hr (fun t ht hW => ⟨0, rfl, ⟨trivial, hQ⟩, ht⟩) t_nil d_Md_hinders_295
                      · have hQ := hQ.2 c_177
                        refine lv_bipush (v := 7) hx hb d_Md_hinders_289 (by decide +kernel) ?_
                        refine lv_goto (tgt := 295) hx hb d_Md_hinders_291 (by decide) ?_
                        exact W.iret (v := 7) hx hb hr (fun t ht hW => ⟨7, rfl, ⟨trivial, hQ⟩, ht⟩) t_nil d_Md_hinders_295
              · have hQ := hQ.2 c_47
                refine lv_iconst (v := 5) hx hb d_Md_hinders_125 (by decide +kernel) ?_
                exact W.iret (v := 5) hx hb hr (fun t ht hW => ⟨5, rfl, ⟨trivial, hQ⟩, ht⟩) t_nil d_Md_hinders_126
          · have hQ := hQ.2 c_22
            refine lv_aload_n hx hb d_Md_hinders_64 rfl (lv_at hl 1 rfl) ?_
            refine tw_getr (D := (dC, dI)) (C := R_Md) (T := F_Md) (N := 64) (ci := 7) (kd := 27) (ct := ct) hx hb htb i_Md hown hK hP hO_0 m0 rfl rfl 20 (by decide) (htb (.fieldLink R_Md 91 "WaterMenModel" "turn" "[I") tw_99) (fun _ h9 => h9) rfl d_Md_hinders_65 (fun q_178 e_178 m_178 => ?_)
            have hQ := hQ q_178 e_178
            refine lv_bipush (v := 40) hx hb d_Md_hinders_68 (by decide +kernel) ?_
            refine lv_iload hx hb d_Md_hinders_70 (lv_at hl 0 rfl) ?_
            refine lv_imul hx hb d_Md_hinders_72 ?_
            refine tw_aldI (ct := ct) hx hb hK hP hO_0 m_178 rfl ((fun (a_0 : Int32) (k_0 : ¬ (a_0 < 0)) (k_1 : ¬ (11 < a_0)) => (show vp_in ((40 * a_0)) 480 from by have z0 : (0 : Int32).toInt = 0 := (by decide +kernel); have z1 : (11 : Int32).toInt = 11 := (by decide +kernel); have z2 : (40 : Int32).toInt = 40 := (by decide +kernel); have r0 := fb_rng (a_0); have e0 := k_0; rw [Int32.lt_iff_toInt_lt, z0] at e0; have e1 := k_1; rw [Int32.lt_iff_toInt_lt, z1] at e1; obtain ⟨n_0, hn_0, s0⟩ := nd_mul (x := (40 : Int32)) (y := (a_0)) (by (try rw [z2]); omega) (by (try rw [z2]); omega); rw [z2] at s0; rw [hn_0, vp_in_iff]; omega)) x_19 b_19.1 b_19.2) d_Md_hinders_73 (fun x_179 e_179 b_179 => ?_)
            have hQ := hQ x_179 e_179
            refine lv_iload_n hx hb d_Md_hinders_74 rfl (lv_at hl 3 rfl) ?_
            refine lv_icmp_eq (tgt := 80) hx hb d_Md_hinders_75 (by decide) (fun c_180 => ?_) (fun c_180 => ?_)
            · have hQ := hQ.1 c_180
              refine lv_aload_n hx hb d_Md_hinders_80 rfl (lv_at hl 1 rfl) ?_
              refine lv_aload_n hx hb d_Md_hinders_81 rfl (lv_at hl 1 rfl) ?_
              refine vp_callSi (va_Run.run (va_runV (As := []) (rest := [.ref q0]) ⟨hx, hb, hml, hown, htb⟩ (c_Md_today_w l dC dI ct L f hO_0 q0 m0 _ hQ) (cwV 0 htb (gd_V tw_113 tw_114 tw_115 tw_89 tw_112) rfl rfl rfl (by decide +kernel) ⟨Nat.le_of_ble_eq_true rfl, Nat.le_of_ble_eq_true rfl⟩) ⟨pr_blind, tw_recv hK hP m0 rfl rfl, pr_pre hP hK hN⟩ rfl rfl hl.1 rfl (lv_room (Nat.le_of_ble_eq_true rfl)) d_Md_hinders_82 ⟨Nat.le_of_ble_eq_true rfl, Nat.le_of_ble_eq_true rfl⟩)) (fun r_181 er_181 => ?_)
              obtain ⟨er_181, hQ⟩ := er_181
              obtain ⟨po_182, po_183, po_184, po_185, -⟩ := er_181
              refine lv_aload_n hx hb d_Md_hinders_85 rfl (lv_at hl 1 rfl) ?_
              refine vp_callSi (va_Run.run (va_runV (As := []) (rest := [.int r_181, .ref q0]) ⟨hx, hb, hml, hown, htb⟩ (c_Md_today_w l dC dI ct L f hO_0 q0 m0 _ hQ) (cwV 0 htb (gd_V tw_113 tw_114 tw_115 tw_89 tw_112) rfl rfl rfl (by decide +kernel) ⟨Nat.le_of_ble_eq_true rfl, Nat.le_of_ble_eq_true rfl⟩) ⟨pr_blind, tw_recv hK hP m0 rfl rfl, pr_pre hP hK hN⟩ rfl rfl hl.1 rfl (lv_room (Nat.le_of_ble_eq_true rfl)) d_Md_hinders_86 ⟨Nat.le_of_ble_eq_true rfl, Nat.le_of_ble_eq_true rfl⟩)) (fun r_186 er_186 => ?_)
              obtain ⟨er_186, hQ⟩ := er_186
              obtain ⟨po_187, po_188, po_189, po_190, -⟩ := er_186
              refine vp_callSi (va_Run.run (va_runV (As := [.int r_181, .int r_186]) (rest := []) ⟨hx, hb, hml, hown, htb⟩ (c_Md_forceOn_w l dC dI ct L f hO_0 q0 m0 r_181 r_186 _ hQ) (cwV 2 htb (gd_V tw_394 tw_395 tw_396 tw_89 tw_393) rfl rfl rfl (by decide +kernel) ⟨Nat.le_of_ble_eq_true rfl, Nat.le_of_ble_eq_true rfl⟩) ⟨pr_blind, tw_recv hK hP m0 rfl rfl, pr_pre hP hK hN⟩ rfl rfl hl.1 rfl (lv_room (Nat.le_of_ble_eq_true rfl)) d_Md_hinders_89 ⟨Nat.le_of_ble_eq_true rfl, Nat.le_of_ble_eq_true rfl⟩)) (fun r_191 er_191 => ?_)
              obtain ⟨er_191, hQ⟩ := er_191
              rcases er_191 with ⟨rfl, -⟩ | ⟨po_192, po_193, -⟩
              · have hQ := hQ.1 rfl
                refine lv_istore (lv' := [(5, .int (-2)), (4, .int x_19), (0, .ref q0), (1, .int p_0), (2, .int p_1), (3, .int p_2)]) hx hb d_Md_hinders_92 hl (by decide) rfl (fun ls hl => ?_)
                refine lv_iload hx hb d_Md_hinders_94 (lv_at hl 0 rfl) ?_
                refine lv_if_lt (tgt := 125) hx hb d_Md_hinders_96 (by decide) (fun _ => ?_) (fun h => absurd (by decide +kernel) h)
                refine lv_iconst (v := 5) hx hb d_Md_hinders_125 (by decide +kernel) ?_
                exact W.iret (v := 5) hx hb hr (fun t ht hW => ⟨5, rfl, ⟨trivial, hQ⟩, ht⟩) t_nil d_Md_hinders_126
              · have hQ := hQ.2 (fun e9 => po_192 (by rw [e9]; decide))
                refine lv_istore (lv' := [(5, .int r_191), (4, .int x_19), (0, .ref q0), (1, .int p_0), (2, .int p_1), (3, .int p_2)]) hx hb d_Md_hinders_92 hl (by decide) rfl (fun ls hl => ?_)
                refine lv_iload hx hb d_Md_hinders_94 (lv_at hl 0 rfl) ?_
                refine lv_if_lt (tgt := 125) hx hb d_Md_hinders_96 (by decide) (fun h => absurd h po_192) (fun _ => ?_)
                refine lv_aload_n hx hb d_Md_hinders_99 rfl (lv_at hl 2 rfl) ?_
                refine lv_iload hx hb d_Md_hinders_100 (lv_at hl 0 rfl) ?_
                refine lv_iload hx hb d_Md_hinders_102 (lv_at hl 1 rfl) ?_
                refine lv_iload_n hx hb d_Md_hinders_104 rfl (lv_at hl 5 rfl) ?_
                refine lv_aload_n hx hb d_Md_hinders_105 rfl (lv_at hl 2 rfl) ?_
                refine vp_callSi (va_Run.run (va_runV (As := []) (rest := [.int p_2, .int x_19, .int r_191, .ref q0]) ⟨hx, hb, hml, hown, htb⟩ (c_Md_today_w l dC dI ct L f hO_0 q0 m0 _ hQ) (cwV 0 htb (gd_V tw_113 tw_114 tw_115 tw_89 tw_112) rfl rfl rfl (by decide +kernel) ⟨Nat.le_of_ble_eq_true rfl, Nat.le_of_ble_eq_true rfl⟩) ⟨pr_blind, tw_recv hK hP m0 rfl rfl, pr_pre hP hK hN⟩ rfl rfl hl.1 rfl (lv_room (Nat.le_of_ble_eq_true rfl)) d_Md_hinders_106 ⟨Nat.le_of_ble_eq_true rfl, Nat.le_of_ble_eq_true rfl⟩)) (fun r_194 er_194 => ?_)
                obtain ⟨er_194, hQ⟩ := er_194
                obtain ⟨po_195, po_196, po_197, po_198, -⟩ := er_194
                refine lv_aload_n hx hb d_Md_hinders_109 rfl (lv_at hl 2 rfl) ?_
                refine vp_callSi (va_Run.run (va_runV (As := []) (rest := [.int r_194, .int p_2, .int x_19, .int r_191, .ref q0]) ⟨hx, hb, hml, hown, htb⟩ (c_Md_hourNow_w l dC dI ct L f hO_0 q0 m0 _ hQ) (cwV 0 htb (gd_V tw_580 tw_581 tw_582 tw_89 tw_579) rfl rfl rfl (by decide +kernel) ⟨Nat.le_of_ble_eq_true rfl, Nat.le_of_ble_eq_true rfl⟩) ⟨pr_blind, tw_recv hK hP m0 rfl rfl, pr_pre hP hK hN⟩ rfl rfl hl.1 rfl (lv_room (Nat.le_of_ble_eq_true rfl)) d_Md_hinders_110 ⟨Nat.le_of_ble_eq_true rfl, Nat.le_of_ble_eq_true rfl⟩)) (fun r_199 er_199 => ?_)
                obtain ⟨er_199, hQ⟩ := er_199
                obtain ⟨po_200, po_201, -⟩ := er_199
                refine lv_aload_n hx hb d_Md_hinders_113 rfl (lv_at hl 2 rfl) ?_
                refine tw_getr (D := (dC, dI)) (C := R_Md) (T := F_Md) (N := 64) (ci := 7) (kd := 27) (ct := ct) hx hb htb i_Md hown hK hP hO_0 m0 rfl rfl 22 (by decide) (htb (.fieldLink R_Md 94 "WaterMenModel" "boatOars" "[I") tw_510) (fun _ h9 => h9) rfl d_Md_hinders_114 (fun q_202 e_202 m_202 => ?_)
                have hQ := hQ q_202 e_202
                refine lv_iload_n hx hb d_Md_hinders_117 rfl (lv_at hl 3 rfl) ?_
                refine tw_aldI (ct := ct) hx hb hK hP hO_0 m_202 rfl (hb_inl as_0 as_1 (by decide +kernel)) d_Md_hinders_118 (fun x_203 e_203 b_203 => ?_)
                have hQ := hQ x_203 e_203
                refine vp_callSi (va_Run.run (va_runV (As := [.int r_191, .int x_19, .int p_2, .int r_194, .int r_199, .int x_203]) (rest := []) ⟨hx, hb, hml, hown, htb⟩ (c_Md_fareOf_w l dC dI ct L f hO_0 q0 m0 r_191 x_19 p_2 r_194 r_199 x_203 po_192 po_193 b_19.1 b_19.2 as_4 as_5 po_195 po_196 po_200 po_201 _ hQ) (cwV 6 htb (gd_V tw_453 tw_454 tw_455 tw_89 tw_452) rfl rfl rfl (by decide +kernel) ⟨Nat.le_of_ble_eq_true rfl, Nat.le_of_ble_eq_true rfl⟩) ⟨pr_blind, tw_recv hK hP m0 rfl rfl, pr_pre hP hK hN⟩ rfl rfl hl.1 rfl (lv_room (Nat.le_of_ble_eq_true rfl)) d_Md_hinders_119 ⟨Nat.le_of_ble_eq_true rfl, Nat.le_of_ble_eq_true rfl⟩)) (fun r_204 er_204 => ?_)
                obtain ⟨er_204, hQ⟩ := er_204
                clear er_204
                refine lv_if_ge (tgt := 127) hx hb d_Md_hinders_122 (by decide) (fun c_205 => ?_) (fun c_205 => ?_)
                · have hQ := hQ.1 c_205
                  refine lv_aload_n hx hb d_Md_hinders_127 rfl (lv_at hl 2 rfl) ?_
                  refine tw_geti (D := (dC, dI)) (C := R_Md) (T := F_Md) (N := 64) (ci := 7) (kd := 27) (ct := ct) hx hb htb i_Md hown hK hP hO_0 m0 rfl rfl 4 (by decide) (htb (.fieldLink R_Md 35 "WaterMenModel" "bridge" "I") tw_206) (fun _ h9 => h9) rfl d_Md_hinders_128 (fun x_206 e_206 b_206 => ?_)
                  have hQ := hQ x_206 e_206
                  refine lv_if_lt (tgt := 168) hx hb d_Md_hinders_131 (by decide) (fun c_207 => ?_) (fun c_207 => ?_)
                  · have hQ := hQ.1 c_207
                    refine lv_iconst (v := 0) hx hb d_Md_hinders_168 (by decide +kernel) ?_
                    refine lv_istore (lv' := [(6, .int 0), (5, .int r_191), (4, .int x_19), (0, .ref q0), (1, .int p_0), (2, .int p_1), (3, .int p_2)]) hx hb d_Md_hinders_169 hl (by decide) rfl (fun ls hl => ?_)
                    refine lv_aload_n hx hb d_Md_hinders_171 rfl (lv_at hl 3 rfl) ?_
                    refine lv_aload_n hx hb d_Md_hinders_172 rfl (lv_at hl 3 rfl) ?_
                    refine vp_callSi (va_Run.run (va_runV (As := []) (rest := [.ref q0]) ⟨hx, hb, hml, hown, htb⟩ (c_Md_today_w l dC dI ct L f hO_0 q0 m0 _ hQ) (cwV 0 htb (gd_V tw_113 tw_114 tw_115 tw_89 tw_112) rfl rfl rfl (by decide +kernel) ⟨Nat.le_of_ble_eq_true rfl, Nat.le_of_ble_eq_true rfl⟩) ⟨pr_blind, tw_recv hK hP m0 rfl rfl, pr_pre hP hK hN⟩ rfl rfl hl.1 rfl (lv_room (Nat.le_of_ble_eq_true rfl)) d_Md_hinders_173 ⟨Nat.le_of_ble_eq_true rfl, Nat.le_of_ble_eq_true rfl⟩)) (fun r_208 er_208 => ?_)
                    obtain ⟨er_208, hQ⟩ := er_208
                    obtain ⟨po_209, po_210, po_211, po_212, -⟩ := er_208
                    refine lv_aload_n hx hb d_Md_hinders_176 rfl (lv_at hl 3 rfl) ?_
                    refine vp_callSi (va_Run.run (va_runV (As := []) (rest := [.int r_208, .ref q0]) ⟨hx, hb, hml, hown, htb⟩ (c_Md_hourNow_w l dC dI ct L f hO_0 q0 m0 _ hQ) (cwV 0 htb (gd_V tw_580 tw_581 tw_582 tw_89 tw_579) rfl rfl rfl (by decide +kernel) ⟨Nat.le_of_ble_eq_true rfl, Nat.le_of_ble_eq_true rfl⟩) ⟨pr_blind, tw_recv hK hP m0 rfl rfl, pr_pre hP hK hN⟩ rfl rfl hl.1 rfl (lv_room (Nat.le_of_ble_eq_true rfl)) d_Md_hinders_177 ⟨Nat.le_of_ble_eq_true rfl, Nat.le_of_ble_eq_true rfl⟩)) (fun r_213 er_213 => ?_)
                    obtain ⟨er_213, hQ⟩ := er_213
                    obtain ⟨po_214, po_215, -⟩ := er_213
                    refine vp_callSi (va_Run.run (va_runV (As := [.int r_208, .int r_213]) (rest := []) ⟨hx, hb, hml, hown, htb⟩ (c_Md_flowOf_w l dC dI ct L f hO_0 q0 m0 r_208 r_213 po_209 po_210 po_214 po_215 _ hQ) (cwV 2 htb (gd_V tw_164 tw_165 tw_166 tw_89 tw_163) rfl rfl rfl (by decide +kernel) ⟨Nat.le_of_ble_eq_true rfl, Nat.le_of_ble_eq_true rfl⟩) ⟨pr_blind, tw_recv hK hP m0 rfl rfl, pr_pre hP hK hN⟩ rfl rfl hl.1 rfl (lv_room (Nat.le_of_ble_eq_true rfl)) d_Md_hinders_180 ⟨Nat.le_of_ble_eq_true rfl, Nat.le_of_ble_eq_true rfl⟩)) (fun r_216 er_216 => ?_)
                    obtain ⟨er_216, hQ⟩ := er_216
                    clear er_216
                    refine lv_istore (lv' := [(7, .int r_216), (6, .int 0), (5, .int r_191), (4, .int x_19), (0, .ref q0), (1, .int p_0), (2, .int p_1), (3, .int p_2)]) hx hb d_Md_hinders_183 hl (by decide) rfl (fun ls hl => ?_)
                    refine lv_iload hx hb d_Md_hinders_185 (lv_at hl 1 rfl) ?_
                    refine lv_if_eq (tgt := 229) hx hb d_Md_hinders_187 (by decide) (fun _ => ?_) (fun h => absurd (by decide +kernel) h)
                    refine lv_iload hx hb d_Md_hinders_229 (lv_at hl 1 rfl) ?_
                    refine lv_if_eq (tgt := 272) hx hb d_Md_hinders_231 (by decide) (fun _ => ?_) (fun h => absurd (by decide +kernel) h)
                    refine lv_aload_n hx hb d_Md_hinders_272 rfl (lv_at hl 4 rfl) ?_
                    refine tw_getI (x := (ti f q0 1)) (D := (dC, dI)) (C := R_Md) (T := F_Md) (N := 64) (ci := 7) (kd := 27) (ct := ct) hx hb htb i_Md hown hK hP m0 rfl rfl 1 rfl (by decide) (htb (.fieldLink R_Md 7 "WaterMenModel" "time" "I") tw_111) (fun _ h9 => h9) rfl d_Md_hinders_273 ?_
                    refine lv_aload_n hx hb d_Md_hinders_276 rfl (lv_at hl 4 rfl) ?_
                    refine lv_iload_n hx hb d_Md_hinders_277 rfl (lv_at hl 5 rfl) ?_
                    refine lv_iload_n hx hb d_Md_hinders_278 rfl (lv_at hl 7 rfl) ?_
                    refine vp_callSi (va_Run.run (va_runV (As := [.int p_0, .int p_2]) (rest := [.int (ti f q0 1)]) ⟨hx, hb, hml, hown, htb⟩ (c_Md_minutesOf_w l dC dI ct L f hO_0 q0 m0 p_0 p_2 as_0 as_1 as_4 as_5 _ hQ) (cwV 2 htb (gd_V tw_584 tw_585 tw_586 tw_89 tw_583) rfl rfl rfl (by decide +kernel) ⟨Nat.le_of_ble_eq_true rfl, Nat.le_of_ble_eq_true rfl⟩) ⟨pr_blind, tw_recv hK hP m0 rfl rfl, pr_pre hP hK hN⟩ rfl rfl hl.1 rfl (lv_room (Nat.le_of_ble_eq_true rfl)) d_Md_hinders_279 ⟨Nat.le_of_ble_eq_true rfl, Nat.le_of_ble_eq_true rfl⟩)) (fun r_217 er_217 => ?_)
                    obtain ⟨er_217, hQ⟩ := er_217
                    clear er_217
                    refine lv_iadd hx hb d_Md_hinders_282 ?_
                    refine lv_ldcw (v := 359999) hx hb hown (htb (.constant R_Md 305 359999) tw_226) d_Md_hinders_283 ?_
                    refine lv_icmp_le (tgt := 294) hx hb d_Md_hinders_286 (by decide) (fun c_218 => ?_) (fun c_218 => ?_)
                    · have hQ := hQ.1 c_218
                      refine lv_iconst (v := 0) hx hb d_Md_hinders_294 (by decide +kernel) ?_
                      exact W.iret (v := 0) hx hb hr (fun t ht hW => ⟨0, rfl, ⟨trivial, hQ⟩, ht⟩) t_nil d_Md_hinders_295
                    · have hQ := hQ.2 c_218
                      refine lv_bipush (v := 7) hx hb d_Md_hinders_289 (by decide +kernel) ?_
                      refine lv_goto (tgt := 295) hx hb d_Md_hinders_291 (by decide) ?_
                      exact W.iret (v := 7) hx hb hr (fun t ht hW => ⟨7, rfl, ⟨trivial, hQ⟩, ht⟩) t_nil d_Md_hinders_295
                  · have hQ := hQ.2 c_207
                    refine lv_iload hx hb d_Md_hinders_134 (lv_at hl 1 rfl) ?_
                    refine lv_aload_n hx hb d_Md_hinders_136 rfl (lv_at hl 2 rfl) ?_
                    refine tw_getI (x := x_206) (D := (dC, dI)) (C := R_Md) (T := F_Md) (N := 64) (ci := 7) (kd := 27) (ct := ct) hx hb htb i_Md hown hK hP m0 rfl rfl 4 e_206 (by decide) (htb (.fieldLink R_Md 35 "WaterMenModel" "bridge" "I") tw_206) (fun _ h9 => h9) rfl d_Md_hinders_137 ?_
                    refine lv_icmp_gt (tgt := 147) hx hb d_Md_hinders_140 (by decide) (fun c_219 => ?_) (fun c_219 => ?_)
                    · have hQ := hQ.1 c_219
                      refine lv_iconst (v := 0) hx hb d_Md_hinders_147 (by decide +kernel) ?_
                      refine lv_iload_n hx hb d_Md_hinders_148 rfl (lv_at hl 5 rfl) ?_
                      refine lv_aload_n hx hb d_Md_hinders_149 rfl (lv_at hl 2 rfl) ?_
                      refine tw_getI (x := x_206) (D := (dC, dI)) (C := R_Md) (T := F_Md) (N := 64) (ci := 7) (kd := 27) (ct := ct) hx hb htb i_Md hown hK hP m0 rfl rfl 4 e_206 (by decide) (htb (.fieldLink R_Md 35 "WaterMenModel" "bridge" "I") tw_206) (fun _ h9 => h9) rfl d_Md_hinders_150 ?_
                      refine lv_icmp_gt (tgt := 160) hx hb d_Md_hinders_153 (by decide) (fun c_220 => ?_) (fun c_220 => ?_)
                      · have hQ := hQ.1 c_220
                        refine lv_iconst (v := 0) hx hb d_Md_hinders_160 (by decide +kernel) ?_
                        refine lv_icmp_eq (tgt := 168) hx hb d_Md_hinders_161 (by decide) (fun _ => ?_) (fun h => absurd (by decide +kernel) h)
                        refine lv_iconst (v := 0) hx hb d_Md_hinders_168 (by decide +kernel) ?_
                        refine lv_istore (lv' := [(6, .int 0), (5, .int r_191), (4, .int x_19), (0, .ref q0), (1, .int p_0), (2, .int p_1), (3, .int p_2)]) hx hb d_Md_hinders_169 hl (by decide) rfl (fun ls hl => ?_)
                        refine lv_aload_n hx hb d_Md_hinders_171 rfl (lv_at hl 3 rfl) ?_
                        refine lv_aload_n hx hb d_Md_hinders_172 rfl (lv_at hl 3 rfl) ?_
                        refine vp_callSi (va_Run.run (va_runV (As := []) (rest := [.ref q0]) ⟨hx, hb, hml, hown, htb⟩ (c_Md_today_w l dC dI ct L f hO_0 q0 m0 _ hQ) (cwV 0 htb (gd_V tw_113 tw_114 tw_115 tw_89 tw_112) rfl rfl rfl (by decide +kernel) ⟨Nat.le_of_ble_eq_true rfl, Nat.le_of_ble_eq_true rfl⟩) ⟨pr_blind, tw_recv hK hP m0 rfl rfl, pr_pre hP hK hN⟩ rfl rfl hl.1 rfl (lv_room (Nat.le_of_ble_eq_true rfl)) d_Md_hinders_173 ⟨Nat.le_of_ble_eq_true rfl, Nat.le_of_ble_eq_true rfl⟩)) (fun r_221 er_221 => ?_)
                        obtain ⟨er_221, hQ⟩ := er_221
                        obtain ⟨po_222, po_223, po_224, po_225, -⟩ := er_221
                        refine lv_aload_n hx hb d_Md_hinders_176 rfl (lv_at hl 3 rfl) ?_
                        refine vp_callSi (va_Run.run (va_runV (As := []) (rest := [.int r_221, .ref q0]) ⟨hx, hb, hml, hown, htb⟩ (c_Md_hourNow_w l dC dI ct L f hO_0 q0 m0 _ hQ) (cwV 0 htb (gd_V tw_580 tw_581 tw_582 tw_89 tw_579) rfl rfl rfl (by decide +kernel) ⟨Nat.le_of_ble_eq_true rfl, Nat.le_of_ble_eq_true rfl⟩) ⟨pr_blind, tw_recv hK hP m0 rfl rfl, pr_pre hP hK hN⟩ rfl rfl hl.1 rfl (lv_room (Nat.le_of_ble_eq_true rfl)) d_Md_hinders_177 ⟨Nat.le_of_ble_eq_true rfl, Nat.le_of_ble_eq_true rfl⟩)) (fun r_226 er_226 => ?_)
                        obtain ⟨er_226, hQ⟩ := er_226
                        obtain ⟨po_227, po_228, -⟩ := er_226
                        refine vp_callSi (va_Run.run (va_runV (As := [.int r_221, .int r_226]) (rest := []) ⟨hx, hb, hml, hown, htb⟩ (c_Md_flowOf_w l dC dI ct L f hO_0 q0 m0 r_221 r_226 po_222 po_223 po_227 po_228 _ hQ) (cwV 2 htb (gd_V tw_164 tw_165 tw_166 tw_89 tw_163) rfl rfl rfl (by decide +kernel) ⟨Nat.le_of_ble_eq_true rfl, Nat.le_of_ble_eq_true rfl⟩) ⟨pr_blind, tw_recv hK hP m0 rfl rfl, pr_pre hP hK hN⟩ rfl rfl hl.1 rfl (lv_room (Nat.le_of_ble_eq_true rfl)) d_Md_hinders_180 ⟨Nat.le_of_ble_eq_true rfl, Nat.le_of_ble_eq_true rfl⟩)) (fun r_229 er_229 => ?_)
                        obtain ⟨er_229, hQ⟩ := er_229
                        clear er_229
                        refine lv_istore (lv' := [(7, .int r_229), (6, .int 0), (5, .int r_191), (4, .int x_19), (0, .ref q0), (1, .int p_0), (2, .int p_1), (3, .int p_2)]) hx hb d_Md_hinders_183 hl (by decide) rfl (fun ls hl => ?_)
                        refine lv_iload hx hb d_Md_hinders_185 (lv_at hl 1 rfl) ?_
                        refine lv_if_eq (tgt := 229) hx hb d_Md_hinders_187 (by decide) (fun _ => ?_) (fun h => absurd (by decide +kernel) h)
                        refine lv_iload hx hb d_Md_hinders_229 (lv_at hl 1 rfl) ?_
                        refine lv_if_eq (tgt := 272) hx hb d_Md_hinders_231 (by decide) (fun _ => ?_) (fun h => absurd (by decide +kernel) h)
                        refine lv_aload_n hx hb d_Md_hinders_272 rfl (lv_at hl 4 rfl) ?_
                        refine tw_getI (x := (ti f q0 1)) (D := (dC, dI)) (C := R_Md) (T := F_Md) (N := 64) (ci := 7) (kd := 27) (ct := ct) hx hb htb i_Md hown hK hP m0 rfl rfl 1 rfl (by decide) (htb (.fieldLink R_Md 7 "WaterMenModel" "time" "I") tw_111) (fun _ h9 => h9) rfl d_Md_hinders_273 ?_
                        refine lv_aload_n hx hb d_Md_hinders_276 rfl (lv_at hl 4 rfl) ?_
                        refine lv_iload_n hx hb d_Md_hinders_277 rfl (lv_at hl 5 rfl) ?_
                        refine lv_iload_n hx hb d_Md_hinders_278 rfl (lv_at hl 7 rfl) ?_
                        refine vp_callSi (va_Run.run (va_runV (As := [.int p_0, .int p_2]) (rest := [.int (ti f q0 1)]) ⟨hx, hb, hml, hown, htb⟩ (c_Md_minutesOf_w l dC dI ct L f hO_0 q0 m0 p_0 p_2 as_0 as_1 as_4 as_5 _ hQ) (cwV 2 htb (gd_V tw_584 tw_585 tw_586 tw_89 tw_583) rfl rfl rfl (by decide +kernel) ⟨Nat.le_of_ble_eq_true rfl, Nat.le_of_ble_eq_true rfl⟩) ⟨pr_blind, tw_recv hK hP m0 rfl rfl, pr_pre hP hK hN⟩ rfl rfl hl.1 rfl (lv_room (Nat.le_of_ble_eq_true rfl)) d_Md_hinders_279 ⟨Nat.le_of_ble_eq_true rfl, Nat.le_of_ble_eq_true rfl⟩)) (fun r_230 er_230 => ?_)
                        obtain ⟨er_230, hQ⟩ := er_230
                        clear er_230
                        refine lv_iadd hx hb d_Md_hinders_282 ?_
                        refine lv_ldcw (v := 359999) hx hb hown (htb (.constant R_Md 305 359999) tw_226) d_Md_hinders_283 ?_
                        refine lv_icmp_le (tgt := 294) hx hb d_Md_hinders_286 (by decide) (fun c_231 => ?_) (fun c_231 => ?_)
                        · have hQ := hQ.1 c_231
                          refine lv_iconst (v := 0) hx hb d_Md_hinders_294 (by decide +kernel) ?_
                          exact W.iret (v := 0) hx hb hr (fun t ht hW => ⟨0, rfl, ⟨trivial, hQ⟩, ht⟩) t_nil d_Md_hinders_295
                        · have hQ := hQ.2 c_231
                          refine lv_bipush (v := 7) hx hb d_Md_hinders_289 (by decide +kernel) ?_
                          refine lv_goto (tgt := 295) hx hb d_Md_hinders_291 (by decide) ?_
                          exact W.iret (v := 7) hx hb hr (fun t ht hW => ⟨7, rfl, ⟨trivial, hQ⟩, ht⟩) t_nil d_Md_hinders_295
                      · have hQ := hQ.2 c_220
                        refine lv_iconst (v := 1) hx hb d_Md_hinders_156 (by decide +kernel) ?_
                        refine lv_goto (tgt := 161) hx hb d_Md_hinders_157 (by decide) ?_
                        refine lv_icmp_eq (tgt := 168) hx hb d_Md_hinders_161 (by decide) (fun h => absurd h (by decide +kernel)) (fun _ => ?_)
                        refine lv_iconst (v := 1) hx hb d_Md_hinders_164 (by decide +kernel) ?_
                        refine lv_goto (tgt := 169) hx hb d_Md_hinders_165 (by decide) ?_
                        refine lv_istore (lv' := [(6, .int 1), (5, .int r_191), (4, .int x_19), (0, .ref q0), (1, .int p_0), (2, .int p_1), (3, .int p_2)]) hx hb d_Md_hinders_169 hl (by decide) rfl (fun ls hl => ?_)
                        refine lv_aload_n hx hb d_Md_hinders_171 rfl (lv_at hl 3 rfl) ?_
                        refine lv_aload_n hx hb d_Md_hinders_172 rfl (lv_at hl 3 rfl) ?_
                        refine vp_callSi (va_Run.run (va_runV (As := []) (rest := [.ref q0]) ⟨hx, hb, hml, hown, htb⟩ (c_Md_today_w l dC dI ct L f hO_0 q0 m0 _ hQ) (cwV 0 htb (gd_V tw_113 tw_114 tw_115 tw_89 tw_112) rfl rfl rfl (by decide +kernel) ⟨Nat.le_of_ble_eq_true rfl, Nat.le_of_ble_eq_true rfl⟩) ⟨pr_blind, tw_recv hK hP m0 rfl rfl, pr_pre hP hK hN⟩ rfl rfl hl.1 rfl (lv_room (Nat.le_of_ble_eq_true rfl)) d_Md_hinders_173 ⟨Nat.le_of_ble_eq_true rfl, Nat.le_of_ble_eq_true rfl⟩)) (fun r_232 er_232 => ?_)
                        obtain ⟨er_232, hQ⟩ := er_232
                        obtain ⟨po_233, po_234, po_235, po_236, -⟩ := er_232
                        refine lv_aload_n hx hb d_Md_hinders_176 rfl (lv_at hl 3 rfl) ?_
                        refine vp_callSi (va_Run.run (va_runV (As := []) (rest := [.int r_232, .ref q0]) ⟨hx, hb, hml, hown, htb⟩ (c_Md_hourNow_w l dC dI ct L f hO_0 q0 m0 _ hQ) (cwV 0 htb (gd_V tw_580 tw_581 tw_582 tw_89 tw_579) rfl rfl rfl (by decide +kernel) ⟨Nat.le_of_ble_eq_true rfl, Nat.le_of_ble_eq_true rfl⟩) ⟨pr_blind, tw_recv hK hP m0 rfl rfl, pr_pre hP hK hN⟩ rfl rfl hl.1 rfl (lv_room (Nat.le_of_ble_eq_true rfl)) d_Md_hinders_177 ⟨Nat.le_of_ble_eq_true rfl, Nat.le_of_ble_eq_true rfl⟩)) (fun r_237 er_237 => ?_)
                        obtain ⟨er_237, hQ⟩ := er_237
                        obtain ⟨po_238, po_239, -⟩ := er_237
                        refine vp_callSi (va_Run.run (va_runV (As := [.int r_232, .int r_237]) (rest := []) ⟨hx, hb, hml, hown, htb⟩ (c_Md_flowOf_w l dC dI ct L f hO_0 q0 m0 r_232 r_237 po_233 po_234 po_238 po_239 _ hQ) (cwV 2 htb (gd_V tw_164 tw_165 tw_166 tw_89 tw_163) rfl rfl rfl (by decide +kernel) ⟨Nat.le_of_ble_eq_true rfl, Nat.le_of_ble_eq_true rfl⟩) ⟨pr_blind, tw_recv hK hP m0 rfl rfl, pr_pre hP hK hN⟩ rfl rfl hl.1 rfl (lv_room (Nat.le_of_ble_eq_true rfl)) d_Md_hinders_180 ⟨Nat.le_of_ble_eq_true rfl, Nat.le_of_ble_eq_true rfl⟩)) (fun r_240 er_240 => ?_)
                        obtain ⟨er_240, hQ⟩ := er_240
                        clear er_240
                        refine lv_istore (lv' := [(7, .int r_240), (6, .int 1), (5, .int r_191), (4, .int x_19), (0, .ref q0), (1, .int p_0), (2, .int p_1), (3, .int p_2)]) hx hb d_Md_hinders_183 hl (by decide) rfl (fun ls hl => ?_)
                        refine lv_iload hx hb d_Md_hinders_185 (lv_at hl 1 rfl) ?_
                        refine lv_if_eq (tgt := 229) hx hb d_Md_hinders_187 (by decide) (fun h => absurd h (by decide +kernel)) (fun _ => ?_)
                        refine lv_aload_n hx hb d_Md_hinders_190 rfl (lv_at hl 4 rfl) ?_
                        refine lv_iload hx hb d_Md_hinders_191 (lv_at hl 2 rfl) ?_
                        refine lv_bipush (v := 16) hx hb d_Md_hinders_193 (by decide +kernel) ?_
                        refine vp_callSi (va_Run.run (va_runV (As := [.int r_191, .int 16]) (rest := []) ⟨hx, hb, hml, hown, htb⟩ (c_Md_lineOf_w l dC dI ct L f hO_0 q0 m0 r_191 (16 : Int32) po_192 po_193 (by decide +kernel) (by decide +kernel) _ hQ) (cwV 2 htb (gd_V tw_443 tw_444 tw_445 tw_89 tw_442) rfl rfl rfl (by decide +kernel) ⟨Nat.le_of_ble_eq_true rfl, Nat.le_of_ble_eq_true rfl⟩) ⟨pr_blind, tw_recv hK hP m0 rfl rfl, pr_pre hP hK hN⟩ rfl rfl hl.1 rfl (lv_room (Nat.le_of_ble_eq_true rfl)) d_Md_hinders_195 ⟨Nat.le_of_ble_eq_true rfl, Nat.le_of_ble_eq_true rfl⟩)) (fun r_241 er_241 => ?_)
                        obtain ⟨er_241, hQ⟩ := er_241
                        clear er_241
                        refine lv_if_lt (tgt := 229) hx hb d_Md_hinders_198 (by decide) (fun c_242 => ?_) (fun c_242 => ?_)
                        · have hQ := hQ.1 c_242
                          refine lv_iload hx hb d_Md_hinders_229 (lv_at hl 1 rfl) ?_
                          refine lv_if_eq (tgt := 272) hx hb d_Md_hinders_231 (by decide) (fun h => absurd h (by decide +kernel)) (fun _ => ?_)
                          refine lv_aload_n hx hb d_Md_hinders_234 rfl (lv_at hl 4 rfl) ?_
                          refine lv_iload hx hb d_Md_hinders_235 (lv_at hl 2 rfl) ?_
                          refine lv_bipush (v := 17) hx hb d_Md_hinders_237 (by decide +kernel) ?_
                          refine vp_callSi (va_Run.run (va_runV (As := [.int r_191, .int 17]) (rest := []) ⟨hx, hb, hml, hown, htb⟩ (c_Md_lineOf_w l dC dI ct L f hO_0 q0 m0 r_191 (17 : Int32) po_192 po_193 (by decide +kernel) (by decide +kernel) _ hQ) (cwV 2 htb (gd_V tw_443 tw_444 tw_445 tw_89 tw_442) rfl rfl rfl (by decide +kernel) ⟨Nat.le_of_ble_eq_true rfl, Nat.le_of_ble_eq_true rfl⟩) ⟨pr_blind, tw_recv hK hP m0 rfl rfl, pr_pre hP hK hN⟩ rfl rfl hl.1 rfl (lv_room (Nat.le_of_ble_eq_true rfl)) d_Md_hinders_239 ⟨Nat.le_of_ble_eq_true rfl, Nat.le_of_ble_eq_true rfl⟩)) (fun r_243 er_243 => ?_)
                          obtain ⟨er_243, hQ⟩ := er_243
                          clear er_243
                          refine lv_if_lt (tgt := 272) hx hb d_Md_hinders_242 (by decide) (fun c_244 => ?_) (fun c_244 => ?_)
                          · have hQ := hQ.1 c_244
                            refine lv_aload_n hx hb d_Md_hinders_272 rfl (lv_at hl 4 rfl) ?_
                            refine tw_getI (x := (ti f q0 1)) (D := (dC, dI)) (C := R_Md) (T := F_Md) (N := 64) (ci := 7) (kd := 27) (ct := ct) hx hb htb i_Md hown hK hP m0 rfl rfl 1 rfl (by decide) (htb (.fieldLink R_Md 7 "WaterMenModel" "time" "I") tw_111) (fun _ h9 => h9) rfl d_Md_hinders_273 ?_
                            refine lv_aload_n hx hb d_Md_hinders_276 rfl (lv_at hl 4 rfl) ?_
                            refine lv_iload_n hx hb d_Md_hinders_277 rfl (lv_at hl 5 rfl) ?_
                            refine lv_iload_n hx hb d_Md_hinders_278 rfl (lv_at hl 7 rfl) ?_
                            refine vp_callSi (va_Run.run (va_runV (As := [.int p_0, .int p_2]) (rest := [.int (ti f q0 1)]) ⟨hx, hb, hml, hown, htb⟩ (c_Md_minutesOf_w l dC dI ct L f hO_0 q0 m0 p_0 p_2 as_0 as_1 as_4 as_5 _ hQ) (cwV 2 htb (gd_V tw_584 tw_585 tw_586 tw_89 tw_583) rfl rfl rfl (by decide +kernel) ⟨Nat.le_of_ble_eq_true rfl, Nat.le_of_ble_eq_true rfl⟩) ⟨pr_blind, tw_recv hK hP m0 rfl rfl, pr_pre hP hK hN⟩ rfl rfl hl.1 rfl (lv_room (Nat.le_of_ble_eq_true rfl)) d_Md_hinders_279 ⟨Nat.le_of_ble_eq_true rfl, Nat.le_of_ble_eq_true rfl⟩)) (fun r_245 er_245 => ?_)
                            obtain ⟨er_245, hQ⟩ := er_245
                            clear er_245
                            refine lv_iadd hx hb d_Md_hinders_282 ?_
                            refine lv_ldcw (v := 359999) hx hb hown (htb (.constant R_Md 305 359999) tw_226) d_Md_hinders_283 ?_
                            refine lv_icmp_le (tgt := 294) hx hb d_Md_hinders_286 (by decide) (fun c_246 => ?_) (fun c_246 => ?_)
                            · have hQ := hQ.1 c_246
                              refine lv_iconst (v := 0) hx hb d_Md_hinders_294 (by decide +kernel) ?_
                              exact W.iret (v := 0) hx hb hr (fun t ht hW => ⟨0, rfl, ⟨trivial, hQ⟩, ht⟩) t_nil d_Md_hinders_295
                            · have hQ := hQ.2 c_246
                              refine lv_bipush (v := 7) hx hb d_Md_hinders_289 (by decide +kernel) ?_
                              refine lv_goto (tgt := 295) hx hb d_Md_hinders_291 (by decide) ?_
                              exact W.iret (v := 7) hx hb hr (fun t ht hW => ⟨7, rfl, ⟨trivial, hQ⟩, ht⟩) t_nil d_Md_hinders_295
                          · have hQ := hQ.2 c_244
                            refine lv_iload hx hb d_Md_hinders_245 (lv_at hl 0 rfl) ?_
                            refine lv_if_ge (tgt := 256) hx hb d_Md_hinders_247 (by decide) (fun c_247 => ?_) (fun c_247 => ?_)
                            · have hQ := hQ.1 c_247
                              refine lv_iload hx hb d_Md_hinders_256 (lv_at hl 0 rfl) ?_
                              refine lv_aload_n hx hb d_Md_hinders_258 rfl (lv_at hl 4 rfl) ?_
                              refine lv_iload hx hb d_Md_hinders_259 (lv_at hl 2 rfl) ?_
                              refine lv_bipush (v := 17) hx hb d_Md_hinders_261 (by decide +kernel) ?_
                              refine vp_callSi (va_Run.run (va_runV (As := [.int r_191, .int 17]) (rest := [.int r_240]) ⟨hx, hb, hml, hown, htb⟩ (c_Md_lineOf_w l dC dI ct L f hO_0 q0 m0 r_191 (17 : Int32) po_192 po_193 (by decide +kernel) (by decide +kernel) _ hQ) (cwV 2 htb (gd_V tw_443 tw_444 tw_445 tw_89 tw_442) rfl rfl rfl (by decide +kernel) ⟨Nat.le_of_ble_eq_true rfl, Nat.le_of_ble_eq_true rfl⟩) ⟨pr_blind, tw_recv hK hP m0 rfl rfl, pr_pre hP hK hN⟩ rfl rfl hl.1 rfl (lv_room (Nat.le_of_ble_eq_true rfl)) d_Md_hinders_263 ⟨Nat.le_of_ble_eq_true rfl, Nat.le_of_ble_eq_true rfl⟩)) (fun r_248 er_248 => ?_)
                              obtain ⟨er_248, hQ⟩ := er_248
                              clear er_248
                              refine lv_icmp_le (tgt := 272) hx hb d_Md_hinders_266 (by decide) (fun c_249 => ?_) (fun c_249 => ?_)
                              · have hQ := hQ.1 c_249
                                refine lv_aload_n hx hb d_Md_hinders_272 rfl (lv_at hl 4 rfl) ?_
                                refine tw_getI (x := (ti f q0 1)) (D := (dC, dI)) (C := R_Md) (T := F_Md) (N := 64) (ci := 7) (kd := 27) (ct := ct) hx hb htb i_Md hown hK hP m0 rfl rfl 1 rfl (by decide) (htb (.fieldLink R_Md 7 "WaterMenModel" "time" "I") tw_111) (fun _ h9 => h9) rfl d_Md_hinders_273 ?_
                                refine lv_aload_n hx hb d_Md_hinders_276 rfl (lv_at hl 4 rfl) ?_
                                refine lv_iload_n hx hb d_Md_hinders_277 rfl (lv_at hl 5 rfl) ?_
                                refine lv_iload_n hx hb d_Md_hinders_278 rfl (lv_at hl 7 rfl) ?_
                                refine vp_callSi (va_Run.run (va_runV (As := [.int p_0, .int p_2]) (rest := [.int (ti f q0 1)]) ⟨hx, hb, hml, hown, htb⟩ (c_Md_minutesOf_w l dC dI ct L f hO_0 q0 m0 p_0 p_2 as_0 as_1 as_4 as_5 _ hQ) (cwV 2 htb (gd_V tw_584 tw_585 tw_586 tw_89 tw_583) rfl rfl rfl (by decide +kernel) ⟨Nat.le_of_ble_eq_true rfl, Nat.le_of_ble_eq_true rfl⟩) ⟨pr_blind, tw_recv hK hP m0 rfl rfl, pr_pre hP hK hN⟩ rfl rfl hl.1 rfl (lv_room (Nat.le_of_ble_eq_true rfl)) d_Md_hinders_279 ⟨Nat.le_of_ble_eq_true rfl, Nat.le_of_ble_eq_true rfl⟩)) (fun r_250 er_250 => ?_)
                                obtain ⟨er_250, hQ⟩ := er_250
                                clear er_250
                                refine lv_iadd hx hb d_Md_hinders_282 ?_
                                refine lv_ldcw (v := 359999) hx hb hown (htb (.constant R_Md 305 359999) tw_226) d_Md_hinders_283 ?_
                                refine lv_icmp_le (tgt := 294) hx hb d_Md_hinders_286 (by decide) (fun c_251 => ?_) (fun c_251 => ?_)
                                · have hQ := hQ.1 c_251
                                  refine lv_iconst (v := 0) hx hb d_Md_hinders_294 (by decide +kernel) ?_
                                  exact W.iret (v := 0) hx hb hr (fun t ht hW => ⟨0, rfl, ⟨trivial, hQ⟩, ht⟩) t_nil d_Md_hinders_295
                                · have hQ := hQ.2 c_251
                                  refine lv_bipush (v := 7) hx hb d_Md_hinders_289 (by decide +kernel) ?_
                                  refine lv_goto (tgt := 295) hx hb d_Md_hinders_291 (by decide) ?_
                                  exact W.iret (v := 7) hx hb hr (fun t ht hW => ⟨7, rfl, ⟨trivial, hQ⟩, ht⟩) t_nil d_Md_hinders_295
                              · have hQ := hQ.2 c_249
                                refine lv_bipush (v := 6) hx hb d_Md_hinders_269 (by decide +kernel) ?_
                                exact W.iret (v := 6) hx hb hr (fun t ht hW => ⟨6, rfl, ⟨trivial, hQ⟩, ht⟩) t_nil d_Md_hinders_271
                            · have hQ := hQ.2 c_247
                              refine lv_iload hx hb d_Md_hinders_250 (lv_at hl 0 rfl) ?_
                              refine lv_ineg hx hb d_Md_hinders_252 ?_
                              refine lv_goto (tgt := 258) hx hb d_Md_hinders_253 (by decide) ?_
                              refine lv_aload_n hx hb d_Md_hinders_258 rfl (lv_at hl 4 rfl) ?_
                              refine lv_iload hx hb d_Md_hinders_259 (lv_at hl 2 rfl) ?_
                              refine lv_bipush (v := 17) hx hb d_Md_hinders_261 (by decide +kernel) ?_
                              refine vp_callSi (va_Run.run (va_runV (As := [.int r_191, .int 17]) (rest := [.int (-r_240)]) ⟨hx, hb, hml, hown, htb⟩ (c_Md_lineOf_w l dC dI ct L f hO_0 q0 m0 r_191 (17 : Int32) po_192 po_193 (by decide +kernel) (by decide +kernel) _ hQ) (cwV 2 htb (gd_V tw_443 tw_444 tw_445 tw_89 tw_442) rfl rfl rfl (by decide +kernel) ⟨Nat.le_of_ble_eq_true rfl, Nat.le_of_ble_eq_true rfl⟩) ⟨pr_blind, tw_recv hK hP m0 rfl rfl, pr_pre hP hK hN⟩ rfl rfl hl.1 rfl (lv_room (Nat.le_of_ble_eq_true rfl)) d_Md_hinders_263 ⟨Nat.le_of_ble_eq_true rfl, Nat.le_of_ble_eq_true rfl⟩)) (fun r_252 er_252 => ?_)
                              obtain ⟨er_252, hQ⟩ := er_252
                              clear er_252
                              refine lv_icmp_le (tgt := 272) hx hb d_Md_hinders_266 (by decide) (fun c_253 => ?_) (fun c_253 => ?_)
                              · have hQ := hQ.1 c_253
                                refine lv_aload_n hx hb d_Md_hinders_272 rfl (lv_at hl 4 rfl) ?_
                                refine tw_getI (x := (ti f q0 1)) (D := (dC, dI)) (C := R_Md) (T := F_Md) (N := 64) (ci := 7) (kd := 27) (ct := ct) hx hb htb i_Md hown hK hP m0 rfl rfl 1 rfl (by decide) (htb (.fieldLink R_Md 7 "WaterMenModel" "time" "I") tw_111) (fun _ h9 => h9) rfl d_Md_hinders_273 ?_
                                refine lv_aload_n hx hb d_Md_hinders_276 rfl (lv_at hl 4 rfl) ?_
                                refine lv_iload_n hx hb d_Md_hinders_277 rfl (lv_at hl 5 rfl) ?_
                                refine lv_iload_n hx hb d_Md_hinders_278 rfl (lv_at hl 7 rfl) ?_
                                refine vp_callSi (va_Run.run (va_runV (As := [.int p_0, .int p_2]) (rest := [.int (ti f q0 1)]) ⟨hx, hb, hml, hown, htb⟩ (c_Md_minutesOf_w l dC dI ct L f hO_0 q0 m0 p_0 p_2 as_0 as_1 as_4 as_5 _ hQ) (cwV 2 htb (gd_V tw_584 tw_585 tw_586 tw_89 tw_583) rfl rfl rfl (by decide +kernel) ⟨Nat.le_of_ble_eq_true rfl, Nat.le_of_ble_eq_true rfl⟩) ⟨pr_blind, tw_recv hK hP m0 rfl rfl, pr_pre hP hK hN⟩ rfl rfl hl.1 rfl (lv_room (Nat.le_of_ble_eq_true rfl)) d_Md_hinders_279 ⟨Nat.le_of_ble_eq_true rfl, Nat.le_of_ble_eq_true rfl⟩)) (fun r_254 er_254 => ?_)
                                obtain ⟨er_254, hQ⟩ := er_254
                                clear er_254
                                refine lv_iadd hx hb d_Md_hinders_282 ?_
                                refine lv_ldcw (v := 359999) hx hb hown (htb (.constant R_Md 305 359999) tw_226) d_Md_hinders_283 ?_
                                refine lv_icmp_le (tgt := 294) hx hb d_Md_hinders_286 (by decide) (fun c_255 => ?_) (fun c_255 => ?_)
                                · have hQ := hQ.1 c_255
                                  refine lv_iconst (v := 0) hx hb d_Md_hinders_294 (by decide +kernel) ?_
                                  exact W.iret (v := 0) hx hb hr (fun t ht hW => ⟨0, rfl, ⟨trivial, hQ⟩, ht⟩) t_nil d_Md_hinders_295
                                · have hQ := hQ.2 c_255
                                  refine lv_bipush (v := 7) hx hb d_Md_hinders_289 (by decide +kernel) ?_
                                  refine lv_goto (tgt := 295) hx hb d_Md_hinders_291 (by decide) ?_
                                  exact W.iret (v := 7) hx hb hr (fun t ht hW => ⟨7, rfl, ⟨trivial, hQ⟩, ht⟩) t_nil d_Md_hinders_295
                              · have hQ := hQ.2 c_253
                                refine lv_bipush (v := 6) hx hb d_Md_hinders_269 (by decide +kernel) ?_
                                exact W.iret (v := 6) hx hb hr (fun t ht hW => ⟨6, rfl, ⟨trivial, hQ⟩, ht⟩) t_nil d_Md_hinders_271
                        · have hQ := hQ.2 c_242
                          refine lv_aload_n hx hb d_Md_hinders_201 rfl (lv_at hl 4 rfl) ?_
                          refine vp_callSi (va_Run.run (va_runV (As := []) (rest := []) ⟨hx, hb, hml, hown, htb⟩ (c_Md_hourNow_w l dC dI ct L f hO_0 q0 m0 _ hQ) (cwV 0 htb (gd_V tw_580 tw_581 tw_582 tw_89 tw_579) rfl rfl rfl (by decide +kernel) ⟨Nat.le_of_ble_eq_true rfl, Nat.le_of_ble_eq_true rfl⟩) ⟨pr_blind, tw_recv hK hP m0 rfl rfl, pr_pre hP hK hN⟩ rfl rfl hl.1 rfl (lv_room (Nat.le_of_ble_eq_true rfl)) d_Md_hinders_202 ⟨Nat.le_of_ble_eq_true rfl, Nat.le_of_ble_eq_true rfl⟩)) (fun r_256 er_256 => ?_)
                          obtain ⟨er_256, hQ⟩ := er_256
                          obtain ⟨po_257, po_258, -⟩ := er_256
                          refine lv_aload_n hx hb d_Md_hinders_205 rfl (lv_at hl 4 rfl) ?_
                          refine lv_iload hx hb d_Md_hinders_206 (lv_at hl 2 rfl) ?_
                          refine lv_bipush (v := 16) hx hb d_Md_hinders_208 (by decide +kernel) ?_
                          refine vp_callSi (va_Run.run (va_runV (As := [.int r_191, .int 16]) (rest := [.int r_256]) ⟨hx, hb, hml, hown, htb⟩ (c_Md_lineOf_w l dC dI ct L f hO_0 q0 m0 r_191 (16 : Int32) po_192 po_193 (by decide +kernel) (by decide +kernel) _ hQ) (cwV 2 htb (gd_V tw_443 tw_444 tw_445 tw_89 tw_442) rfl rfl rfl (by decide +kernel) ⟨Nat.le_of_ble_eq_true rfl, Nat.le_of_ble_eq_true rfl⟩) ⟨pr_blind, tw_recv hK hP m0 rfl rfl, pr_pre hP hK hN⟩ rfl rfl hl.1 rfl (lv_room (Nat.le_of_ble_eq_true rfl)) d_Md_hinders_210 ⟨Nat.le_of_ble_eq_true rfl, Nat.le_of_ble_eq_true rfl⟩)) (fun r_259 er_259 => ?_)
                          obtain ⟨er_259, hQ⟩ := er_259
                          clear er_259
                          refine lv_aload_n hx hb d_Md_hinders_213 rfl (lv_at hl 4 rfl) ?_
                          refine tw_getr (D := (dC, dI)) (C := R_Md) (T := F_Md) (N := 64) (ci := 7) (kd := 27) (ct := ct) hx hb htb i_Md hown hK hP hO_0 m0 rfl rfl 41 (by decide) (htb (.fieldLink R_Md 146 "WaterMenModel" "singleTo" "[I") tw_374) (fun _ h9 => h9) rfl d_Md_hinders_214 (fun q_260 e_260 m_260 => ?_)
                          have hQ := hQ q_260 e_260
                          refine lv_iload hx hb d_Md_hinders_217 (lv_at hl 2 rfl) ?_
                          refine tw_aldI (ct := ct) hx hb hK hP hO_0 m_260 rfl (hb_inl po_192 po_193 (by decide +kernel)) d_Md_hinders_219 (fun x_261 e_261 b_261 => ?_)
                          have hQ := hQ x_261 e_261
                          refine vp_callSi (va_Run.run (va_runS (As := [.int r_256, .int r_259, .int x_261]) (rest := []) ⟨hx, hb, hml, hown, htb⟩ (c_Md_in l r_256 r_259 x_261) (cwS 3 htb (gd_S tw_90 tw_91 tw_89 tw_88) rfl rfl rfl (by decide +kernel) ⟨Nat.le_of_ble_eq_true rfl, Nat.le_of_ble_eq_true rfl⟩) ⟨fun _ _ _ _ h => h, fun U _ _ => ⟨rfl, trivial⟩⟩ rfl rfl hl.1 rfl (lv_room (Nat.le_of_ble_eq_true rfl)) d_Md_hinders_220 ⟨Nat.le_of_ble_eq_true rfl, Nat.le_of_ble_eq_true rfl⟩)) (fun r er => ?_)
                          subst er
                          by_cases c_263 : r_256 < r_259
                          · have hQ := hQ.1 c_263
                            refine hb_ti 0 (by unfold f_Md_in; rw [if_pos c_263]; first | done | rfl) ?_
                            refine lv_if_ne (tgt := 229) hx hb d_Md_hinders_223 (by decide) (fun h => absurd (by decide +kernel) h) (fun _ => ?_)
                            refine lv_bipush (v := 6) hx hb d_Md_hinders_226 (by decide +kernel) ?_
                            exact W.iret (v := 6) hx hb hr (fun t ht hW => ⟨6, rfl, ⟨trivial, hQ⟩, ht⟩) t_nil d_Md_hinders_228
                          · have hQ := hQ.2 c_263
                            by_cases c_264 : x_261 < r_256
                            · have hQ := hQ.1 c_264
                              refine hb_ti 0 (by unfold f_Md_in; rw [if_neg c_263, if_pos c_264]; first | done | rfl) ?_
                              refine lv_if_ne (tgt := 229) hx hb d_Md_hinders_223 (by decide) (fun h => absurd (by decide +kernel) h) (fun _ => ?_)
                              refine lv_bipush (v := 6) hx hb d_Md_hinders_226 (by decide +kernel) ?_
                              exact W.iret (v := 6) hx hb hr (fun t ht hW => ⟨6, rfl, ⟨trivial, hQ⟩, ht⟩) t_nil d_Md_hinders_228
                            · have hQ := hQ.2 c_264
                              refine hb_ti 1 (by unfold f_Md_in; rw [if_neg c_263, if_neg c_264]; first | done | rfl) ?_
                              refine lv_if_ne (tgt := 229) hx hb d_Md_hinders_223 (by decide) (fun _ => ?_) (fun h => absurd h (by decide +kernel))
                              refine lv_iload hx hb d_Md_hinders_229 (lv_at hl 1 rfl) ?_
                              refine lv_if_eq (tgt := 272) hx hb d_Md_hinders_231 (by decide) (fun h => absurd h (by decide +kernel)) (fun _ => ?_)
                              refine lv_aload_n hx hb d_Md_hinders_234 rfl (lv_at hl 4 rfl) ?_
                              refine lv_iload hx hb d_Md_hinders_235 (lv_at hl 2 rfl) ?_
                              refine lv_bipush (v := 17) hx hb d_Md_hinders_237 (by decide +kernel) ?_
                              refine vp_callSi (va_Run.run (va_runV (As := [.int r_191, .int 17]) (rest := []) ⟨hx, hb, hml, hown, htb⟩ (c_Md_lineOf_w l dC dI ct L f hO_0 q0 m0 r_191 (17 : Int32) po_192 po_193 (by decide +kernel) (by decide +kernel) _ hQ) (cwV 2 htb (gd_V tw_443 tw_444 tw_445 tw_89 tw_442) rfl rfl rfl (by decide +kernel) ⟨Nat.le_of_ble_eq_true rfl, Nat.le_of_ble_eq_true rfl⟩) ⟨pr_blind, tw_recv hK hP m0 rfl rfl, pr_pre hP hK hN⟩ rfl rfl hl.1 rfl (lv_room (Nat.le_of_ble_eq_true rfl)) d_Md_hinders_239 ⟨Nat.le_of_ble_eq_true rfl, Nat.le_of_ble_eq_true rfl⟩)) (fun r_265 er_265 => ?_)
                              obtain ⟨er_265, hQ⟩ := er_265
                              clear er_265
                              refine lv_if_lt (tgt := 272) hx hb d_Md_hinders_242 (by decide) (fun c_266 => ?_) (fun c_266 => ?_)
                              · have hQ := hQ.1 c_266
                                refine lv_aload_n hx hb d_Md_hinders_272 rfl (lv_at hl 4 rfl) ?_
                                refine tw_getI (x := (ti f q0 1)) (D := (dC, dI)) (C := R_Md) (T := F_Md) (N := 64) (ci := 7) (kd := 27) (ct := ct) hx hb htb i_Md hown hK hP m0 rfl rfl 1 rfl (by decide) (htb (.fieldLink R_Md 7 "WaterMenModel" "time" "I") tw_111) (fun _ h9 => h9) rfl d_Md_hinders_273 ?_
                                refine lv_aload_n hx hb d_Md_hinders_276 rfl (lv_at hl 4 rfl) ?_
                                refine lv_iload_n hx hb d_Md_hinders_277 rfl (lv_at hl 5 rfl) ?_
                                refine lv_iload_n hx hb d_Md_hinders_278 rfl (lv_at hl 7 rfl) ?_
                                refine vp_callSi (va_Run.run (va_runV (As := [.int p_0, .int p_2]) (rest := [.int (ti f q0 1)]) ⟨hx, hb, hml, hown, htb⟩ (c_Md_minutesOf_w l dC dI ct L f hO_0 q0 m0 p_0 p_2 as_0 as_1 as_4 as_5 _ hQ) (cwV 2 htb (gd_V tw_584 tw_585 tw_586 tw_89 tw_583) rfl rfl rfl (by decide +kernel) ⟨Nat.le_of_ble_eq_true rfl, Nat.le_of_ble_eq_true rfl⟩) ⟨pr_blind, tw_recv hK hP m0 rfl rfl, pr_pre hP hK hN⟩ rfl rfl hl.1 rfl (lv_room (Nat.le_of_ble_eq_true rfl)) d_Md_hinders_279 ⟨Nat.le_of_ble_eq_true rfl, Nat.le_of_ble_eq_true rfl⟩)) (fun r_267 er_267 => ?_)
                                obtain ⟨er_267, hQ⟩ := er_267
                                clear er_267
                                refine lv_iadd hx hb d_Md_hinders_282 ?_
                                refine lv_ldcw (v := 359999) hx hb hown (htb (.constant R_Md 305 359999) tw_226) d_Md_hinders_283 ?_
                                refine lv_icmp_le (tgt := 294) hx hb d_Md_hinders_286 (by decide) (fun c_268 => ?_) (fun c_268 => ?_)
                                · have hQ := hQ.1 c_268
                                  refine lv_iconst (v := 0) hx hb d_Md_hinders_294 (by decide +kernel) ?_
                                  exact W.iret (v := 0) hx hb hr (fun t ht hW => ⟨0, rfl, ⟨trivial, hQ⟩, ht⟩) t_nil d_Md_hinders_295
                                · have hQ := hQ.2 c_268
                                  refine lv_bipush (v := 7) hx hb d_Md_hinders_289 (by decide +kernel) ?_
                                  refine lv_goto (tgt := 295) hx hb d_Md_hinders_291 (by decide) ?_
                                  exact W.iret (v := 7) hx hb hr (fun t ht hW => ⟨7, rfl, ⟨trivial, hQ⟩, ht⟩) t_nil d_Md_hinders_295
                              · have hQ := hQ.2 c_266
                                refine lv_iload hx hb d_Md_hinders_245 (lv_at hl 0 rfl) ?_
                                refine lv_if_ge (tgt := 256) hx hb d_Md_hinders_247 (by decide) (fun c_269 => ?_) (fun c_269 => ?_)
                                · have hQ := hQ.1 c_269
                                  refine lv_iload hx hb d_Md_hinders_256 (lv_at hl 0 rfl) ?_
                                  refine lv_aload_n hx hb d_Md_hinders_258 rfl (lv_at hl 4 rfl) ?_
                                  refine lv_iload hx hb d_Md_hinders_259 (lv_at hl 2 rfl) ?_
                                  refine lv_bipush (v := 17) hx hb d_Md_hinders_261 (by decide +kernel) ?_
                                  refine vp_callSi (va_Run.run (va_runV (As := [.int r_191, .int 17]) (rest := [.int r_240]) ⟨hx, hb, hml, hown, htb⟩ (c_Md_lineOf_w l dC dI ct L f hO_0 q0 m0 r_191 (17 : Int32) po_192 po_193 (by decide +kernel) (by decide +kernel) _ hQ) (cwV 2 htb (gd_V tw_443 tw_444 tw_445 tw_89 tw_442) rfl rfl rfl (by decide +kernel) ⟨Nat.le_of_ble_eq_true rfl, Nat.le_of_ble_eq_true rfl⟩) ⟨pr_blind, tw_recv hK hP m0 rfl rfl, pr_pre hP hK hN⟩ rfl rfl hl.1 rfl (lv_room (Nat.le_of_ble_eq_true rfl)) d_Md_hinders_263 ⟨Nat.le_of_ble_eq_true rfl, Nat.le_of_ble_eq_true rfl⟩)) (fun r_270 er_270 => ?_)
                                  obtain ⟨er_270, hQ⟩ := er_270
                                  clear er_270
                                  refine lv_icmp_le (tgt := 272) hx hb d_Md_hinders_266 (by decide) (fun c_271 => ?_) (fun c_271 => ?_)
                                  · have hQ := hQ.1 c_271
                                    refine lv_aload_n hx hb d_Md_hinders_272 rfl (lv_at hl 4 rfl) ?_
                                    refine tw_getI (x := (ti f q0 1)) (D := (dC, dI)) (C := R_Md) (T := F_Md) (N := 64) (ci := 7) (kd := 27) (ct := ct) hx hb htb i_Md hown hK hP m0 rfl rfl 1 rfl (by decide) (htb (.fieldLink R_Md 7 "WaterMenModel" "time" "I") tw_111) (fun _ h9 => h9) rfl d_Md_hinders_273 ?_
                                    refine lv_aload_n hx hb d_Md_hinders_276 rfl (lv_at hl 4 rfl) ?_
                                    refine lv_iload_n hx hb d_Md_hinders_277 rfl (lv_at hl 5 rfl) ?_
                                    refine lv_iload_n hx hb d_Md_hinders_278 rfl (lv_at hl 7 rfl) ?_
                                    refine vp_callSi (va_Run.run (va_runV (As := [.int p_0, .int p_2]) (rest := [.int (ti f q0 1)]) ⟨hx, hb, hml, hown, htb⟩ (c_Md_minutesOf_w l dC dI ct L f hO_0 q0 m0 p_0 p_2 as_0 as_1 as_4 as_5 _ hQ) (cwV 2 htb (gd_V tw_584 tw_585 tw_586 tw_89 tw_583) rfl rfl rfl (by decide +kernel) ⟨Nat.le_of_ble_eq_true rfl, Nat.le_of_ble_eq_true rfl⟩) ⟨pr_blind, tw_recv hK hP m0 rfl rfl, pr_pre hP hK hN⟩ rfl rfl hl.1 rfl (lv_room (Nat.le_of_ble_eq_true rfl)) d_Md_hinders_279 ⟨Nat.le_of_ble_eq_true rfl, Nat.le_of_ble_eq_true rfl⟩)) (fun r_272 er_272 => ?_)
                                    obtain ⟨er_272, hQ⟩ := er_272
                                    clear er_272
                                    refine lv_iadd hx hb d_Md_hinders_282 ?_
                                    refine lv_ldcw (v := 359999) hx hb hown (htb (.constant R_Md 305 359999) tw_226) d_Md_hinders_283 ?_
                                    refine lv_icmp_le (tgt := 294) hx hb d_Md_hinders_286 (by decide) (fun c_273 => ?_) (fun c_273 => ?_)
                                    · have hQ := hQ.1 c_273
                                      refine lv_iconst (v := 0) hx hb d_Md_hinders_294 (by decide +kernel) ?_
                                      exact W.iret (v := 0) hx hb hr (fun t ht hW => ⟨0, rfl, ⟨trivial, hQ⟩, ht⟩) t_nil d_Md_hinders_295
                                    · have hQ := hQ.2 c_273
                                      refine lv_bipush (v := 7) hx hb d_Md_hinders_289 (by decide +kernel) ?_
                                      refine lv_goto (tgt := 295) hx hb d_Md_hinders_291 (by decide) ?_
                                      exact W.iret (v := 7) hx hb hr (fun t ht hW => ⟨7, rfl, ⟨trivial, hQ⟩, ht⟩) t_nil d_Md_hinders_295
                                  · have hQ := hQ.2 c_271
                                    refine lv_bipush (v := 6) hx hb d_Md_hinders_269 (by decide +kernel) ?_
                                    exact W.iret (v := 6) hx hb hr (fun t ht hW => ⟨6, rfl, ⟨trivial, hQ⟩, ht⟩) t_nil d_Md_hinders_271
                                · have hQ := hQ.2 c_269
                                  refine lv_iload hx hb d_Md_hinders_250 (lv_at hl 0 rfl) ?_
                                  refine lv_ineg hx hb d_Md_hinders_252 ?_
                                  refine lv_goto (tgt := 258) hx hb d_Md_hinders_253 (by decide) ?_
                                  refine lv_aload_n hx hb d_Md_hinders_258 rfl (lv_at hl 4 rfl) ?_
                                  refine lv_iload hx hb d_Md_hinders_259 (lv_at hl 2 rfl) ?_
                                  refine lv_bipush (v := 17) hx hb d_Md_hinders_261 (by decide +kernel) ?_
                                  refine vp_callSi (va_Run.run (va_runV (As := [.int r_191, .int 17]) (rest := [.int (-r_240)]) ⟨hx, hb, hml, hown, htb⟩ (c_Md_lineOf_w l dC dI ct L f hO_0 q0 m0 r_191 (17 : Int32) po_192 po_193 (by decide +kernel) (by decide +kernel) _ hQ) (cwV 2 htb (gd_V tw_443 tw_444 tw_445 tw_89 tw_442) rfl rfl rfl (by decide +kernel) ⟨Nat.le_of_ble_eq_true rfl, Nat.le_of_ble_eq_true rfl⟩) ⟨pr_blind, tw_recv hK hP m0 rfl rfl, pr_pre hP hK hN⟩ rfl rfl hl.1 rfl (lv_room (Nat.le_of_ble_eq_true rfl)) d_Md_hinders_263 ⟨Nat.le_of_ble_eq_true rfl, Nat.le_of_ble_eq_true rfl⟩)) (fun r_274 er_274 => ?_)
                                  obtain ⟨er_274, hQ⟩ := er_274
                                  clear er_274
                                  refine lv_icmp_le (tgt := 272) hx hb d_Md_hinders_266 (by decide) (fun c_275 => ?_) (fun c_275 => ?_)
                                  · have hQ := hQ.1 c_275
                                    refine lv_aload_n hx hb d_Md_hinders_272 rfl (lv_at hl 4 rfl) ?_
                                    refine tw_getI (x := (ti f q0 1)) (D := (dC, dI)) (C := R_Md) (T := F_Md) (N := 64) (ci := 7) (kd := 27) (ct := ct) hx hb htb i_Md hown hK hP m0 rfl rfl 1 rfl (by decide) (htb (.fieldLink R_Md 7 "WaterMenModel" "time" "I") tw_111) (fun _ h9 => h9) rfl d_Md_hinders_273 ?_
                                    refine lv_aload_n hx hb d_Md_hinders_276 rfl (lv_at hl 4 rfl) ?_
                                    refine lv_iload_n hx hb d_Md_hinders_277 rfl (lv_at hl 5 rfl) ?_
                                    refine lv_iload_n hx hb d_Md_hinders_278 rfl (lv_at hl 7 rfl) ?_
                                    refine vp_callSi (va_Run.run (va_runV (As := [.int p_0, .int p_2]) (rest := [.int (ti f q0 1)]) ⟨hx, hb, hml, hown, htb⟩ (c_Md_minutesOf_w l dC dI ct L f hO_0 q0 m0 p_0 p_2 as_0 as_1 as_4 as_5 _ hQ) (cwV 2 htb (gd_V tw_584 tw_585 tw_586 tw_89 tw_583) rfl rfl rfl (by decide +kernel) ⟨Nat.le_of_ble_eq_true rfl, Nat.le_of_ble_eq_true rfl⟩) ⟨pr_blind, tw_recv hK hP m0 rfl rfl, pr_pre hP hK hN⟩ rfl rfl hl.1 rfl (lv_room (Nat.le_of_ble_eq_true rfl)) d_Md_hinders_279 ⟨Nat.le_of_ble_eq_true rfl, Nat.le_of_ble_eq_true rfl⟩)) (fun r_276 er_276 => ?_)
                                    obtain ⟨er_276, hQ⟩ := er_276
                                    clear er_276
                                    refine lv_iadd hx hb d_Md_hinders_282 ?_
                                    refine lv_ldcw (v := 359999) hx hb hown (htb (.constant R_Md 305 359999) tw_226) d_Md_hinders_283 ?_
                                    refine lv_icmp_le (tgt := 294) hx hb d_Md_hinders_286 (by decide) (fun c_277 => ?_) (fun c_277 => ?_)
                                    · have hQ := hQ.1 c_277
                                      refine lv_iconst (v := 0) hx hb d_Md_hinders_294 (by decide +kernel) ?_
                                      exact W.iret (v := 0) hx hb hr (fun t ht hW => ⟨0, rfl, ⟨trivial, hQ⟩, ht⟩) t_nil d_Md_hinders_295
                                    · have hQ := hQ.2 c_277
                                      refine lv_bipush (v := 7) hx hb d_Md_hinders_289 (by decide +kernel) ?_
                                      refine lv_goto (tgt := 295) hx hb d_Md_hinders_291 (by decide) ?_
                                      exact W.iret (v := 7) hx hb hr (fun t ht hW => ⟨7, rfl, ⟨trivial, hQ⟩, ht⟩) t_nil d_Md_hinders_295
                                  · have hQ := hQ.2 c_275
                                    refine lv_bipush (v := 6) hx hb d_Md_hinders_269 (by decide +kernel) ?_
                                    exact W.iret (v := 6) hx hb hr (fun t ht hW => ⟨6, rfl, ⟨trivial, hQ⟩, ht⟩) t_nil d_Md_hinders_271
                    · have hQ := hQ.2 c_219
                      refine lv_iconst (v := 1) hx hb d_Md_hinders_143 (by decide +kernel) ?_
                      refine lv_goto (tgt := 148) hx hb d_Md_hinders_144 (by decide) ?_
                      refine lv_iload_n hx hb d_Md_hinders_148 rfl (lv_at hl 5 rfl) ?_
                      refine lv_aload_n hx hb d_Md_hinders_149 rfl (lv_at hl 2 rfl) ?_
                      refine tw_getI (x := x_206) (D := (dC, dI)) (C := R_Md) (T := F_Md) (N := 64) (ci := 7) (kd := 27) (ct := ct) hx hb htb i_Md hown hK hP m0 rfl rfl 4 e_206 (by decide) (htb (.fieldLink R_Md 35 "WaterMenModel" "bridge" "I") tw_206) (fun _ h9 => h9) rfl d_Md_hinders_150 ?_
                      refine lv_icmp_gt (tgt := 160) hx hb d_Md_hinders_153 (by decide) (fun c_278 => ?_) (fun c_278 => ?_)
                      · have hQ := hQ.1 c_278
                        refine lv_iconst (v := 0) hx hb d_Md_hinders_160 (by decide +kernel) ?_
                        refine lv_icmp_eq (tgt := 168) hx hb d_Md_hinders_161 (by decide) (fun h => absurd h (by decide +kernel)) (fun _ => ?_)
                        refine lv_iconst (v := 1) hx hb d_Md_hinders_164 (by decide +kernel) ?_
                        refine lv_goto (tgt := 169) hx hb d_Md_hinders_165 (by decide) ?_
                        refine lv_istore (lv' := [(6, .int 1), (5, .int r_191), (4, .int x_19), (0, .ref q0), (1, .int p_0), (2, .int p_1), (3, .int p_2)]) hx hb d_Md_hinders_169 hl (by decide) rfl (fun ls hl => ?_)
                        refine lv_aload_n hx hb d_Md_hinders_171 rfl (lv_at hl 3 rfl) ?_
                        refine lv_aload_n hx hb d_Md_hinders_172 rfl (lv_at hl 3 rfl) ?_
                        refine vp_callSi (va_Run.run (va_runV (As := []) (rest := [.ref q0]) ⟨hx, hb, hml, hown, htb⟩ (c_Md_today_w l dC dI ct L f hO_0 q0 m0 _ hQ) (cwV 0 htb (gd_V tw_113 tw_114 tw_115 tw_89 tw_112) rfl rfl rfl (by decide +kernel) ⟨Nat.le_of_ble_eq_true rfl, Nat.le_of_ble_eq_true rfl⟩) ⟨pr_blind, tw_recv hK hP m0 rfl rfl, pr_pre hP hK hN⟩ rfl rfl hl.1 rfl (lv_room (Nat.le_of_ble_eq_true rfl)) d_Md_hinders_173 ⟨Nat.le_of_ble_eq_true rfl, Nat.le_of_ble_eq_true rfl⟩)) (fun r_279 er_279 => ?_)
                        obtain ⟨er_279, hQ⟩ := er_279
                        obtain ⟨po_280, po_281, po_282, po_283, -⟩ := er_279
                        refine lv_aload_n hx hb d_Md_hinders_176 rfl (lv_at hl 3 rfl) ?_
                        refine vp_callSi (va_Run.run (va_runV (As := []) (rest := [.int r_279, .ref q0]) ⟨hx, hb, hml, hown, htb⟩ (c_Md_hourNow_w l dC dI ct L f hO_0 q0 m0 _ hQ) (cwV 0 htb (gd_V tw_580 tw_581 tw_582 tw_89 tw_579) rfl rfl rfl (by decide +kernel) ⟨Nat.le_of_ble_eq_true rfl, Nat.le_of_ble_eq_true rfl⟩) ⟨pr_blind, tw_recv hK hP m0 rfl rfl, pr_pre hP hK hN⟩ rfl rfl hl.1 rfl (lv_room (Nat.le_of_ble_eq_true rfl)) d_Md_hinders_177 ⟨Nat.le_of_ble_eq_true rfl, Nat.le_of_ble_eq_true rfl⟩)) (fun r_284 er_284 => ?_)
                        obtain ⟨er_284, hQ⟩ := er_284
                        obtain ⟨po_285, po_286, -⟩ := er_284
                        refine vp_callSi (va_Run.run (va_runV (As := [.int r_279, .int r_284]) (rest := []) ⟨hx, hb, hml, hown, htb⟩ (c_Md_flowOf_w l dC dI ct L f hO_0 q0 m0 r_279 r_284 po_280 po_281 po_285 po_286 _ hQ) (cwV 2 htb (gd_V tw_164 tw_165 tw_166 tw_89 tw_163) rfl rfl rfl (by decide +kernel) ⟨Nat.le_of_ble_eq_true rfl, Nat.le_of_ble_eq_true rfl⟩) ⟨pr_blind, tw_recv hK hP m0 rfl rfl, pr_pre hP hK hN⟩ rfl rfl hl.1 rfl (lv_room (Nat.le_of_ble_eq_true rfl)) d_Md_hinders_180 ⟨Nat.le_of_ble_eq_true rfl, Nat.le_of_ble_eq_true rfl⟩)) (fun r_287 er_287 => ?_)
                        obtain ⟨er_287, hQ⟩ := er_287
                        clear er_287
                        refine lv_istore (lv' := [(7, .int r_287), (6, .int 1), (5, .int r_191), (4, .int x_19), (0, .ref q0), (1, .int p_0), (2, .int p_1), (3, .int p_2)]) hx hb d_Md_hinders_183 hl (by decide) rfl (fun ls hl => ?_)
                        refine lv_iload hx hb d_Md_hinders_185 (lv_at hl 1 rfl) ?_
                        refine lv_if_eq (tgt := 229) hx hb d_Md_hinders_187 (by decide) (fun h => absurd h (by decide +kernel)) (fun _ => ?_)
                        refine lv_aload_n hx hb d_Md_hinders_190 rfl (lv_at hl 4 rfl) ?_
                        refine lv_iload hx hb d_Md_hinders_191 (lv_at hl 2 rfl) ?_
                        refine lv_bipush (v := 16) hx hb d_Md_hinders_193 (by decide +kernel) ?_
                        refine vp_callSi (va_Run.run (va_runV (As := [.int r_191, .int 16]) (rest := []) ⟨hx, hb, hml, hown, htb⟩ (c_Md_lineOf_w l dC dI ct L f hO_0 q0 m0 r_191 (16 : Int32) po_192 po_193 (by decide +kernel) (by decide +kernel) _ hQ) (cwV 2 htb (gd_V tw_443 tw_444 tw_445 tw_89 tw_442) rfl rfl rfl (by decide +kernel) ⟨Nat.le_of_ble_eq_true rfl, Nat.le_of_ble_eq_true rfl⟩) ⟨pr_blind, tw_recv hK hP m0 rfl rfl, pr_pre hP hK hN⟩ rfl rfl hl.1 rfl (lv_room (Nat.le_of_ble_eq_true rfl)) d_Md_hinders_195 ⟨Nat.le_of_ble_eq_true rfl, Nat.le_of_ble_eq_true rfl⟩)) (fun r_288 er_288 => ?_)
                        obtain ⟨er_288, hQ⟩ := er_288
                        clear er_288
                        refine lv_if_lt (tgt := 229) hx hb d_Md_hinders_198 (by decide) (fun c_289 => ?_) (fun c_289 => ?_)
                        · have hQ := hQ.1 c_289
                          refine lv_iload hx hb d_Md_hinders_229 (lv_at hl 1 rfl) ?_
                          refine lv_if_eq (tgt := 272) hx hb d_Md_hinders_231 (by decide) (fun h => absurd h (by decide +kernel)) (fun _ => ?_)
                          refine lv_aload_n hx hb d_Md_hinders_234 rfl (lv_at hl 4 rfl) ?_
                          refine lv_iload hx hb d_Md_hinders_235 (lv_at hl 2 rfl) ?_
                          refine lv_bipush (v := 17) hx hb d_Md_hinders_237 (by decide +kernel) ?_
                          refine vp_callSi (va_Run.run (va_runV (As := [.int r_191, .int 17]) (rest := []) ⟨hx, hb, hml, hown, htb⟩ (c_Md_lineOf_w l dC dI ct L f hO_0 q0 m0 r_191 (17 : Int32) po_192 po_193 (by decide +kernel) (by decide +kernel) _ hQ) (cwV 2 htb (gd_V tw_443 tw_444 tw_445 tw_89 tw_442) rfl rfl rfl (by decide +kernel) ⟨Nat.le_of_ble_eq_true rfl, Nat.le_of_ble_eq_true rfl⟩) ⟨pr_blind, tw_recv hK hP m0 rfl rfl, pr_pre hP hK hN⟩ rfl rfl hl.1 rfl (lv_room (Nat.le_of_ble_eq_true rfl)) d_Md_hinders_239 ⟨Nat.le_of_ble_eq_true rfl, Nat.le_of_ble_eq_true rfl⟩)) (fun r_290 er_290 => ?_)
                          obtain ⟨er_290, hQ⟩ := er_290
                          clear er_290
                          refine lv_if_lt (tgt := 272) hx hb d_Md_hinders_242 (by decide) (fun c_291 => ?_) (fun c_291 => ?_)
                          · have hQ := hQ.1 c_291
                            refine lv_aload_n hx hb d_Md_hinders_272 rfl (lv_at hl 4 rfl) ?_
                            refine tw_getI (x := (ti f q0 1)) (D := (dC, dI)) (C := R_Md) (T := F_Md) (N := 64) (ci := 7) (kd := 27) (ct := ct) hx hb htb i_Md hown hK hP m0 rfl rfl 1 rfl (by decide) (htb (.fieldLink R_Md 7 "WaterMenModel" "time" "I") tw_111) (fun _ h9 => h9) rfl d_Md_hinders_273 ?_
                            refine lv_aload_n hx hb d_Md_hinders_276 rfl (lv_at hl 4 rfl) ?_
                            refine lv_iload_n hx hb d_Md_hinders_277 rfl (lv_at hl 5 rfl) ?_
                            refine lv_iload_n hx hb d_Md_hinders_278 rfl (lv_at hl 7 rfl) ?_
                            refine vp_callSi (va_Run.run (va_runV (As := [.int p_0, .int p_2]) (rest := [.int (ti f q0 1)]) ⟨hx, hb, hml, hown, htb⟩ (c_Md_minutesOf_w l dC dI ct L f hO_0 q0 m0 p_0 p_2 as_0 as_1 as_4 as_5 _ hQ) (cwV 2 htb (gd_V tw_584 tw_585 tw_586 tw_89 tw_583) rfl rfl rfl (by decide +kernel) ⟨Nat.le_of_ble_eq_true rfl, Nat.le_of_ble_eq_true rfl⟩) ⟨pr_blind, tw_recv hK hP m0 rfl rfl, pr_pre hP hK hN⟩ rfl rfl hl.1 rfl (lv_room (Nat.le_of_ble_eq_true rfl)) d_Md_hinders_279 ⟨Nat.le_of_ble_eq_true rfl, Nat.le_of_ble_eq_true rfl⟩)) (fun r_292 er_292 => ?_)
                            obtain ⟨er_292, hQ⟩ := er_292
                            clear er_292
                            refine lv_iadd hx hb d_Md_hinders_282 ?_
                            refine lv_ldcw (v := 359999) hx hb hown (htb (.constant R_Md 305 359999) tw_226) d_Md_hinders_283 ?_
                            refine lv_icmp_le (tgt := 294) hx hb d_Md_hinders_286 (by decide) (fun c_293 => ?_) (fun c_293 => ?_)
                            · have hQ := hQ.1 c_293
                              refine lv_iconst (v := 0) hx hb d_Md_hinders_294 (by decide +kernel) ?_
                              exact W.iret (v := 0) hx hb hr (fun t ht hW => ⟨0, rfl, ⟨trivial, hQ⟩, ht⟩) t_nil d_Md_hinders_295
                            · have hQ := hQ.2 c_293
                              refine lv_bipush (v := 7) hx hb d_Md_hinders_289 (by decide +kernel) ?_
                              refine lv_goto (tgt := 295) hx hb d_Md_hinders_291 (by decide) ?_
                              exact W.iret (v := 7) hx hb hr (fun t ht hW => ⟨7, rfl, ⟨trivial, hQ⟩, ht⟩) t_nil d_Md_hinders_295
                          · have hQ := hQ.2 c_291
                            refine lv_iload hx hb d_Md_hinders_245 (lv_at hl 0 rfl) ?_
                            refine lv_if_ge (tgt := 256) hx hb d_Md_hinders_247 (by decide) (fun c_294 => ?_) (fun c_294 => ?_)
                            · have hQ := hQ.1 c_294
                              refine lv_iload hx hb d_Md_hinders_256 (lv_at hl 0 rfl) ?_
                              refine lv_aload_n hx hb d_Md_hinders_258 rfl (lv_at hl 4 rfl) ?_
                              refine lv_iload hx hb d_Md_hinders_259 (lv_at hl 2 rfl) ?_
                              refine lv_bipush (v := 17) hx hb d_Md_hinders_261 (by decide +kernel) ?_
                              refine vp_callSi (va_Run.run (va_runV (As := [.int r_191, .int 17]) (rest := [.int r_287]) ⟨hx, hb, hml, hown, htb⟩ (c_Md_lineOf_w l dC dI ct L f hO_0 q0 m0 r_191 (17 : Int32) po_192 po_193 (by decide +kernel) (by decide +kernel) _ hQ) (cwV 2 htb (gd_V tw_443 tw_444 tw_445 tw_89 tw_442) rfl rfl rfl (by decide +kernel) ⟨Nat.le_of_ble_eq_true rfl, Nat.le_of_ble_eq_true rfl⟩) ⟨pr_blind, tw_recv hK hP m0 rfl rfl, pr_pre hP hK hN⟩ rfl rfl hl.1 rfl (lv_room (Nat.le_of_ble_eq_true rfl)) d_Md_hinders_263 ⟨Nat.le_of_ble_eq_true rfl, Nat.le_of_ble_eq_true rfl⟩)) (fun r_295 er_295 => ?_)
                              obtain ⟨er_295, hQ⟩ := er_295
                              clear er_295
                              refine lv_icmp_le (tgt := 272) hx hb d_Md_hinders_266 (by decide) (fun c_296 => ?_) (fun c_296 => ?_)
                              · have hQ := hQ.1 c_296
                                refine lv_aload_n hx hb d_Md_hinders_272 rfl (lv_at hl 4 rfl) ?_
                                refine tw_getI (x := (ti f q0 1)) (D := (dC, dI)) (C := R_Md) (T := F_Md) (N := 64) (ci := 7) (kd := 27) (ct := ct) hx hb htb i_Md hown hK hP m0 rfl rfl 1 rfl (by decide) (htb (.fieldLink R_Md 7 "WaterMenModel" "time" "I") tw_111) (fun _ h9 => h9) rfl d_Md_hinders_273 ?_
                                refine lv_aload_n hx hb d_Md_hinders_276 rfl (lv_at hl 4 rfl) ?_
                                refine lv_iload_n hx hb d_Md_hinders_277 rfl (lv_at hl 5 rfl) ?_
                                refine lv_iload_n hx hb d_Md_hinders_278 rfl (lv_at hl 7 rfl) ?_
                                refine vp_callSi (va_Run.run (va_runV (As := [.int p_0, .int p_2]) (rest := [.int (ti f q0 1)]) ⟨hx, hb, hml, hown, htb⟩ (c_Md_minutesOf_w l dC dI ct L f hO_0 q0 m0 p_0 p_2 as_0 as_1 as_4 as_5 _ hQ) (cwV 2 htb (gd_V tw_584 tw_585 tw_586 tw_89 tw_583) rfl rfl rfl (by decide +kernel) ⟨Nat.le_of_ble_eq_true rfl, Nat.le_of_ble_eq_true rfl⟩) ⟨pr_blind, tw_recv hK hP m0 rfl rfl, pr_pre hP hK hN⟩ rfl rfl hl.1 rfl (lv_room (Nat.le_of_ble_eq_true rfl)) d_Md_hinders_279 ⟨Nat.le_of_ble_eq_true rfl, Nat.le_of_ble_eq_true rfl⟩)) (fun r_297 er_297 => ?_)
                                obtain ⟨er_297, hQ⟩ := er_297
                                clear er_297
                                refine lv_iadd hx hb d_Md_hinders_282 ?_
                                refine lv_ldcw (v := 359999) hx hb hown (htb (.constant R_Md 305 359999) tw_226) d_Md_hinders_283 ?_
                                refine lv_icmp_le (tgt := 294) hx hb d_Md_hinders_286 (by decide) (fun c_298 => ?_) (fun c_298 => ?_)
                                · have hQ := hQ.1 c_298
                                  refine lv_iconst (v := 0) hx hb d_Md_hinders_294 (by decide +kernel) ?_
                                  exact W.iret (v := 0) hx hb hr (fun t ht hW => ⟨0, rfl, ⟨trivial, hQ⟩, ht⟩) t_nil d_Md_hinders_295
                                · have hQ := hQ.2 c_298
                                  refine lv_bipush (v := 7) hx hb d_Md_hinders_289 (by decide +kernel) ?_
                                  refine lv_goto (tgt := 295) hx hb d_Md_hinders_291 (by decide) ?_
                                  exact W.iret (v := 7) hx hb hr (fun t ht hW => ⟨7, rfl, ⟨trivial, hQ⟩, ht⟩) t_nil d_Md_hinders_295
                              · have hQ := hQ.2 c_296
                                refine lv_bipush (v := 6) hx hb d_Md_hinders_269 (by decide +kernel) ?_
                                exact W.iret (v := 6) hx hb hr (fun t ht hW => ⟨6, rfl, ⟨trivial, hQ⟩, ht⟩) t_nil d_Md_hinders_271
                            · have hQ := hQ.2 c_294
                              refine lv_iload hx hb d_Md_hinders_250 (lv_at hl 0 rfl) ?_
                              refine lv_ineg hx hb d_Md_hinders_252 ?_
                              refine lv_goto (tgt := 258) hx hb d_Md_hinders_253 (by decide) ?_
                              refine lv_aload_n hx hb d_Md_hinders_258 rfl (lv_at hl 4 rfl) ?_
                              refine lv_iload hx hb d_Md_hinders_259 (lv_at hl 2 rfl) ?_
                              refine lv_bipush (v := 17) hx hb d_Md_hinders_261 (by decide +kernel) ?_
                              refine vp_callSi (va_Run.run (va_runV (As := [.int r_191, .int 17]) (rest := [.int (-r_287)]) ⟨hx, hb, hml, hown, htb⟩ (c_Md_lineOf_w l dC dI ct L f hO_0 q0 m0 r_191 (17 : Int32) po_192 po_193 (by decide +kernel) (by decide +kernel) _ hQ) (cwV 2 htb (gd_V tw_443 tw_444 tw_445 tw_89 tw_442) rfl rfl rfl (by decide +kernel) ⟨Nat.le_of_ble_eq_true rfl, Nat.le_of_ble_eq_true rfl⟩) ⟨pr_blind, tw_recv hK hP m0 rfl rfl, pr_pre hP hK hN⟩ rfl rfl hl.1 rfl (lv_room (Nat.le_of_ble_eq_true rfl)) d_Md_hinders_263 ⟨Nat.le_of_ble_eq_true rfl, Nat.le_of_ble_eq_true rfl⟩)) (fun r_299 er_299 => ?_)
                              obtain ⟨er_299, hQ⟩ := er_299
                              clear er_299
                              refine lv_icmp_le (tgt := 272) hx hb d_Md_hinders_266 (by decide) (fun c_300 => ?_) (fun c_300 => ?_)
                              · have hQ := hQ.1 c_300
                                refine lv_aload_n hx hb d_Md_hinders_272 rfl (lv_at hl 4 rfl) ?_
                                refine tw_getI (x := (ti f q0 1)) (D := (dC, dI)) (C := R_Md) (T := F_Md) (N := 64) (ci := 7) (kd := 27) (ct := ct) hx hb htb i_Md hown hK hP m0 rfl rfl 1 rfl (by decide) (htb (.fieldLink R_Md 7 "WaterMenModel" "time" "I") tw_111) (fun _ h9 => h9) rfl d_Md_hinders_273 ?_
                                refine lv_aload_n hx hb d_Md_hinders_276 rfl (lv_at hl 4 rfl) ?_
                                refine lv_iload_n hx hb d_Md_hinders_277 rfl (lv_at hl 5 rfl) ?_
                                refine lv_iload_n hx hb d_Md_hinders_278 rfl (lv_at hl 7 rfl) ?_
                                refine vp_callSi (va_Run.run (va_runV (As := [.int p_0, .int p_2]) (rest := [.int (ti f q0 1)]) ⟨hx, hb, hml, hown, htb⟩ (c_Md_minutesOf_w l dC dI ct L f hO_0 q0 m0 p_0 p_2 as_0 as_1 as_4 as_5 _ hQ) (cwV 2 htb (gd_V tw_584 tw_585 tw_586 tw_89 tw_583) rfl rfl rfl (by decide +kernel) ⟨Nat.le_of_ble_eq_true rfl, Nat.le_of_ble_eq_true rfl⟩) ⟨pr_blind, tw_recv hK hP m0 rfl rfl, pr_pre hP hK hN⟩ rfl rfl hl.1 rfl (lv_room (Nat.le_of_ble_eq_true rfl)) d_Md_hinders_279 ⟨Nat.le_of_ble_eq_true rfl, Nat.le_of_ble_eq_true rfl⟩)) (fun r_301 er_301 => ?_)
                                obtain ⟨er_301, hQ⟩ := er_301
                                clear er_301
                                refine lv_iadd hx hb d_Md_hinders_282 ?_
                                refine lv_ldcw (v := 359999) hx hb hown (htb (.constant R_Md 305 359999) tw_226) d_Md_hinders_283 ?_
                                refine lv_icmp_le (tgt := 294) hx hb d_Md_hinders_286 (by decide) (fun c_302 => ?_) (fun c_302 => ?_)
                                · have hQ := hQ.1 c_302
                                  refine lv_iconst (v := 0) hx hb d_Md_hinders_294 (by decide +kernel) ?_
                                  exact W.iret (v := 0) hx hb hr (fun t ht hW => ⟨0, rfl, ⟨trivial, hQ⟩, ht⟩) t_nil d_Md_hinders_295
                                · have hQ := hQ.2 c_302
                                  refine lv_bipush (v := 7) hx hb d_Md_hinders_289 (by decide +kernel) ?_
                                  refine lv_goto (tgt := 295) hx hb d_Md_hinders_291 (by decide) ?_
                                  exact W.iret (v := 7) hx hb hr (fun t ht hW => ⟨7, rfl, ⟨trivial, hQ⟩, ht⟩) t_nil d_Md_hinders_295
                              · have hQ := hQ.2 c_300
                                refine lv_bipush (v := 6) hx hb d_Md_hinders_269 (by decide +kernel) ?_
                                exact W.iret (v := 6) hx hb hr (fun t ht hW => ⟨6, rfl, ⟨trivial, hQ⟩, ht⟩) t_nil d_Md_hinders_271
                        · have hQ := hQ.2 c_289
                          refine lv_aload_n hx hb d_Md_hinders_201 rfl (lv_at hl 4 rfl) ?_
                          refine vp_callSi (va_Run.run (va_runV (As := []) (rest := []) ⟨hx, hb, hml, hown, htb⟩ (c_Md_hourNow_w l dC dI ct L f hO_0 q0 m0 _ hQ) (cwV 0 htb (gd_V tw_580 tw_581 tw_582 tw_89 tw_579) rfl rfl rfl (by decide +kernel) ⟨Nat.le_of_ble_eq_true rfl, Nat.le_of_ble_eq_true rfl⟩) ⟨pr_blind, tw_recv hK hP m0 rfl rfl, pr_pre hP hK hN⟩ rfl rfl hl.1 rfl (lv_room (Nat.le_of_ble_eq_true rfl)) d_Md_hinders_202 ⟨Nat.le_of_ble_eq_true rfl, Nat.le_of_ble_eq_true rfl⟩)) (fun r_303 er_303 => ?_)
                          obtain ⟨er_303, hQ⟩ := er_303
                          obtain ⟨po_304, po_305, -⟩ := er_303
                          refine lv_aload_n hx hb d_Md_hinders_205 rfl (lv_at hl 4 rfl) ?_
                          refine lv_iload hx hb d_Md_hinders_206 (lv_at hl 2 rfl) ?_
                          refine lv_bipush (v := 16) hx hb d_Md_hinders_208 (by decide +kernel) ?_
                          refine vp_callSi (va_Run.run (va_runV (As := [.int r_191, .int 16]) (rest := [.int r_303]) ⟨hx, hb, hml, hown, htb⟩ (c_Md_lineOf_w l dC dI ct L f hO_0 q0 m0 r_191 (16 : Int32) po_192 po_193 (by decide +kernel) (by decide +kernel) _ hQ) (cwV 2 htb (gd_V tw_443 tw_444 tw_445 tw_89 tw_442) rfl rfl rfl (by decide +kernel) ⟨Nat.le_of_ble_eq_true rfl, Nat.le_of_ble_eq_true rfl⟩) ⟨pr_blind, tw_recv hK hP m0 rfl rfl, pr_pre hP hK hN⟩ rfl rfl hl.1 rfl (lv_room (Nat.le_of_ble_eq_true rfl)) d_Md_hinders_210 ⟨Nat.le_of_ble_eq_true rfl, Nat.le_of_ble_eq_true rfl⟩)) (fun r_306 er_306 => ?_)
                          obtain ⟨er_306, hQ⟩ := er_306
                          clear er_306
                          refine lv_aload_n hx hb d_Md_hinders_213 rfl (lv_at hl 4 rfl) ?_
                          refine tw_getr (D := (dC, dI)) (C := R_Md) (T := F_Md) (N := 64) (ci := 7) (kd := 27) (ct := ct) hx hb htb i_Md hown hK hP hO_0 m0 rfl rfl 41 (by decide) (htb (.fieldLink R_Md 146 "WaterMenModel" "singleTo" "[I") tw_374) (fun _ h9 => h9) rfl d_Md_hinders_214 (fun q_307 e_307 m_307 => ?_)
                          have hQ := hQ q_307 e_307
                          refine lv_iload hx hb d_Md_hinders_217 (lv_at hl 2 rfl) ?_
                          refine tw_aldI (ct := ct) hx hb hK hP hO_0 m_307 rfl (hb_inl po_192 po_193 (by decide +kernel)) d_Md_hinders_219 (fun x_308 e_308 b_308 => ?_)
                          have hQ := hQ x_308 e_308
                          refine vp_callSi (va_Run.run (va_runS (As := [.int r_303, .int r_306, .int x_308]) (rest := []) ⟨hx, hb, hml, hown, htb⟩ (c_Md_in l r_303 r_306 x_308) (cwS 3 htb (gd_S tw_90 tw_91 tw_89 tw_88) rfl rfl rfl (by decide +kernel) ⟨Nat.le_of_ble_eq_true rfl, Nat.le_of_ble_eq_true rfl⟩) ⟨fun _ _ _ _ h => h, fun U _ _ => ⟨rfl, trivial⟩⟩ rfl rfl hl.1 rfl (lv_room (Nat.le_of_ble_eq_true rfl)) d_Md_hinders_220 ⟨Nat.le_of_ble_eq_true rfl, Nat.le_of_ble_eq_true rfl⟩)) (fun r er => ?_)
                          subst er
                          by_cases c_310 : r_303 < r_306
                          · have hQ := hQ.1 c_310
                            refine hb_ti 0 (by unfold f_Md_in; rw [if_pos c_310]; first | done | rfl) ?_
                            refine lv_if_ne (tgt := 229) hx hb d_Md_hinders_223 (by decide) (fun h => absurd (by decide +kernel) h) (fun _ => ?_)
                            refine lv_bipush (v := 6) hx hb d_Md_hinders_226 (by decide +kernel) ?_
                            exact W.iret (v := 6) hx hb hr (fun t ht hW => ⟨6, rfl, ⟨trivial, hQ⟩, ht⟩) t_nil d_Md_hinders_228
                          · have hQ := hQ.2 c_310
                            by_cases c_311 : x_308 < r_303
                            · have hQ := hQ.1 c_311
                              refine hb_ti 0 (by unfold f_Md_in; rw [if_neg c_310, if_pos c_311]; first | done | rfl) ?_
                              refine lv_if_ne (tgt := 229) hx hb d_Md_hinders_223 (by decide) (fun h => absurd (by decide +kernel) h) (fun _ => ?_)
                              refine lv_bipush (v := 6) hx hb d_Md_hinders_226 (by decide +kernel) ?_
                              exact W.iret (v := 6) hx hb hr (fun t ht hW => ⟨6, rfl, ⟨trivial, hQ⟩, ht⟩) t_nil d_Md_hinders_228
                            · have hQ := hQ.2 c_311
                              refine hb_ti 1 (by unfold f_Md_in; rw [if_neg c_310, if_neg c_311]; first | done | rfl) ?_
                              refine lv_if_ne (tgt := 229) hx hb d_Md_hinders_223 (by decide) (fun _ => ?_) (fun h => absurd h (by decide +kernel))
                              refine lv_iload hx hb d_Md_hinders_229 (lv_at hl 1 rfl) ?_
                              refine lv_if_eq (tgt := 272) hx hb d_Md_hinders_231 (by decide) (fun h => absurd h (by decide +kernel)) (fun _ => ?_)
                              refine lv_aload_n hx hb d_Md_hinders_234 rfl (lv_at hl 4 rfl) ?_
                              refine lv_iload hx hb d_Md_hinders_235 (lv_at hl 2 rfl) ?_
                              refine lv_bipush (v := 17) hx hb d_Md_hinders_237 (by decide +kernel) ?_
                              refine vp_callSi (va_Run.run (va_runV (As := [.int r_191, .int 17]) (rest := []) ⟨hx, hb, hml, hown, htb⟩ (c_Md_lineOf_w l dC dI ct L f hO_0 q0 m0 r_191 (17 : Int32) po_192 po_193 (by decide +kernel) (by decide +kernel) _ hQ) (cwV 2 htb (gd_V tw_443 tw_444 tw_445 tw_89 tw_442) rfl rfl rfl (by decide +kernel) ⟨Nat.le_of_ble_eq_true rfl, Nat.le_of_ble_eq_true rfl⟩) ⟨pr_blind, tw_recv hK hP m0 rfl rfl, pr_pre hP hK hN⟩ rfl rfl hl.1 rfl (lv_room (Nat.le_of_ble_eq_true rfl)) d_Md_hinders_239 ⟨Nat.le_of_ble_eq_true rfl, Nat.le_of_ble_eq_true rfl⟩)) (fun r_312 er_312 => ?_)
                              obtain ⟨er_312, hQ⟩ := er_312
                              clear er_312
                              refine lv_if_lt (tgt := 272) hx hb d_Md_hinders_242 (by decide) (fun c_313 => ?_) (fun c_313 => ?_)
                              · have hQ := hQ.1 c_313
                                refine lv_aload_n hx hb d_Md_hinders_272 rfl (lv_at hl 4 rfl) ?_
                                refine tw_getI (x := (ti f q0 1)) (D := (dC, dI)) (C := R_Md) (T := F_Md) (N := 64) (ci := 7) (kd := 27) (ct := ct) hx hb htb i_Md hown hK hP m0 rfl rfl 1 rfl (by decide) (htb (.fieldLink R_Md 7 "WaterMenModel" "time" "I") tw_111) (fun _ h9 => h9) rfl d_Md_hinders_273 ?_
                                refine lv_aload_n hx hb d_Md_hinders_276 rfl (lv_at hl 4 rfl) ?_
                                refine lv_iload_n hx hb d_Md_hinders_277 rfl (lv_at hl 5 rfl) ?_
                                refine lv_iload_n hx hb d_Md_hinders_278 rfl (lv_at hl 7 rfl) ?_
                                refine vp_callSi (va_Run.run (va_runV (As := [.int p_0, .int p_2]) (rest := [.int (ti f q0 1)]) ⟨hx, hb, hml, hown, htb⟩ (c_Md_minutesOf_w l dC dI ct L f hO_0 q0 m0 p_0 p_2 as_0 as_1 as_4 as_5 _ hQ) (cwV 2 htb (gd_V tw_584 tw_585 tw_586 tw_89 tw_583) rfl rfl rfl (by decide +kernel) ⟨Nat.le_of_ble_eq_true rfl, Nat.le_of_ble_eq_true rfl⟩) ⟨pr_blind, tw_recv hK hP m0 rfl rfl, pr_pre hP hK hN⟩ rfl rfl hl.1 rfl (lv_room (Nat.le_of_ble_eq_true rfl)) d_Md_hinders_279 ⟨Nat.le_of_ble_eq_true rfl, Nat.le_of_ble_eq_true rfl⟩)) (fun r_314 er_314 => ?_)
                                obtain ⟨er_314, hQ⟩ := er_314
                                clear er_314
                                refine lv_iadd hx hb d_Md_hinders_282 ?_
                                refine lv_ldcw (v := 359999) hx hb hown (htb (.constant R_Md 305 359999) tw_226) d_Md_hinders_283 ?_
                                refine lv_icmp_le (tgt := 294) hx hb d_Md_hinders_286 (by decide) (fun c_315 => ?_) (fun c_315 => ?_)
                                · have hQ := hQ.1 c_315
                                  refine lv_iconst (v := 0) hx hb d_Md_hinders_294 (by decide +kernel) ?_
                                  exact W.iret (v := 0) hx hb hr (fun t ht hW => ⟨0, rfl, ⟨trivial, hQ⟩, ht⟩) t_nil d_Md_hinders_295
                                · have hQ := hQ.2 c_315
                                  refine lv_bipush (v := 7) hx hb d_Md_hinders_289 (by decide +kernel) ?_
                                  refine lv_goto (tgt := 295) hx hb d_Md_hinders_291 (by decide) ?_
                                  exact W.iret (v := 7) hx hb hr (fun t ht hW => ⟨7, rfl, ⟨trivial, hQ⟩, ht⟩) t_nil d_Md_hinders_295
                              · have hQ := hQ.2 c_313
                                refine lv_iload hx hb d_Md_hinders_245 (lv_at hl 0 rfl) ?_
                                refine lv_if_ge (tgt := 256) hx hb d_Md_hinders_247 (by decide) (fun c_316 => ?_) (fun c_316 => ?_)
                                · have hQ := hQ.1 c_316
                                  refine lv_iload hx hb d_Md_hinders_256 (lv_at hl 0 rfl) ?_
                                  refine lv_aload_n hx hb d_Md_hinders_258 rfl (lv_at hl 4 rfl) ?_
                                  refine lv_iload hx hb d_Md_hinders_259 (lv_at hl 2 rfl) ?_
                                  refine lv_bipush (v := 17) hx hb d_Md_hinders_261 (by decide +kernel) ?_
                                  refine vp_callSi (va_Run.run (va_runV (As := [.int r_191, .int 17]) (rest := [.int r_287]) ⟨hx, hb, hml, hown, htb⟩ (c_Md_lineOf_w l dC dI ct L f hO_0 q0 m0 r_191 (17 : Int32) po_192 po_193 (by decide +kernel) (by decide +kernel) _ hQ) (cwV 2 htb (gd_V tw_443 tw_444 tw_445 tw_89 tw_442) rfl rfl rfl (by decide +kernel) ⟨Nat.le_of_ble_eq_true rfl, Nat.le_of_ble_eq_true rfl⟩) ⟨pr_blind, tw_recv hK hP m0 rfl rfl, pr_pre hP hK hN⟩ rfl rfl hl.1 rfl (lv_room (Nat.le_of_ble_eq_true rfl)) d_Md_hinders_263 ⟨Nat.le_of_ble_eq_true rfl, Nat.le_of_ble_eq_true rfl⟩)) (fun r_317 er_317 => ?_)
                                  obtain ⟨er_317, hQ⟩ := er_317
                                  clear er_317
                                  refine lv_icmp_le (tgt := 272) hx hb d_Md_hinders_266 (by decide) (fun c_318 => ?_) (fun c_318 => ?_)
                                  · have hQ := hQ.1 c_318
                                    refine lv_aload_n hx hb d_Md_hinders_272 rfl (lv_at hl 4 rfl) ?_
                                    refine tw_getI (x := (ti f q0 1)) (D := (dC, dI)) (C := R_Md) (T := F_Md) (N := 64) (ci := 7) (kd := 27) (ct := ct) hx hb htb i_Md hown hK hP m0 rfl rfl 1 rfl (by decide) (htb (.fieldLink R_Md 7 "WaterMenModel" "time" "I") tw_111) (fun _ h9 => h9) rfl d_Md_hinders_273 ?_
                                    refine lv_aload_n hx hb d_Md_hinders_276 rfl (lv_at hl 4 rfl) ?_
                                    refine lv_iload_n hx hb d_Md_hinders_277 rfl (lv_at hl 5 rfl) ?_
                                    refine lv_iload_n hx hb d_Md_hinders_278 rfl (lv_at hl 7 rfl) ?_
                                    refine vp_callSi (va_Run.run (va_runV (As := [.int p_0, .int p_2]) (rest := [.int (ti f q0 1)]) ⟨hx, hb, hml, hown, htb⟩ (c_Md_minutesOf_w l dC dI ct L f hO_0 q0 m0 p_0 p_2 as_0 as_1 as_4 as_5 _ hQ) (cwV 2 htb (gd_V tw_584 tw_585 tw_586 tw_89 tw_583) rfl rfl rfl (by decide +kernel) ⟨Nat.le_of_ble_eq_true rfl, Nat.le_of_ble_eq_true rfl⟩) ⟨pr_blind, tw_recv hK hP m0 rfl rfl, pr_pre hP hK hN⟩ rfl rfl hl.1 rfl (lv_room (Nat.le_of_ble_eq_true rfl)) d_Md_hinders_279 ⟨Nat.le_of_ble_eq_true rfl, Nat.le_of_ble_eq_true rfl⟩)) (fun r_319 er_319 => ?_)
                                    obtain ⟨er_319, hQ⟩ := er_319
                                    clear er_319
                                    refine lv_iadd hx hb d_Md_hinders_282 ?_
                                    refine lv_ldcw (v := 359999) hx hb hown (htb (.constant R_Md 305 359999) tw_226) d_Md_hinders_283 ?_
                                    refine lv_icmp_le (tgt := 294) hx hb d_Md_hinders_286 (by decide) (fun c_320 => ?_) (fun c_320 => ?_)
                                    · have hQ := hQ.1 c_320
                                      refine lv_iconst (v := 0) hx hb d_Md_hinders_294 (by decide +kernel) ?_
                                      exact W.iret (v := 0) hx hb hr (fun t ht hW => ⟨0, rfl, ⟨trivial, hQ⟩, ht⟩) t_nil d_Md_hinders_295
                                    · have hQ := hQ.2 c_320
                                      refine lv_bipush (v := 7) hx hb d_Md_hinders_289 (by decide +kernel) ?_
                                      refine lv_goto (tgt := 295) hx hb d_Md_hinders_291 (by decide) ?_
                                      exact W.iret (v := 7) hx hb hr (fun t ht hW => ⟨7, rfl, ⟨trivial, hQ⟩, ht⟩) t_nil d_Md_hinders_295
                                  · have hQ := hQ.2 c_318
                                    refine lv_bipush (v := 6) hx hb d_Md_hinders_269 (by decide +kernel) ?_
                                    exact W.iret (v := 6) hx hb hr (fun t ht hW => ⟨6, rfl, ⟨trivial, hQ⟩, ht⟩) t_nil d_Md_hinders_271
                                · have hQ := hQ.2 c_316
                                  refine lv_iload hx hb d_Md_hinders_250 (lv_at hl 0 rfl) ?_
                                  refine lv_ineg hx hb d_Md_hinders_252 ?_
                                  refine lv_goto (tgt := 258) hx hb d_Md_hinders_253 (by decide) ?_
                                  refine lv_aload_n hx hb d_Md_hinders_258 rfl (lv_at hl 4 rfl) ?_
                                  refine lv_iload hx hb d_Md_hinders_259 (lv_at hl 2 rfl) ?_
                                  refine lv_bipush (v := 17) hx hb d_Md_hinders_261 (by decide +kernel) ?_
                                  refine vp_callSi (va_Run.run (va_runV (As := [.int r_191, .int 17]) (rest := [.int (-r_287)]) ⟨hx, hb, hml, hown, htb⟩ (c_Md_lineOf_w l dC dI ct L f hO_0 q0 m0 r_191 (17 : Int32) po_192 po_193 (by decide +kernel) (by decide +kernel) _ hQ) (cwV 2 htb (gd_V tw_443 tw_444 tw_445 tw_89 tw_442) rfl rfl rfl (by decide +kernel) ⟨Nat.le_of_ble_eq_true rfl, Nat.le_of_ble_eq_true rfl⟩) ⟨pr_blind, tw_recv hK hP m0 rfl rfl, pr_pre hP hK hN⟩ rfl rfl hl.1 rfl (lv_room (Nat.le_of_ble_eq_true rfl)) d_Md_hinders_263 ⟨Nat.le_of_ble_eq_true rfl, Nat.le_of_ble_eq_true rfl⟩)) (fun r_321 er_321 => ?_)
                                  obtain ⟨er_321, hQ⟩ := er_321
                                  clear er_321
                                  refine lv_icmp_le (tgt := 272) hx hb d_Md_hinders_266 (by decide) (fun c_322 => ?_) (fun c_322 => ?_)
                                  · have hQ := hQ.1 c_322
                                    refine lv_aload_n hx hb d_Md_hinders_272 rfl (lv_at hl 4 rfl) ?_
                                    refine tw_getI (x := (ti f q0 1)) (D := (dC, dI)) (C := R_Md) (T := F_Md) (N := 64) (ci := 7) (kd := 27) (ct := ct) hx hb htb i_Md hown hK hP m0 rfl rfl 1 rfl (by decide) (htb (.fieldLink R_Md 7 "WaterMenModel" "time" "I") tw_111) (fun _ h9 => h9) rfl d_Md_hinders_273 ?_
                                    refine lv_aload_n hx hb d_Md_hinders_276 rfl (lv_at hl 4 rfl) ?_
                                    refine lv_iload_n hx hb d_Md_hinders_277 rfl (lv_at hl 5 rfl) ?_
                                    refine lv_iload_n hx hb d_Md_hinders_278 rfl (lv_at hl 7 rfl) ?_
                                    refine vp_callSi (va_Run.run (va_runV (As := [.int p_0, .int p_2]) (rest := [.int (ti f q0 1)]) ⟨hx, hb, hml, hown, htb⟩ (c_Md_minutesOf_w l dC dI ct L f hO_0 q0 m0 p_0 p_2 as_0 as_1 as_4 as_5 _ hQ) (cwV 2 htb (gd_V tw_584 tw_585 tw_586 tw_89 tw_583) rfl rfl rfl (by decide +kernel) ⟨Nat.le_of_ble_eq_true rfl, Nat.le_of_ble_eq_true rfl⟩) ⟨pr_blind, tw_recv hK hP m0 rfl rfl, pr_pre hP hK hN⟩ rfl rfl hl.1 rfl (lv_room (Nat.le_of_ble_eq_true rfl)) d_Md_hinders_279 ⟨Nat.le_of_ble_eq_true rfl, Nat.le_of_ble_eq_true rfl⟩)) (fun r_323 er_323 => ?_)
                                    obtain ⟨er_323, hQ⟩ := er_323
                                    clear er_323
                                    refine lv_iadd hx hb d_Md_hinders_282 ?_
                                    refine lv_ldcw (v := 359999) hx hb hown (htb (.constant R_Md 305 359999) tw_226) d_Md_hinders_283 ?_
                                    refine lv_icmp_le (tgt := 294) hx hb d_Md_hinders_286 (by decide) (fun c_324 => ?_) (fun c_324 => ?_)
                                    · have hQ := hQ.1 c_324
                                      refine lv_iconst (v := 0) hx hb d_Md_hinders_294 (by decide +kernel) ?_
                                      exact W.iret (v := 0) hx hb hr (fun t ht hW => ⟨0, rfl, ⟨trivial, hQ⟩, ht⟩) t_nil d_Md_hinders_295
                                    · have hQ := hQ.2 c_324
                                      refine lv_bipush (v := 7) hx hb d_Md_hinders_289 (by decide +kernel) ?_
                                      refine lv_goto (tgt := 295) hx hb d_Md_hinders_291 (by decide) ?_
                                      exact W.iret (v := 7) hx hb hr (fun t ht hW => ⟨7, rfl, ⟨trivial, hQ⟩, ht⟩) t_nil d_Md_hinders_295
                                  · have hQ := hQ.2 c_322
                                    refine lv_bipush (v := 6) hx hb d_Md_hinders_269 (by decide +kernel) ?_
                                    exact W.iret (v := 6) hx hb hr (fun t ht hW => ⟨6, rfl, ⟨trivial, hQ⟩, ht⟩) t_nil d_Md_hinders_271
                      · have hQ := hQ.2 c_278
                        refine lv_iconst (v := 1) hx hb d_Md_hinders_156 (by decide +kernel) ?_
                        refine lv_goto (tgt := 161) hx hb d_Md_hinders_157 (by decide) ?_
                        refine lv_icmp_eq (tgt := 168) hx hb d_Md_hinders_161 (by decide) (fun _ => ?_) (fun h => absurd (by decide +kernel) h)
                        refine lv_iconst (v := 0) hx hb d_Md_hinders_168 (by decide +kernel) ?_
                        refine lv_istore (lv' := [(6, .int 0), (5, .int r_191), (4, .int x_19), (0, .ref q0), (1, .int p_0), (2, .int p_1), (3, .int p_2)]) hx hb d_Md_hinders_169 hl (by decide) rfl (fun ls hl => ?_)
                        refine lv_aload_n hx hb d_Md_hinders_171 rfl (lv_at hl 3 rfl) ?_
                        refine lv_aload_n hx hb d_Md_hinders_172 rfl (lv_at hl 3 rfl) ?_
                        refine vp_callSi (va_Run.run (va_runV (As := []) (rest := [.ref q0]) ⟨hx, hb, hml, hown, htb⟩ (c_Md_today_w l dC dI ct L f hO_0 q0 m0 _ hQ) (cwV 0 htb (gd_V tw_113 tw_114 tw_115 tw_89 tw_112) rfl rfl rfl (by decide +kernel) ⟨Nat.le_of_ble_eq_true rfl, Nat.le_of_ble_eq_true rfl⟩) ⟨pr_blind, tw_recv hK hP m0 rfl rfl, pr_pre hP hK hN⟩ rfl rfl hl.1 rfl (lv_room (Nat.le_of_ble_eq_true rfl)) d_Md_hinders_173 ⟨Nat.le_of_ble_eq_true rfl, Nat.le_of_ble_eq_true rfl⟩)) (fun r_325 er_325 => ?_)
                        obtain ⟨er_325, hQ⟩ := er_325
                        obtain ⟨po_326, po_327, po_328, po_329, -⟩ := er_325
                        refine lv_aload_n hx hb d_Md_hinders_176 rfl (lv_at hl 3 rfl) ?_
                        refine vp_callSi (va_Run.run (va_runV (As := []) (rest := [.int r_325, .ref q0]) ⟨hx, hb, hml, hown, htb⟩ (c_Md_hourNow_w l dC dI ct L f hO_0 q0 m0 _ hQ) (cwV 0 htb (gd_V tw_580 tw_581 tw_582 tw_89 tw_579) rfl rfl rfl (by decide +kernel) ⟨Nat.le_of_ble_eq_true rfl, Nat.le_of_ble_eq_true rfl⟩) ⟨pr_blind, tw_recv hK hP m0 rfl rfl, pr_pre hP hK hN⟩ rfl rfl hl.1 rfl (lv_room (Nat.le_of_ble_eq_true rfl)) d_Md_hinders_177 ⟨Nat.le_of_ble_eq_true rfl, Nat.le_of_ble_eq_true rfl⟩)) (fun r_330 er_330 => ?_)
                        obtain ⟨er_330, hQ⟩ := er_330
                        obtain ⟨po_331, po_332, -⟩ := er_330
                        refine vp_callSi (va_Run.run (va_runV (As := [.int r_325, .int r_330]) (rest := []) ⟨hx, hb, hml, hown, htb⟩ (c_Md_flowOf_w l dC dI ct L f hO_0 q0 m0 r_325 r_330 po_326 po_327 po_331 po_332 _ hQ) (cwV 2 htb (gd_V tw_164 tw_165 tw_166 tw_89 tw_163) rfl rfl rfl (by decide +kernel) ⟨Nat.le_of_ble_eq_true rfl, Nat.le_of_ble_eq_true rfl⟩) ⟨pr_blind, tw_recv hK hP m0 rfl rfl, pr_pre hP hK hN⟩ rfl rfl hl.1 rfl (lv_room (Nat.le_of_ble_eq_true rfl)) d_Md_hinders_180 ⟨Nat.le_of_ble_eq_true rfl, Nat.le_of_ble_eq_true rfl⟩)) (fun r_333 er_333 => ?_)
                        obtain ⟨er_333, hQ⟩ := er_333
                        clear er_333
                        refine lv_istore (lv' := [(7, .int r_333), (6, .int 0), (5, .int r_191), (4, .int x_19), (0, .ref q0), (1, .int p_0), (2, .int p_1), (3, .int p_2)]) hx hb d_Md_hinders_183 hl (by decide) rfl (fun ls hl => ?_)
                        refine lv_iload hx hb d_Md_hinders_185 (lv_at hl 1 rfl) ?_
                        refine lv_if_eq (tgt := 229) hx hb d_Md_hinders_187 (by decide) (fun _ => ?_) (fun h => absurd (by decide +kernel) h)
                        refine lv_iload hx hb d_Md_hinders_229 (lv_at hl 1 rfl) ?_
                        refine lv_if_eq (tgt := 272) hx hb d_Md_hinders_231 (by decide) (fun _ => ?_) (fun h => absurd (by decide +kernel) h)
                        refine lv_aload_n hx hb d_Md_hinders_272 rfl (lv_at hl 4 rfl) ?_
                        refine tw_getI (x := (ti f q0 1)) (D := (dC, dI)) (C := R_Md) (T := F_Md) (N := 64) (ci := 7) (kd := 27) (ct := ct) hx hb htb i_Md hown hK hP m0 rfl rfl 1 rfl (by decide) (htb (.fieldLink R_Md 7 "WaterMenModel" "time" "I") tw_111) (fun _ h9 => h9) rfl d_Md_hinders_273 ?_
                        refine lv_aload_n hx hb d_Md_hinders_276 rfl (lv_at hl 4 rfl) ?_
                        refine lv_iload_n hx hb d_Md_hinders_277 rfl (lv_at hl 5 rfl) ?_
                        refine lv_iload_n hx hb d_Md_hinders_278 rfl (lv_at hl 7 rfl) ?_
                        refine vp_callSi (va_Run.run (va_runV (As := [.int p_0, .int p_2]) (rest := [.int (ti f q0 1)]) ⟨hx, hb, hml, hown, htb⟩ (c_Md_minutesOf_w l dC dI ct L f hO_0 q0 m0 p_0 p_2 as_0 as_1 as_4 as_5 _ hQ) (cwV 2 htb (gd_V tw_584 tw_585 tw_586 tw_89 tw_583) rfl rfl rfl (by decide +kernel) ⟨Nat.le_of_ble_eq_true rfl, Nat.le_of_ble_eq_true rfl⟩) ⟨pr_blind, tw_recv hK hP m0 rfl rfl, pr_pre hP hK hN⟩ rfl rfl hl.1 rfl (lv_room (Nat.le_of_ble_eq_true rfl)) d_Md_hinders_279 ⟨Nat.le_of_ble_eq_true rfl, Nat.le_of_ble_eq_true rfl⟩)) (fun r_334 er_334 => ?_)
                        obtain ⟨er_334, hQ⟩ := er_334
                        clear er_334
                        refine lv_iadd hx hb d_Md_hinders_282 ?_
                        refine lv_ldcw (v := 359999) hx hb hown (htb (.constant R_Md 305 359999) tw_226) d_Md_hinders_283 ?_
                        refine lv_icmp_le (tgt := 294) hx hb d_Md_hinders_286 (by decide) (fun c_335 => ?_) (fun c_335 => ?_)
                        · have hQ := hQ.1 c_335
                          refine lv_iconst (v := 0) hx hb d_Md_hinders_294 (by decide +kernel) ?_
                          exact W.iret (v := 0) hx hb hr (fun t ht hW => ⟨0, rfl, ⟨trivial, hQ⟩, ht⟩) t_nil d_Md_hinders_295
                        · have hQ := hQ.2 c_335
                          refine lv_bipush (v := 7) hx hb d_Md_hinders_289 (by decide +kernel) ?_
                          refine lv_goto (tgt := 295) hx hb d_Md_hinders_291 (by decide) ?_
                          exact W.iret (v := 7) hx hb hr (fun t ht hW => ⟨7, rfl, ⟨trivial, hQ⟩, ht⟩) t_nil d_Md_hinders_295
                · have hQ := hQ.2 c_205
                  refine lv_iconst (v := 5) hx hb d_Md_hinders_125 (by decide +kernel) ?_
                  exact W.iret (v := 5) hx hb hr (fun t ht hW => ⟨5, rfl, ⟨trivial, hQ⟩, ht⟩) t_nil d_Md_hinders_126
            · have hQ := hQ.2 c_180
              refine lv_iconst (v := 4) hx hb d_Md_hinders_78 (by decide +kernel) ?_
              exact W.iret (v := 4) hx hb hr (fun t ht hW => ⟨4, rfl, ⟨trivial, hQ⟩, ht⟩) t_nil d_Md_hinders_79
        · have hQ := hQ.2 c_17
          refine lv_iconst (v := 3) hx hb d_Md_hinders_44 (by decide +kernel) ?_
          exact W.iret (v := 3) hx hb hr (fun t ht hW => ⟨3, rfl, ⟨trivial, hQ⟩, ht⟩) t_nil d_Md_hinders_45
    · have hQ := hQ.2 c_11
      refine lv_iconst (v := 2) hx hb d_Md_hinders_23 (by decide +kernel) ?_
      exact W.iret (v := 2) hx hb hr (fun t ht hW => ⟨2, rfl, ⟨trivial, hQ⟩, ht⟩) t_nil d_Md_hinders_24
  · have hQ := hQ.2 c_8
    refine lv_iconst (v := 1) hx hb d_Md_hinders_12 (by decide +kernel) ?_
    exact W.iret (v := 1) hx hb hr (fun t ht hW => ⟨1, rfl, ⟨trivial, hQ⟩, ht⟩) t_nil d_Md_hinders_13
