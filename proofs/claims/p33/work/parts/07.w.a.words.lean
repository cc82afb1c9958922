set_option maxRecDepth 100000 in
theorem tw_126 : (.code y_WM_isDay b_WM_isDay 1 (some .boolean)) ∈ TB := tw_f (tw_t2 (List.mem_of_getElem? (i := 16) rfl)) rfl
set_option maxRecDepth 100000 in
theorem tw_127 : (.methodLink R_WM 75 y_WM_isDay) ∈ TB := tw_f (tw_t2 (List.mem_of_getElem? (i := 14) rfl)) rfl
set_option maxRecDepth 100000 in
theorem tw_128 : (.static y_WM_isDay) ∈ TB := tw_f (tw_t2 (List.mem_of_getElem? (i := 15) rfl)) rfl
set_option maxRecDepth 100000 in
theorem tw_129 : (.code y_WM_isHour b_WM_isHour 1 (some .boolean)) ∈ TB := tw_f (tw_t2 (List.mem_of_getElem? (i := 19) rfl)) rfl
set_option maxRecDepth 100000 in
theorem tw_130 : (.methodLink R_WM 79 y_WM_isHour) ∈ TB := tw_f (tw_t2 (List.mem_of_getElem? (i := 17) rfl)) rfl
set_option maxRecDepth 100000 in
theorem tw_131 : (.static y_WM_isHour) ∈ TB := tw_f (tw_t2 (List.mem_of_getElem? (i := 18) rfl)) rfl
set_option maxRecDepth 100000 in
theorem tw_132 : (.code y_WM_isLevel b_WM_isLevel 1 (some .boolean)) ∈ TB := tw_f (tw_t2 (List.mem_of_getElem? (i := 22) rfl)) rfl
set_option maxRecDepth 100000 in
theorem tw_133 : (.methodLink R_WM 82 y_WM_isLevel) ∈ TB := tw_f (tw_t2 (List.mem_of_getElem? (i := 20) rfl)) rfl
set_option maxRecDepth 100000 in
theorem tw_134 : (.static y_WM_isLevel) ∈ TB := tw_f (tw_t2 (List.mem_of_getElem? (i := 21) rfl)) rfl
set_option maxRecDepth 100000 in
theorem tw_135 : (.fieldLink R_WM 12 "WaterMen" "river" "LWaterMen$River;") ∈ TB := tw_f (tw_t1 (List.mem_of_getElem? (i := 194) rfl)) rfl
set_option maxRecDepth 100000 in
theorem tw_136 : (.fieldLink R_Rv 19 "WaterMen$River" "rows" "[[I") ∈ TB := tw_f (tw_t1 (List.mem_of_getElem? (i := 36) rfl)) rfl
set_option maxRecDepth 100000 in
theorem tw_137 : (.arrayClass .int) ∈ TB := tw_f (tw_t1 (List.mem_of_getElem? (i := 56) rfl)) rfl
set_option maxRecDepth 100000 in
theorem tw_138 : (.fieldLink R_Rv 15 "WaterMen$River" "table" "[I") ∈ TB := tw_f (tw_t1 (List.mem_of_getElem? (i := 34) rfl)) rfl
set_option maxRecDepth 100000 in
theorem tw_139 : (.code y_Rv_tell b_Rv_tell 6 none) ∈ TB := tw_f (tw_t2 (List.mem_of_getElem? (i := 26) rfl)) rfl
set_option maxRecDepth 100000 in
theorem tw_140 : (.initialized R_Rv) ∈ TB := tw_f (tw_t1 (List.mem_of_getElem? (i := 2) rfl)) rfl
set_option maxRecDepth 100000 in
theorem tw_141 : (.methodLink R_WM 85 y_Rv_tell) ∈ TB := tw_f (tw_t2 (List.mem_of_getElem? (i := 23) rfl)) rfl
set_option maxRecDepth 100000 in
theorem tw_142 : (.instanceMethod y_Rv_tell) ∈ TB := tw_f (tw_t2 (List.mem_of_getElem? (i := 24) rfl)) rfl
set_option maxRecDepth 100000 in
theorem tw_143 : (.selects R_Rv y_Rv_tell y_Rv_tell) ∈ TB := tw_f (tw_t2 (List.mem_of_getElem? (i := 25) rfl)) rfl
set_option maxRecDepth 100000 in
theorem tw_144 : (.code y_Md_isDay b_Md_isDay 1 (some .boolean)) ∈ TB := tw_f (tw_t4 (List.mem_of_getElem? (i := 132) rfl)) rfl
set_option maxRecDepth 100000 in
theorem tw_145 : (.methodLink R_Md 38 y_Md_isDay) ∈ TB := tw_f (tw_t4 (List.mem_of_getElem? (i := 130) rfl)) rfl
set_option maxRecDepth 100000 in
theorem tw_146 : (.static y_Md_isDay) ∈ TB := tw_f (tw_t4 (List.mem_of_getElem? (i := 131) rfl)) rfl
set_option maxRecDepth 100000 in
theorem tw_147 : (.fieldLink R_Md 17 "WaterMenModel" "hasRow" "[Z") ∈ TB := tw_f (tw_t4 (List.mem_of_getElem? (i := 168) rfl)) rfl
set_option maxRecDepth 100000 in
theorem tw_148 : (.fieldLink R_Md 21 "WaterMenModel" "rows" "[I") ∈ TB := tw_f (tw_t4 (List.mem_of_getElem? (i := 169) rfl)) rfl
set_option maxRecDepth 100000 in
theorem tw_149 : (.fieldLink R_Md 25 "WaterMenModel" "table" "[I") ∈ TB := tw_f (tw_t4 (List.mem_of_getElem? (i := 167) rfl)) rfl
set_option maxRecDepth 100000 in
theorem tw_150 : (.fieldLink R_WM 89 "WaterMen$River" "table" "[I") ∈ TB := tw_f (tw_t1 (List.mem_of_getElem? (i := 35) rfl)) rfl
set_option maxRecDepth 100000 in
theorem tw_151 : (.code y_Rv_height b_Rv_height 4 (some .int)) ∈ TB := tw_f (tw_t2 (List.mem_of_getElem? (i := 42) rfl)) rfl
set_option maxRecDepth 100000 in
theorem tw_152 : (.methodLink R_Rv 51 y_Rv_height) ∈ TB := tw_f (tw_t2 (List.mem_of_getElem? (i := 39) rfl)) rfl
set_option maxRecDepth 100000 in
theorem tw_153 : (.instanceMethod y_Rv_height) ∈ TB := tw_f (tw_t2 (List.mem_of_getElem? (i := 40) rfl)) rfl
set_option maxRecDepth 100000 in
theorem tw_154 : (.selects R_Rv y_Rv_height y_Rv_height) ∈ TB := tw_f (tw_t2 (List.mem_of_getElem? (i := 41) rfl)) rfl
set_option maxRecDepth 100000 in
theorem tw_155 : (.code y_Rv_flowIn b_Rv_flowIn 4 (some .int)) ∈ TB := tw_f (tw_t2 (List.mem_of_getElem? (i := 38) rfl)) rfl
set_option maxRecDepth 100000 in
theorem tw_156 : (.methodLink R_WM 93 y_Rv_flowIn) ∈ TB := tw_f (tw_t2 (List.mem_of_getElem? (i := 35) rfl)) rfl
set_option maxRecDepth 100000 in
theorem tw_157 : (.instanceMethod y_Rv_flowIn) ∈ TB := tw_f (tw_t2 (List.mem_of_getElem? (i := 36) rfl)) rfl
set_option maxRecDepth 100000 in
theorem tw_158 : (.selects R_Rv y_Rv_flowIn y_Rv_flowIn) ∈ TB := tw_f (tw_t2 (List.mem_of_getElem? (i := 37) rfl)) rfl
set_option maxRecDepth 100000 in
theorem tw_159 : (.code y_Md_levelOf b_Md_levelOf 3 (some .int)) ∈ TB := tw_f (tw_t4 (List.mem_of_getElem? (i := 149) rfl)) rfl
set_option maxRecDepth 100000 in
theorem tw_160 : (.methodLink R_Md 28 y_Md_levelOf) ∈ TB := tw_f (tw_t4 (List.mem_of_getElem? (i := 146) rfl)) rfl
set_option maxRecDepth 100000 in
theorem tw_161 : (.instanceMethod y_Md_levelOf) ∈ TB := tw_f (tw_t4 (List.mem_of_getElem? (i := 148) rfl)) rfl
set_option maxRecDepth 100000 in
theorem tw_162 : (.selects R_Md y_Md_levelOf y_Md_levelOf) ∈ TB := tw_f (tw_s2 (List.mem_of_getElem? (i := 5) rfl)) rfl
set_option maxRecDepth 100000 in
theorem tw_163 : (.code y_Md_flowOf b_Md_flowOf 3 (some .int)) ∈ TB := tw_f (tw_t4 (List.mem_of_getElem? (i := 145) rfl)) rfl
set_option maxRecDepth 100000 in
theorem tw_164 : (.methodLink R_Md 42 y_Md_flowOf) ∈ TB := tw_f (tw_t4 (List.mem_of_getElem? (i := 141) rfl)) rfl
set_option maxRecDepth 100000 in
theorem tw_165 : (.instanceMethod y_Md_flowOf) ∈ TB := tw_f (tw_t4 (List.mem_of_getElem? (i := 143) rfl)) rfl
set_option maxRecDepth 100000 in
theorem tw_166 : (.selects R_Md y_Md_flowOf y_Md_flowOf) ∈ TB := tw_f (tw_s2 (List.mem_of_getElem? (i := 4) rfl)) rfl
set_option maxRecDepth 100000 in
theorem tw_167 : (.fieldLink R_Rv 23 "WaterMen$River" "frozen" "[Z") ∈ TB := tw_f (tw_t1 (List.mem_of_getElem? (i := 37) rfl)) rfl
set_option maxRecDepth 100000 in
theorem tw_168 : (.code y_Rv_isFrozen b_Rv_isFrozen 2 (some .boolean)) ∈ TB := tw_f (tw_t2 (List.mem_of_getElem? (i := 54) rfl)) rfl
set_option maxRecDepth 100000 in
theorem tw_169 : (.methodLink R_WM 100 y_Rv_isFrozen) ∈ TB := tw_f (tw_t2 (List.mem_of_getElem? (i := 51) rfl)) rfl
set_option maxRecDepth 100000 in
theorem tw_170 : (.instanceMethod y_Rv_isFrozen) ∈ TB := tw_f (tw_t2 (List.mem_of_getElem? (i := 52) rfl)) rfl
set_option maxRecDepth 100000 in
theorem tw_171 : (.selects R_Rv y_Rv_isFrozen y_Rv_isFrozen) ∈ TB := tw_f (tw_t2 (List.mem_of_getElem? (i := 53) rfl)) rfl
set_option maxRecDepth 100000 in
theorem tw_172 : (.fieldLink R_WM 103 "WaterMen$River" "frozen" "[Z") ∈ TB := tw_f (tw_t1 (List.mem_of_getElem? (i := 38) rfl)) rfl
set_option maxRecDepth 100000 in
theorem tw_173 : (.fieldLink R_Md 49 "WaterMenModel" "frosts" "[Z") ∈ TB := tw_f (tw_t4 (List.mem_of_getElem? (i := 170) rfl)) rfl
set_option maxRecDepth 100000 in
theorem tw_174 : (.fieldLink R_WM 43 "WaterMen" "tape" "LWaterMen$Tape;") ∈ TB := tw_f (tw_t1 (List.mem_of_getElem? (i := 199) rfl)) rfl
set_option maxRecDepth 100000 in
theorem tw_175 : (.fieldLink R_Tp 15 "WaterMen$Tape" "length" "I") ∈ TB := tw_f (tw_t1 (List.mem_of_getElem? (i := 73) rfl)) rfl
set_option maxRecDepth 100000 in
theorem tw_176 : (.code y_Tp_hasRoomForFive b_Tp_hasRoomForFive 1 (some .boolean)) ∈ TB := tw_f (tw_t2 (List.mem_of_getElem? (i := 201) rfl)) rfl
set_option maxRecDepth 100000 in
theorem tw_177 : (.initialized R_Tp) ∈ TB := tw_f (tw_t1 (List.mem_of_getElem? (i := 3) rfl)) rfl
set_option maxRecDepth 100000 in
theorem tw_178 : (.methodLink R_WM 199 y_Tp_hasRoomForFive) ∈ TB := tw_f (tw_t2 (List.mem_of_getElem? (i := 198) rfl)) rfl
set_option maxRecDepth 100000 in
theorem tw_179 : (.instanceMethod y_Tp_hasRoomForFive) ∈ TB := tw_f (tw_t2 (List.mem_of_getElem? (i := 199) rfl)) rfl
set_option maxRecDepth 100000 in
theorem tw_180 : (.selects R_Tp y_Tp_hasRoomForFive y_Tp_hasRoomForFive) ∈ TB := tw_f (tw_t2 (List.mem_of_getElem? (i := 200) rfl)) rfl
set_option maxRecDepth 100000 in
theorem tw_181 : (.fieldLink R_Tp 9 "WaterMen$Tape" "bytes" "[B") ∈ TB := tw_f (tw_t1 (List.mem_of_getElem? (i := 72) rfl)) rfl
set_option maxRecDepth 100000 in
theorem tw_182 : (.code y_Tp_append b_Tp_append 2 none) ∈ TB := tw_f (tw_t2 (List.mem_of_getElem? (i := 205) rfl)) rfl
set_option maxRecDepth 100000 in
theorem tw_183 : (.methodLink R_WM 203 y_Tp_append) ∈ TB := tw_f (tw_t2 (List.mem_of_getElem? (i := 202) rfl)) rfl
set_option maxRecDepth 100000 in
theorem tw_184 : (.instanceMethod y_Tp_append) ∈ TB := tw_f (tw_t2 (List.mem_of_getElem? (i := 203) rfl)) rfl
set_option maxRecDepth 100000 in
theorem tw_185 : (.selects R_Tp y_Tp_append y_Tp_append) ∈ TB := tw_f (tw_t2 (List.mem_of_getElem? (i := 204) rfl)) rfl
set_option maxRecDepth 100000 in
theorem tw_186 : (.fieldLink R_WM 207 "WaterMen$Tape" "length" "I") ∈ TB := tw_f (tw_t1 (List.mem_of_getElem? (i := 74) rfl)) rfl
set_option maxRecDepth 100000 in
theorem tw_187 : (.fieldLink R_Md 212 "WaterMenModel" "taped" "I") ∈ TB := tw_f (tw_t4 (List.mem_of_getElem? (i := 190) rfl)) rfl
set_option maxRecDepth 100000 in
theorem tw_188 : (.fieldLink R_Md 109 "WaterMenModel" "tape" "[B") ∈ TB := tw_f (tw_t4 (List.mem_of_getElem? (i := 189) rfl)) rfl
set_option maxRecDepth 100000 in
theorem tw_189 : (.code y_Md_four b_Md_four 3 none) ∈ TB := tw_f (tw_t5 (List.mem_of_getElem? (i := 190) rfl)) rfl
set_option maxRecDepth 100000 in
theorem tw_190 : (.methodLink R_Md 215 y_Md_four) ∈ TB := tw_f (tw_t5 (List.mem_of_getElem? (i := 187) rfl)) rfl
set_option maxRecDepth 100000 in
theorem tw_191 : (.instanceMethod y_Md_four) ∈ TB := tw_f (tw_t5 (List.mem_of_getElem? (i := 189) rfl)) rfl
set_option maxRecDepth 100000 in
theorem tw_192 : (.selects R_Md y_Md_four y_Md_four) ∈ TB := tw_f (tw_s2 (List.mem_of_getElem? (i := 13) rfl)) rfl
set_option maxRecDepth 100000 in
theorem tw_193 : (.fieldLink R_Rv 35 "WaterMen$River" "stairCount" "I") ∈ TB := tw_f (tw_t1 (List.mem_of_getElem? (i := 40) rfl)) rfl
set_option maxRecDepth 100000 in
theorem tw_194 : (.fieldLink R_Rv 9 "WaterMen$River" "milesUp" "[I") ∈ TB := tw_f (tw_t1 (List.mem_of_getElem? (i := 33) rfl)) rfl
set_option maxRecDepth 100000 in
theorem tw_195 : (.code y_Rv_highest b_Rv_highest 1 (some .int)) ∈ TB := tw_f (tw_t2 (List.mem_of_getElem? (i := 1) rfl)) rfl
set_option maxRecDepth 100000 in
theorem tw_196 : (.methodLink R_WM 60 y_Rv_highest) ∈ TB := tw_f (tw_t1 (List.mem_of_getElem? (i := 238) rfl)) rfl
set_option maxRecDepth 100000 in
theorem tw_197 : (.instanceMethod y_Rv_highest) ∈ TB := tw_f (tw_t1 (List.mem_of_getElem? (i := 239) rfl)) rfl
set_option maxRecDepth 100000 in
theorem tw_198 : (.selects R_Rv y_Rv_highest y_Rv_highest) ∈ TB := tw_f (tw_t2 (List.mem_of_getElem? (i := 0) rfl)) rfl
set_option maxRecDepth 100000 in
theorem tw_199 : (.fieldLink R_WM 64 "WaterMen$River" "stairCount" "I") ∈ TB := tw_f (tw_t1 (List.mem_of_getElem? (i := 39) rfl)) rfl
set_option maxRecDepth 100000 in
theorem tw_200 : (.code y_Rv_addStairs b_Rv_addStairs 2 (some .int)) ∈ TB := tw_f (tw_t2 (List.mem_of_getElem? (i := 5) rfl)) rfl
set_option maxRecDepth 100000 in
theorem tw_201 : (.methodLink R_WM 68 y_Rv_addStairs) ∈ TB := tw_f (tw_t2 (List.mem_of_getElem? (i := 2) rfl)) rfl
set_option maxRecDepth 100000 in
theorem tw_202 : (.instanceMethod y_Rv_addStairs) ∈ TB := tw_f (tw_t2 (List.mem_of_getElem? (i := 3) rfl)) rfl
set_option maxRecDepth 100000 in
theorem tw_203 : (.selects R_Rv y_Rv_addStairs y_Rv_addStairs) ∈ TB := tw_f (tw_t2 (List.mem_of_getElem? (i := 4) rfl)) rfl
set_option maxRecDepth 100000 in
theorem tw_204 : (.fieldLink R_Md 32 "WaterMenModel" "miles" "[I") ∈ TB := tw_f (tw_t4 (List.mem_of_getElem? (i := 165) rfl)) rfl
set_option maxRecDepth 100000 in
theorem tw_205 : (.fieldLink R_WM 72 "WaterMen$River" "bridgeAbove" "I") ∈ TB := tw_f (tw_t1 (List.mem_of_getElem? (i := 42) rfl)) rfl
set_option maxRecDepth 100000 in
theorem tw_206 : (.fieldLink R_Md 35 "WaterMenModel" "bridge" "I") ∈ TB := tw_f (tw_t4 (List.mem_of_getElem? (i := 166) rfl)) rfl
set_option maxRecDepth 100000 in
theorem tw_207 : (.constant R_WM 270 359999) ∈ TB := tw_f (tw_t3 (List.mem_of_getElem? (i := 185) rfl)) rfl
set_option maxRecDepth 100000 in
theorem tw_208 : (.code y_WM_isSunday b_WM_isSunday 1 (some .boolean)) ∈ TB := tw_f (tw_t3 (List.mem_of_getElem? (i := 141) rfl)) rfl
set_option maxRecDepth 100000 in
theorem tw_209 : (.methodLink R_WM 391 y_WM_isSunday) ∈ TB := tw_f (tw_t4 (List.mem_of_getElem? (i := 5) rfl)) rfl
set_option maxRecDepth 100000 in
theorem tw_210 : (.static y_WM_isSunday) ∈ TB := tw_f (tw_t3 (List.mem_of_getElem? (i := 140) rfl)) rfl
set_option maxRecDepth 100000 in
theorem tw_211 : (.code y_Bx_receive b_Bx_receive 3 none) ∈ TB := tw_f (tw_t4 (List.mem_of_getElem? (i := 3) rfl)) rfl
set_option maxRecDepth 100000 in
theorem tw_212 : (.methodLink R_WM 388 y_Bx_receive) ∈ TB := tw_f (tw_t4 (List.mem_of_getElem? (i := 0) rfl)) rfl
set_option maxRecDepth 100000 in
theorem tw_213 : (.instanceMethod y_Bx_receive) ∈ TB := tw_f (tw_t4 (List.mem_of_getElem? (i := 1) rfl)) rfl
set_option maxRecDepth 100000 in
theorem tw_214 : (.selects R_Bx y_Bx_receive y_Bx_receive) ∈ TB := tw_f (tw_t4 (List.mem_of_getElem? (i := 2) rfl)) rfl
set_option maxRecDepth 100000 in
theorem tw_215 : (.fieldLink R_WM 394 "WaterMen$Man" "lastSunday" "I") ∈ TB := tw_f (tw_t1 (List.mem_of_getElem? (i := 176) rfl)) rfl
set_option maxRecDepth 100000 in
theorem tw_216 : (.code y_WM_partPot b_WM_partPot 6 none) ∈ TB := tw_f (tw_t4 (List.mem_of_getElem? (i := 13) rfl)) rfl
set_option maxRecDepth 100000 in
theorem tw_217 : (.methodLink R_WM 271 y_WM_partPot) ∈ TB := tw_f (tw_t4 (List.mem_of_getElem? (i := 10) rfl)) rfl
set_option maxRecDepth 100000 in
theorem tw_218 : (.instanceMethod y_WM_partPot) ∈ TB := tw_f (tw_t4 (List.mem_of_getElem? (i := 12) rfl)) rfl
set_option maxRecDepth 100000 in
theorem tw_219 : (.selects R_WM y_WM_partPot y_WM_partPot) ∈ TB := tw_f (tw_s1 (List.mem_of_getElem? (i := 14) rfl)) rfl
set_option maxRecDepth 100000 in
theorem tw_220 : (.fieldLink R_Bx 45 "WaterMen$Pensioner" "got" "I") ∈ TB := tw_f (tw_t4 (List.mem_of_getElem? (i := 48) rfl)) rfl
set_option maxRecDepth 100000 in
theorem tw_221 : (.fieldLink R_Bx 48 "WaterMen$Box" "allPensions" "I") ∈ TB := tw_f (tw_t1 (List.mem_of_getElem? (i := 105) rfl)) rfl
set_option maxRecDepth 100000 in
theorem tw_222 : (.code y_Bx_payPensions b_Bx_payPensions 4 none) ∈ TB := tw_f (tw_t4 (List.mem_of_getElem? (i := 17) rfl)) rfl
set_option maxRecDepth 100000 in
theorem tw_223 : (.methodLink R_WM 274 y_Bx_payPensions) ∈ TB := tw_f (tw_t4 (List.mem_of_getElem? (i := 14) rfl)) rfl
set_option maxRecDepth 100000 in
theorem tw_224 : (.instanceMethod y_Bx_payPensions) ∈ TB := tw_f (tw_t4 (List.mem_of_getElem? (i := 15) rfl)) rfl
set_option maxRecDepth 100000 in
theorem tw_225 : (.selects R_Bx y_Bx_payPensions y_Bx_payPensions) ∈ TB := tw_f (tw_t4 (List.mem_of_getElem? (i := 16) rfl)) rfl
set_option maxRecDepth 100000 in
theorem tw_226 : (.constant R_Md 305 359999) ∈ TB := tw_f (tw_t6 (List.mem_of_getElem? (i := 39) rfl)) rfl
set_option maxRecDepth 100000 in
theorem tw_227 : (.fieldLink R_Md 206 "WaterMenModel" "boats" "I") ∈ TB := tw_f (tw_t4 (List.mem_of_getElem? (i := 183) rfl)) rfl
set_option maxRecDepth 100000 in
theorem tw_228 : (.fieldLink R_Md 103 "WaterMenModel" "boatTrip" "[I") ∈ TB := tw_f (tw_t4 (List.mem_of_getElem? (i := 187) rfl)) rfl
set_option maxRecDepth 100000 in
theorem tw_229 : (.fieldLink R_Md 164 "WaterMenModel" "tripThere" "[I") ∈ TB := tw_f (tw_t4 (List.mem_of_getElem? (i := 215) rfl)) rfl
set_option maxRecDepth 100000 in
theorem tw_230 : (.fieldLink R_Md 152 "WaterMenModel" "tripMan" "[I") ∈ TB := tw_f (tw_t4 (List.mem_of_getElem? (i := 211) rfl)) rfl
set_option maxRecDepth 100000 in
theorem tw_231 : (.code y_Md_arrive b_Md_arrive 3 none) ∈ TB := tw_f (tw_t6 (List.mem_of_getElem? (i := 51) rfl)) rfl
set_option maxRecDepth 100000 in
theorem tw_232 : (.methodLink R_Md 329 y_Md_arrive) ∈ TB := tw_f (tw_t6 (List.mem_of_getElem? (i := 48) rfl)) rfl
set_option maxRecDepth 100000 in
theorem tw_233 : (.instanceMethod y_Md_arrive) ∈ TB := tw_f (tw_t6 (List.mem_of_getElem? (i := 50) rfl)) rfl
set_option maxRecDepth 100000 in
theorem tw_234 : (.selects R_Md y_Md_arrive y_Md_arrive) ∈ TB := tw_f (tw_s3 (List.mem_of_getElem? (i := 8) rfl)) rfl
set_option maxRecDepth 100000 in
theorem tw_235 : (.code y_Md_pay b_Md_pay 3 none) ∈ TB := tw_f (tw_t6 (List.mem_of_getElem? (i := 59) rfl)) rfl
set_option maxRecDepth 100000 in
theorem tw_236 : (.methodLink R_Md 335 y_Md_pay) ∈ TB := tw_f (tw_t6 (List.mem_of_getElem? (i := 56) rfl)) rfl
set_option maxRecDepth 100000 in
theorem tw_237 : (.instanceMethod y_Md_pay) ∈ TB := tw_f (tw_t6 (List.mem_of_getElem? (i := 58) rfl)) rfl
set_option maxRecDepth 100000 in
theorem tw_238 : (.selects R_Md y_Md_pay y_Md_pay) ∈ TB := tw_f (tw_s3 (List.mem_of_getElem? (i := 10) rfl)) rfl
set_option maxRecDepth 100000 in
theorem tw_239 : (.fieldLink R_Md 85 "WaterMenModel" "shares" "[Z") ∈ TB := tw_f (tw_t4 (List.mem_of_getElem? (i := 180) rfl)) rfl
set_option maxRecDepth 100000 in
theorem tw_240 : (.code y_Md_part b_Md_part 6 none) ∈ TB := tw_f (tw_t6 (List.mem_of_getElem? (i := 55) rfl)) rfl
set_option maxRecDepth 100000 in
theorem tw_241 : (.methodLink R_Md 332 y_Md_part) ∈ TB := tw_f (tw_t6 (List.mem_of_getElem? (i := 52) rfl)) rfl
set_option maxRecDepth 100000 in
theorem tw_242 : (.instanceMethod y_Md_part) ∈ TB := tw_f (tw_t6 (List.mem_of_getElem? (i := 54) rfl)) rfl
set_option maxRecDepth 100000 in
theorem tw_243 : (.selects R_Md y_Md_part y_Md_part) ∈ TB := tw_f (tw_s3 (List.mem_of_getElem? (i := 9) rfl)) rfl
set_option maxRecDepth 100000 in
theorem tw_244 : (.fieldLink R_WM 210 "WaterMen" "orderCount" "I") ∈ TB := tw_f (tw_t1 (List.mem_of_getElem? (i := 202) rfl)) rfl
set_option maxRecDepth 100000 in
theorem tw_245 : (.fieldLink R_WM 55 "WaterMen" "draft" "LWaterMen$Order;") ∈ TB := tw_f (tw_t1 (List.mem_of_getElem? (i := 206) rfl)) rfl
set_option maxRecDepth 100000 in
theorem tw_246 : (.fieldLink R_Or 23 "WaterMen$Order" "fareCount" "I") ∈ TB := tw_f (tw_t1 (List.mem_of_getElem? (i := 136) rfl)) rfl
set_option maxRecDepth 100000 in
theorem tw_247 : (.fieldLink R_Or 27 "WaterMen$Order" "hourCount" "I") ∈ TB := tw_f (tw_t1 (List.mem_of_getElem? (i := 137) rfl)) rfl
set_option maxRecDepth 100000 in
theorem tw_248 : (.fieldLink R_Or 20 "WaterMen$Order" "single" "[I") ∈ TB := tw_f (tw_t1 (List.mem_of_getElem? (i := 135) rfl)) rfl
set_option maxRecDepth 100000 in
theorem tw_249 : (.code y_Or_clear b_Or_clear 2 none) ∈ TB := tw_f (tw_t2 (List.mem_of_getElem? (i := 221) rfl)) rfl
set_option maxRecDepth 100000 in
theorem tw_250 : (.initialized R_Or) ∈ TB := tw_f (tw_t1 (List.mem_of_getElem? (i := 5) rfl)) rfl
set_option maxRecDepth 100000 in
theorem tw_251 : (.methodLink R_Tp 19 y_Or_clear) ∈ TB := tw_f (tw_t2 (List.mem_of_getElem? (i := 218) rfl)) rfl
set_option maxRecDepth 100000 in
theorem tw_252 : (.instanceMethod y_Or_clear) ∈ TB := tw_f (tw_t2 (List.mem_of_getElem? (i := 219) rfl)) rfl
set_option maxRecDepth 100000 in
theorem tw_253 : (.selects R_Or y_Or_clear y_Or_clear) ∈ TB := tw_f (tw_t2 (List.mem_of_getElem? (i := 220) rfl)) rfl
set_option maxRecDepth 100000 in
theorem tw_254 : (.fieldLink R_Tp 24 "WaterMen$Tape" "behind" "I") ∈ TB := tw_f (tw_t1 (List.mem_of_getElem? (i := 77) rfl)) rfl
set_option maxRecDepth 100000 in
theorem tw_255 : (.fieldLink R_Tp 34 "WaterMen$Tape" "start" "I") ∈ TB := tw_f (tw_t1 (List.mem_of_getElem? (i := 76) rfl)) rfl
set_option maxRecDepth 100000 in
theorem tw_256 : (.fieldLink R_Tp 48 "WaterMen$Tape" "value" "I") ∈ TB := tw_f (tw_t1 (List.mem_of_getElem? (i := 78) rfl)) rfl
set_option maxRecDepth 100000 in
theorem tw_257 : (.fieldLink R_Tp 37 "WaterMen$Tape" "sort" "I") ∈ TB := tw_f (tw_t1 (List.mem_of_getElem? (i := 75) rfl)) rfl
set_option maxRecDepth 100000 in
theorem tw_258 : (.code y_Tp_isLetter b_Tp_isLetter 1 (some .boolean)) ∈ TB := tw_f (tw_t2 (List.mem_of_getElem? (i := 228) rfl)) rfl
set_option maxRecDepth 100000 in
theorem tw_259 : (.methodLink R_Tp 96 y_Tp_isLetter) ∈ TB := tw_f (tw_t2 (List.mem_of_getElem? (i := 226) rfl)) rfl
set_option maxRecDepth 100000 in
theorem tw_260 : (.static y_Tp_isLetter) ∈ TB := tw_f (tw_t2 (List.mem_of_getElem? (i := 227) rfl)) rfl
set_option maxRecDepth 100000 in
theorem tw_261 : (.code y_Tp_isDigit b_Tp_isDigit 1 (some .boolean)) ∈ TB := tw_f (tw_t2 (List.mem_of_getElem? (i := 235) rfl)) rfl
set_option maxRecDepth 100000 in
theorem tw_262 : (.methodLink R_Tp 103 y_Tp_isDigit) ∈ TB := tw_f (tw_t2 (List.mem_of_getElem? (i := 233) rfl)) rfl
set_option maxRecDepth 100000 in
theorem tw_263 : (.static y_Tp_isDigit) ∈ TB := tw_f (tw_t2 (List.mem_of_getElem? (i := 234) rfl)) rfl
set_option maxRecDepth 100000 in
theorem tw_264 : (.code y_Tp_passDigits b_Tp_passDigits 1 none) ∈ TB := tw_f (tw_t2 (List.mem_of_getElem? (i := 239) rfl)) rfl
set_option maxRecDepth 100000 in
theorem tw_265 : (.methodLink R_Tp 106 y_Tp_passDigits) ∈ TB := tw_f (tw_t2 (List.mem_of_getElem? (i := 236) rfl)) rfl
set_option maxRecDepth 100000 in
theorem tw_266 : (.instanceMethod y_Tp_passDigits) ∈ TB := tw_f (tw_t2 (List.mem_of_getElem? (i := 237) rfl)) rfl
set_option maxRecDepth 100000 in
theorem tw_267 : (.selects R_Tp y_Tp_passDigits y_Tp_passDigits) ∈ TB := tw_f (tw_t2 (List.mem_of_getElem? (i := 238) rfl)) rfl
set_option maxRecDepth 100000 in
theorem tw_268 : (.code y_Tp_passLetters b_Tp_passLetters 1 none) ∈ TB := tw_f (tw_t2 (List.mem_of_getElem? (i := 232) rfl)) rfl
set_option maxRecDepth 100000 in
theorem tw_269 : (.methodLink R_Tp 100 y_Tp_passLetters) ∈ TB := tw_f (tw_t2 (List.mem_of_getElem? (i := 229) rfl)) rfl
set_option maxRecDepth 100000 in
theorem tw_270 : (.instanceMethod y_Tp_passLetters) ∈ TB := tw_f (tw_t2 (List.mem_of_getElem? (i := 230) rfl)) rfl
set_option maxRecDepth 100000 in
theorem tw_271 : (.selects R_Tp y_Tp_passLetters y_Tp_passLetters) ∈ TB := tw_f (tw_t2 (List.mem_of_getElem? (i := 231) rfl)) rfl
set_option maxRecDepth 100000 in
theorem tw_272 : (.code y_Tp_step b_Tp_step 1 none) ∈ TB := tw_f (tw_t2 (List.mem_of_getElem? (i := 225) rfl)) rfl
set_option maxRecDepth 100000 in
theorem tw_273 : (.methodLink R_Tp 27 y_Tp_step) ∈ TB := tw_f (tw_t2 (List.mem_of_getElem? (i := 222) rfl)) rfl
set_option maxRecDepth 100000 in
theorem tw_274 : (.instanceMethod y_Tp_step) ∈ TB := tw_f (tw_t2 (List.mem_of_getElem? (i := 223) rfl)) rfl
set_option maxRecDepth 100000 in
theorem tw_275 : (.selects R_Tp y_Tp_step y_Tp_step) ∈ TB := tw_f (tw_t2 (List.mem_of_getElem? (i := 224) rfl)) rfl
set_option maxRecDepth 100000 in
theorem tw_276 : (.methodLink R_Tp 88 y_St_length) ∈ TB := tw_f (tw_t3 (List.mem_of_getElem? (i := 13) rfl)) rfl
set_option maxRecDepth 100000 in
theorem tw_277 : (.instanceMethod y_St_length) ∈ TB := tw_f (tw_t3 (List.mem_of_getElem? (i := 14) rfl)) rfl
set_option maxRecDepth 100000 in
theorem tw_278 : (.selects "java/lang/String" y_St_length y_St_length) ∈ TB := tw_f (tw_t3 (List.mem_of_getElem? (i := 15) rfl)) rfl
set_option maxRecDepth 100000 in
theorem tw_279 : (.code y_St_length b_St_length 1 (some .int)) ∈ TB := tw_f (tw_t3 (List.mem_of_getElem? (i := 16) rfl)) rfl
set_option maxRecDepth 100000 in
theorem tw_280 : (.methodLink R_Tp 92 y_St_charAt) ∈ TB := tw_f (tw_t3 (List.mem_of_getElem? (i := 23) rfl)) rfl
set_option maxRecDepth 100000 in
theorem tw_281 : (.instanceMethod y_St_charAt) ∈ TB := tw_f (tw_t3 (List.mem_of_getElem? (i := 24) rfl)) rfl
set_option maxRecDepth 100000 in
theorem tw_282 : (.selects "java/lang/String" y_St_charAt y_St_charAt) ∈ TB := tw_f (tw_t3 (List.mem_of_getElem? (i := 25) rfl)) rfl
set_option maxRecDepth 100000 in
theorem tw_283 : (.code y_St_charAt b_St_charAt 2 (some .char)) ∈ TB := tw_f (tw_t3 (List.mem_of_getElem? (i := 26) rfl)) rfl
set_option maxRecDepth 100000 in
theorem tw_284 : (.code y_Tp_isWord b_Tp_isWord 3 (some .boolean)) ∈ TB := tw_f (tw_t3 (List.mem_of_getElem? (i := 12) rfl)) rfl
set_option maxRecDepth 100000 in
theorem tw_285 : (.methodLink R_Tp 67 y_Tp_isWord) ∈ TB := tw_f (tw_t3 (List.mem_of_getElem? (i := 9) rfl)) rfl
set_option maxRecDepth 100000 in
theorem tw_286 : (.instanceMethod y_Tp_isWord) ∈ TB := tw_f (tw_t3 (List.mem_of_getElem? (i := 10) rfl)) rfl
set_option maxRecDepth 100000 in
theorem tw_287 : (.selects R_Tp y_Tp_isWord y_Tp_isWord) ∈ TB := tw_f (tw_t3 (List.mem_of_getElem? (i := 11) rfl)) rfl
set_option maxRecDepth 100000 in
theorem tw_288 : (.code y_Tp_kindOfLine b_Tp_kindOfLine 1 (some .int)) ∈ TB := tw_f (tw_t3 (List.mem_of_getElem? (i := 7) rfl)) rfl
set_option maxRecDepth 100000 in
theorem tw_289 : (.methodLink R_Tp 40 y_Tp_kindOfLine) ∈ TB := tw_f (tw_t3 (List.mem_of_getElem? (i := 4) rfl)) rfl
set_option maxRecDepth 100000 in
theorem tw_290 : (.instanceMethod y_Tp_kindOfLine) ∈ TB := tw_f (tw_t3 (List.mem_of_getElem? (i := 5) rfl)) rfl
set_option maxRecDepth 100000 in
theorem tw_291 : (.selects R_Tp y_Tp_kindOfLine y_Tp_kindOfLine) ∈ TB := tw_f (tw_t3 (List.mem_of_getElem? (i := 6) rfl)) rfl
set_option maxRecDepth 100000 in
theorem tw_292 : (.code y_Or_takesLine b_Or_takesLine 2 (some .boolean)) ∈ TB := tw_f (tw_t3 (List.mem_of_getElem? (i := 72) rfl)) rfl
set_option maxRecDepth 100000 in
theorem tw_293 : (.methodLink R_Tp 44 y_Or_takesLine) ∈ TB := tw_f (tw_t3 (List.mem_of_getElem? (i := 69) rfl)) rfl
set_option maxRecDepth 100000 in
theorem tw_294 : (.instanceMethod y_Or_takesLine) ∈ TB := tw_f (tw_t3 (List.mem_of_getElem? (i := 70) rfl)) rfl
set_option maxRecDepth 100000 in
theorem tw_295 : (.selects R_Or y_Or_takesLine y_Or_takesLine) ∈ TB := tw_f (tw_t3 (List.mem_of_getElem? (i := 71) rfl)) rfl
set_option maxRecDepth 100000 in
theorem tw_296 : (.code y_Tp_stepOverNumber b_Tp_stepOverNumber 1 (some .boolean)) ∈ TB := tw_f (tw_t3 (List.mem_of_getElem? (i := 76) rfl)) rfl
set_option maxRecDepth 100000 in
theorem tw_297 : (.methodLink R_Tp 51 y_Tp_stepOverNumber) ∈ TB := tw_f (tw_t3 (List.mem_of_getElem? (i := 73) rfl)) rfl
set_option maxRecDepth 100000 in
theorem tw_298 : (.instanceMethod y_Tp_stepOverNumber) ∈ TB := tw_f (tw_t3 (List.mem_of_getElem? (i := 74) rfl)) rfl
set_option maxRecDepth 100000 in
theorem tw_299 : (.selects R_Tp y_Tp_stepOverNumber y_Tp_stepOverNumber) ∈ TB := tw_f (tw_t3 (List.mem_of_getElem? (i := 75) rfl)) rfl
set_option maxRecDepth 100000 in
theorem tw_300 : (.code y_Tp_stepOverWord b_Tp_stepOverWord 2 (some .boolean)) ∈ TB := tw_f (tw_t3 (List.mem_of_getElem? (i := 81) rfl)) rfl
set_option maxRecDepth 100000 in
theorem tw_301 : (.methodLink R_Tp 57 y_Tp_stepOverWord) ∈ TB := tw_f (tw_t3 (List.mem_of_getElem? (i := 78) rfl)) rfl
set_option maxRecDepth 100000 in
theorem tw_302 : (.instanceMethod y_Tp_stepOverWord) ∈ TB := tw_f (tw_t3 (List.mem_of_getElem? (i := 79) rfl)) rfl
set_option maxRecDepth 100000 in
theorem tw_303 : (.selects R_Tp y_Tp_stepOverWord y_Tp_stepOverWord) ∈ TB := tw_f (tw_t3 (List.mem_of_getElem? (i := 80) rfl)) rfl
set_option maxRecDepth 100000 in
theorem tw_304 : (.fieldLink R_Or 9 "WaterMen$Order" "fares" "[I") ∈ TB := tw_f (tw_t1 (List.mem_of_getElem? (i := 133) rfl)) rfl
set_option maxRecDepth 100000 in
theorem tw_305 : (.code y_Or_setLine b_Or_setLine 5 none) ∈ TB := tw_f (tw_t3 (List.mem_of_getElem? (i := 89) rfl)) rfl
set_option maxRecDepth 100000 in
theorem tw_306 : (.methodLink R_Or 30 y_Or_setLine) ∈ TB := tw_f (tw_t3 (List.mem_of_getElem? (i := 87) rfl)) rfl
set_option maxRecDepth 100000 in
theorem tw_307 : (.static y_Or_setLine) ∈ TB := tw_f (tw_t3 (List.mem_of_getElem? (i := 88) rfl)) rfl
set_option maxRecDepth 100000 in
theorem tw_308 : (.code y_Or_addLine b_Or_addLine 5 none) ∈ TB := tw_f (tw_t3 (List.mem_of_getElem? (i := 86) rfl)) rfl
set_option maxRecDepth 100000 in
theorem tw_309 : (.methodLink R_Tp 63 y_Or_addLine) ∈ TB := tw_f (tw_t3 (List.mem_of_getElem? (i := 83) rfl)) rfl
set_option maxRecDepth 100000 in
theorem tw_310 : (.instanceMethod y_Or_addLine) ∈ TB := tw_f (tw_t3 (List.mem_of_getElem? (i := 84) rfl)) rfl
set_option maxRecDepth 100000 in
theorem tw_311 : (.selects R_Or y_Or_addLine y_Or_addLine) ∈ TB := tw_f (tw_t3 (List.mem_of_getElem? (i := 85) rfl)) rfl
set_option maxRecDepth 100000 in
theorem tw_312 : (.fieldLink R_Or 15 "WaterMen$Order" "hours" "[I") ∈ TB := tw_f (tw_t1 (List.mem_of_getElem? (i := 134) rfl)) rfl
set_option maxRecDepth 100000 in
theorem tw_313 : (.fieldLink R_Or 34 "WaterMen$Order" "bridgeOpens" "I") ∈ TB := tw_f (tw_t1 (List.mem_of_getElem? (i := 138) rfl)) rfl
set_option maxRecDepth 100000 in
theorem tw_314 : (.fieldLink R_Or 37 "WaterMen$Order" "bridgeShuts" "I") ∈ TB := tw_f (tw_t1 (List.mem_of_getElem? (i := 139) rfl)) rfl
set_option maxRecDepth 100000 in
theorem tw_315 : (.code y_Tp_readLine b_Tp_readLine 8 (some .boolean)) ∈ TB := tw_f (tw_t3 (List.mem_of_getElem? (i := 3) rfl)) rfl
set_option maxRecDepth 100000 in
theorem tw_316 : (.methodLink R_Tp 30 y_Tp_readLine) ∈ TB := tw_f (tw_t3 (List.mem_of_getElem? (i := 0) rfl)) rfl
set_option maxRecDepth 100000 in
theorem tw_317 : (.instanceMethod y_Tp_readLine) ∈ TB := tw_f (tw_t3 (List.mem_of_getElem? (i := 1) rfl)) rfl
set_option maxRecDepth 100000 in
theorem tw_318 : (.selects R_Tp y_Tp_readLine y_Tp_readLine) ∈ TB := tw_f (tw_t3 (List.mem_of_getElem? (i := 2) rfl)) rfl
set_option maxRecDepth 100000 in
theorem tw_319 : (.code y_Tp_readInto b_Tp_readInto 3 (some .int)) ∈ TB := tw_f (tw_t2 (List.mem_of_getElem? (i := 217) rfl)) rfl
set_option maxRecDepth 100000 in
theorem tw_320 : (.methodLink R_WM 213 y_Tp_readInto) ∈ TB := tw_f (tw_t2 (List.mem_of_getElem? (i := 214) rfl)) rfl
set_option maxRecDepth 100000 in
theorem tw_321 : (.instanceMethod y_Tp_readInto) ∈ TB := tw_f (tw_t2 (List.mem_of_getElem? (i := 215) rfl)) rfl
set_option maxRecDepth 100000 in
theorem tw_322 : (.selects R_Tp y_Tp_readInto y_Tp_readInto) ∈ TB := tw_f (tw_t2 (List.mem_of_getElem? (i := 216) rfl)) rfl
set_option maxRecDepth 100000 in
theorem tw_323 : (.fieldLink R_WM 217 "WaterMen$Order" "inForceFrom" "I") ∈ TB := tw_f (tw_t1 (List.mem_of_getElem? (i := 132) rfl)) rfl
set_option maxRecDepth 100000 in
theorem tw_324 : (.fieldLink R_WM 220 "WaterMen$Order" "madeOn" "I") ∈ TB := tw_f (tw_t1 (List.mem_of_getElem? (i := 131) rfl)) rfl
set_option maxRecDepth 100000 in
theorem tw_325 : (.fieldLink R_WM 30 "WaterMen" "orders" "[LWaterMen$Order;") ∈ TB := tw_f (tw_t1 (List.mem_of_getElem? (i := 197) rfl)) rfl
set_option maxRecDepth 100000 in
theorem tw_326 : (.classLink R_WM 28 R_Or) ∈ TB := tw_f (tw_t1 (List.mem_of_getElem? (i := 62) rfl)) rfl
set_option maxRecDepth 100000 in
theorem tw_327 : (.instantiable R_Or 9) ∈ TB := tw_f (tw_t1 (List.mem_of_getElem? (i := 126) rfl)) rfl
set_option maxRecDepth 100000 in
theorem tw_328 : (.methodLink R_Or 3 objectInit) ∈ TB := tw_f (tw_t1 (List.mem_of_getElem? (i := 130) rfl)) rfl
set_option maxRecDepth 100000 in
theorem tw_329 : (.instanceMethod objectInit) ∈ TB := tw_f (tw_t1 (List.mem_of_getElem? (i := 23) rfl)) rfl
set_option maxRecDepth 100000 in
theorem tw_330 : (.code objectInit ⟨#[0xb1]⟩ 1 none) ∈ TB := tw_f (tw_t1 (List.mem_of_getElem? (i := 24) rfl)) rfl
set_option maxRecDepth 100000 in
theorem tw_331 : (.code y_Or_init b_Or_init 1 none) ∈ TB := tw_f (tw_t1 (List.mem_of_getElem? (i := 129) rfl)) rfl
set_option maxRecDepth 100000 in
theorem tw_332 : (.instanceMethod y_Or_init) ∈ TB := tw_f (tw_t1 (List.mem_of_getElem? (i := 128) rfl)) rfl
set_option maxRecDepth 100000 in
theorem tw_333 : (.fieldLink R_Md 275 "WaterMenModel" "orders" "I") ∈ TB := tw_f (tw_t4 (List.mem_of_getElem? (i := 191) rfl)) rfl
set_option maxRecDepth 100000 in
theorem tw_334 : (.fieldLink R_Md 119 "WaterMenModel" "fares" "[I") ∈ TB := tw_f (tw_t4 (List.mem_of_getElem? (i := 194) rfl)) rfl
set_option maxRecDepth 100000 in
theorem tw_335 : (.fieldLink R_Md 131 "WaterMenModel" "hours" "[I") ∈ TB := tw_f (tw_t4 (List.mem_of_getElem? (i := 198) rfl)) rfl
set_option maxRecDepth 100000 in
theorem tw_336 : (.fieldLink R_Md 218 "WaterMenModel" "at" "I") ∈ TB := tw_f (tw_t4 (List.mem_of_getElem? (i := 204) rfl)) rfl
set_option maxRecDepth 100000 in
theorem tw_337 : (.fieldLink R_Md 221 "WaterMenModel" "tkAt" "I") ∈ TB := tw_f (tw_t4 (List.mem_of_getElem? (i := 206) rfl)) rfl
set_option maxRecDepth 100000 in
theorem tw_338 : (.fieldLink R_Md 224 "WaterMenModel" "tk" "I") ∈ TB := tw_f (tw_t4 (List.mem_of_getElem? (i := 205) rfl)) rfl
set_option maxRecDepth 100000 in
theorem tw_339 : (.code y_Md_isLetter b_Md_isLetter 1 (some .boolean)) ∈ TB := tw_f (tw_t5 (List.mem_of_getElem? (i := 205) rfl)) rfl
set_option maxRecDepth 100000 in
theorem tw_340 : (.methodLink R_Md 227 y_Md_isLetter) ∈ TB := tw_f (tw_t5 (List.mem_of_getElem? (i := 203) rfl)) rfl
set_option maxRecDepth 100000 in
theorem tw_341 : (.static y_Md_isLetter) ∈ TB := tw_f (tw_t5 (List.mem_of_getElem? (i := 204) rfl)) rfl
set_option maxRecDepth 100000 in
theorem tw_342 : (.code y_Md_isDigit b_Md_isDigit 1 (some .boolean)) ∈ TB := tw_f (tw_t5 (List.mem_of_getElem? (i := 224) rfl)) rfl
set_option maxRecDepth 100000 in
theorem tw_343 : (.methodLink R_Md 238 y_Md_isDigit) ∈ TB := tw_f (tw_t5 (List.mem_of_getElem? (i := 222) rfl)) rfl
set_option maxRecDepth 100000 in
theorem tw_344 : (.static y_Md_isDigit) ∈ TB := tw_f (tw_t5 (List.mem_of_getElem? (i := 223) rfl)) rfl
set_option maxRecDepth 100000 in
theorem tw_345 : (.fieldLink R_Md 241 "WaterMenModel" "tkNumber" "I") ∈ TB := tw_f (tw_t4 (List.mem_of_getElem? (i := 207) rfl)) rfl
set_option maxRecDepth 100000 in
theorem tw_346 : (.constantLong R_Md 230 27) ∈ TB := tw_f (tw_t5 (List.mem_of_getElem? (i := 206) rfl)) rfl
set_option maxRecDepth 100000 in
theorem tw_347 : (.constantLong R_Md 232 96) ∈ TB := tw_f (tw_t5 (List.mem_of_getElem? (i := 207) rfl)) rfl
set_option maxRecDepth 100000 in
theorem tw_348 : (.constantLong R_Md 244 555) ∈ TB := tw_f (tw_t5 (List.mem_of_getElem? (i := 211) rfl)) rfl
set_option maxRecDepth 100000 in
theorem tw_349 : (.constantLong R_Md 246 262) ∈ TB := tw_f (tw_t5 (List.mem_of_getElem? (i := 212) rfl)) rfl
set_option maxRecDepth 100000 in
theorem tw_350 : (.constantLong R_Md 248 119318) ∈ TB := tw_f (tw_t5 (List.mem_of_getElem? (i := 213) rfl)) rfl
set_option maxRecDepth 100000 in
theorem tw_351 : (.constantLong R_Md 250 168984) ∈ TB := tw_f (tw_t5 (List.mem_of_getElem? (i := 214) rfl)) rfl
set_option maxRecDepth 100000 in
theorem tw_352 : (.constantLong R_Md 252 459818) ∈ TB := tw_f (tw_t5 (List.mem_of_getElem? (i := 215) rfl)) rfl
set_option maxRecDepth 100000 in
theorem tw_353 : (.constantLong R_Md 254 488582165) ∈ TB := tw_f (tw_t5 (List.mem_of_getElem? (i := 216) rfl)) rfl
set_option maxRecDepth 100000 in
theorem tw_354 : (.constantLong R_Md 256 284068024) ∈ TB := tw_f (tw_t5 (List.mem_of_getElem? (i := 217) rfl)) rfl
set_option maxRecDepth 100000 in
theorem tw_355 : (.constantLong R_Md 258 6476969) ∈ TB := tw_f (tw_t5 (List.mem_of_getElem? (i := 218) rfl)) rfl
set_option maxRecDepth 100000 in
theorem tw_356 : (.constantLong R_Md 260 38444009) ∈ TB := tw_f (tw_t5 (List.mem_of_getElem? (i := 219) rfl)) rfl
set_option maxRecDepth 100000 in
theorem tw_357 : (.constantLong R_Md 262 161140) ∈ TB := tw_f (tw_t5 (List.mem_of_getElem? (i := 220) rfl)) rfl
set_option maxRecDepth 100000 in
theorem tw_358 : (.constantLong R_Md 264 296479) ∈ TB := tw_f (tw_t5 (List.mem_of_getElem? (i := 221) rfl)) rfl
set_option maxRecDepth 100000 in
theorem tw_359 : (.code y_Md_wordOf b_Md_wordOf 2 (some .int)) ∈ TB := tw_f (tw_t5 (List.mem_of_getElem? (i := 210) rfl)) rfl
set_option maxRecDepth 100000 in
theorem tw_360 : (.methodLink R_Md 234 y_Md_wordOf) ∈ TB := tw_f (tw_t5 (List.mem_of_getElem? (i := 208) rfl)) rfl
set_option maxRecDepth 100000 in
theorem tw_361 : (.static y_Md_wordOf) ∈ TB := tw_f (tw_t5 (List.mem_of_getElem? (i := 209) rfl)) rfl
set_option maxRecDepth 100000 in
theorem tw_362 : (.code y_Md_advance b_Md_advance 5 none) ∈ TB := tw_f (tw_t5 (List.mem_of_getElem? (i := 202) rfl)) rfl
set_option maxRecDepth 100000 in
theorem tw_363 : (.methodLink R_Md 269 y_Md_advance) ∈ TB := tw_f (tw_t5 (List.mem_of_getElem? (i := 199) rfl)) rfl
set_option maxRecDepth 100000 in
theorem tw_364 : (.instanceMethod y_Md_advance) ∈ TB := tw_f (tw_t5 (List.mem_of_getElem? (i := 201) rfl)) rfl
set_option maxRecDepth 100000 in
theorem tw_365 : (.selects R_Md y_Md_advance y_Md_advance) ∈ TB := tw_f (tw_s2 (List.mem_of_getElem? (i := 14) rfl)) rfl
set_option maxRecDepth 100000 in
theorem tw_366 : (.fieldLink R_Md 113 "WaterMenModel" "orderFrom" "[I") ∈ TB := tw_f (tw_t4 (List.mem_of_getElem? (i := 192) rfl)) rfl
set_option maxRecDepth 100000 in
theorem tw_367 : (.fieldLink R_Md 116 "WaterMenModel" "orderMade" "[I") ∈ TB := tw_f (tw_t4 (List.mem_of_getElem? (i := 193) rfl)) rfl
set_option maxRecDepth 100000 in
theorem tw_368 : (.fieldLink R_Md 143 "WaterMenModel" "single" "[I") ∈ TB := tw_f (tw_t4 (List.mem_of_getElem? (i := 202) rfl)) rfl
set_option maxRecDepth 100000 in
theorem tw_369 : (.fieldLink R_Md 266 "WaterMenModel" "got" "I") ∈ TB := tw_f (tw_t4 (List.mem_of_getElem? (i := 208) rfl)) rfl
set_option maxRecDepth 100000 in
theorem tw_370 : (.code y_Md_takes b_Md_takes 2 (some .boolean)) ∈ TB := tw_f (tw_t5 (List.mem_of_getElem? (i := 232) rfl)) rfl
set_option maxRecDepth 100000 in
theorem tw_371 : (.methodLink R_Md 272 y_Md_takes) ∈ TB := tw_f (tw_t5 (List.mem_of_getElem? (i := 229) rfl)) rfl
set_option maxRecDepth 100000 in
theorem tw_372 : (.instanceMethod y_Md_takes) ∈ TB := tw_f (tw_t5 (List.mem_of_getElem? (i := 231) rfl)) rfl
set_option maxRecDepth 100000 in
theorem tw_373 : (.selects R_Md y_Md_takes y_Md_takes) ∈ TB := tw_f (tw_s3 (List.mem_of_getElem? (i := 0) rfl)) rfl
set_option maxRecDepth 100000 in
theorem tw_374 : (.fieldLink R_Md 146 "WaterMenModel" "singleTo" "[I") ∈ TB := tw_f (tw_t4 (List.mem_of_getElem? (i := 203) rfl)) rfl
set_option maxRecDepth 100000 in
theorem tw_375 : (.fieldLink R_Md 134 "WaterMenModel" "hourLow" "[I") ∈ TB := tw_f (tw_t4 (List.mem_of_getElem? (i := 199) rfl)) rfl
set_option maxRecDepth 100000 in
theorem tw_376 : (.fieldLink R_Md 137 "WaterMenModel" "hourHigh" "[I") ∈ TB := tw_f (tw_t4 (List.mem_of_getElem? (i := 200) rfl)) rfl
set_option maxRecDepth 100000 in
theorem tw_377 : (.fieldLink R_Md 140 "WaterMenModel" "hourIs" "[I") ∈ TB := tw_f (tw_t4 (List.mem_of_getElem? (i := 201) rfl)) rfl
set_option maxRecDepth 100000 in
theorem tw_378 : (.fieldLink R_Md 122 "WaterMenModel" "fareLow" "[I") ∈ TB := tw_f (tw_t4 (List.mem_of_getElem? (i := 195) rfl)) rfl
set_option maxRecDepth 100000 in
theorem tw_379 : (.fieldLink R_Md 125 "WaterMenModel" "fareHigh" "[I") ∈ TB := tw_f (tw_t4 (List.mem_of_getElem? (i := 196) rfl)) rfl
set_option maxRecDepth 100000 in
theorem tw_380 : (.fieldLink R_Md 128 "WaterMenModel" "fareIs" "[I") ∈ TB := tw_f (tw_t4 (List.mem_of_getElem? (i := 197) rfl)) rfl
set_option maxRecDepth 100000 in
theorem tw_381 : (.code y_Md_line b_Md_line 6 (some .boolean)) ∈ TB := tw_f (tw_t5 (List.mem_of_getElem? (i := 228) rfl)) rfl
set_option maxRecDepth 100000 in
theorem tw_382 : (.methodLink R_Md 278 y_Md_line) ∈ TB := tw_f (tw_t5 (List.mem_of_getElem? (i := 225) rfl)) rfl
set_option maxRecDepth 100000 in
theorem tw_383 : (.instanceMethod y_Md_line) ∈ TB := tw_f (tw_t5 (List.mem_of_getElem? (i := 227) rfl)) rfl
set_option maxRecDepth 100000 in
theorem tw_384 : (.selects R_Md y_Md_line y_Md_line) ∈ TB := tw_f (tw_s2 (List.mem_of_getElem? (i := 15) rfl)) rfl
set_option maxRecDepth 100000 in
theorem tw_385 : (.code y_WM_orderAt b_WM_orderAt 2 (some (.object "WaterMen$Order"))) ∈ TB := tw_f (tw_t3 (List.mem_of_getElem? (i := 101) rfl)) rfl
set_option maxRecDepth 100000 in
theorem tw_386 : (.methodLink R_WM 226 y_WM_orderAt) ∈ TB := tw_f (tw_t3 (List.mem_of_getElem? (i := 98) rfl)) rfl
set_option maxRecDepth 100000 in
theorem tw_387 : (.instanceMethod y_WM_orderAt) ∈ TB := tw_f (tw_t3 (List.mem_of_getElem? (i := 100) rfl)) rfl
set_option maxRecDepth 100000 in
theorem tw_388 : (.selects R_WM y_WM_orderAt y_WM_orderAt) ∈ TB := tw_f (tw_s1 (List.mem_of_getElem? (i := 5) rfl)) rfl
set_option maxRecDepth 100000 in
theorem tw_389 : (.code y_WM_numberInForce b_WM_numberInForce 5 (some .int)) ∈ TB := tw_f (tw_t3 (List.mem_of_getElem? (i := 97) rfl)) rfl
set_option maxRecDepth 100000 in
theorem tw_390 : (.methodLink R_WM 223 y_WM_numberInForce) ∈ TB := tw_f (tw_t3 (List.mem_of_getElem? (i := 94) rfl)) rfl
set_option maxRecDepth 100000 in
theorem tw_391 : (.instanceMethod y_WM_numberInForce) ∈ TB := tw_f (tw_t3 (List.mem_of_getElem? (i := 96) rfl)) rfl
set_option maxRecDepth 100000 in
theorem tw_392 : (.selects R_WM y_WM_numberInForce y_WM_numberInForce) ∈ TB := tw_f (tw_s1 (List.mem_of_getElem? (i := 4) rfl)) rfl
set_option maxRecDepth 100000 in
theorem tw_393 : (.code y_Md_forceOn b_Md_forceOn 4 (some .int)) ∈ TB := tw_f (tw_t6 (List.mem_of_getElem? (i := 0) rfl)) rfl
set_option maxRecDepth 100000 in
theorem tw_394 : (.methodLink R_Md 281 y_Md_forceOn) ∈ TB := tw_f (tw_t5 (List.mem_of_getElem? (i := 237) rfl)) rfl
set_option maxRecDepth 100000 in
theorem tw_395 : (.instanceMethod y_Md_forceOn) ∈ TB := tw_f (tw_t5 (List.mem_of_getElem? (i := 239) rfl)) rfl
set_option maxRecDepth 100000 in
theorem tw_396 : (.selects R_Md y_Md_forceOn y_Md_forceOn) ∈ TB := tw_f (tw_s3 (List.mem_of_getElem? (i := 1) rfl)) rfl
set_option maxRecDepth 100000 in
theorem tw_397 : (.code y_Rv_hasStairs b_Rv_hasStairs 2 (some .boolean)) ∈ TB := tw_f (tw_t2 (List.mem_of_getElem? (i := 143) rfl)) rfl
set_option maxRecDepth 100000 in
theorem tw_398 : (.methodLink R_WM 167 y_Rv_hasStairs) ∈ TB := tw_f (tw_t2 (List.mem_of_getElem? (i := 140) rfl)) rfl
set_option maxRecDepth 100000 in
theorem tw_399 : (.instanceMethod y_Rv_hasStairs) ∈ TB := tw_f (tw_t2 (List.mem_of_getElem? (i := 141) rfl)) rfl
set_option maxRecDepth 100000 in
theorem tw_400 : (.selects R_Rv y_Rv_hasStairs y_Rv_hasStairs) ∈ TB := tw_f (tw_t2 (List.mem_of_getElem? (i := 142) rfl)) rfl
set_option maxRecDepth 100000 in
theorem tw_401 : (.code y_WM_isOars b_WM_isOars 1 (some .boolean)) ∈ TB := tw_f (tw_t2 (List.mem_of_getElem? (i := 139) rfl)) rfl
set_option maxRecDepth 100000 in
theorem tw_402 : (.methodLink R_WM 164 y_WM_isOars) ∈ TB := tw_f (tw_t2 (List.mem_of_getElem? (i := 137) rfl)) rfl
set_option maxRecDepth 100000 in
theorem tw_403 : (.static y_WM_isOars) ∈ TB := tw_f (tw_t2 (List.mem_of_getElem? (i := 138) rfl)) rfl
set_option maxRecDepth 100000 in
theorem tw_404 : (.methodLink R_Rv 54 y_Rv_flowIn) ∈ TB := tw_f (tw_t3 (List.mem_of_getElem? (i := 114) rfl)) rfl
set_option maxRecDepth 100000 in
theorem tw_405 : (.code y_Rv_drift b_Rv_drift 6 (some .int)) ∈ TB := tw_f (tw_t3 (List.mem_of_getElem? (i := 113) rfl)) rfl
set_option maxRecDepth 100000 in
theorem tw_406 : (.methodLink R_WM 359 y_Rv_drift) ∈ TB := tw_f (tw_t3 (List.mem_of_getElem? (i := 110) rfl)) rfl
set_option maxRecDepth 100000 in
theorem tw_407 : (.instanceMethod y_Rv_drift) ∈ TB := tw_f (tw_t3 (List.mem_of_getElem? (i := 111) rfl)) rfl
set_option maxRecDepth 100000 in
theorem tw_408 : (.selects R_Rv y_Rv_drift y_Rv_drift) ∈ TB := tw_f (tw_t3 (List.mem_of_getElem? (i := 112) rfl)) rfl
set_option maxRecDepth 100000 in
theorem tw_409 : (.methodLink R_Rv 38 Lib.Math.abs.name) ∈ TB := tw_f (tw_t3 (List.mem_of_getElem? (i := 119) rfl)) rfl
set_option maxRecDepth 100000 in
theorem tw_410 : (.static Lib.Math.abs.name) ∈ TB := tw_f (tw_t3 (List.mem_of_getElem? (i := 120) rfl)) rfl
set_option maxRecDepth 100000 in
theorem tw_411 : (.code Lib.Math.abs.name Lib.Math.abs.code 1 (some .int)) ∈ TB := tw_f (tw_t3 (List.mem_of_getElem? (i := 121) rfl)) rfl
set_option maxRecDepth 100000 in
theorem tw_412 : (.code y_Rv_distance b_Rv_distance 3 (some .int)) ∈ TB := tw_f (tw_t3 (List.mem_of_getElem? (i := 118) rfl)) rfl
set_option maxRecDepth 100000 in
theorem tw_413 : (.methodLink R_WM 363 y_Rv_distance) ∈ TB := tw_f (tw_t3 (List.mem_of_getElem? (i := 115) rfl)) rfl
set_option maxRecDepth 100000 in
theorem tw_414 : (.instanceMethod y_Rv_distance) ∈ TB := tw_f (tw_t3 (List.mem_of_getElem? (i := 116) rfl)) rfl
set_option maxRecDepth 100000 in
theorem tw_415 : (.selects R_Rv y_Rv_distance y_Rv_distance) ∈ TB := tw_f (tw_t3 (List.mem_of_getElem? (i := 117) rfl)) rfl
set_option maxRecDepth 100000 in
theorem tw_416 : (.code y_Or_lineHolds b_Or_lineHolds 3 (some .boolean)) ∈ TB := tw_f (tw_t3 (List.mem_of_getElem? (i := 132) rfl)) rfl
set_option maxRecDepth 100000 in
theorem tw_417 : (.methodLink R_Or 48 y_Or_lineHolds) ∈ TB := tw_f (tw_t3 (List.mem_of_getElem? (i := 130) rfl)) rfl
set_option maxRecDepth 100000 in
theorem tw_418 : (.static y_Or_lineHolds) ∈ TB := tw_f (tw_t3 (List.mem_of_getElem? (i := 131) rfl)) rfl
set_option maxRecDepth 100000 in
theorem tw_419 : (.code y_Or_basePrice b_Or_basePrice 3 (some .int)) ∈ TB := tw_f (tw_t3 (List.mem_of_getElem? (i := 129) rfl)) rfl
set_option maxRecDepth 100000 in
theorem tw_420 : (.methodLink R_Or 40 y_Or_basePrice) ∈ TB := tw_f (tw_t3 (List.mem_of_getElem? (i := 126) rfl)) rfl
set_option maxRecDepth 100000 in
theorem tw_421 : (.instanceMethod y_Or_basePrice) ∈ TB := tw_f (tw_t3 (List.mem_of_getElem? (i := 127) rfl)) rfl
set_option maxRecDepth 100000 in
theorem tw_422 : (.selects R_Or y_Or_basePrice y_Or_basePrice) ∈ TB := tw_f (tw_t3 (List.mem_of_getElem? (i := 128) rfl)) rfl
set_option maxRecDepth 100000 in
theorem tw_423 : (.constantLong R_Or 61 100) ∈ TB := tw_f (tw_t3 (List.mem_of_getElem? (i := 136) rfl)) rfl
set_option maxRecDepth 100000 in
theorem tw_424 : (.constantLong R_Or 63 1000000) ∈ TB := tw_f (tw_t3 (List.mem_of_getElem? (i := 137) rfl)) rfl
set_option maxRecDepth 100000 in
theorem tw_425 : (.constant R_Or 65 1000000) ∈ TB := tw_f (tw_t3 (List.mem_of_getElem? (i := 138) rfl)) rfl
set_option maxRecDepth 100000 in
theorem tw_426 : (.code y_Or_scaled b_Or_scaled 4 (some .int)) ∈ TB := tw_f (tw_t3 (List.mem_of_getElem? (i := 135) rfl)) rfl
set_option maxRecDepth 100000 in
theorem tw_427 : (.methodLink R_Or 44 y_Or_scaled) ∈ TB := tw_f (tw_t3 (List.mem_of_getElem? (i := 133) rfl)) rfl
set_option maxRecDepth 100000 in
theorem tw_428 : (.static y_Or_scaled) ∈ TB := tw_f (tw_t3 (List.mem_of_getElem? (i := 134) rfl)) rfl
set_option maxRecDepth 100000 in
theorem tw_429 : (.methodLink R_Or 56 Lib.Math.max.name) ∈ TB := tw_f (tw_t3 (List.mem_of_getElem? (i := 142) rfl)) rfl
set_option maxRecDepth 100000 in
theorem tw_430 : (.code y_Or_price b_Or_price 8 (some .int)) ∈ TB := tw_f (tw_t3 (List.mem_of_getElem? (i := 125) rfl)) rfl
set_option maxRecDepth 100000 in
theorem tw_431 : (.methodLink R_WM 366 y_Or_price) ∈ TB := tw_f (tw_t3 (List.mem_of_getElem? (i := 122) rfl)) rfl
set_option maxRecDepth 100000 in
theorem tw_432 : (.instanceMethod y_Or_price) ∈ TB := tw_f (tw_t3 (List.mem_of_getElem? (i := 123) rfl)) rfl
set_option maxRecDepth 100000 in
theorem tw_433 : (.selects R_Or y_Or_price y_Or_price) ∈ TB := tw_f (tw_t3 (List.mem_of_getElem? (i := 124) rfl)) rfl
set_option maxRecDepth 100000 in
theorem tw_434 : (.code y_WM_priceOf b_WM_priceOf 9 (some .int)) ∈ TB := tw_f (tw_t3 (List.mem_of_getElem? (i := 109) rfl)) rfl
set_option maxRecDepth 100000 in
theorem tw_435 : (.methodLink R_WM 230 y_WM_priceOf) ∈ TB := tw_f (tw_t3 (List.mem_of_getElem? (i := 106) rfl)) rfl
set_option maxRecDepth 100000 in
theorem tw_436 : (.instanceMethod y_WM_priceOf) ∈ TB := tw_f (tw_t3 (List.mem_of_getElem? (i := 108) rfl)) rfl
set_option maxRecDepth 100000 in
theorem tw_437 : (.selects R_WM y_WM_priceOf y_WM_priceOf) ∈ TB := tw_f (tw_s1 (List.mem_of_getElem? (i := 6) rfl)) rfl
set_option maxRecDepth 100000 in
theorem tw_438 : (.code y_Md_isStairs b_Md_isStairs 2 (some .boolean)) ∈ TB := tw_f (tw_t5 (List.mem_of_getElem? (i := 162) rfl)) rfl
set_option maxRecDepth 100000 in
theorem tw_439 : (.methodLink R_Md 199 y_Md_isStairs) ∈ TB := tw_f (tw_t5 (List.mem_of_getElem? (i := 159) rfl)) rfl
set_option maxRecDepth 100000 in
theorem tw_440 : (.instanceMethod y_Md_isStairs) ∈ TB := tw_f (tw_t5 (List.mem_of_getElem? (i := 161) rfl)) rfl
set_option maxRecDepth 100000 in
theorem tw_441 : (.selects R_Md y_Md_isStairs y_Md_isStairs) ∈ TB := tw_f (tw_s2 (List.mem_of_getElem? (i := 10) rfl)) rfl
set_option maxRecDepth 100000 in
theorem tw_442 : (.code y_Md_lineOf b_Md_lineOf 3 (some .int)) ∈ TB := tw_f (tw_t6 (List.mem_of_getElem? (i := 12) rfl)) rfl
set_option maxRecDepth 100000 in
theorem tw_443 : (.methodLink R_Md 289 y_Md_lineOf) ∈ TB := tw_f (tw_t6 (List.mem_of_getElem? (i := 9) rfl)) rfl
set_option maxRecDepth 100000 in
theorem tw_444 : (.instanceMethod y_Md_lineOf) ∈ TB := tw_f (tw_t6 (List.mem_of_getElem? (i := 11) rfl)) rfl
set_option maxRecDepth 100000 in
theorem tw_445 : (.selects R_Md y_Md_lineOf y_Md_lineOf) ∈ TB := tw_f (tw_s3 (List.mem_of_getElem? (i := 3) rfl)) rfl
set_option maxRecDepth 100000 in
theorem tw_446 : (.constantLong R_Md 284 100) ∈ TB := tw_f (tw_t6 (List.mem_of_getElem? (i := 16) rfl)) rfl
set_option maxRecDepth 100000 in
theorem tw_447 : (.constantLong R_Md 286 1000000) ∈ TB := tw_f (tw_t6 (List.mem_of_getElem? (i := 17) rfl)) rfl
set_option maxRecDepth 100000 in
theorem tw_448 : (.constant R_Md 288 1000000) ∈ TB := tw_f (tw_t6 (List.mem_of_getElem? (i := 18) rfl)) rfl
set_option maxRecDepth 100000 in
theorem tw_449 : (.code y_Md_by b_Md_by 4 (some .int)) ∈ TB := tw_f (tw_t6 (List.mem_of_getElem? (i := 15) rfl)) rfl
set_option maxRecDepth 100000 in
theorem tw_450 : (.methodLink R_Md 292 y_Md_by) ∈ TB := tw_f (tw_t6 (List.mem_of_getElem? (i := 13) rfl)) rfl
set_option maxRecDepth 100000 in
theorem tw_451 : (.static y_Md_by) ∈ TB := tw_f (tw_t6 (List.mem_of_getElem? (i := 14) rfl)) rfl
set_option maxRecDepth 100000 in
theorem tw_452 : (.code y_Md_fareOf b_Md_fareOf 13 (some .int)) ∈ TB := tw_f (tw_t6 (List.mem_of_getElem? (i := 8) rfl)) rfl
set_option maxRecDepth 100000 in
theorem tw_453 : (.methodLink R_Md 295 y_Md_fareOf) ∈ TB := tw_f (tw_t6 (List.mem_of_getElem? (i := 5) rfl)) rfl
set_option maxRecDepth 100000 in
theorem tw_454 : (.instanceMethod y_Md_fareOf) ∈ TB := tw_f (tw_t6 (List.mem_of_getElem? (i := 7) rfl)) rfl
set_option maxRecDepth 100000 in
theorem tw_455 : (.selects R_Md y_Md_fareOf y_Md_fareOf) ∈ TB := tw_f (tw_s3 (List.mem_of_getElem? (i := 2) rfl)) rfl
set_option maxRecDepth 100000 in
theorem tw_456 : (.classLink R_WM 114 R_Bd) ∈ TB := tw_f (tw_t2 (List.mem_of_getElem? (i := 68) rfl)) rfl
set_option maxRecDepth 100000 in
theorem tw_457 : (.instantiable R_Bd 5) ∈ TB := tw_f (tw_t2 (List.mem_of_getElem? (i := 69) rfl)) rfl
set_option maxRecDepth 100000 in
theorem tw_458 : (.initialized R_Bd) ∈ TB := tw_f (tw_t1 (List.mem_of_getElem? (i := 8) rfl)) rfl
set_option maxRecDepth 100000 in
theorem tw_459 : (.methodLink R_Bd 3 objectInit) ∈ TB := tw_f (tw_t2 (List.mem_of_getElem? (i := 73) rfl)) rfl
set_option maxRecDepth 100000 in
theorem tw_460 : (.fieldLink R_Bd 9 "WaterMen$Bond" "gapFrom" "[I") ∈ TB := tw_f (tw_t2 (List.mem_of_getElem? (i := 78) rfl)) rfl
set_option maxRecDepth 100000 in
theorem tw_461 : (.fieldLink R_Bd 15 "WaterMen$Bond" "gapTo" "[I") ∈ TB := tw_f (tw_t2 (List.mem_of_getElem? (i := 79) rfl)) rfl
set_option maxRecDepth 100000 in
theorem tw_462 : (.fieldLink R_Bd 18 "WaterMen$Bond" "master" "I") ∈ TB := tw_f (tw_t2 (List.mem_of_getElem? (i := 74) rfl)) rfl
set_option maxRecDepth 100000 in
theorem tw_463 : (.fieldLink R_Bd 22 "WaterMen$Bond" "since" "I") ∈ TB := tw_f (tw_t2 (List.mem_of_getElem? (i := 76) rfl)) rfl
set_option maxRecDepth 100000 in
theorem tw_464 : (.code y_Bd_init b_Bd_init 3 none) ∈ TB := tw_f (tw_t2 (List.mem_of_getElem? (i := 72) rfl)) rfl
set_option maxRecDepth 100000 in
theorem tw_465 : (.methodLink R_WM 116 y_Bd_init) ∈ TB := tw_f (tw_t2 (List.mem_of_getElem? (i := 70) rfl)) rfl
set_option maxRecDepth 100000 in
theorem tw_466 : (.instanceMethod y_Bd_init) ∈ TB := tw_f (tw_t2 (List.mem_of_getElem? (i := 71) rfl)) rfl
set_option maxRecDepth 100000 in
theorem tw_467 : (.fieldLink R_Md 64 "WaterMenModel" "boundOn" "[I") ∈ TB := tw_f (tw_t4 (List.mem_of_getElem? (i := 173) rfl)) rfl
set_option maxRecDepth 100000 in
theorem tw_468 : (.fieldLink R_Md 67 "WaterMenModel" "gaps" "[I") ∈ TB := tw_f (tw_t4 (List.mem_of_getElem? (i := 174) rfl)) rfl
set_option maxRecDepth 100000 in
theorem tw_469 : (.fieldLink R_WM 123 "WaterMen$Bond" "since" "I") ∈ TB := tw_f (tw_t2 (List.mem_of_getElem? (i := 77) rfl)) rfl
set_option maxRecDepth 100000 in
theorem tw_470 : (.fieldLink R_Bd 25 "WaterMen$Bond" "gapCount" "I") ∈ TB := tw_f (tw_t2 (List.mem_of_getElem? (i := 80) rfl)) rfl
set_option maxRecDepth 100000 in
theorem tw_471 : (.code y_Bd_meetsGap b_Bd_meetsGap 4 (some .boolean)) ∈ TB := tw_f (tw_t2 (List.mem_of_getElem? (i := 100) rfl)) rfl
set_option maxRecDepth 100000 in
theorem tw_472 : (.methodLink R_WM 126 y_Bd_meetsGap) ∈ TB := tw_f (tw_t2 (List.mem_of_getElem? (i := 97) rfl)) rfl
set_option maxRecDepth 100000 in
theorem tw_473 : (.instanceMethod y_Bd_meetsGap) ∈ TB := tw_f (tw_t2 (List.mem_of_getElem? (i := 98) rfl)) rfl
set_option maxRecDepth 100000 in
theorem tw_474 : (.selects R_Bd y_Bd_meetsGap y_Bd_meetsGap) ∈ TB := tw_f (tw_t2 (List.mem_of_getElem? (i := 99) rfl)) rfl
set_option maxRecDepth 100000 in
theorem tw_475 : (.fieldLink R_WM 130 "WaterMen$Bond" "gapCount" "I") ∈ TB := tw_f (tw_t2 (List.mem_of_getElem? (i := 81) rfl)) rfl
set_option maxRecDepth 100000 in
theorem tw_476 : (.code y_Bd_addGap b_Bd_addGap 3 (some .int)) ∈ TB := tw_f (tw_t2 (List.mem_of_getElem? (i := 104) rfl)) rfl
set_option maxRecDepth 100000 in
theorem tw_477 : (.methodLink R_WM 133 y_Bd_addGap) ∈ TB := tw_f (tw_t2 (List.mem_of_getElem? (i := 101) rfl)) rfl
set_option maxRecDepth 100000 in
theorem tw_478 : (.instanceMethod y_Bd_addGap) ∈ TB := tw_f (tw_t2 (List.mem_of_getElem? (i := 102) rfl)) rfl
set_option maxRecDepth 100000 in
theorem tw_479 : (.selects R_Bd y_Bd_addGap y_Bd_addGap) ∈ TB := tw_f (tw_t2 (List.mem_of_getElem? (i := 103) rfl)) rfl
set_option maxRecDepth 100000 in
theorem tw_480 : (.fieldLink R_Md 70 "WaterMenModel" "gapFrom" "[I") ∈ TB := tw_f (tw_t4 (List.mem_of_getElem? (i := 175) rfl)) rfl
set_option maxRecDepth 100000 in
theorem tw_481 : (.fieldLink R_Md 73 "WaterMenModel" "gapTo" "[I") ∈ TB := tw_f (tw_t4 (List.mem_of_getElem? (i := 176) rfl)) rfl
set_option maxRecDepth 100000 in
theorem tw_482 : (.methodLink R_Bd 28 Lib.Math.min.name) ∈ TB := tw_f (tw_t2 (List.mem_of_getElem? (i := 113) rfl)) rfl
set_option maxRecDepth 100000 in
theorem tw_483 : (.static Lib.Math.min.name) ∈ TB := tw_f (tw_t2 (List.mem_of_getElem? (i := 114) rfl)) rfl
set_option maxRecDepth 100000 in
theorem tw_484 : (.code Lib.Math.min.name Lib.Math.min.code 2 (some .int)) ∈ TB := tw_f (tw_t2 (List.mem_of_getElem? (i := 115) rfl)) rfl
set_option maxRecDepth 100000 in
theorem tw_485 : (.code y_Bd_daysServed b_Bd_daysServed 4 (some .int)) ∈ TB := tw_f (tw_t2 (List.mem_of_getElem? (i := 112) rfl)) rfl
set_option maxRecDepth 100000 in
theorem tw_486 : (.methodLink R_WM 136 y_Bd_daysServed) ∈ TB := tw_f (tw_t2 (List.mem_of_getElem? (i := 109) rfl)) rfl
set_option maxRecDepth 100000 in
theorem tw_487 : (.instanceMethod y_Bd_daysServed) ∈ TB := tw_f (tw_t2 (List.mem_of_getElem? (i := 110) rfl)) rfl
set_option maxRecDepth 100000 in
theorem tw_488 : (.selects R_Bd y_Bd_daysServed y_Bd_daysServed) ∈ TB := tw_f (tw_t2 (List.mem_of_getElem? (i := 111) rfl)) rfl
set_option maxRecDepth 100000 in
theorem tw_489 : (.code y_Md_servedOf b_Md_servedOf 5 (some .int)) ∈ TB := tw_f (tw_t5 (List.mem_of_getElem? (i := 138) rfl)) rfl
set_option maxRecDepth 100000 in
theorem tw_490 : (.methodLink R_Md 189 y_Md_servedOf) ∈ TB := tw_f (tw_t5 (List.mem_of_getElem? (i := 135) rfl)) rfl
set_option maxRecDepth 100000 in
theorem tw_491 : (.instanceMethod y_Md_servedOf) ∈ TB := tw_f (tw_t5 (List.mem_of_getElem? (i := 137) rfl)) rfl
set_option maxRecDepth 100000 in
theorem tw_492 : (.selects R_Md y_Md_servedOf y_Md_servedOf) ∈ TB := tw_f (tw_s2 (List.mem_of_getElem? (i := 7) rfl)) rfl
set_option maxRecDepth 100000 in
theorem tw_493 : (.code y_WM_served b_WM_served 4 (some .int)) ∈ TB := tw_f (tw_t2 (List.mem_of_getElem? (i := 108) rfl)) rfl
set_option maxRecDepth 100000 in
theorem tw_494 : (.methodLink R_WM 139 y_WM_served) ∈ TB := tw_f (tw_t2 (List.mem_of_getElem? (i := 120) rfl)) rfl
set_option maxRecDepth 100000 in
theorem tw_495 : (.instanceMethod y_WM_served) ∈ TB := tw_f (tw_t2 (List.mem_of_getElem? (i := 106) rfl)) rfl
set_option maxRecDepth 100000 in
theorem tw_496 : (.selects R_WM y_WM_served y_WM_served) ∈ TB := tw_f (tw_t2 (List.mem_of_getElem? (i := 107) rfl)) rfl
set_option maxRecDepth 100000 in
theorem tw_497 : (.fieldLink R_WM 170 "WaterMen" "boatCount" "I") ∈ TB := tw_f (tw_t1 (List.mem_of_getElem? (i := 201) rfl)) rfl
set_option maxRecDepth 100000 in
theorem tw_498 : (.fieldLink R_WM 24 "WaterMen" "boats" "[LWaterMen$Boat;") ∈ TB := tw_f (tw_t1 (List.mem_of_getElem? (i := 196) rfl)) rfl
set_option maxRecDepth 100000 in
theorem tw_499 : (.classLink R_WM 22 R_Bt) ∈ TB := tw_f (tw_t1 (List.mem_of_getElem? (i := 60) rfl)) rfl
set_option maxRecDepth 100000 in
theorem tw_500 : (.instantiable R_Bt 6) ∈ TB := tw_f (tw_t2 (List.mem_of_getElem? (i := 144) rfl)) rfl
set_option maxRecDepth 100000 in
theorem tw_501 : (.initialized R_Bt) ∈ TB := tw_f (tw_t1 (List.mem_of_getElem? (i := 10) rfl)) rfl
set_option maxRecDepth 100000 in
theorem tw_502 : (.methodLink R_Bt 3 objectInit) ∈ TB := tw_f (tw_t2 (List.mem_of_getElem? (i := 148) rfl)) rfl
set_option maxRecDepth 100000 in
theorem tw_503 : (.fieldLink R_Bt 9 "WaterMen$Boat" "rower" "I") ∈ TB := tw_f (tw_t2 (List.mem_of_getElem? (i := 155) rfl)) rfl
set_option maxRecDepth 100000 in
theorem tw_504 : (.fieldLink R_Bt 15 "WaterMen$Boat" "lastTrip" "I") ∈ TB := tw_f (tw_t2 (List.mem_of_getElem? (i := 157) rfl)) rfl
set_option maxRecDepth 100000 in
theorem tw_505 : (.fieldLink R_Bt 18 "WaterMen$Boat" "oars" "I") ∈ TB := tw_f (tw_t2 (List.mem_of_getElem? (i := 149) rfl)) rfl
set_option maxRecDepth 100000 in
theorem tw_506 : (.fieldLink R_Bt 21 "WaterMen$Boat" "stairs" "I") ∈ TB := tw_f (tw_t2 (List.mem_of_getElem? (i := 151) rfl)) rfl
set_option maxRecDepth 100000 in
theorem tw_507 : (.code y_Bt_init b_Bt_init 3 none) ∈ TB := tw_f (tw_t2 (List.mem_of_getElem? (i := 147) rfl)) rfl
set_option maxRecDepth 100000 in
theorem tw_508 : (.methodLink R_WM 173 y_Bt_init) ∈ TB := tw_f (tw_t2 (List.mem_of_getElem? (i := 145) rfl)) rfl
set_option maxRecDepth 100000 in
theorem tw_509 : (.instanceMethod y_Bt_init) ∈ TB := tw_f (tw_t2 (List.mem_of_getElem? (i := 146) rfl)) rfl
set_option maxRecDepth 100000 in
theorem tw_510 : (.fieldLink R_Md 94 "WaterMenModel" "boatOars" "[I") ∈ TB := tw_f (tw_t4 (List.mem_of_getElem? (i := 184) rfl)) rfl
set_option maxRecDepth 100000 in
theorem tw_511 : (.fieldLink R_Md 97 "WaterMenModel" "boatAt" "[I") ∈ TB := tw_f (tw_t4 (List.mem_of_getElem? (i := 185) rfl)) rfl
set_option maxRecDepth 100000 in
theorem tw_512 : (.fieldLink R_Md 100 "WaterMenModel" "boatFrom" "[I") ∈ TB := tw_f (tw_t4 (List.mem_of_getElem? (i := 186) rfl)) rfl
set_option maxRecDepth 100000 in
theorem tw_513 : (.code y_WM_boatAt b_WM_boatAt 2 (some (.object "WaterMen$Boat"))) ∈ TB := tw_f (tw_t2 (List.mem_of_getElem? (i := 181) rfl)) rfl
set_option maxRecDepth 100000 in
theorem tw_514 : (.methodLink R_WM 174 y_WM_boatAt) ∈ TB := tw_f (tw_t2 (List.mem_of_getElem? (i := 178) rfl)) rfl
set_option maxRecDepth 100000 in
theorem tw_515 : (.instanceMethod y_WM_boatAt) ∈ TB := tw_f (tw_t2 (List.mem_of_getElem? (i := 180) rfl)) rfl
set_option maxRecDepth 100000 in
theorem tw_516 : (.selects R_WM y_WM_boatAt y_WM_boatAt) ∈ TB := tw_f (tw_s1 (List.mem_of_getElem? (i := 3) rfl)) rfl
set_option maxRecDepth 100000 in
theorem tw_517 : (.fieldLink R_WM 178 "WaterMen$Boat" "stairs" "I") ∈ TB := tw_f (tw_t2 (List.mem_of_getElem? (i := 152) rfl)) rfl
set_option maxRecDepth 100000 in
theorem tw_518 : (.fieldLink R_WM 181 "WaterMen$Boat" "oars" "I") ∈ TB := tw_f (tw_t2 (List.mem_of_getElem? (i := 150) rfl)) rfl
set_option maxRecDepth 100000 in
theorem tw_519 : (.fieldLink R_WM 184 "WaterMen$Boat" "thereFrom" "I") ∈ TB := tw_f (tw_t2 (List.mem_of_getElem? (i := 154) rfl)) rfl
set_option maxRecDepth 100000 in
theorem tw_520 : (.fieldLink R_Bt 24 "WaterMen$Boat" "sunk" "Z") ∈ TB := tw_f (tw_t2 (List.mem_of_getElem? (i := 159) rfl)) rfl
set_option maxRecDepth 100000 in
theorem tw_521 : (.fieldLink R_Bt 28 "WaterMen$Boat" "thereFrom" "I") ∈ TB := tw_f (tw_t2 (List.mem_of_getElem? (i := 153) rfl)) rfl
set_option maxRecDepth 100000 in
theorem tw_522 : (.code y_Bt_stateAt b_Bt_stateAt 2 (some .int)) ∈ TB := tw_f (tw_t2 (List.mem_of_getElem? (i := 185) rfl)) rfl
set_option maxRecDepth 100000 in
theorem tw_523 : (.methodLink R_WM 187 y_Bt_stateAt) ∈ TB := tw_f (tw_t2 (List.mem_of_getElem? (i := 182) rfl)) rfl
set_option maxRecDepth 100000 in
theorem tw_524 : (.instanceMethod y_Bt_stateAt) ∈ TB := tw_f (tw_t2 (List.mem_of_getElem? (i := 183) rfl)) rfl
set_option maxRecDepth 100000 in
theorem tw_525 : (.selects R_Bt y_Bt_stateAt y_Bt_stateAt) ∈ TB := tw_f (tw_t2 (List.mem_of_getElem? (i := 184) rfl)) rfl
set_option maxRecDepth 100000 in
theorem tw_526 : (.fieldLink R_WM 190 "WaterMen$Boat" "rower" "I") ∈ TB := tw_f (tw_t2 (List.mem_of_getElem? (i := 156) rfl)) rfl
set_option maxRecDepth 100000 in
theorem tw_527 : (.code y_Md_isBoat b_Md_isBoat 2 (some .boolean)) ∈ TB := tw_f (tw_t5 (List.mem_of_getElem? (i := 182) rfl)) rfl
set_option maxRecDepth 100000 in
theorem tw_528 : (.methodLink R_Md 209 y_Md_isBoat) ∈ TB := tw_f (tw_t5 (List.mem_of_getElem? (i := 179) rfl)) rfl
set_option maxRecDepth 100000 in
theorem tw_529 : (.instanceMethod y_Md_isBoat) ∈ TB := tw_f (tw_t5 (List.mem_of_getElem? (i := 181) rfl)) rfl
set_option maxRecDepth 100000 in
theorem tw_530 : (.selects R_Md y_Md_isBoat y_Md_isBoat) ∈ TB := tw_f (tw_s2 (List.mem_of_getElem? (i := 12) rfl)) rfl
set_option maxRecDepth 100000 in
theorem tw_531 : (.fieldLink R_Md 106 "WaterMenModel" "sunk" "[Z") ∈ TB := tw_f (tw_t4 (List.mem_of_getElem? (i := 188) rfl)) rfl
set_option maxRecDepth 100000 in
theorem tw_532 : (.fieldLink R_WM 193 "WaterMen" "joins" "I") ∈ TB := tw_f (tw_t1 (List.mem_of_getElem? (i := 205) rfl)) rfl
set_option maxRecDepth 100000 in
theorem tw_533 : (.code y_Md_leaves b_Md_leaves 5 none) ∈ TB := tw_f (tw_t5 (List.mem_of_getElem? (i := 170) rfl)) rfl
set_option maxRecDepth 100000 in
theorem tw_534 : (.methodLink R_Md 202 y_Md_leaves) ∈ TB := tw_f (tw_t5 (List.mem_of_getElem? (i := 167) rfl)) rfl
set_option maxRecDepth 100000 in
theorem tw_535 : (.instanceMethod y_Md_leaves) ∈ TB := tw_f (tw_t5 (List.mem_of_getElem? (i := 169) rfl)) rfl
set_option maxRecDepth 100000 in
theorem tw_536 : (.selects R_Md y_Md_leaves y_Md_leaves) ∈ TB := tw_f (tw_s2 (List.mem_of_getElem? (i := 11) rfl)) rfl
set_option maxRecDepth 100000 in
theorem tw_537 : (.fieldLink R_WM 283 "WaterMen$Boat" "sunk" "Z") ∈ TB := tw_f (tw_t2 (List.mem_of_getElem? (i := 160) rfl)) rfl
set_option maxRecDepth 100000 in
theorem tw_538 : (.code y_WM_mayGoTo b_WM_mayGoTo 3 (some .boolean)) ∈ TB := tw_f (tw_t3 (List.mem_of_getElem? (i := 152) rfl)) rfl
set_option maxRecDepth 100000 in
theorem tw_539 : (.methodLink R_WM 234 y_WM_mayGoTo) ∈ TB := tw_f (tw_t3 (List.mem_of_getElem? (i := 149) rfl)) rfl
set_option maxRecDepth 100000 in
theorem tw_540 : (.instanceMethod y_WM_mayGoTo) ∈ TB := tw_f (tw_t3 (List.mem_of_getElem? (i := 151) rfl)) rfl
set_option maxRecDepth 100000 in
theorem tw_541 : (.selects R_WM y_WM_mayGoTo y_WM_mayGoTo) ∈ TB := tw_f (tw_s1 (List.mem_of_getElem? (i := 7) rfl)) rfl
set_option maxRecDepth 100000 in
theorem tw_542 : (.code y_WM_hasTurns b_WM_hasTurns 4 (some .boolean)) ∈ TB := tw_f (tw_t3 (List.mem_of_getElem? (i := 164) rfl)) rfl
set_option maxRecDepth 100000 in
theorem tw_543 : (.methodLink R_WM 356 y_WM_hasTurns) ∈ TB := tw_f (tw_t3 (List.mem_of_getElem? (i := 161) rfl)) rfl
set_option maxRecDepth 100000 in
theorem tw_544 : (.instanceMethod y_WM_hasTurns) ∈ TB := tw_f (tw_t3 (List.mem_of_getElem? (i := 163) rfl)) rfl
set_option maxRecDepth 100000 in
theorem tw_545 : (.selects R_WM y_WM_hasTurns y_WM_hasTurns) ∈ TB := tw_f (tw_s1 (List.mem_of_getElem? (i := 10) rfl)) rfl
set_option maxRecDepth 100000 in
theorem tw_546 : (.code y_WM_mustWait b_WM_mustWait 3 (some .boolean)) ∈ TB := tw_f (tw_t3 (List.mem_of_getElem? (i := 160) rfl)) rfl
set_option maxRecDepth 100000 in
theorem tw_547 : (.methodLink R_WM 375 y_WM_mustWait) ∈ TB := tw_f (tw_t3 (List.mem_of_getElem? (i := 157) rfl)) rfl
set_option maxRecDepth 100000 in
theorem tw_548 : (.instanceMethod y_WM_mustWait) ∈ TB := tw_f (tw_t3 (List.mem_of_getElem? (i := 159) rfl)) rfl
set_option maxRecDepth 100000 in
theorem tw_549 : (.selects R_WM y_WM_mustWait y_WM_mustWait) ∈ TB := tw_f (tw_s1 (List.mem_of_getElem? (i := 9) rfl)) rfl
set_option maxRecDepth 100000 in
theorem tw_550 : (.fieldLink R_Rv 27 "WaterMen$River" "bridgeAbove" "I") ∈ TB := tw_f (tw_t1 (List.mem_of_getElem? (i := 41) rfl)) rfl
set_option maxRecDepth 100000 in
theorem tw_551 : (.methodLink R_Rv 44 Lib.Math.min.name) ∈ TB := tw_f (tw_t3 (List.mem_of_getElem? (i := 169) rfl)) rfl
set_option maxRecDepth 100000 in
theorem tw_552 : (.methodLink R_Rv 48 Lib.Math.max.name) ∈ TB := tw_f (tw_t3 (List.mem_of_getElem? (i := 170) rfl)) rfl
set_option maxRecDepth 100000 in
theorem tw_553 : (.code y_Rv_passesBridge b_Rv_passesBridge 3 (some .boolean)) ∈ TB := tw_f (tw_t3 (List.mem_of_getElem? (i := 168) rfl)) rfl
set_option maxRecDepth 100000 in
theorem tw_554 : (.methodLink R_WM 379 y_Rv_passesBridge) ∈ TB := tw_f (tw_t3 (List.mem_of_getElem? (i := 165) rfl)) rfl
set_option maxRecDepth 100000 in
theorem tw_555 : (.instanceMethod y_Rv_passesBridge) ∈ TB := tw_f (tw_t3 (List.mem_of_getElem? (i := 166) rfl)) rfl
set_option maxRecDepth 100000 in
theorem tw_556 : (.selects R_Rv y_Rv_passesBridge y_Rv_passesBridge) ∈ TB := tw_f (tw_t3 (List.mem_of_getElem? (i := 167) rfl)) rfl
set_option maxRecDepth 100000 in
theorem tw_557 : (.code y_WM_hourNow b_WM_hourNow 1 (some .int)) ∈ TB := tw_f (tw_t3 (List.mem_of_getElem? (i := 174) rfl)) rfl
set_option maxRecDepth 100000 in
theorem tw_558 : (.methodLink R_WM 382 y_WM_hourNow) ∈ TB := tw_f (tw_t3 (List.mem_of_getElem? (i := 171) rfl)) rfl
set_option maxRecDepth 100000 in
theorem tw_559 : (.instanceMethod y_WM_hourNow) ∈ TB := tw_f (tw_t3 (List.mem_of_getElem? (i := 173) rfl)) rfl
set_option maxRecDepth 100000 in
theorem tw_560 : (.selects R_WM y_WM_hourNow y_WM_hourNow) ∈ TB := tw_f (tw_s1 (List.mem_of_getElem? (i := 11) rfl)) rfl
set_option maxRecDepth 100000 in
theorem tw_561 : (.methodLink R_WM 370 Lib.Math.max.name) ∈ TB := tw_f (tw_t3 (List.mem_of_getElem? (i := 184) rfl)) rfl
set_option maxRecDepth 100000 in
theorem tw_562 : (.code y_WM_minutesOfWay b_WM_minutesOfWay 6 (some .int)) ∈ TB := tw_f (tw_t3 (List.mem_of_getElem? (i := 183) rfl)) rfl
set_option maxRecDepth 100000 in
theorem tw_563 : (.methodLink R_WM 253 y_WM_minutesOfWay) ∈ TB := tw_f (tw_t3 (List.mem_of_getElem? (i := 180) rfl)) rfl
set_option maxRecDepth 100000 in
theorem tw_564 : (.instanceMethod y_WM_minutesOfWay) ∈ TB := tw_f (tw_t3 (List.mem_of_getElem? (i := 182) rfl)) rfl
set_option maxRecDepth 100000 in
theorem tw_565 : (.selects R_WM y_WM_minutesOfWay y_WM_minutesOfWay) ∈ TB := tw_f (tw_s1 (List.mem_of_getElem? (i := 12) rfl)) rfl
set_option maxRecDepth 100000 in
theorem tw_566 : (.methodLink R_Or 66 Lib.Math.abs.name) ∈ TB := tw_f (tw_t3 (List.mem_of_getElem? (i := 179) rfl)) rfl
set_option maxRecDepth 100000 in
theorem tw_567 : (.code y_Or_shutsBridge b_Or_shutsBridge 4 (some .boolean)) ∈ TB := tw_f (tw_t3 (List.mem_of_getElem? (i := 178) rfl)) rfl
set_option maxRecDepth 100000 in
theorem tw_568 : (.methodLink R_WM 385 y_Or_shutsBridge) ∈ TB := tw_f (tw_t3 (List.mem_of_getElem? (i := 175) rfl)) rfl
set_option maxRecDepth 100000 in
theorem tw_569 : (.instanceMethod y_Or_shutsBridge) ∈ TB := tw_f (tw_t3 (List.mem_of_getElem? (i := 176) rfl)) rfl
set_option maxRecDepth 100000 in
theorem tw_570 : (.selects R_Or y_Or_shutsBridge y_Or_shutsBridge) ∈ TB := tw_f (tw_t3 (List.mem_of_getElem? (i := 177) rfl)) rfl
set_option maxRecDepth 100000 in
theorem tw_571 : (.code y_WM_hindrance b_WM_hindrance 6 (some .int)) ∈ TB := tw_f (tw_t3 (List.mem_of_getElem? (i := 156) rfl)) rfl
set_option maxRecDepth 100000 in
theorem tw_572 : (.methodLink R_WM 238 y_WM_hindrance) ∈ TB := tw_f (tw_t3 (List.mem_of_getElem? (i := 153) rfl)) rfl
set_option maxRecDepth 100000 in
theorem tw_573 : (.instanceMethod y_WM_hindrance) ∈ TB := tw_f (tw_t3 (List.mem_of_getElem? (i := 155) rfl)) rfl
set_option maxRecDepth 100000 in
theorem tw_574 : (.selects R_WM y_WM_hindrance y_WM_hindrance) ∈ TB := tw_f (tw_s1 (List.mem_of_getElem? (i := 8) rfl)) rfl
set_option maxRecDepth 100000 in
theorem tw_575 : (.code y_Md_isAsked b_Md_isAsked 4 (some .boolean)) ∈ TB := tw_f (tw_t6 (List.mem_of_getElem? (i := 26) rfl)) rfl
set_option maxRecDepth 100000 in
theorem tw_576 : (.methodLink R_Md 306 y_Md_isAsked) ∈ TB := tw_f (tw_t6 (List.mem_of_getElem? (i := 23) rfl)) rfl
set_option maxRecDepth 100000 in
theorem tw_577 : (.instanceMethod y_Md_isAsked) ∈ TB := tw_f (tw_t6 (List.mem_of_getElem? (i := 25) rfl)) rfl
set_option maxRecDepth 100000 in
theorem tw_578 : (.selects R_Md y_Md_isAsked y_Md_isAsked) ∈ TB := tw_f (tw_s3 (List.mem_of_getElem? (i := 4) rfl)) rfl
set_option maxRecDepth 100000 in
theorem tw_579 : (.code y_Md_hourNow b_Md_hourNow 1 (some .int)) ∈ TB := tw_f (tw_t6 (List.mem_of_getElem? (i := 34) rfl)) rfl
set_option maxRecDepth 100000 in
theorem tw_580 : (.methodLink R_Md 299 y_Md_hourNow) ∈ TB := tw_f (tw_t6 (List.mem_of_getElem? (i := 31) rfl)) rfl
set_option maxRecDepth 100000 in
theorem tw_581 : (.instanceMethod y_Md_hourNow) ∈ TB := tw_f (tw_t6 (List.mem_of_getElem? (i := 33) rfl)) rfl
set_option maxRecDepth 100000 in
theorem tw_582 : (.selects R_Md y_Md_hourNow y_Md_hourNow) ∈ TB := tw_f (tw_s3 (List.mem_of_getElem? (i := 6) rfl)) rfl
set_option maxRecDepth 100000 in
theorem tw_583 : (.code y_Md_minutesOf b_Md_minutesOf 7 (some .int)) ∈ TB := tw_f (tw_t6 (List.mem_of_getElem? (i := 38) rfl)) rfl
set_option maxRecDepth 100000 in
theorem tw_584 : (.methodLink R_Md 302 y_Md_minutesOf) ∈ TB := tw_f (tw_t6 (List.mem_of_getElem? (i := 35) rfl)) rfl
set_option maxRecDepth 100000 in
theorem tw_585 : (.instanceMethod y_Md_minutesOf) ∈ TB := tw_f (tw_t6 (List.mem_of_getElem? (i := 37) rfl)) rfl
set_option maxRecDepth 100000 in
theorem tw_586 : (.selects R_Md y_Md_minutesOf y_Md_minutesOf) ∈ TB := tw_f (tw_s3 (List.mem_of_getElem? (i := 7) rfl)) rfl
set_option maxRecDepth 100000 in
theorem tw_587 : (.code y_Md_hinders b_Md_hinders 8 (some .int)) ∈ TB := tw_f (tw_t6 (List.mem_of_getElem? (i := 30) rfl)) rfl
set_option maxRecDepth 100000 in
theorem tw_588 : (.methodLink R_Md 309 y_Md_hinders) ∈ TB := tw_f (tw_t6 (List.mem_of_getElem? (i := 27) rfl)) rfl
set_option maxRecDepth 100000 in
theorem tw_589 : (.instanceMethod y_Md_hinders) ∈ TB := tw_f (tw_t6 (List.mem_of_getElem? (i := 29) rfl)) rfl
set_option maxRecDepth 100000 in
theorem tw_590 : (.selects R_Md y_Md_hinders y_Md_hinders) ∈ TB := tw_f (tw_s3 (List.mem_of_getElem? (i := 5) rfl)) rfl
set_option maxRecDepth 100000 in
theorem tw_591 : (.constant R_WM 242 1000000) ∈ TB := tw_f (tw_t3 (List.mem_of_getElem? (i := 190) rfl)) rfl
set_option maxRecDepth 100000 in
theorem tw_592 : (.fieldLink R_WM 243 "WaterMen" "tripCount" "I") ∈ TB := tw_f (tw_t1 (List.mem_of_getElem? (i := 203) rfl)) rfl
set_option maxRecDepth 100000 in
theorem tw_593 : (.classLink R_WM 34 R_Tr) ∈ TB := tw_f (tw_t1 (List.mem_of_getElem? (i := 64) rfl)) rfl
set_option maxRecDepth 100000 in
theorem tw_594 : (.instantiable R_Tr 8) ∈ TB := tw_f (tw_t3 (List.mem_of_getElem? (i := 191) rfl)) rfl
set_option maxRecDepth 100000 in
theorem tw_595 : (.initialized R_Tr) ∈ TB := tw_f (tw_t1 (List.mem_of_getElem? (i := 15) rfl)) rfl
set_option maxRecDepth 100000 in
theorem tw_596 : (.methodLink R_Tr 1 objectInit) ∈ TB := tw_f (tw_t3 (List.mem_of_getElem? (i := 195) rfl)) rfl
set_option maxRecDepth 100000 in
theorem tw_597 : (.fieldLink R_Tr 7 "WaterMen$Trip" "boat" "I") ∈ TB := tw_f (tw_t3 (List.mem_of_getElem? (i := 196) rfl)) rfl
set_option maxRecDepth 100000 in
theorem tw_598 : (.fieldLink R_Tr 13 "WaterMen$Trip" "man" "I") ∈ TB := tw_f (tw_t3 (List.mem_of_getElem? (i := 198) rfl)) rfl
set_option maxRecDepth 100000 in
theorem tw_599 : (.fieldLink R_Tr 16 "WaterMen$Trip" "start" "I") ∈ TB := tw_f (tw_t3 (List.mem_of_getElem? (i := 201) rfl)) rfl
set_option maxRecDepth 100000 in
theorem tw_600 : (.fieldLink R_Tr 19 "WaterMen$Trip" "paid" "I") ∈ TB := tw_f (tw_t3 (List.mem_of_getElem? (i := 203) rfl)) rfl
set_option maxRecDepth 100000 in
theorem tw_601 : (.code y_Tr_init b_Tr_init 5 none) ∈ TB := tw_f (tw_t3 (List.mem_of_getElem? (i := 194) rfl)) rfl
set_option maxRecDepth 100000 in
theorem tw_602 : (.methodLink R_WM 244 y_Tr_init) ∈ TB := tw_f (tw_t3 (List.mem_of_getElem? (i := 192) rfl)) rfl
set_option maxRecDepth 100000 in
theorem tw_603 : (.instanceMethod y_Tr_init) ∈ TB := tw_f (tw_t3 (List.mem_of_getElem? (i := 193) rfl)) rfl
set_option maxRecDepth 100000 in
theorem tw_604 : (.fieldLink R_WM 247 "WaterMen$Trip" "from" "I") ∈ TB := tw_f (tw_t3 (List.mem_of_getElem? (i := 205) rfl)) rfl
set_option maxRecDepth 100000 in
theorem tw_605 : (.fieldLink R_WM 250 "WaterMen$Trip" "to" "I") ∈ TB := tw_f (tw_t3 (List.mem_of_getElem? (i := 207) rfl)) rfl
set_option maxRecDepth 100000 in
theorem tw_606 : (.fieldLink R_WM 257 "WaterMen$Trip" "arrival" "I") ∈ TB := tw_f (tw_t3 (List.mem_of_getElem? (i := 209) rfl)) rfl
set_option maxRecDepth 100000 in
theorem tw_607 : (.fieldLink R_WM 36 "WaterMen" "trips" "[LWaterMen$Trip;") ∈ TB := tw_f (tw_t1 (List.mem_of_getElem? (i := 198) rfl)) rfl
set_option maxRecDepth 100000 in
theorem tw_608 : (.fieldLink R_Bt 31 "WaterMen$Trip" "to" "I") ∈ TB := tw_f (tw_t3 (List.mem_of_getElem? (i := 206) rfl)) rfl
set_option maxRecDepth 100000 in
theorem tw_609 : (.fieldLink R_Bt 36 "WaterMen$Trip" "arrival" "I") ∈ TB := tw_f (tw_t3 (List.mem_of_getElem? (i := 208) rfl)) rfl
set_option maxRecDepth 100000 in
theorem tw_610 : (.fieldLink R_Bt 39 "WaterMen$Trip" "man" "I") ∈ TB := tw_f (tw_t3 (List.mem_of_getElem? (i := 199) rfl)) rfl
set_option maxRecDepth 100000 in
theorem tw_611 : (.code y_Bt_setOut b_Bt_setOut 3 none) ∈ TB := tw_f (tw_t3 (List.mem_of_getElem? (i := 231) rfl)) rfl
set_option maxRecDepth 100000 in
theorem tw_612 : (.methodLink R_WM 260 y_Bt_setOut) ∈ TB := tw_f (tw_t3 (List.mem_of_getElem? (i := 228) rfl)) rfl
set_option maxRecDepth 100000 in
theorem tw_613 : (.instanceMethod y_Bt_setOut) ∈ TB := tw_f (tw_t3 (List.mem_of_getElem? (i := 229) rfl)) rfl
set_option maxRecDepth 100000 in
theorem tw_614 : (.selects R_Bt y_Bt_setOut y_Bt_setOut) ∈ TB := tw_f (tw_t3 (List.mem_of_getElem? (i := 230) rfl)) rfl
set_option maxRecDepth 100000 in
theorem tw_615 : (.fieldLink R_Mn 15 "WaterMen$Man" "turnStairs" "I") ∈ TB := tw_f (tw_t1 (List.mem_of_getElem? (i := 167) rfl)) rfl
set_option maxRecDepth 100000 in
theorem tw_616 : (.fieldLink R_Mn 24 "WaterMen$Man" "tripCount" "I") ∈ TB := tw_f (tw_t1 (List.mem_of_getElem? (i := 173) rfl)) rfl
set_option maxRecDepth 100000 in
theorem tw_617 : (.code y_Mn_setOut b_Mn_setOut 2 none) ∈ TB := tw_f (tw_t3 (List.mem_of_getElem? (i := 235) rfl)) rfl
set_option maxRecDepth 100000 in
theorem tw_618 : (.methodLink R_WM 264 y_Mn_setOut) ∈ TB := tw_f (tw_t3 (List.mem_of_getElem? (i := 232) rfl)) rfl
set_option maxRecDepth 100000 in
theorem tw_619 : (.instanceMethod y_Mn_setOut) ∈ TB := tw_f (tw_t3 (List.mem_of_getElem? (i := 233) rfl)) rfl
set_option maxRecDepth 100000 in
theorem tw_620 : (.selects R_Mn y_Mn_setOut y_Mn_setOut) ∈ TB := tw_f (tw_t3 (List.mem_of_getElem? (i := 234) rfl)) rfl
set_option maxRecDepth 100000 in
theorem tw_621 : (.code y_WM_takeMoney b_WM_takeMoney 4 none) ∈ TB := tw_f (tw_t3 (List.mem_of_getElem? (i := 239) rfl)) rfl
set_option maxRecDepth 100000 in
theorem tw_622 : (.methodLink R_WM 266 y_WM_takeMoney) ∈ TB := tw_f (tw_t3 (List.mem_of_getElem? (i := 236) rfl)) rfl
set_option maxRecDepth 100000 in
theorem tw_623 : (.instanceMethod y_WM_takeMoney) ∈ TB := tw_f (tw_t3 (List.mem_of_getElem? (i := 238) rfl)) rfl
set_option maxRecDepth 100000 in
theorem tw_624 : (.selects R_WM y_WM_takeMoney y_WM_takeMoney) ∈ TB := tw_f (tw_s1 (List.mem_of_getElem? (i := 13) rfl)) rfl
set_option maxRecDepth 100000 in
theorem tw_625 : (.fieldLink R_Md 149 "WaterMenModel" "tripBoat" "[I") ∈ TB := tw_f (tw_t4 (List.mem_of_getElem? (i := 210) rfl)) rfl
set_option maxRecDepth 100000 in
theorem tw_626 : (.fieldLink R_Md 155 "WaterMenModel" "tripFrom" "[I") ∈ TB := tw_f (tw_t4 (List.mem_of_getElem? (i := 212) rfl)) rfl
set_option maxRecDepth 100000 in
theorem tw_627 : (.fieldLink R_Md 158 "WaterMenModel" "tripTo" "[I") ∈ TB := tw_f (tw_t4 (List.mem_of_getElem? (i := 213) rfl)) rfl
set_option maxRecDepth 100000 in
theorem tw_628 : (.fieldLink R_Md 161 "WaterMenModel" "tripBegin" "[I") ∈ TB := tw_f (tw_t4 (List.mem_of_getElem? (i := 214) rfl)) rfl
set_option maxRecDepth 100000 in
theorem tw_629 : (.fieldLink R_Md 170 "WaterMenModel" "sank" "[Z") ∈ TB := tw_f (tw_t4 (List.mem_of_getElem? (i := 217) rfl)) rfl
set_option maxRecDepth 100000 in
theorem tw_630 : (.code y_WM_isPension b_WM_isPension 2 (some .boolean)) ∈ TB := tw_f (tw_t4 (List.mem_of_getElem? (i := 28) rfl)) rfl
set_option maxRecDepth 100000 in
theorem tw_631 : (.methodLink R_WM 277 y_WM_isPension) ∈ TB := tw_f (tw_t4 (List.mem_of_getElem? (i := 26) rfl)) rfl
set_option maxRecDepth 100000 in
theorem tw_632 : (.static y_WM_isPension) ∈ TB := tw_f (tw_t4 (List.mem_of_getElem? (i := 27) rfl)) rfl
set_option maxRecDepth 100000 in
theorem tw_633 : (.fieldLink R_WM 280 "WaterMen$Box" "pensionerCount" "I") ∈ TB := tw_f (tw_t1 (List.mem_of_getElem? (i := 110) rfl)) rfl
set_option maxRecDepth 100000 in
theorem tw_634 : (.fieldLink R_WM 287 "WaterMen$Man" "busyUntil" "I") ∈ TB := tw_f (tw_t1 (List.mem_of_getElem? (i := 172) rfl)) rfl
set_option maxRecDepth 100000 in
theorem tw_635 : (.fieldLink R_WM 290 "WaterMen$Boat" "lastTrip" "I") ∈ TB := tw_f (tw_t2 (List.mem_of_getElem? (i := 158) rfl)) rfl
set_option maxRecDepth 100000 in
theorem tw_636 : (.code y_WM_tripAt b_WM_tripAt 2 (some (.object "WaterMen$Trip"))) ∈ TB := tw_f (tw_t4 (List.mem_of_getElem? (i := 32) rfl)) rfl
set_option maxRecDepth 100000 in
theorem tw_637 : (.methodLink R_WM 293 y_WM_tripAt) ∈ TB := tw_f (tw_t4 (List.mem_of_getElem? (i := 29) rfl)) rfl
set_option maxRecDepth 100000 in
theorem tw_638 : (.instanceMethod y_WM_tripAt) ∈ TB := tw_f (tw_t4 (List.mem_of_getElem? (i := 31) rfl)) rfl
set_option maxRecDepth 100000 in
theorem tw_639 : (.selects R_WM y_WM_tripAt y_WM_tripAt) ∈ TB := tw_f (tw_s1 (List.mem_of_getElem? (i := 15) rfl)) rfl
set_option maxRecDepth 100000 in
theorem tw_640 : (.classLink R_Bx 15 R_Pn) ∈ TB := tw_f (tw_t1 (List.mem_of_getElem? (i := 99) rfl)) rfl
set_option maxRecDepth 100000 in
theorem tw_641 : (.instantiable R_Pn 3) ∈ TB := tw_f (tw_t4 (List.mem_of_getElem? (i := 37) rfl)) rfl
set_option maxRecDepth 100000 in
theorem tw_642 : (.initialized R_Pn) ∈ TB := tw_f (tw_t1 (List.mem_of_getElem? (i := 16) rfl)) rfl
set_option maxRecDepth 100000 in
theorem tw_643 : (.methodLink R_Pn 1 objectInit) ∈ TB := tw_f (tw_t4 (List.mem_of_getElem? (i := 41) rfl)) rfl
set_option maxRecDepth 100000 in
theorem tw_644 : (.fieldLink R_Pn 7 "WaterMen$Pensioner" "pension" "I") ∈ TB := tw_f (tw_t4 (List.mem_of_getElem? (i := 42) rfl)) rfl
set_option maxRecDepth 100000 in
theorem tw_645 : (.fieldLink R_Pn 13 "WaterMen$Pensioner" "end" "I") ∈ TB := tw_f (tw_t4 (List.mem_of_getElem? (i := 45) rfl)) rfl
set_option maxRecDepth 100000 in
theorem tw_646 : (.code y_Pn_init b_Pn_init 3 none) ∈ TB := tw_f (tw_t4 (List.mem_of_getElem? (i := 40) rfl)) rfl
set_option maxRecDepth 100000 in
theorem tw_647 : (.methodLink R_Bx 32 y_Pn_init) ∈ TB := tw_f (tw_t4 (List.mem_of_getElem? (i := 38) rfl)) rfl
set_option maxRecDepth 100000 in
theorem tw_648 : (.instanceMethod y_Pn_init) ∈ TB := tw_f (tw_t4 (List.mem_of_getElem? (i := 39) rfl)) rfl
set_option maxRecDepth 100000 in
theorem tw_649 : (.code y_Bx_take b_Bx_take 3 (some .int)) ∈ TB := tw_f (tw_t4 (List.mem_of_getElem? (i := 36) rfl)) rfl
set_option maxRecDepth 100000 in
theorem tw_650 : (.methodLink R_WM 300 y_Bx_take) ∈ TB := tw_f (tw_t4 (List.mem_of_getElem? (i := 33) rfl)) rfl
set_option maxRecDepth 100000 in
theorem tw_651 : (.instanceMethod y_Bx_take) ∈ TB := tw_f (tw_t4 (List.mem_of_getElem? (i := 34) rfl)) rfl
set_option maxRecDepth 100000 in
theorem tw_652 : (.selects R_Bx y_Bx_take y_Bx_take) ∈ TB := tw_f (tw_t4 (List.mem_of_getElem? (i := 35) rfl)) rfl
set_option maxRecDepth 100000 in
theorem tw_653 : (.fieldLink R_WM 297 "WaterMen$Trip" "sank" "Z") ∈ TB := tw_f (tw_t3 (List.mem_of_getElem? (i := 210) rfl)) rfl
set_option maxRecDepth 100000 in
theorem tw_654 : (.code y_Md_isPension b_Md_isPension 2 (some .boolean)) ∈ TB := tw_f (tw_t6 (List.mem_of_getElem? (i := 66) rfl)) rfl
set_option maxRecDepth 100000 in
theorem tw_655 : (.methodLink R_Md 338 y_Md_isPension) ∈ TB := tw_f (tw_t6 (List.mem_of_getElem? (i := 64) rfl)) rfl
set_option maxRecDepth 100000 in
theorem tw_656 : (.static y_Md_isPension) ∈ TB := tw_f (tw_t6 (List.mem_of_getElem? (i := 65) rfl)) rfl
set_option maxRecDepth 100000 in
theorem tw_657 : (.code y_Md_newPensioner b_Md_newPensioner 3 (some .int)) ∈ TB := tw_f (tw_t6 (List.mem_of_getElem? (i := 70) rfl)) rfl
set_option maxRecDepth 100000 in
theorem tw_658 : (.methodLink R_Md 342 y_Md_newPensioner) ∈ TB := tw_f (tw_t6 (List.mem_of_getElem? (i := 67) rfl)) rfl
set_option maxRecDepth 100000 in
theorem tw_659 : (.instanceMethod y_Md_newPensioner) ∈ TB := tw_f (tw_t6 (List.mem_of_getElem? (i := 69) rfl)) rfl
set_option maxRecDepth 100000 in
theorem tw_660 : (.selects R_Md y_Md_newPensioner y_Md_newPensioner) ∈ TB := tw_f (tw_s3 (List.mem_of_getElem? (i := 11) rfl)) rfl
set_option maxRecDepth 100000 in
theorem tw_661 : (.fieldLink R_WM 303 "WaterMen$Trip" "boat" "I") ∈ TB := tw_f (tw_t3 (List.mem_of_getElem? (i := 197) rfl)) rfl
set_option maxRecDepth 100000 in
theorem tw_662 : (.fieldLink R_WM 306 "WaterMen$Trip" "man" "I") ∈ TB := tw_f (tw_t3 (List.mem_of_getElem? (i := 200) rfl)) rfl
set_option maxRecDepth 100000 in
theorem tw_663 : (.fieldLink R_WM 309 "WaterMen$Trip" "start" "I") ∈ TB := tw_f (tw_t3 (List.mem_of_getElem? (i := 202) rfl)) rfl
set_option maxRecDepth 100000 in
theorem tw_664 : (.fieldLink R_WM 312 "WaterMen$Trip" "paid" "I") ∈ TB := tw_f (tw_t3 (List.mem_of_getElem? (i := 204) rfl)) rfl
set_option maxRecDepth 100000 in
theorem tw_665 : (.code y_WM_dueOf b_WM_dueOf 5 (some .int)) ∈ TB := tw_f (tw_t4 (List.mem_of_getElem? (i := 68) rfl)) rfl
set_option maxRecDepth 100000 in
theorem tw_666 : (.methodLink R_WM 315 y_WM_dueOf) ∈ TB := tw_f (tw_t4 (List.mem_of_getElem? (i := 65) rfl)) rfl
set_option maxRecDepth 100000 in
theorem tw_667 : (.instanceMethod y_WM_dueOf) ∈ TB := tw_f (tw_t4 (List.mem_of_getElem? (i := 67) rfl)) rfl
set_option maxRecDepth 100000 in
theorem tw_668 : (.selects R_WM y_WM_dueOf y_WM_dueOf) ∈ TB := tw_f (tw_s2 (List.mem_of_getElem? (i := 0) rfl)) rfl
set_option maxRecDepth 100000 in
theorem tw_669 : (.code y_Md_dueOf b_Md_dueOf 6 (some .int)) ∈ TB := tw_f (tw_t6 (List.mem_of_getElem? (i := 82) rfl)) rfl
set_option maxRecDepth 100000 in
theorem tw_670 : (.methodLink R_Md 345 y_Md_dueOf) ∈ TB := tw_f (tw_t6 (List.mem_of_getElem? (i := 79) rfl)) rfl
set_option maxRecDepth 100000 in
theorem tw_671 : (.instanceMethod y_Md_dueOf) ∈ TB := tw_f (tw_t6 (List.mem_of_getElem? (i := 81) rfl)) rfl
set_option maxRecDepth 100000 in
theorem tw_672 : (.selects R_Md y_Md_dueOf y_Md_dueOf) ∈ TB := tw_f (tw_s3 (List.mem_of_getElem? (i := 12) rfl)) rfl
set_option maxRecDepth 100000 in
theorem tw_673 : (.code y_WM_overpaid b_WM_overpaid 4 (some .int)) ∈ TB := tw_f (tw_t4 (List.mem_of_getElem? (i := 76) rfl)) rfl
set_option maxRecDepth 100000 in
theorem tw_674 : (.methodLink R_WM 319 y_WM_overpaid) ∈ TB := tw_f (tw_t4 (List.mem_of_getElem? (i := 73) rfl)) rfl
set_option maxRecDepth 100000 in
theorem tw_675 : (.instanceMethod y_WM_overpaid) ∈ TB := tw_f (tw_t4 (List.mem_of_getElem? (i := 75) rfl)) rfl
set_option maxRecDepth 100000 in
theorem tw_676 : (.selects R_WM y_WM_overpaid y_WM_overpaid) ∈ TB := tw_f (tw_s2 (List.mem_of_getElem? (i := 1) rfl)) rfl
set_option maxRecDepth 100000 in
theorem tw_677 : (.code y_WM_menThatAre b_WM_menThatAre 5 (some .int)) ∈ TB := tw_f (tw_t4 (List.mem_of_getElem? (i := 106) rfl)) rfl
set_option maxRecDepth 100000 in
theorem tw_678 : (.methodLink R_WM 340 y_WM_menThatAre) ∈ TB := tw_f (tw_t4 (List.mem_of_getElem? (i := 103) rfl)) rfl
set_option maxRecDepth 100000 in
theorem tw_679 : (.instanceMethod y_WM_menThatAre) ∈ TB := tw_f (tw_t4 (List.mem_of_getElem? (i := 105) rfl)) rfl
set_option maxRecDepth 100000 in
theorem tw_680 : (.selects R_WM y_WM_menThatAre y_WM_menThatAre) ∈ TB := tw_f (tw_s2 (List.mem_of_getElem? (i := 2) rfl)) rfl
set_option maxRecDepth 100000 in
theorem tw_681 : (.code y_Md_menAs b_Md_menAs 4 (some .int)) ∈ TB := tw_f (tw_t6 (List.mem_of_getElem? (i := 106) rfl)) rfl
set_option maxRecDepth 100000 in
theorem tw_682 : (.methodLink R_Md 348 y_Md_menAs) ∈ TB := tw_f (tw_t6 (List.mem_of_getElem? (i := 103) rfl)) rfl
set_option maxRecDepth 100000 in
theorem tw_683 : (.instanceMethod y_Md_menAs) ∈ TB := tw_f (tw_t6 (List.mem_of_getElem? (i := 105) rfl)) rfl
set_option maxRecDepth 100000 in
theorem tw_684 : (.selects R_Md y_Md_menAs y_Md_menAs) ∈ TB := tw_f (tw_s3 (List.mem_of_getElem? (i := 13) rfl)) rfl
set_option maxRecDepth 100000 in
theorem d_Bd_addGap_0 : decode b_Bd_addGap 0 = .ok (.aload_n 0, 1) := by decide +kernel
set_option maxRecDepth 100000 in
theorem d_Bd_addGap_1 : decode b_Bd_addGap 1 = .ok (.getfield 9, 3) := by decide +kernel
set_option maxRecDepth 100000 in
theorem d_Bd_addGap_4 : decode b_Bd_addGap 4 = .ok (.aload_n 0, 1) := by decide +kernel
set_option maxRecDepth 100000 in
theorem d_Bd_addGap_5 : decode b_Bd_addGap 5 = .ok (.getfield 25, 3) := by decide +kernel
set_option maxRecDepth 100000 in
theorem d_Bd_addGap_8 : decode b_Bd_addGap 8 = .ok (.iload_n 1, 1) := by decide +kernel
set_option maxRecDepth 100000 in
theorem d_Bd_addGap_9 : decode b_Bd_addGap 9 = .ok (.iastore, 1) := by decide +kernel
set_option maxRecDepth 100000 in
theorem d_Bd_addGap_10 : decode b_Bd_addGap 10 = .ok (.aload_n 0, 1) := by decide +kernel
set_option maxRecDepth 100000 in
theorem d_Bd_addGap_11 : decode b_Bd_addGap 11 = .ok (.getfield 15, 3) := by decide +kernel
set_option maxRecDepth 100000 in
theorem d_Bd_addGap_14 : decode b_Bd_addGap 14 = .ok (.aload_n 0, 1) := by decide +kernel
set_option maxRecDepth 100000 in
theorem d_Bd_addGap_15 : decode b_Bd_addGap 15 = .ok (.getfield 25, 3) := by decide +kernel
set_option maxRecDepth 100000 in
theorem d_Bd_addGap_18 : decode b_Bd_addGap 18 = .ok (.iload_n 2, 1) := by decide +kernel
set_option maxRecDepth 100000 in
theorem d_Bd_addGap_19 : decode b_Bd_addGap 19 = .ok (.iastore, 1) := by decide +kernel
set_option maxRecDepth 100000 in
theorem d_Bd_addGap_20 : decode b_Bd_addGap 20 = .ok (.aload_n 0, 1) := by decide +kernel
set_option maxRecDepth 100000 in
theorem d_Bd_addGap_21 : decode b_Bd_addGap 21 = .ok (.dup, 1) := by decide +kernel
set_option maxRecDepth 100000 in
theorem d_Bd_addGap_22 : decode b_Bd_addGap 22 = .ok (.getfield 25, 3) := by decide +kernel
set_option maxRecDepth 100000 in
theorem d_Bd_addGap_25 : decode b_Bd_addGap 25 = .ok (.iconst 1, 1) := by decide +kernel
set_option maxRecDepth 100000 in
theorem d_Bd_addGap_26 : decode b_Bd_addGap 26 = .ok (.iadd, 1) := by decide +kernel
set_option maxRecDepth 100000 in
theorem d_Bd_addGap_27 : decode b_Bd_addGap 27 = .ok (.putfield 25, 3) := by decide +kernel
set_option maxRecDepth 100000 in
theorem d_Bd_addGap_30 : decode b_Bd_addGap 30 = .ok (.aload_n 0, 1) := by decide +kernel
set_option maxRecDepth 100000 in
theorem d_Bd_addGap_31 : decode b_Bd_addGap 31 = .ok (.getfield 25, 3) := by decide +kernel
set_option maxRecDepth 100000 in
theorem d_Bd_addGap_34 : decode b_Bd_addGap 34 = .ok (.ireturn, 1) := by decide +kernel
set_option maxRecDepth 100000 in
theorem d_Bd_daysServed_0 : decode b_Bd_daysServed 0 = .ok (.iload_n 1, 1) := by decide +kernel
set_option maxRecDepth 100000 in
theorem d_Bd_daysServed_1 : decode b_Bd_daysServed 1 = .ok (.aload_n 0, 1) := by decide +kernel
set_option maxRecDepth 100000 in
theorem d_Bd_daysServed_2 : decode b_Bd_daysServed 2 = .ok (.getfield 22, 3) := by decide +kernel
set_option maxRecDepth 100000 in
theorem d_Bd_daysServed_5 : decode b_Bd_daysServed 5 = .ok (.isub, 1) := by decide +kernel
set_option maxRecDepth 100000 in
theorem d_Bd_daysServed_6 : decode b_Bd_daysServed 6 = .ok (.istore_n 2, 1) := by decide +kernel
set_option maxRecDepth 100000 in
theorem d_Bd_daysServed_7 : decode b_Bd_daysServed 7 = .ok (.iconst 0, 1) := by decide +kernel
set_option maxRecDepth 100000 in
theorem d_Bd_daysServed_8 : decode b_Bd_daysServed 8 = .ok (.istore_n 3, 1) := by decide +kernel
set_option maxRecDepth 100000 in
theorem d_Bd_daysServed_9 : decode b_Bd_daysServed 9 = .ok (.iload_n 3, 1) := by decide +kernel
set_option maxRecDepth 100000 in
theorem d_Bd_daysServed_10 : decode b_Bd_daysServed 10 = .ok (.aload_n 0, 1) := by decide +kernel
set_option maxRecDepth 100000 in
theorem d_Bd_daysServed_11 : decode b_Bd_daysServed 11 = .ok (.getfield 25, 3) := by decide +kernel
set_option maxRecDepth 100000 in
theorem d_Bd_daysServed_14 : decode b_Bd_daysServed 14 = .ok (.if_icmp .ge 31, 3) := by decide +kernel
set_option maxRecDepth 100000 in
theorem d_Bd_daysServed_17 : decode b_Bd_daysServed 17 = .ok (.iload_n 2, 1) := by decide +kernel
set_option maxRecDepth 100000 in
theorem d_Bd_daysServed_18 : decode b_Bd_daysServed 18 = .ok (.aload_n 0, 1) := by decide +kernel
set_option maxRecDepth 100000 in
theorem d_Bd_daysServed_19 : decode b_Bd_daysServed 19 = .ok (.getfield 15, 3) := by decide +kernel
set_option maxRecDepth 100000 in
theorem d_Bd_daysServed_22 : decode b_Bd_daysServed 22 = .ok (.iload_n 3, 1) := by decide +kernel
set_option maxRecDepth 100000 in
theorem d_Bd_daysServed_23 : decode b_Bd_daysServed 23 = .ok (.iaload, 1) := by decide +kernel
set_option maxRecDepth 100000 in
theorem d_Bd_daysServed_24 : decode b_Bd_daysServed 24 = .ok (.iconst 1, 1) := by decide +kernel
set_option maxRecDepth 100000 in
theorem d_Bd_daysServed_25 : decode b_Bd_daysServed 25 = .ok (.iadd, 1) := by decide +kernel
set_option maxRecDepth 100000 in
theorem d_Bd_daysServed_26 : decode b_Bd_daysServed 26 = .ok (.iload_n 1, 1) := by decide +kernel
set_option maxRecDepth 100000 in
theorem d_Bd_daysServed_27 : decode b_Bd_daysServed 27 = .ok (.invokestatic 28, 3) := by decide +kernel
set_option maxRecDepth 100000 in
theorem d_Bd_daysServed_30 : decode b_Bd_daysServed 30 = .ok (.aload_n 0, 1) := by decide +kernel
set_option maxRecDepth 100000 in
theorem d_Bd_daysServed_31 : decode b_Bd_daysServed 31 = .ok (.getfield 9, 3) := by decide +kernel
set_option maxRecDepth 100000 in
theorem d_Bd_daysServed_34 : decode b_Bd_daysServed 34 = .ok (.iload_n 3, 1) := by decide +kernel
set_option maxRecDepth 100000 in
theorem d_Bd_daysServed_35 : decode b_Bd_daysServed 35 = .ok (.iaload, 1) := by decide +kernel
set_option maxRecDepth 100000 in
theorem d_Bd_daysServed_36 : decode b_Bd_daysServed 36 = .ok (.isub, 1) := by decide +kernel
set_option maxRecDepth 100000 in
theorem d_Bd_daysServed_37 : decode b_Bd_daysServed 37 = .ok (.isub, 1) := by decide +kernel
set_option maxRecDepth 100000 in
theorem d_Bd_daysServed_38 : decode b_Bd_daysServed 38 = .ok (.istore_n 2, 1) := by decide +kernel
set_option maxRecDepth 100000 in
theorem d_Bd_daysServed_39 : decode b_Bd_daysServed 39 = .ok (.iinc 3 1, 3) := by decide +kernel
set_option maxRecDepth 100000 in
theorem d_Bd_daysServed_42 : decode b_Bd_daysServed 42 = .ok (.goto (-33), 3) := by decide +kernel
set_option maxRecDepth 100000 in
theorem d_Bd_daysServed_45 : decode b_Bd_daysServed 45 = .ok (.iload_n 2, 1) := by decide +kernel
set_option maxRecDepth 100000 in
theorem d_Bd_daysServed_46 : decode b_Bd_daysServed 46 = .ok (.ireturn, 1) := by decide +kernel
set_option maxRecDepth 100000 in
theorem d_Bd_init_0 : decode b_Bd_init 0 = .ok (.aload_n 0, 1) := by decide +kernel
set_option maxRecDepth 100000 in
theorem d_Bd_init_1 : decode b_Bd_init 1 = .ok (.invokespecial 3, 3) := by decide +kernel
set_option maxRecDepth 100000 in
theorem d_Bd_init_4 : decode b_Bd_init 4 = .ok (.aload_n 0, 1) := by decide +kernel
set_option maxRecDepth 100000 in
theorem d_Bd_init_5 : decode b_Bd_init 5 = .ok (.bipush 6, 2) := by decide +kernel
set_option maxRecDepth 100000 in
theorem d_Bd_init_7 : decode b_Bd_init 7 = .ok (.newarray .int, 2) := by decide +kernel
set_option maxRecDepth 100000 in
theorem d_Bd_init_9 : decode b_Bd_init 9 = .ok (.putfield 9, 3) := by decide +kernel
set_option maxRecDepth 100000 in
theorem d_Bd_init_12 : decode b_Bd_init 12 = .ok (.aload_n 0, 1) := by decide +kernel
set_option maxRecDepth 100000 in
theorem d_Bd_init_13 : decode b_Bd_init 13 = .ok (.bipush 6, 2) := by decide +kernel
set_option maxRecDepth 100000 in
theorem d_Bd_init_15 : decode b_Bd_init 15 = .ok (.newarray .int, 2) := by decide +kernel
set_option maxRecDepth 100000 in
theorem d_Bd_init_17 : decode b_Bd_init 17 = .ok (.putfield 15, 3) := by decide +kernel
set_option maxRecDepth 100000 in
theorem d_Bd_init_20 : decode b_Bd_init 20 = .ok (.aload_n 0, 1) := by decide +kernel
set_option maxRecDepth 100000 in
theorem d_Bd_init_21 : decode b_Bd_init 21 = .ok (.iload_n 1, 1) := by decide +kernel
set_option maxRecDepth 100000 in
theorem d_Bd_init_22 : decode b_Bd_init 22 = .ok (.putfield 18, 3) := by decide +kernel
set_option maxRecDepth 100000 in
theorem d_Bd_init_25 : decode b_Bd_init 25 = .ok (.aload_n 0, 1) := by decide +kernel
set_option maxRecDepth 100000 in
theorem d_Bd_init_26 : decode b_Bd_init 26 = .ok (.iload_n 2, 1) := by decide +kernel
set_option maxRecDepth 100000 in
theorem d_Bd_init_27 : decode b_Bd_init 27 = .ok (.putfield 22, 3) := by decide +kernel
set_option maxRecDepth 100000 in
theorem d_Bd_init_30 : decode b_Bd_init 30 = .ok (.return_, 1) := by decide +kernel
set_option maxRecDepth 100000 in
theorem d_Bd_meetsGap_0 : decode b_Bd_meetsGap 0 = .ok (.iconst 0, 1) := by decide +kernel
set_option maxRecDepth 100000 in
theorem d_Bd_meetsGap_1 : decode b_Bd_meetsGap 1 = .ok (.istore_n 3, 1) := by decide +kernel
set_option maxRecDepth 100000 in
theorem d_Bd_meetsGap_2 : decode b_Bd_meetsGap 2 = .ok (.iload_n 3, 1) := by decide +kernel
set_option maxRecDepth 100000 in
theorem d_Bd_meetsGap_3 : decode b_Bd_meetsGap 3 = .ok (.aload_n 0, 1) := by decide +kernel
set_option maxRecDepth 100000 in
theorem d_Bd_meetsGap_4 : decode b_Bd_meetsGap 4 = .ok (.getfield 25, 3) := by decide +kernel
set_option maxRecDepth 100000 in
theorem d_Bd_meetsGap_7 : decode b_Bd_meetsGap 7 = .ok (.if_icmp .ge 35, 3) := by decide +kernel
set_option maxRecDepth 100000 in
theorem d_Bd_meetsGap_10 : decode b_Bd_meetsGap 10 = .ok (.iload_n 1, 1) := by decide +kernel
set_option maxRecDepth 100000 in
theorem d_Bd_meetsGap_11 : decode b_Bd_meetsGap 11 = .ok (.aload_n 0, 1) := by decide +kernel
set_option maxRecDepth 100000 in
theorem d_Bd_meetsGap_12 : decode b_Bd_meetsGap 12 = .ok (.getfield 15, 3) := by decide +kernel
set_option maxRecDepth 100000 in
theorem d_Bd_meetsGap_15 : decode b_Bd_meetsGap 15 = .ok (.iload_n 3, 1) := by decide +kernel
set_option maxRecDepth 100000 in
theorem d_Bd_meetsGap_16 : decode b_Bd_meetsGap 16 = .ok (.iaload, 1) := by decide +kernel
set_option maxRecDepth 100000 in
theorem d_Bd_meetsGap_17 : decode b_Bd_meetsGap 17 = .ok (.iconst 1, 1) := by decide +kernel
set_option maxRecDepth 100000 in
theorem d_Bd_meetsGap_18 : decode b_Bd_meetsGap 18 = .ok (.iadd, 1) := by decide +kernel
set_option maxRecDepth 100000 in
theorem d_Bd_meetsGap_19 : decode b_Bd_meetsGap 19 = .ok (.if_icmp .gt 17, 3) := by decide +kernel
set_option maxRecDepth 100000 in
theorem d_Bd_meetsGap_22 : decode b_Bd_meetsGap 22 = .ok (.iload_n 2, 1) := by decide +kernel
set_option maxRecDepth 100000 in
theorem d_Bd_meetsGap_23 : decode b_Bd_meetsGap 23 = .ok (.aload_n 0, 1) := by decide +kernel
set_option maxRecDepth 100000 in
theorem d_Bd_meetsGap_24 : decode b_Bd_meetsGap 24 = .ok (.getfield 9, 3) := by decide +kernel
set_option maxRecDepth 100000 in
theorem d_Bd_meetsGap_27 : decode b_Bd_meetsGap 27 = .ok (.iload_n 3, 1) := by decide +kernel
set_option maxRecDepth 100000 in
theorem d_Bd_meetsGap_28 : decode b_Bd_meetsGap 28 = .ok (.iaload, 1) := by decide +kernel
set_option maxRecDepth 100000 in
theorem d_Bd_meetsGap_29 : decode b_Bd_meetsGap 29 = .ok (.iconst 1, 1) := by decide +kernel
set_option maxRecDepth 100000 in
theorem d_Bd_meetsGap_30 : decode b_Bd_meetsGap 30 = .ok (.isub, 1) := by decide +kernel
set_option maxRecDepth 100000 in
theorem d_Bd_meetsGap_31 : decode b_Bd_meetsGap 31 = .ok (.if_icmp .lt 5, 3) := by decide +kernel
set_option maxRecDepth 100000 in
theorem d_Bd_meetsGap_34 : decode b_Bd_meetsGap 34 = .ok (.iconst 1, 1) := by decide +kernel
set_option maxRecDepth 100000 in
theorem d_Bd_meetsGap_35 : decode b_Bd_meetsGap 35 = .ok (.ireturn, 1) := by decide +kernel
set_option maxRecDepth 100000 in
theorem d_Bd_meetsGap_36 : decode b_Bd_meetsGap 36 = .ok (.iinc 3 1, 3) := by decide +kernel
set_option maxRecDepth 100000 in
theorem d_Bd_meetsGap_39 : decode b_Bd_meetsGap 39 = .ok (.goto (-37), 3) := by decide +kernel
set_option maxRecDepth 100000 in
theorem d_Bd_meetsGap_42 : decode b_Bd_meetsGap 42 = .ok (.iconst 0, 1) := by decide +kernel
set_option maxRecDepth 100000 in
theorem d_Bd_meetsGap_43 : decode b_Bd_meetsGap 43 = .ok (.ireturn, 1) := by decide +kernel
set_option maxRecDepth 100000 in
theorem d_Bt_init_0 : decode b_Bt_init 0 = .ok (.aload_n 0, 1) := by decide +kernel
set_option maxRecDepth 100000 in
theorem d_Bt_init_1 : decode b_Bt_init 1 = .ok (.invokespecial 3, 3) := by decide +kernel
set_option maxRecDepth 100000 in
theorem d_Bt_init_4 : decode b_Bt_init 4 = .ok (.aload_n 0, 1) := by decide +kernel
set_option maxRecDepth 100000 in
theorem d_Bt_init_5 : decode b_Bt_init 5 = .ok (.iconst (-1), 1) := by decide +kernel
set_option maxRecDepth 100000 in
theorem d_Bt_init_6 : decode b_Bt_init 6 = .ok (.putfield 9, 3) := by decide +kernel
set_option maxRecDepth 100000 in
theorem d_Bt_init_9 : decode b_Bt_init 9 = .ok (.aload_n 0, 1) := by decide +kernel
set_option maxRecDepth 100000 in
theorem d_Bt_init_10 : decode b_Bt_init 10 = .ok (.iconst (-1), 1) := by decide +kernel
set_option maxRecDepth 100000 in
theorem d_Bt_init_11 : decode b_Bt_init 11 = .ok (.putfield 15, 3) := by decide +kernel
set_option maxRecDepth 100000 in
theorem d_Bt_init_14 : decode b_Bt_init 14 = .ok (.aload_n 0, 1) := by decide +kernel
set_option maxRecDepth 100000 in
theorem d_Bt_init_15 : decode b_Bt_init 15 = .ok (.iload_n 1, 1) := by decide +kernel
set_option maxRecDepth 100000 in
theorem d_Bt_init_16 : decode b_Bt_init 16 = .ok (.putfield 18, 3) := by decide +kernel
set_option maxRecDepth 100000 in
theorem d_Bt_init_19 : decode b_Bt_init 19 = .ok (.aload_n 0, 1) := by decide +kernel
set_option maxRecDepth 100000 in
theorem d_Bt_init_20 : decode b_Bt_init 20 = .ok (.iload_n 2, 1) := by decide +kernel
set_option maxRecDepth 100000 in
theorem d_Bt_init_21 : decode b_Bt_init 21 = .ok (.putfield 21, 3) := by decide +kernel
set_option maxRecDepth 100000 in
theorem d_Bt_init_24 : decode b_Bt_init 24 = .ok (.return_, 1) := by decide +kernel
set_option maxRecDepth 100000 in
theorem d_Bt_setOut_0 : decode b_Bt_setOut 0 = .ok (.aload_n 0, 1) := by decide +kernel
set_option maxRecDepth 100000 in
theorem d_Bt_setOut_1 : decode b_Bt_setOut 1 = .ok (.aload_n 1, 1) := by decide +kernel
set_option maxRecDepth 100000 in
theorem d_Bt_setOut_2 : decode b_Bt_setOut 2 = .ok (.getfield 31, 3) := by decide +kernel
set_option maxRecDepth 100000 in
theorem d_Bt_setOut_5 : decode b_Bt_setOut 5 = .ok (.putfield 21, 3) := by decide +kernel
set_option maxRecDepth 100000 in
theorem d_Bt_setOut_8 : decode b_Bt_setOut 8 = .ok (.aload_n 0, 1) := by decide +kernel
set_option maxRecDepth 100000 in
theorem d_Bt_setOut_9 : decode b_Bt_setOut 9 = .ok (.aload_n 1, 1) := by decide +kernel
set_option maxRecDepth 100000 in
theorem d_Bt_setOut_10 : decode b_Bt_setOut 10 = .ok (.getfield 36, 3) := by decide +kernel
set_option maxRecDepth 100000 in
theorem d_Bt_setOut_13 : decode b_Bt_setOut 13 = .ok (.putfield 28, 3) := by decide +kernel
set_option maxRecDepth 100000 in
theorem d_Bt_setOut_16 : decode b_Bt_setOut 16 = .ok (.aload_n 0, 1) := by decide +kernel
set_option maxRecDepth 100000 in
theorem d_Bt_setOut_17 : decode b_Bt_setOut 17 = .ok (.aload_n 1, 1) := by decide +kernel
set_option maxRecDepth 100000 in
theorem d_Bt_setOut_18 : decode b_Bt_setOut 18 = .ok (.getfield 39, 3) := by decide +kernel
set_option maxRecDepth 100000 in
theorem d_Bt_setOut_21 : decode b_Bt_setOut 21 = .ok (.putfield 9, 3) := by decide +kernel
set_option maxRecDepth 100000 in
theorem d_Bt_setOut_24 : decode b_Bt_setOut 24 = .ok (.aload_n 0, 1) := by decide +kernel
set_option maxRecDepth 100000 in
theorem d_Bt_setOut_25 : decode b_Bt_setOut 25 = .ok (.iload_n 2, 1) := by decide +kernel
set_option maxRecDepth 100000 in
theorem d_Bt_setOut_26 : decode b_Bt_setOut 26 = .ok (.putfield 15, 3) := by decide +kernel
set_option maxRecDepth 100000 in
theorem d_Bt_setOut_29 : decode b_Bt_setOut 29 = .ok (.return_, 1) := by decide +kernel
set_option maxRecDepth 100000 in
theorem d_Bt_stateAt_0 : decode b_Bt_stateAt 0 = .ok (.aload_n 0, 1) := by decide +kernel
set_option maxRecDepth 100000 in
theorem d_Bt_stateAt_1 : decode b_Bt_stateAt 1 = .ok (.getfield 24, 3) := by decide +kernel
set_option maxRecDepth 100000 in
theorem d_Bt_stateAt_4 : decode b_Bt_stateAt 4 = .ok (.ifCond .eq 5, 3) := by decide +kernel
set_option maxRecDepth 100000 in
theorem d_Bt_stateAt_7 : decode b_Bt_stateAt 7 = .ok (.iconst 2, 1) := by decide +kernel
set_option maxRecDepth 100000 in
theorem d_Bt_stateAt_8 : decode b_Bt_stateAt 8 = .ok (.ireturn, 1) := by decide +kernel
set_option maxRecDepth 100000 in
theorem d_Bt_stateAt_9 : decode b_Bt_stateAt 9 = .ok (.iload_n 1, 1) := by decide +kernel
set_option maxRecDepth 100000 in
theorem d_Bt_stateAt_10 : decode b_Bt_stateAt 10 = .ok (.aload_n 0, 1) := by decide +kernel
set_option maxRecDepth 100000 in
theorem d_Bt_stateAt_11 : decode b_Bt_stateAt 11 = .ok (.getfield 28, 3) := by decide +kernel
set_option maxRecDepth 100000 in
theorem d_Bt_stateAt_14 : decode b_Bt_stateAt 14 = .ok (.if_icmp .ge 7, 3) := by decide +kernel
set_option maxRecDepth 100000 in
theorem d_Bt_stateAt_17 : decode b_Bt_stateAt 17 = .ok (.iconst 1, 1) := by decide +kernel
set_option maxRecDepth 100000 in
theorem d_Bt_stateAt_18 : decode b_Bt_stateAt 18 = .ok (.goto 4, 3) := by decide +kernel
set_option maxRecDepth 100000 in
theorem d_Bt_stateAt_21 : decode b_Bt_stateAt 21 = .ok (.iconst 0, 1) := by decide +kernel
set_option maxRecDepth 100000 in
theorem d_Bt_stateAt_22 : decode b_Bt_stateAt 22 = .ok (.ireturn, 1) := by decide +kernel
set_option maxRecDepth 100000 in
theorem d_Bx_payPensions_0 : decode b_Bx_payPensions 0 = .ok (.iload_n 1, 1) := by decide +kernel
set_option maxRecDepth 100000 in
theorem d_Bx_payPensions_1 : decode b_Bx_payPensions 1 = .ok (.bipush 100, 2) := by decide +kernel
set_option maxRecDepth 100000 in
theorem d_Bx_payPensions_3 : decode b_Bx_payPensions 3 = .ok (.irem, 1) := by decide +kernel
set_option maxRecDepth 100000 in
theorem d_Bx_payPensions_4 : decode b_Bx_payPensions 4 = .ok (.ifCond .eq 4, 3) := by decide +kernel
set_option maxRecDepth 100000 in
theorem d_Bx_payPensions_7 : decode b_Bx_payPensions 7 = .ok (.return_, 1) := by decide +kernel
set_option maxRecDepth 100000 in
theorem d_Bx_payPensions_8 : decode b_Bx_payPensions 8 = .ok (.iconst 0, 1) := by decide +kernel
set_option maxRecDepth 100000 in
theorem d_Bx_payPensions_9 : decode b_Bx_payPensions 9 = .ok (.istore_n 2, 1) := by decide +kernel
set_option maxRecDepth 100000 in
theorem d_Bx_payPensions_10 : decode b_Bx_payPensions 10 = .ok (.iload_n 2, 1) := by decide +kernel
set_option maxRecDepth 100000 in
theorem d_Bx_payPensions_11 : decode b_Bx_payPensions 11 = .ok (.aload_n 0, 1) := by decide +kernel
set_option maxRecDepth 100000 in
theorem d_Bx_payPensions_12 : decode b_Bx_payPensions 12 = .ok (.getfield 29, 3) := by decide +kernel
set_option maxRecDepth 100000 in
theorem d_Bx_payPensions_15 : decode b_Bx_payPensions 15 = .ok (.if_icmp .ge 77, 3) := by decide +kernel
set_option maxRecDepth 100000 in
theorem d_Bx_payPensions_18 : decode b_Bx_payPensions 18 = .ok (.aload_n 0, 1) := by decide +kernel
set_option maxRecDepth 100000 in
theorem d_Bx_payPensions_19 : decode b_Bx_payPensions 19 = .ok (.iload_n 2, 1) := by decide +kernel
set_option maxRecDepth 100000 in
theorem d_Bx_payPensions_20 : decode b_Bx_payPensions 20 = .ok (.invokevirtual 35, 3) := by decide +kernel
set_option maxRecDepth 100000 in
theorem d_Bx_payPensions_23 : decode b_Bx_payPensions 23 = .ok (.astore_n 3, 1) := by decide +kernel
set_option maxRecDepth 100000 in
theorem d_Bx_payPensions_24 : decode b_Bx_payPensions 24 = .ok (.aload_n 3, 1) := by decide +kernel
set_option maxRecDepth 100000 in
theorem d_Bx_payPensions_25 : decode b_Bx_payPensions 25 = .ok (.ifnull 61, 3) := by decide +kernel
set_option maxRecDepth 100000 in
theorem d_Bx_payPensions_28 : decode b_Bx_payPensions 28 = .ok (.iload_n 1, 1) := by decide +kernel
set_option maxRecDepth 100000 in
theorem d_Bx_payPensions_29 : decode b_Bx_payPensions 29 = .ok (.aload_n 3, 1) := by decide +kernel
set_option maxRecDepth 100000 in
theorem d_Bx_payPensions_30 : decode b_Bx_payPensions 30 = .ok (.getfield 39, 3) := by decide +kernel
set_option maxRecDepth 100000 in
theorem d_Bx_payPensions_33 : decode b_Bx_payPensions 33 = .ok (.if_icmp .ge 53, 3) := by decide +kernel
set_option maxRecDepth 100000 in
theorem d_Bx_payPensions_36 : decode b_Bx_payPensions 36 = .ok (.aload_n 3, 1) := by decide +kernel
set_option maxRecDepth 100000 in
theorem d_Bx_payPensions_37 : decode b_Bx_payPensions 37 = .ok (.getfield 42, 3) := by decide +kernel
set_option maxRecDepth 100000 in
theorem d_Bx_payPensions_40 : decode b_Bx_payPensions 40 = .ok (.aload_n 0, 1) := by decide +kernel
set_option maxRecDepth 100000 in
theorem d_Bx_payPensions_41 : decode b_Bx_payPensions 41 = .ok (.getfield 21, 3) := by decide +kernel
set_option maxRecDepth 100000 in
theorem d_Bx_payPensions_44 : decode b_Bx_payPensions 44 = .ok (.if_icmp .gt 42, 3) := by decide +kernel
set_option maxRecDepth 100000 in
theorem d_Bx_payPensions_47 : decode b_Bx_payPensions 47 = .ok (.aload_n 0, 1) := by decide +kernel
set_option maxRecDepth 100000 in
theorem d_Bx_payPensions_48 : decode b_Bx_payPensions 48 = .ok (.dup, 1) := by decide +kernel
set_option maxRecDepth 100000 in
theorem d_Bx_payPensions_49 : decode b_Bx_payPensions 49 = .ok (.getfield 21, 3) := by decide +kernel
set_option maxRecDepth 100000 in
theorem d_Bx_payPensions_52 : decode b_Bx_payPensions 52 = .ok (.aload_n 3, 1) := by decide +kernel
set_option maxRecDepth 100000 in
theorem d_Bx_payPensions_53 : decode b_Bx_payPensions 53 = .ok (.getfield 42, 3) := by decide +kernel
set_option maxRecDepth 100000 in
theorem d_Bx_payPensions_56 : decode b_Bx_payPensions 56 = .ok (.isub, 1) := by decide +kernel
set_option maxRecDepth 100000 in
theorem d_Bx_payPensions_57 : decode b_Bx_payPensions 57 = .ok (.putfield 21, 3) := by decide +kernel
set_option maxRecDepth 100000 in
theorem d_Bx_payPensions_60 : decode b_Bx_payPensions 60 = .ok (.aload_n 3, 1) := by decide +kernel
set_option maxRecDepth 100000 in
theorem d_Bx_payPensions_61 : decode b_Bx_payPensions 61 = .ok (.dup, 1) := by decide +kernel
set_option maxRecDepth 100000 in
theorem d_Bx_payPensions_62 : decode b_Bx_payPensions 62 = .ok (.getfield 45, 3) := by decide +kernel
set_option maxRecDepth 100000 in
theorem d_Bx_payPensions_65 : decode b_Bx_payPensions 65 = .ok (.aload_n 3, 1) := by decide +kernel
set_option maxRecDepth 100000 in
theorem d_Bx_payPensions_66 : decode b_Bx_payPensions 66 = .ok (.getfield 42, 3) := by decide +kernel
set_option maxRecDepth 100000 in
theorem d_Bx_payPensions_69 : decode b_Bx_payPensions 69 = .ok (.iadd, 1) := by decide +kernel
set_option maxRecDepth 100000 in
theorem d_Bx_payPensions_70 : decode b_Bx_payPensions 70 = .ok (.putfield 45, 3) := by decide +kernel
set_option maxRecDepth 100000 in
theorem d_Bx_payPensions_73 : decode b_Bx_payPensions 73 = .ok (.aload_n 0, 1) := by decide +kernel
set_option maxRecDepth 100000 in
theorem d_Bx_payPensions_74 : decode b_Bx_payPensions 74 = .ok (.dup, 1) := by decide +kernel
set_option maxRecDepth 100000 in
theorem d_Bx_payPensions_75 : decode b_Bx_payPensions 75 = .ok (.getfield 48, 3) := by decide +kernel
set_option maxRecDepth 100000 in
theorem d_Bx_payPensions_78 : decode b_Bx_payPensions 78 = .ok (.aload_n 3, 1) := by decide +kernel
set_option maxRecDepth 100000 in
theorem d_Bx_payPensions_79 : decode b_Bx_payPensions 79 = .ok (.getfield 42, 3) := by decide +kernel
set_option maxRecDepth 100000 in
theorem d_Bx_payPensions_82 : decode b_Bx_payPensions 82 = .ok (.iadd, 1) := by decide +kernel
set_option maxRecDepth 100000 in
theorem d_Bx_payPensions_83 : decode b_Bx_payPensions 83 = .ok (.putfield 48, 3) := by decide +kernel
set_option maxRecDepth 100000 in
theorem d_Bx_payPensions_86 : decode b_Bx_payPensions 86 = .ok (.iinc 2 1, 3) := by decide +kernel
set_option maxRecDepth 100000 in
theorem d_Bx_payPensions_89 : decode b_Bx_payPensions 89 = .ok (.goto (-79), 3) := by decide +kernel
set_option maxRecDepth 100000 in
theorem d_Bx_payPensions_92 : decode b_Bx_payPensions 92 = .ok (.return_, 1) := by decide +kernel
set_option maxRecDepth 100000 in
theorem d_Bx_receive_0 : decode b_Bx_receive 0 = .ok (.aload_n 0, 1) := by decide +kernel
set_option maxRecDepth 100000 in
theorem d_Bx_receive_1 : decode b_Bx_receive 1 = .ok (.dup, 1) := by decide +kernel
set_option maxRecDepth 100000 in
theorem d_Bx_receive_2 : decode b_Bx_receive 2 = .ok (.getfield 21, 3) := by decide +kernel
set_option maxRecDepth 100000 in
theorem d_Bx_receive_5 : decode b_Bx_receive 5 = .ok (.iload_n 2, 1) := by decide +kernel
set_option maxRecDepth 100000 in
theorem d_Bx_receive_6 : decode b_Bx_receive 6 = .ok (.iadd, 1) := by decide +kernel
set_option maxRecDepth 100000 in
theorem d_Bx_receive_7 : decode b_Bx_receive 7 = .ok (.putfield 21, 3) := by decide +kernel
set_option maxRecDepth 100000 in
theorem d_Bx_receive_10 : decode b_Bx_receive 10 = .ok (.iload_n 1, 1) := by decide +kernel
set_option maxRecDepth 100000 in
theorem d_Bx_receive_11 : decode b_Bx_receive 11 = .ok (.invokestatic 25, 3) := by decide +kernel
set_option maxRecDepth 100000 in
theorem d_Bx_receive_14 : decode b_Bx_receive 14 = .ok (.ifCond .eq 13, 3) := by decide +kernel
set_option maxRecDepth 100000 in
theorem d_Bx_receive_17 : decode b_Bx_receive 17 = .ok (.aload_n 0, 1) := by decide +kernel
set_option maxRecDepth 100000 in
theorem d_Bx_receive_18 : decode b_Bx_receive 18 = .ok (.getfield 9, 3) := by decide +kernel
set_option maxRecDepth 100000 in
theorem d_Bx_receive_21 : decode b_Bx_receive 21 = .ok (.iload_n 1, 1) := by decide +kernel
set_option maxRecDepth 100000 in
theorem d_Bx_receive_22 : decode b_Bx_receive 22 = .ok (.dup2, 1) := by decide +kernel
set_option maxRecDepth 100000 in
theorem d_Bx_receive_23 : decode b_Bx_receive 23 = .ok (.iaload, 1) := by decide +kernel
set_option maxRecDepth 100000 in
theorem d_Bx_receive_24 : decode b_Bx_receive 24 = .ok (.iload_n 2, 1) := by decide +kernel
set_option maxRecDepth 100000 in
theorem d_Bx_receive_25 : decode b_Bx_receive 25 = .ok (.iadd, 1) := by decide +kernel
set_option maxRecDepth 100000 in
theorem d_Bx_receive_26 : decode b_Bx_receive 26 = .ok (.iastore, 1) := by decide +kernel
set_option maxRecDepth 100000 in
theorem d_Bx_receive_27 : decode b_Bx_receive 27 = .ok (.return_, 1) := by decide +kernel
set_option maxRecDepth 100000 in
theorem d_Bx_take_0 : decode b_Bx_take 0 = .ok (.aload_n 0, 1) := by decide +kernel
set_option maxRecDepth 100000 in
theorem d_Bx_take_1 : decode b_Bx_take 1 = .ok (.getfield 17, 3) := by decide +kernel
set_option maxRecDepth 100000 in
theorem d_Bx_take_4 : decode b_Bx_take 4 = .ok (.aload_n 0, 1) := by decide +kernel
set_option maxRecDepth 100000 in
theorem d_Bx_take_5 : decode b_Bx_take 5 = .ok (.getfield 29, 3) := by decide +kernel
set_option maxRecDepth 100000 in
theorem d_Bx_take_8 : decode b_Bx_take 8 = .ok (.new 15, 3) := by decide +kernel
set_option maxRecDepth 100000 in
theorem d_Bx_take_11 : decode b_Bx_take 11 = .ok (.dup, 1) := by decide +kernel
set_option maxRecDepth 100000 in
theorem d_Bx_take_12 : decode b_Bx_take 12 = .ok (.iload_n 1, 1) := by decide +kernel
set_option maxRecDepth 100000 in
theorem d_Bx_take_13 : decode b_Bx_take 13 = .ok (.iload_n 2, 1) := by decide +kernel
set_option maxRecDepth 100000 in
theorem d_Bx_take_14 : decode b_Bx_take 14 = .ok (.invokespecial 32, 3) := by decide +kernel
set_option maxRecDepth 100000 in
theorem d_Bx_take_17 : decode b_Bx_take 17 = .ok (.aastore, 1) := by decide +kernel
set_option maxRecDepth 100000 in
theorem d_Bx_take_18 : decode b_Bx_take 18 = .ok (.aload_n 0, 1) := by decide +kernel
set_option maxRecDepth 100000 in
theorem d_Bx_take_19 : decode b_Bx_take 19 = .ok (.dup, 1) := by decide +kernel
set_option maxRecDepth 100000 in
theorem d_Bx_take_20 : decode b_Bx_take 20 = .ok (.getfield 29, 3) := by decide +kernel
set_option maxRecDepth 100000 in
theorem d_Bx_take_23 : decode b_Bx_take 23 = .ok (.iconst 1, 1) := by decide +kernel
set_option maxRecDepth 100000 in
theorem d_Bx_take_24 : decode b_Bx_take 24 = .ok (.iadd, 1) := by decide +kernel
set_option maxRecDepth 100000 in
theorem d_Bx_take_25 : decode b_Bx_take 25 = .ok (.putfield 29, 3) := by decide +kernel
set_option maxRecDepth 100000 in
theorem d_Bx_take_28 : decode b_Bx_take 28 = .ok (.aload_n 0, 1) := by decide +kernel
set_option maxRecDepth 100000 in
theorem d_Bx_take_29 : decode b_Bx_take 29 = .ok (.getfield 29, 3) := by decide +kernel
set_option maxRecDepth 100000 in
theorem d_Bx_take_32 : decode b_Bx_take 32 = .ok (.iconst 1, 1) := by decide +kernel
set_option maxRecDepth 100000 in
theorem d_Bx_take_33 : decode b_Bx_take 33 = .ok (.isub, 1) := by decide +kernel
set_option maxRecDepth 100000 in
theorem d_Bx_take_34 : decode b_Bx_take 34 = .ok (.ireturn, 1) := by decide +kernel
set_option maxRecDepth 100000 in
theorem d_Md_absent_0 : decode b_Md_absent 0 = .ok (.iload_n 1, 1) := by decide +kernel
set_option maxRecDepth 100000 in
theorem d_Md_absent_1 : decode b_Md_absent 1 = .ok (.invokestatic 186, 3) := by decide +kernel
set_option maxRecDepth 100000 in
theorem d_Md_absent_4 : decode b_Md_absent 4 = .ok (.ifCond .eq 20, 3) := by decide +kernel
set_option maxRecDepth 100000 in
theorem d_Md_absent_7 : decode b_Md_absent 7 = .ok (.iload_n 2, 1) := by decide +kernel
set_option maxRecDepth 100000 in
theorem d_Md_absent_8 : decode b_Md_absent 8 = .ok (.ifCond .lt 16, 3) := by decide +kernel
set_option maxRecDepth 100000 in
theorem d_Md_absent_11 : decode b_Md_absent 11 = .ok (.iload_n 2, 1) := by decide +kernel
set_option maxRecDepth 100000 in
theorem d_Md_absent_12 : decode b_Md_absent 12 = .ok (.iload_n 3, 1) := by decide +kernel
set_option maxRecDepth 100000 in
theorem d_Md_absent_13 : decode b_Md_absent 13 = .ok (.if_icmp .gt 11, 3) := by decide +kernel
set_option maxRecDepth 100000 in
theorem d_Md_absent_16 : decode b_Md_absent 16 = .ok (.iload_n 3, 1) := by decide +kernel
set_option maxRecDepth 100000 in
theorem d_Md_absent_17 : decode b_Md_absent 17 = .ok (.aload_n 0, 1) := by decide +kernel
set_option maxRecDepth 100000 in
theorem d_Md_absent_18 : decode b_Md_absent 18 = .ok (.invokevirtual 45, 3) := by decide +kernel
set_option maxRecDepth 100000 in
theorem d_Md_absent_21 : decode b_Md_absent 21 = .ok (.if_icmp .le 5, 3) := by decide +kernel
set_option maxRecDepth 100000 in
theorem d_Md_absent_24 : decode b_Md_absent 24 = .ok (.iconst (-1), 1) := by decide +kernel
set_option maxRecDepth 100000 in
theorem d_Md_absent_25 : decode b_Md_absent 25 = .ok (.ireturn, 1) := by decide +kernel
set_option maxRecDepth 100000 in
theorem d_Md_absent_26 : decode b_Md_absent 26 = .ok (.aload_n 0, 1) := by decide +kernel
set_option maxRecDepth 100000 in
theorem d_Md_absent_27 : decode b_Md_absent 27 = .ok (.getfield 58, 3) := by decide +kernel
set_option maxRecDepth 100000 in
theorem d_Md_absent_30 : decode b_Md_absent 30 = .ok (.iload_n 1, 1) := by decide +kernel
set_option maxRecDepth 100000 in
theorem d_Md_absent_31 : decode b_Md_absent 31 = .ok (.iaload, 1) := by decide +kernel
set_option maxRecDepth 100000 in
theorem d_Md_absent_32 : decode b_Md_absent 32 = .ok (.iconst 1, 1) := by decide +kernel
set_option maxRecDepth 100000 in
theorem d_Md_absent_33 : decode b_Md_absent 33 = .ok (.if_icmp .eq 6, 3) := by decide +kernel
set_option maxRecDepth 100000 in
theorem d_Md_absent_36 : decode b_Md_absent 36 = .ok (.bipush (-2), 2) := by decide +kernel
set_option maxRecDepth 100000 in
theorem d_Md_absent_38 : decode b_Md_absent 38 = .ok (.ireturn, 1) := by decide +kernel
set_option maxRecDepth 100000 in
theorem d_Md_absent_39 : decode b_Md_absent 39 = .ok (.iload_n 2, 1) := by decide +kernel
set_option maxRecDepth 100000 in
theorem d_Md_absent_40 : decode b_Md_absent 40 = .ok (.aload_n 0, 1) := by decide +kernel
set_option maxRecDepth 100000 in
theorem d_Md_absent_41 : decode b_Md_absent 41 = .ok (.getfield 64, 3) := by decide +kernel
set_option maxRecDepth 100000 in
theorem d_Md_absent_44 : decode b_Md_absent 44 = .ok (.iload_n 1, 1) := by decide +kernel
set_option maxRecDepth 100000 in
theorem d_Md_absent_45 : decode b_Md_absent 45 = .ok (.iaload, 1) := by decide +kernel
set_option maxRecDepth 100000 in
theorem d_Md_absent_46 : decode b_Md_absent 46 = .ok (.if_icmp .ge 5, 3) := by decide +kernel
set_option maxRecDepth 100000 in
theorem d_Md_absent_49 : decode b_Md_absent 49 = .ok (.iconst (-1), 1) := by decide +kernel
set_option maxRecDepth 100000 in
theorem d_Md_absent_50 : decode b_Md_absent 50 = .ok (.ireturn, 1) := by decide +kernel
set_option maxRecDepth 100000 in
theorem d_Md_absent_51 : decode b_Md_absent 51 = .ok (.iconst 0, 1) := by decide +kernel
set_option maxRecDepth 100000 in
theorem d_Md_absent_52 : decode b_Md_absent 52 = .ok (.istore 4, 2) := by decide +kernel
set_option maxRecDepth 100000 in
theorem d_Md_absent_54 : decode b_Md_absent 54 = .ok (.iload 4, 2) := by decide +kernel
set_option maxRecDepth 100000 in
theorem d_Md_absent_56 : decode b_Md_absent 56 = .ok (.aload_n 0, 1) := by decide +kernel
set_option maxRecDepth 100000 in
theorem d_Md_absent_57 : decode b_Md_absent 57 = .ok (.getfield 67, 3) := by decide +kernel
set_option maxRecDepth 100000 in
theorem d_Md_absent_60 : decode b_Md_absent 60 = .ok (.iload_n 1, 1) := by decide +kernel
set_option maxRecDepth 100000 in
theorem d_Md_absent_61 : decode b_Md_absent 61 = .ok (.iaload, 1) := by decide +kernel
set_option maxRecDepth 100000 in
theorem d_Md_absent_62 : decode b_Md_absent 62 = .ok (.if_icmp .ge 48, 3) := by decide +kernel
set_option maxRecDepth 100000 in
theorem d_Md_absent_65 : decode b_Md_absent 65 = .ok (.iload_n 2, 1) := by decide +kernel
set_option maxRecDepth 100000 in
theorem d_Md_absent_66 : decode b_Md_absent 66 = .ok (.aload_n 0, 1) := by decide +kernel
set_option maxRecDepth 100000 in
theorem d_Md_absent_67 : decode b_Md_absent 67 = .ok (.getfield 73, 3) := by decide +kernel
set_option maxRecDepth 100000 in
theorem d_Md_absent_70 : decode b_Md_absent 70 = .ok (.bipush 6, 2) := by decide +kernel
set_option maxRecDepth 100000 in
theorem d_Md_absent_72 : decode b_Md_absent 72 = .ok (.iload_n 1, 1) := by decide +kernel
set_option maxRecDepth 100000 in
theorem d_Md_absent_73 : decode b_Md_absent 73 = .ok (.imul, 1) := by decide +kernel
set_option maxRecDepth 100000 in
theorem d_Md_absent_74 : decode b_Md_absent 74 = .ok (.iload 4, 2) := by decide +kernel
set_option maxRecDepth 100000 in
theorem d_Md_absent_76 : decode b_Md_absent 76 = .ok (.iadd, 1) := by decide +kernel
set_option maxRecDepth 100000 in
theorem d_Md_absent_77 : decode b_Md_absent 77 = .ok (.iaload, 1) := by decide +kernel
set_option maxRecDepth 100000 in
theorem d_Md_absent_78 : decode b_Md_absent 78 = .ok (.iconst 1, 1) := by decide +kernel
set_option maxRecDepth 100000 in
theorem d_Md_absent_79 : decode b_Md_absent 79 = .ok (.iadd, 1) := by decide +kernel
set_option maxRecDepth 100000 in
theorem d_Md_absent_80 : decode b_Md_absent 80 = .ok (.if_icmp .gt 24, 3) := by decide +kernel
set_option maxRecDepth 100000 in
theorem d_Md_absent_83 : decode b_Md_absent 83 = .ok (.iload_n 3, 1) := by decide +kernel
set_option maxRecDepth 100000 in
theorem d_Md_absent_84 : decode b_Md_absent 84 = .ok (.aload_n 0, 1) := by decide +kernel
set_option maxRecDepth 100000 in
theorem d_Md_absent_85 : decode b_Md_absent 85 = .ok (.getfield 70, 3) := by decide +kernel
set_option maxRecDepth 100000 in
theorem d_Md_absent_88 : decode b_Md_absent 88 = .ok (.bipush 6, 2) := by decide +kernel
set_option maxRecDepth 100000 in
theorem d_Md_absent_90 : decode b_Md_absent 90 = .ok (.iload_n 1, 1) := by decide +kernel
set_option maxRecDepth 100000 in
theorem d_Md_absent_91 : decode b_Md_absent 91 = .ok (.imul, 1) := by decide +kernel
set_option maxRecDepth 100000 in
theorem d_Md_absent_92 : decode b_Md_absent 92 = .ok (.iload 4, 2) := by decide +kernel
set_option maxRecDepth 100000 in
theorem d_Md_absent_94 : decode b_Md_absent 94 = .ok (.iadd, 1) := by decide +kernel
set_option maxRecDepth 100000 in
theorem d_Md_absent_95 : decode b_Md_absent 95 = .ok (.iaload, 1) := by decide +kernel
set_option maxRecDepth 100000 in
theorem d_Md_absent_96 : decode b_Md_absent 96 = .ok (.iconst 1, 1) := by decide +kernel
set_option maxRecDepth 100000 in
theorem d_Md_absent_97 : decode b_Md_absent 97 = .ok (.isub, 1) := by decide +kernel
set_option maxRecDepth 100000 in
theorem d_Md_absent_98 : decode b_Md_absent 98 = .ok (.if_icmp .lt 6, 3) := by decide +kernel
set_option maxRecDepth 100000 in
theorem d_Md_absent_101 : decode b_Md_absent 101 = .ok (.bipush (-2), 2) := by decide +kernel
set_option maxRecDepth 100000 in
theorem d_Md_absent_103 : decode b_Md_absent 103 = .ok (.ireturn, 1) := by decide +kernel
set_option maxRecDepth 100000 in
theorem d_Md_absent_104 : decode b_Md_absent 104 = .ok (.iinc 4 1, 3) := by decide +kernel
set_option maxRecDepth 100000 in
theorem d_Md_absent_107 : decode b_Md_absent 107 = .ok (.goto (-53), 3) := by decide +kernel
set_option maxRecDepth 100000 in
theorem d_Md_absent_110 : decode b_Md_absent 110 = .ok (.aload_n 0, 1) := by decide +kernel
set_option maxRecDepth 100000 in
theorem d_Md_absent_111 : decode b_Md_absent 111 = .ok (.getfield 67, 3) := by decide +kernel
set_option maxRecDepth 100000 in
theorem d_Md_absent_114 : decode b_Md_absent 114 = .ok (.iload_n 1, 1) := by decide +kernel
set_option maxRecDepth 100000 in
theorem d_Md_absent_115 : decode b_Md_absent 115 = .ok (.iaload, 1) := by decide +kernel
set_option maxRecDepth 100000 in
theorem d_Md_absent_116 : decode b_Md_absent 116 = .ok (.bipush 6, 2) := by decide +kernel
set_option maxRecDepth 100000 in
theorem d_Md_absent_118 : decode b_Md_absent 118 = .ok (.if_icmp .ne 6, 3) := by decide +kernel
set_option maxRecDepth 100000 in
theorem d_Md_absent_121 : decode b_Md_absent 121 = .ok (.bipush (-3), 2) := by decide +kernel
set_option maxRecDepth 100000 in
theorem d_Md_absent_123 : decode b_Md_absent 123 = .ok (.ireturn, 1) := by decide +kernel
set_option maxRecDepth 100000 in
theorem d_Md_absent_124 : decode b_Md_absent 124 = .ok (.aload_n 0, 1) := by decide +kernel
set_option maxRecDepth 100000 in
theorem d_Md_absent_125 : decode b_Md_absent 125 = .ok (.getfield 70, 3) := by decide +kernel
set_option maxRecDepth 100000 in
theorem d_Md_absent_128 : decode b_Md_absent 128 = .ok (.bipush 6, 2) := by decide +kernel
set_option maxRecDepth 100000 in
theorem d_Md_absent_130 : decode b_Md_absent 130 = .ok (.iload_n 1, 1) := by decide +kernel
set_option maxRecDepth 100000 in
theorem d_Md_absent_131 : decode b_Md_absent 131 = .ok (.imul, 1) := by decide +kernel
set_option maxRecDepth 100000 in
theorem d_Md_absent_132 : decode b_Md_absent 132 = .ok (.aload_n 0, 1) := by decide +kernel
set_option maxRecDepth 100000 in
theorem d_Md_absent_133 : decode b_Md_absent 133 = .ok (.getfield 67, 3) := by decide +kernel
set_option maxRecDepth 100000 in
theorem d_Md_absent_136 : decode b_Md_absent 136 = .ok (.iload_n 1, 1) := by decide +kernel
set_option maxRecDepth 100000 in
theorem d_Md_absent_137 : decode b_Md_absent 137 = .ok (.iaload, 1) := by decide +kernel
set_option maxRecDepth 100000 in
theorem d_Md_absent_138 : decode b_Md_absent 138 = .ok (.iadd, 1) := by decide +kernel
set_option maxRecDepth 100000 in
theorem d_Md_absent_139 : decode b_Md_absent 139 = .ok (.iload_n 2, 1) := by decide +kernel
set_option maxRecDepth 100000 in
theorem d_Md_absent_140 : decode b_Md_absent 140 = .ok (.iastore, 1) := by decide +kernel
set_option maxRecDepth 100000 in
theorem d_Md_absent_141 : decode b_Md_absent 141 = .ok (.aload_n 0, 1) := by decide +kernel
set_option maxRecDepth 100000 in
theorem d_Md_absent_142 : decode b_Md_absent 142 = .ok (.getfield 73, 3) := by decide +kernel
set_option maxRecDepth 100000 in
theorem d_Md_absent_145 : decode b_Md_absent 145 = .ok (.bipush 6, 2) := by decide +kernel
set_option maxRecDepth 100000 in
theorem d_Md_absent_147 : decode b_Md_absent 147 = .ok (.iload_n 1, 1) := by decide +kernel
set_option maxRecDepth 100000 in
theorem d_Md_absent_148 : decode b_Md_absent 148 = .ok (.imul, 1) := by decide +kernel
set_option maxRecDepth 100000 in
theorem d_Md_absent_149 : decode b_Md_absent 149 = .ok (.aload_n 0, 1) := by decide +kernel
set_option maxRecDepth 100000 in
theorem d_Md_absent_150 : decode b_Md_absent 150 = .ok (.getfield 67, 3) := by decide +kernel
set_option maxRecDepth 100000 in
theorem d_Md_absent_153 : decode b_Md_absent 153 = .ok (.iload_n 1, 1) := by decide +kernel
set_option maxRecDepth 100000 in
theorem d_Md_absent_154 : decode b_Md_absent 154 = .ok (.iaload, 1) := by decide +kernel
set_option maxRecDepth 100000 in
theorem d_Md_absent_155 : decode b_Md_absent 155 = .ok (.iadd, 1) := by decide +kernel
set_option maxRecDepth 100000 in
theorem d_Md_absent_156 : decode b_Md_absent 156 = .ok (.iload_n 3, 1) := by decide +kernel
set_option maxRecDepth 100000 in
theorem d_Md_absent_157 : decode b_Md_absent 157 = .ok (.iastore, 1) := by decide +kernel
set_option maxRecDepth 100000 in
theorem d_Md_absent_158 : decode b_Md_absent 158 = .ok (.aload_n 0, 1) := by decide +kernel
set_option maxRecDepth 100000 in
theorem d_Md_absent_159 : decode b_Md_absent 159 = .ok (.getfield 67, 3) := by decide +kernel
set_option maxRecDepth 100000 in
theorem d_Md_absent_162 : decode b_Md_absent 162 = .ok (.iload_n 1, 1) := by decide +kernel
set_option maxRecDepth 100000 in
theorem d_Md_absent_163 : decode b_Md_absent 163 = .ok (.dup2, 1) := by decide +kernel
set_option maxRecDepth 100000 in
theorem d_Md_absent_164 : decode b_Md_absent 164 = .ok (.iaload, 1) := by decide +kernel
set_option maxRecDepth 100000 in
theorem d_Md_absent_165 : decode b_Md_absent 165 = .ok (.iconst 1, 1) := by decide +kernel
set_option maxRecDepth 100000 in
theorem d_Md_absent_166 : decode b_Md_absent 166 = .ok (.iadd, 1) := by decide +kernel
set_option maxRecDepth 100000 in
theorem d_Md_absent_167 : decode b_Md_absent 167 = .ok (.iastore, 1) := by decide +kernel
set_option maxRecDepth 100000 in
theorem d_Md_absent_168 : decode b_Md_absent 168 = .ok (.aload_n 0, 1) := by decide +kernel
set_option maxRecDepth 100000 in
theorem d_Md_absent_169 : decode b_Md_absent 169 = .ok (.getfield 67, 3) := by decide +kernel
set_option maxRecDepth 100000 in
theorem d_Md_absent_172 : decode b_Md_absent 172 = .ok (.iload_n 1, 1) := by decide +kernel
set_option maxRecDepth 100000 in
theorem d_Md_absent_173 : decode b_Md_absent 173 = .ok (.iaload, 1) := by decide +kernel
set_option maxRecDepth 100000 in
theorem d_Md_absent_174 : decode b_Md_absent 174 = .ok (.ireturn, 1) := by decide +kernel
set_option maxRecDepth 100000 in
theorem d_Md_advance_0 : decode b_Md_advance 0 = .ok (.aload_n 0, 1) := by decide +kernel
set_option maxRecDepth 100000 in
theorem d_Md_advance_1 : decode b_Md_advance 1 = .ok (.getfield 218, 3) := by decide +kernel
set_option maxRecDepth 100000 in
theorem d_Md_advance_4 : decode b_Md_advance 4 = .ok (.aload_n 0, 1) := by decide +kernel
set_option maxRecDepth 100000 in
theorem d_Md_advance_5 : decode b_Md_advance 5 = .ok (.getfield 212, 3) := by decide +kernel
set_option maxRecDepth 100000 in
theorem d_Md_advance_8 : decode b_Md_advance 8 = .ok (.if_icmp .ge 30, 3) := by decide +kernel
set_option maxRecDepth 100000 in
theorem d_Md_advance_11 : decode b_Md_advance 11 = .ok (.aload_n 0, 1) := by decide +kernel
set_option maxRecDepth 100000 in
theorem d_Md_advance_12 : decode b_Md_advance 12 = .ok (.getfield 109, 3) := by decide +kernel
set_option maxRecDepth 100000 in
theorem d_Md_advance_15 : decode b_Md_advance 15 = .ok (.aload_n 0, 1) := by decide +kernel
set_option maxRecDepth 100000 in
theorem d_Md_advance_16 : decode b_Md_advance 16 = .ok (.getfield 218, 3) := by decide +kernel
set_option maxRecDepth 100000 in
theorem d_Md_advance_19 : decode b_Md_advance 19 = .ok (.baload, 1) := by decide +kernel
set_option maxRecDepth 100000 in
theorem d_Md_advance_20 : decode b_Md_advance 20 = .ok (.bipush 32, 2) := by decide +kernel
set_option maxRecDepth 100000 in
theorem d_Md_advance_22 : decode b_Md_advance 22 = .ok (.if_icmp .ne 16, 3) := by decide +kernel
set_option maxRecDepth 100000 in
theorem d_Md_advance_25 : decode b_Md_advance 25 = .ok (.aload_n 0, 1) := by decide +kernel
set_option maxRecDepth 100000 in
theorem d_Md_advance_26 : decode b_Md_advance 26 = .ok (.dup, 1) := by decide +kernel
set_option maxRecDepth 100000 in
theorem d_Md_advance_27 : decode b_Md_advance 27 = .ok (.getfield 218, 3) := by decide +kernel
set_option maxRecDepth 100000 in
theorem d_Md_advance_30 : decode b_Md_advance 30 = .ok (.iconst 1, 1) := by decide +kernel
set_option maxRecDepth 100000 in
theorem d_Md_advance_31 : decode b_Md_advance 31 = .ok (.iadd, 1) := by decide +kernel
set_option maxRecDepth 100000 in
theorem d_Md_advance_32 : decode b_Md_advance 32 = .ok (.putfield 218, 3) := by decide +kernel
set_option maxRecDepth 100000 in
theorem d_Md_advance_35 : decode b_Md_advance 35 = .ok (.goto (-35), 3) := by decide +kernel
set_option maxRecDepth 100000 in
theorem d_Md_advance_38 : decode b_Md_advance 38 = .ok (.aload_n 0, 1) := by decide +kernel
set_option maxRecDepth 100000 in
theorem d_Md_advance_39 : decode b_Md_advance 39 = .ok (.aload_n 0, 1) := by decide +kernel
set_option maxRecDepth 100000 in
theorem d_Md_advance_40 : decode b_Md_advance 40 = .ok (.getfield 218, 3) := by decide +kernel
set_option maxRecDepth 100000 in
theorem d_Md_advance_43 : decode b_Md_advance 43 = .ok (.putfield 221, 3) := by decide +kernel
set_option maxRecDepth 100000 in
theorem d_Md_advance_46 : decode b_Md_advance 46 = .ok (.aload_n 0, 1) := by decide +kernel
set_option maxRecDepth 100000 in
theorem d_Md_advance_47 : decode b_Md_advance 47 = .ok (.getfield 218, 3) := by decide +kernel
set_option maxRecDepth 100000 in
theorem d_Md_advance_50 : decode b_Md_advance 50 = .ok (.aload_n 0, 1) := by decide +kernel
set_option maxRecDepth 100000 in
theorem d_Md_advance_51 : decode b_Md_advance 51 = .ok (.getfield 212, 3) := by decide +kernel
set_option maxRecDepth 100000 in
theorem d_Md_advance_54 : decode b_Md_advance 54 = .ok (.if_icmp .ne 9, 3) := by decide +kernel
set_option maxRecDepth 100000 in
theorem d_Md_advance_57 : decode b_Md_advance 57 = .ok (.aload_n 0, 1) := by decide +kernel
set_option maxRecDepth 100000 in
theorem d_Md_advance_58 : decode b_Md_advance 58 = .ok (.iconst 0, 1) := by decide +kernel
set_option maxRecDepth 100000 in
theorem d_Md_advance_59 : decode b_Md_advance 59 = .ok (.putfield 224, 3) := by decide +kernel
set_option maxRecDepth 100000 in
theorem d_Md_advance_62 : decode b_Md_advance 62 = .ok (.return_, 1) := by decide +kernel
set_option maxRecDepth 100000 in
theorem d_Md_advance_63 : decode b_Md_advance 63 = .ok (.aload_n 0, 1) := by decide +kernel
set_option maxRecDepth 100000 in
theorem d_Md_advance_64 : decode b_Md_advance 64 = .ok (.getfield 109, 3) := by decide +kernel
set_option maxRecDepth 100000 in
theorem d_Md_advance_67 : decode b_Md_advance 67 = .ok (.aload_n 0, 1) := by decide +kernel
set_option maxRecDepth 100000 in
theorem d_Md_advance_68 : decode b_Md_advance 68 = .ok (.getfield 218, 3) := by decide +kernel
set_option maxRecDepth 100000 in
theorem d_Md_advance_71 : decode b_Md_advance 71 = .ok (.baload, 1) := by decide +kernel
set_option maxRecDepth 100000 in
theorem d_Md_advance_72 : decode b_Md_advance 72 = .ok (.istore_n 1, 1) := by decide +kernel
set_option maxRecDepth 100000 in
theorem d_Md_advance_73 : decode b_Md_advance 73 = .ok (.iload_n 1, 1) := by decide +kernel
set_option maxRecDepth 100000 in
theorem d_Md_advance_74 : decode b_Md_advance 74 = .ok (.invokestatic 227, 3) := by decide +kernel
set_option maxRecDepth 100000 in
theorem d_Md_advance_77 : decode b_Md_advance 77 = .ok (.ifCond .eq 102, 3) := by decide +kernel
set_option maxRecDepth 100000 in
theorem d_Md_advance_80 : decode b_Md_advance 80 = .ok (.lconst 0, 1) := by decide +kernel
set_option maxRecDepth 100000 in
theorem d_Md_advance_81 : decode b_Md_advance 81 = .ok (.lstore_n 2, 1) := by decide +kernel
set_option maxRecDepth 100000 in
theorem d_Md_advance_82 : decode b_Md_advance 82 = .ok (.iconst 0, 1) := by decide +kernel
set_option maxRecDepth 100000 in
theorem d_Md_advance_83 : decode b_Md_advance 83 = .ok (.istore 4, 2) := by decide +kernel
set_option maxRecDepth 100000 in
theorem d_Md_advance_85 : decode b_Md_advance 85 = .ok (.aload_n 0, 1) := by decide +kernel
set_option maxRecDepth 100000 in
theorem d_Md_advance_86 : decode b_Md_advance 86 = .ok (.getfield 218, 3) := by decide +kernel
set_option maxRecDepth 100000 in
theorem d_Md_advance_89 : decode b_Md_advance 89 = .ok (.aload_n 0, 1) := by decide +kernel
set_option maxRecDepth 100000 in
theorem d_Md_advance_90 : decode b_Md_advance 90 = .ok (.getfield 212, 3) := by decide +kernel
set_option maxRecDepth 100000 in
theorem d_Md_advance_93 : decode b_Md_advance 93 = .ok (.if_icmp .ge 66, 3) := by decide +kernel
set_option maxRecDepth 100000 in
theorem d_Md_advance_96 : decode b_Md_advance 96 = .ok (.aload_n 0, 1) := by decide +kernel
set_option maxRecDepth 100000 in
theorem d_Md_advance_97 : decode b_Md_advance 97 = .ok (.getfield 109, 3) := by decide +kernel
set_option maxRecDepth 100000 in
theorem d_Md_advance_100 : decode b_Md_advance 100 = .ok (.aload_n 0, 1) := by decide +kernel
set_option maxRecDepth 100000 in
theorem d_Md_advance_101 : decode b_Md_advance 101 = .ok (.getfield 218, 3) := by decide +kernel
set_option maxRecDepth 100000 in
theorem d_Md_advance_104 : decode b_Md_advance 104 = .ok (.baload, 1) := by decide +kernel
set_option maxRecDepth 100000 in
theorem d_Md_advance_105 : decode b_Md_advance 105 = .ok (.invokestatic 227, 3) := by decide +kernel
set_option maxRecDepth 100000 in
theorem d_Md_advance_108 : decode b_Md_advance 108 = .ok (.ifCond .eq 51, 3) := by decide +kernel
set_option maxRecDepth 100000 in
theorem d_Md_advance_111 : decode b_Md_advance 111 = .ok (.iload 4, 2) := by decide +kernel
set_option maxRecDepth 100000 in
theorem d_Md_advance_113 : decode b_Md_advance 113 = .ok (.bipush 8, 2) := by decide +kernel
set_option maxRecDepth 100000 in
theorem d_Md_advance_115 : decode b_Md_advance 115 = .ok (.if_icmp .ge 26, 3) := by decide +kernel
set_option maxRecDepth 100000 in
theorem d_Md_advance_118 : decode b_Md_advance 118 = .ok (.lload_n 2, 1) := by decide +kernel
set_option maxRecDepth 100000 in
theorem d_Md_advance_119 : decode b_Md_advance 119 = .ok (.ldc2_w 230, 3) := by decide +kernel
set_option maxRecDepth 100000 in
theorem d_Md_advance_122 : decode b_Md_advance 122 = .ok (.lmul, 1) := by decide +kernel
set_option maxRecDepth 100000 in
theorem d_Md_advance_123 : decode b_Md_advance 123 = .ok (.aload_n 0, 1) := by decide +kernel
set_option maxRecDepth 100000 in
theorem d_Md_advance_124 : decode b_Md_advance 124 = .ok (.getfield 109, 3) := by decide +kernel
set_option maxRecDepth 100000 in
theorem d_Md_advance_127 : decode b_Md_advance 127 = .ok (.aload_n 0, 1) := by decide +kernel
set_option maxRecDepth 100000 in
theorem d_Md_advance_128 : decode b_Md_advance 128 = .ok (.getfield 218, 3) := by decide +kernel
set_option maxRecDepth 100000 in
theorem d_Md_advance_131 : decode b_Md_advance 131 = .ok (.baload, 1) := by decide +kernel
set_option maxRecDepth 100000 in
theorem d_Md_advance_132 : decode b_Md_advance 132 = .ok (.i2l, 1) := by decide +kernel
set_option maxRecDepth 100000 in
theorem d_Md_advance_133 : decode b_Md_advance 133 = .ok (.ladd, 1) := by decide +kernel
set_option maxRecDepth 100000 in
theorem d_Md_advance_134 : decode b_Md_advance 134 = .ok (.ldc2_w 232, 3) := by decide +kernel
set_option maxRecDepth 100000 in
theorem d_Md_advance_137 : decode b_Md_advance 137 = .ok (.lsub, 1) := by decide +kernel
set_option maxRecDepth 100000 in
theorem d_Md_advance_138 : decode b_Md_advance 138 = .ok (.goto 4, 3) := by decide +kernel
set_option maxRecDepth 100000 in
theorem d_Md_advance_141 : decode b_Md_advance 141 = .ok (.lload_n 2, 1) := by decide +kernel
set_option maxRecDepth 100000 in
theorem d_Md_advance_142 : decode b_Md_advance 142 = .ok (.lstore_n 2, 1) := by decide +kernel
set_option maxRecDepth 100000 in
theorem d_Md_advance_143 : decode b_Md_advance 143 = .ok (.aload_n 0, 1) := by decide +kernel
set_option maxRecDepth 100000 in
theorem d_Md_advance_144 : decode b_Md_advance 144 = .ok (.dup, 1) := by decide +kernel
set_option maxRecDepth 100000 in
theorem d_Md_advance_145 : decode b_Md_advance 145 = .ok (.getfield 218, 3) := by decide +kernel
set_option maxRecDepth 100000 in
theorem d_Md_advance_148 : decode b_Md_advance 148 = .ok (.iconst 1, 1) := by decide +kernel
set_option maxRecDepth 100000 in
theorem d_Md_advance_149 : decode b_Md_advance 149 = .ok (.iadd, 1) := by decide +kernel
set_option maxRecDepth 100000 in
theorem d_Md_advance_150 : decode b_Md_advance 150 = .ok (.putfield 218, 3) := by decide +kernel
set_option maxRecDepth 100000 in
theorem d_Md_advance_153 : decode b_Md_advance 153 = .ok (.iinc 4 1, 3) := by decide +kernel
set_option maxRecDepth 100000 in
theorem d_Md_advance_156 : decode b_Md_advance 156 = .ok (.goto (-71), 3) := by decide +kernel
set_option maxRecDepth 100000 in
theorem d_Md_advance_159 : decode b_Md_advance 159 = .ok (.aload_n 0, 1) := by decide +kernel
set_option maxRecDepth 100000 in
theorem d_Md_advance_160 : decode b_Md_advance 160 = .ok (.iload 4, 2) := by decide +kernel
set_option maxRecDepth 100000 in
theorem d_Md_advance_162 : decode b_Md_advance 162 = .ok (.bipush 7, 2) := by decide +kernel
set_option maxRecDepth 100000 in
theorem d_Md_advance_164 : decode b_Md_advance 164 = .ok (.if_icmp .le 7, 3) := by decide +kernel
set_option maxRecDepth 100000 in
theorem d_Md_advance_167 : decode b_Md_advance 167 = .ok (.iconst 3, 1) := by decide +kernel
set_option maxRecDepth 100000 in
theorem d_Md_advance_168 : decode b_Md_advance 168 = .ok (.goto 7, 3) := by decide +kernel
set_option maxRecDepth 100000 in
theorem d_Md_advance_171 : decode b_Md_advance 171 = .ok (.lload_n 2, 1) := by decide +kernel
set_option maxRecDepth 100000 in
theorem d_Md_advance_172 : decode b_Md_advance 172 = .ok (.invokestatic 234, 3) := by decide +kernel
set_option maxRecDepth 100000 in
theorem d_Md_advance_175 : decode b_Md_advance 175 = .ok (.putfield 224, 3) := by decide +kernel
set_option maxRecDepth 100000 in
theorem d_Md_advance_178 : decode b_Md_advance 178 = .ok (.return_, 1) := by decide +kernel
set_option maxRecDepth 100000 in
theorem d_Md_advance_179 : decode b_Md_advance 179 = .ok (.iload_n 1, 1) := by decide +kernel
set_option maxRecDepth 100000 in
theorem d_Md_advance_180 : decode b_Md_advance 180 = .ok (.invokestatic 238, 3) := by decide +kernel
set_option maxRecDepth 100000 in
theorem d_Md_advance_183 : decode b_Md_advance 183 = .ok (.ifCond .eq 103, 3) := by decide +kernel
set_option maxRecDepth 100000 in
theorem d_Md_advance_186 : decode b_Md_advance 186 = .ok (.iconst 0, 1) := by decide +kernel
set_option maxRecDepth 100000 in
theorem d_Md_advance_187 : decode b_Md_advance 187 = .ok (.istore_n 2, 1) := by decide +kernel
set_option maxRecDepth 100000 in
theorem d_Md_advance_188 : decode b_Md_advance 188 = .ok (.aload_n 0, 1) := by decide +kernel
set_option maxRecDepth 100000 in
theorem d_Md_advance_189 : decode b_Md_advance 189 = .ok (.iconst 0, 1) := by decide +kernel
set_option maxRecDepth 100000 in
theorem d_Md_advance_190 : decode b_Md_advance 190 = .ok (.putfield 241, 3) := by decide +kernel
set_option maxRecDepth 100000 in
theorem d_Md_advance_193 : decode b_Md_advance 193 = .ok (.aload_n 0, 1) := by decide +kernel
set_option maxRecDepth 100000 in
theorem d_Md_advance_194 : decode b_Md_advance 194 = .ok (.getfield 218, 3) := by decide +kernel
set_option maxRecDepth 100000 in
theorem d_Md_advance_197 : decode b_Md_advance 197 = .ok (.aload_n 0, 1) := by decide +kernel
set_option maxRecDepth 100000 in
theorem d_Md_advance_198 : decode b_Md_advance 198 = .ok (.getfield 212, 3) := by decide +kernel
set_option maxRecDepth 100000 in
theorem d_Md_advance_201 : decode b_Md_advance 201 = .ok (.if_icmp .ge 70, 3) := by decide +kernel
set_option maxRecDepth 100000 in
theorem d_Md_advance_204 : decode b_Md_advance 204 = .ok (.aload_n 0, 1) := by decide +kernel
set_option maxRecDepth 100000 in
theorem d_Md_advance_205 : decode b_Md_advance 205 = .ok (.getfield 109, 3) := by decide +kernel
set_option maxRecDepth 100000 in
theorem d_Md_advance_208 : decode b_Md_advance 208 = .ok (.aload_n 0, 1) := by decide +kernel
set_option maxRecDepth 100000 in
theorem d_Md_advance_209 : decode b_Md_advance 209 = .ok (.getfield 218, 3) := by decide +kernel
set_option maxRecDepth 100000 in
theorem d_Md_advance_212 : decode b_Md_advance 212 = .ok (.baload, 1) := by decide +kernel
set_option maxRecDepth 100000 in
theorem d_Md_advance_213 : decode b_Md_advance 213 = .ok (.invokestatic 238, 3) := by decide +kernel
set_option maxRecDepth 100000 in
theorem d_Md_advance_216 : decode b_Md_advance 216 = .ok (.ifCond .eq 55, 3) := by decide +kernel
set_option maxRecDepth 100000 in
theorem d_Md_advance_219 : decode b_Md_advance 219 = .ok (.aload_n 0, 1) := by decide +kernel
set_option maxRecDepth 100000 in
theorem d_Md_advance_220 : decode b_Md_advance 220 = .ok (.iload_n 2, 1) := by decide +kernel
set_option maxRecDepth 100000 in
theorem d_Md_advance_221 : decode b_Md_advance 221 = .ok (.iconst 5, 1) := by decide +kernel
set_option maxRecDepth 100000 in
theorem d_Md_advance_222 : decode b_Md_advance 222 = .ok (.if_icmp .ge 26, 3) := by decide +kernel
set_option maxRecDepth 100000 in
theorem d_Md_advance_225 : decode b_Md_advance 225 = .ok (.bipush 10, 2) := by decide +kernel
set_option maxRecDepth 100000 in
theorem d_Md_advance_227 : decode b_Md_advance 227 = .ok (.aload_n 0, 1) := by decide +kernel
set_option maxRecDepth 100000 in
theorem d_Md_advance_228 : decode b_Md_advance 228 = .ok (.getfield 241, 3) := by decide +kernel
set_option maxRecDepth 100000 in
theorem d_Md_advance_231 : decode b_Md_advance 231 = .ok (.imul, 1) := by decide +kernel
set_option maxRecDepth 100000 in
theorem d_Md_advance_232 : decode b_Md_advance 232 = .ok (.aload_n 0, 1) := by decide +kernel
set_option maxRecDepth 100000 in
theorem d_Md_advance_233 : decode b_Md_advance 233 = .ok (.getfield 109, 3) := by decide +kernel
set_option maxRecDepth 100000 in
theorem d_Md_advance_236 : decode b_Md_advance 236 = .ok (.aload_n 0, 1) := by decide +kernel
set_option maxRecDepth 100000 in
theorem d_Md_advance_237 : decode b_Md_advance 237 = .ok (.getfield 218, 3) := by decide +kernel
set_option maxRecDepth 100000 in
theorem d_Md_advance_240 : decode b_Md_advance 240 = .ok (.baload, 1) := by decide +kernel
set_option maxRecDepth 100000 in
theorem d_Md_advance_241 : decode b_Md_advance 241 = .ok (.iadd, 1) := by decide +kernel
set_option maxRecDepth 100000 in
theorem d_Md_advance_242 : decode b_Md_advance 242 = .ok (.bipush 48, 2) := by decide +kernel
set_option maxRecDepth 100000 in
theorem d_Md_advance_244 : decode b_Md_advance 244 = .ok (.isub, 1) := by decide +kernel
set_option maxRecDepth 100000 in
theorem d_Md_advance_245 : decode b_Md_advance 245 = .ok (.goto 7, 3) := by decide +kernel
set_option maxRecDepth 100000 in
theorem d_Md_advance_248 : decode b_Md_advance 248 = .ok (.aload_n 0, 1) := by decide +kernel
set_option maxRecDepth 100000 in
theorem d_Md_advance_249 : decode b_Md_advance 249 = .ok (.getfield 241, 3) := by decide +kernel
set_option maxRecDepth 100000 in
theorem d_Md_advance_252 : decode b_Md_advance 252 = .ok (.putfield 241, 3) := by decide +kernel
set_option maxRecDepth 100000 in
theorem d_Md_advance_255 : decode b_Md_advance 255 = .ok (.aload_n 0, 1) := by decide +kernel
set_option maxRecDepth 100000 in
theorem d_Md_advance_256 : decode b_Md_advance 256 = .ok (.dup, 1) := by decide +kernel
set_option maxRecDepth 100000 in
theorem d_Md_advance_257 : decode b_Md_advance 257 = .ok (.getfield 218, 3) := by decide +kernel
set_option maxRecDepth 100000 in
theorem d_Md_advance_260 : decode b_Md_advance 260 = .ok (.iconst 1, 1) := by decide +kernel
set_option maxRecDepth 100000 in
theorem d_Md_advance_261 : decode b_Md_advance 261 = .ok (.iadd, 1) := by decide +kernel
set_option maxRecDepth 100000 in
theorem d_Md_advance_262 : decode b_Md_advance 262 = .ok (.putfield 218, 3) := by decide +kernel
set_option maxRecDepth 100000 in
theorem d_Md_advance_265 : decode b_Md_advance 265 = .ok (.iinc 2 1, 3) := by decide +kernel
set_option maxRecDepth 100000 in
theorem d_Md_advance_268 : decode b_Md_advance 268 = .ok (.goto (-75), 3) := by decide +kernel
set_option maxRecDepth 100000 in
theorem d_Md_advance_271 : decode b_Md_advance 271 = .ok (.aload_n 0, 1) := by decide +kernel
set_option maxRecDepth 100000 in
theorem d_Md_advance_272 : decode b_Md_advance 272 = .ok (.iload_n 2, 1) := by decide +kernel
set_option maxRecDepth 100000 in
theorem d_Md_advance_273 : decode b_Md_advance 273 = .ok (.iconst 5, 1) := by decide +kernel
set_option maxRecDepth 100000 in
theorem d_Md_advance_274 : decode b_Md_advance 274 = .ok (.if_icmp .le 7, 3) := by decide +kernel
set_option maxRecDepth 100000 in
theorem d_Md_advance_277 : decode b_Md_advance 277 = .ok (.iconst 3, 1) := by decide +kernel
set_option maxRecDepth 100000 in
theorem d_Md_advance_278 : decode b_Md_advance 278 = .ok (.goto 4, 3) := by decide +kernel
set_option maxRecDepth 100000 in
theorem d_Md_advance_281 : decode b_Md_advance 281 = .ok (.iconst 1, 1) := by decide +kernel
set_option maxRecDepth 100000 in
theorem d_Md_advance_282 : decode b_Md_advance 282 = .ok (.putfield 224, 3) := by decide +kernel
set_option maxRecDepth 100000 in
theorem d_Md_advance_285 : decode b_Md_advance 285 = .ok (.return_, 1) := by decide +kernel
set_option maxRecDepth 100000 in
theorem d_Md_advance_286 : decode b_Md_advance 286 = .ok (.aload_n 0, 1) := by decide +kernel
set_option maxRecDepth 100000 in
theorem d_Md_advance_287 : decode b_Md_advance 287 = .ok (.dup, 1) := by decide +kernel
set_option maxRecDepth 100000 in
theorem d_Md_advance_288 : decode b_Md_advance 288 = .ok (.getfield 218, 3) := by decide +kernel
set_option maxRecDepth 100000 in
theorem d_Md_advance_291 : decode b_Md_advance 291 = .ok (.iconst 1, 1) := by decide +kernel
set_option maxRecDepth 100000 in
theorem d_Md_advance_292 : decode b_Md_advance 292 = .ok (.iadd, 1) := by decide +kernel
set_option maxRecDepth 100000 in
theorem d_Md_advance_293 : decode b_Md_advance 293 = .ok (.putfield 218, 3) := by decide +kernel
set_option maxRecDepth 100000 in
theorem d_Md_advance_296 : decode b_Md_advance 296 = .ok (.aload_n 0, 1) := by decide +kernel
set_option maxRecDepth 100000 in
theorem d_Md_advance_297 : decode b_Md_advance 297 = .ok (.iload_n 1, 1) := by decide +kernel
set_option maxRecDepth 100000 in
theorem d_Md_advance_298 : decode b_Md_advance 298 = .ok (.bipush 59, 2) := by decide +kernel
set_option maxRecDepth 100000 in
theorem d_Md_advance_300 : decode b_Md_advance 300 = .ok (.if_icmp .ne 7, 3) := by decide +kernel
set_option maxRecDepth 100000 in
theorem d_Md_advance_303 : decode b_Md_advance 303 = .ok (.iconst 2, 1) := by decide +kernel
set_option maxRecDepth 100000 in
theorem d_Md_advance_304 : decode b_Md_advance 304 = .ok (.goto 4, 3) := by decide +kernel
set_option maxRecDepth 100000 in
theorem d_Md_advance_307 : decode b_Md_advance 307 = .ok (.iconst 3, 1) := by decide +kernel
set_option maxRecDepth 100000 in
theorem d_Md_advance_308 : decode b_Md_advance 308 = .ok (.putfield 224, 3) := by decide +kernel
set_option maxRecDepth 100000 in
theorem d_Md_advance_311 : decode b_Md_advance 311 = .ok (.return_, 1) := by decide +kernel
set_option maxRecDepth 100000 in
theorem d_Md_arrive_0 : decode b_Md_arrive 0 = .ok (.iconst 0, 1) := by decide +kernel
set_option maxRecDepth 100000 in
theorem d_Md_arrive_1 : decode b_Md_arrive 1 = .ok (.istore_n 1, 1) := by decide +kernel
set_option maxRecDepth 100000 in
theorem d_Md_arrive_2 : decode b_Md_arrive 2 = .ok (.iload_n 1, 1) := by decide +kernel
set_option maxRecDepth 100000 in
theorem d_Md_arrive_3 : decode b_Md_arrive 3 = .ok (.aload_n 0, 1) := by decide +kernel
set_option maxRecDepth 100000 in
theorem d_Md_arrive_4 : decode b_Md_arrive 4 = .ok (.getfield 206, 3) := by decide +kernel
set_option maxRecDepth 100000 in
theorem d_Md_arrive_7 : decode b_Md_arrive 7 = .ok (.if_icmp .ge 55, 3) := by decide +kernel
set_option maxRecDepth 100000 in
theorem d_Md_arrive_10 : decode b_Md_arrive 10 = .ok (.aload_n 0, 1) := by decide +kernel
set_option maxRecDepth 100000 in
theorem d_Md_arrive_11 : decode b_Md_arrive 11 = .ok (.getfield 103, 3) := by decide +kernel
set_option maxRecDepth 100000 in
theorem d_Md_arrive_14 : decode b_Md_arrive 14 = .ok (.iload_n 1, 1) := by decide +kernel
set_option maxRecDepth 100000 in
theorem d_Md_arrive_15 : decode b_Md_arrive 15 = .ok (.iaload, 1) := by decide +kernel
set_option maxRecDepth 100000 in
theorem d_Md_arrive_16 : decode b_Md_arrive 16 = .ok (.istore_n 2, 1) := by decide +kernel
set_option maxRecDepth 100000 in
theorem d_Md_arrive_17 : decode b_Md_arrive 17 = .ok (.iload_n 2, 1) := by decide +kernel
set_option maxRecDepth 100000 in
theorem d_Md_arrive_18 : decode b_Md_arrive 18 = .ok (.ifCond .lt 38, 3) := by decide +kernel
set_option maxRecDepth 100000 in
theorem d_Md_arrive_21 : decode b_Md_arrive 21 = .ok (.aload_n 0, 1) := by decide +kernel
set_option maxRecDepth 100000 in
theorem d_Md_arrive_22 : decode b_Md_arrive 22 = .ok (.getfield 164, 3) := by decide +kernel
set_option maxRecDepth 100000 in
theorem d_Md_arrive_25 : decode b_Md_arrive 25 = .ok (.iload_n 2, 1) := by decide +kernel
set_option maxRecDepth 100000 in
theorem d_Md_arrive_26 : decode b_Md_arrive 26 = .ok (.iaload, 1) := by decide +kernel
set_option maxRecDepth 100000 in
theorem d_Md_arrive_27 : decode b_Md_arrive 27 = .ok (.aload_n 0, 1) := by decide +kernel
set_option maxRecDepth 100000 in
theorem d_Md_arrive_28 : decode b_Md_arrive 28 = .ok (.getfield 7, 3) := by decide +kernel
set_option maxRecDepth 100000 in
theorem d_Md_arrive_31 : decode b_Md_arrive 31 = .ok (.if_icmp .le 6, 3) := by decide +kernel
set_option maxRecDepth 100000 in
theorem d_Md_arrive_34 : decode b_Md_arrive 34 = .ok (.goto 22, 3) := by decide +kernel
set_option maxRecDepth 100000 in
theorem d_Md_arrive_37 : decode b_Md_arrive 37 = .ok (.aload_n 0, 1) := by decide +kernel
set_option maxRecDepth 100000 in
theorem d_Md_arrive_38 : decode b_Md_arrive 38 = .ok (.getfield 103, 3) := by decide +kernel
set_option maxRecDepth 100000 in
theorem d_Md_arrive_41 : decode b_Md_arrive 41 = .ok (.iload_n 1, 1) := by decide +kernel
set_option maxRecDepth 100000 in
theorem d_Md_arrive_42 : decode b_Md_arrive 42 = .ok (.iconst (-1), 1) := by decide +kernel
set_option maxRecDepth 100000 in
theorem d_Md_arrive_43 : decode b_Md_arrive 43 = .ok (.iastore, 1) := by decide +kernel
set_option maxRecDepth 100000 in
theorem d_Md_arrive_44 : decode b_Md_arrive 44 = .ok (.aload_n 0, 1) := by decide +kernel
set_option maxRecDepth 100000 in
theorem d_Md_arrive_45 : decode b_Md_arrive 45 = .ok (.getfield 79, 3) := by decide +kernel
set_option maxRecDepth 100000 in
theorem d_Md_arrive_48 : decode b_Md_arrive 48 = .ok (.aload_n 0, 1) := by decide +kernel
set_option maxRecDepth 100000 in
theorem d_Md_arrive_49 : decode b_Md_arrive 49 = .ok (.getfield 152, 3) := by decide +kernel
set_option maxRecDepth 100000 in
theorem d_Md_arrive_52 : decode b_Md_arrive 52 = .ok (.iload_n 2, 1) := by decide +kernel
set_option maxRecDepth 100000 in
theorem d_Md_arrive_53 : decode b_Md_arrive 53 = .ok (.iaload, 1) := by decide +kernel
set_option maxRecDepth 100000 in
theorem d_Md_arrive_54 : decode b_Md_arrive 54 = .ok (.iconst (-1), 1) := by decide +kernel
set_option maxRecDepth 100000 in
theorem d_Md_arrive_55 : decode b_Md_arrive 55 = .ok (.iastore, 1) := by decide +kernel
set_option maxRecDepth 100000 in
theorem d_Md_arrive_56 : decode b_Md_arrive 56 = .ok (.iinc 1 1, 3) := by decide +kernel
set_option maxRecDepth 100000 in
theorem d_Md_arrive_59 : decode b_Md_arrive 59 = .ok (.goto (-57), 3) := by decide +kernel
set_option maxRecDepth 100000 in
theorem d_Md_arrive_62 : decode b_Md_arrive 62 = .ok (.return_, 1) := by decide +kernel
set_option maxRecDepth 100000 in
theorem d_Md_bind_0 : decode b_Md_bind 0 = .ok (.iload_n 1, 1) := by decide +kernel
set_option maxRecDepth 100000 in
theorem d_Md_bind_1 : decode b_Md_bind 1 = .ok (.invokestatic 186, 3) := by decide +kernel
set_option maxRecDepth 100000 in
theorem d_Md_bind_4 : decode b_Md_bind 4 = .ok (.ifCond .eq 10, 3) := by decide +kernel
set_option maxRecDepth 100000 in
theorem d_Md_bind_7 : decode b_Md_bind 7 = .ok (.iload_n 2, 1) := by decide +kernel
set_option maxRecDepth 100000 in
theorem d_Md_bind_8 : decode b_Md_bind 8 = .ok (.invokestatic 186, 3) := by decide +kernel
set_option maxRecDepth 100000 in
theorem d_Md_bind_11 : decode b_Md_bind 11 = .ok (.ifCond .ne 5, 3) := by decide +kernel
set_option maxRecDepth 100000 in
theorem d_Md_bind_14 : decode b_Md_bind 14 = .ok (.iconst (-1), 1) := by decide +kernel
set_option maxRecDepth 100000 in
theorem d_Md_bind_15 : decode b_Md_bind 15 = .ok (.ireturn, 1) := by decide +kernel
set_option maxRecDepth 100000 in
theorem d_Md_bind_16 : decode b_Md_bind 16 = .ok (.aload_n 0, 1) := by decide +kernel
set_option maxRecDepth 100000 in
theorem d_Md_bind_17 : decode b_Md_bind 17 = .ok (.getfield 58, 3) := by decide +kernel
set_option maxRecDepth 100000 in
theorem d_Md_bind_20 : decode b_Md_bind 20 = .ok (.iload_n 1, 1) := by decide +kernel
set_option maxRecDepth 100000 in
theorem d_Md_bind_21 : decode b_Md_bind 21 = .ok (.iaload, 1) := by decide +kernel
set_option maxRecDepth 100000 in
theorem d_Md_bind_22 : decode b_Md_bind 22 = .ok (.ifCond .ne 13, 3) := by decide +kernel
set_option maxRecDepth 100000 in
theorem d_Md_bind_25 : decode b_Md_bind 25 = .ok (.aload_n 0, 1) := by decide +kernel
set_option maxRecDepth 100000 in
theorem d_Md_bind_26 : decode b_Md_bind 26 = .ok (.getfield 58, 3) := by decide +kernel
set_option maxRecDepth 100000 in
theorem d_Md_bind_29 : decode b_Md_bind 29 = .ok (.iload_n 2, 1) := by decide +kernel
set_option maxRecDepth 100000 in
theorem d_Md_bind_30 : decode b_Md_bind 30 = .ok (.iaload, 1) := by decide +kernel
set_option maxRecDepth 100000 in
theorem d_Md_bind_31 : decode b_Md_bind 31 = .ok (.iconst 2, 1) := by decide +kernel
set_option maxRecDepth 100000 in
theorem d_Md_bind_32 : decode b_Md_bind 32 = .ok (.if_icmp .eq 6, 3) := by decide +kernel
set_option maxRecDepth 100000 in
theorem d_Md_bind_35 : decode b_Md_bind 35 = .ok (.bipush (-2), 2) := by decide +kernel
set_option maxRecDepth 100000 in
theorem d_Md_bind_37 : decode b_Md_bind 37 = .ok (.ireturn, 1) := by decide +kernel
set_option maxRecDepth 100000 in
theorem d_Md_bind_38 : decode b_Md_bind 38 = .ok (.aload_n 0, 1) := by decide +kernel
set_option maxRecDepth 100000 in
theorem d_Md_bind_39 : decode b_Md_bind 39 = .ok (.getfield 58, 3) := by decide +kernel
set_option maxRecDepth 100000 in
theorem d_Md_bind_42 : decode b_Md_bind 42 = .ok (.iload_n 1, 1) := by decide +kernel
set_option maxRecDepth 100000 in
theorem d_Md_bind_43 : decode b_Md_bind 43 = .ok (.iconst 1, 1) := by decide +kernel
set_option maxRecDepth 100000 in
theorem d_Md_bind_44 : decode b_Md_bind 44 = .ok (.iastore, 1) := by decide +kernel
set_option maxRecDepth 100000 in
theorem d_Md_bind_45 : decode b_Md_bind 45 = .ok (.aload_n 0, 1) := by decide +kernel
set_option maxRecDepth 100000 in
theorem d_Md_bind_46 : decode b_Md_bind 46 = .ok (.getfield 61, 3) := by decide +kernel
set_option maxRecDepth 100000 in
theorem d_Md_bind_49 : decode b_Md_bind 49 = .ok (.iload_n 1, 1) := by decide +kernel
set_option maxRecDepth 100000 in
theorem d_Md_bind_50 : decode b_Md_bind 50 = .ok (.iload_n 2, 1) := by decide +kernel
set_option maxRecDepth 100000 in
theorem d_Md_bind_51 : decode b_Md_bind 51 = .ok (.iastore, 1) := by decide +kernel
set_option maxRecDepth 100000 in
theorem d_Md_bind_52 : decode b_Md_bind 52 = .ok (.aload_n 0, 1) := by decide +kernel
set_option maxRecDepth 100000 in
theorem d_Md_bind_53 : decode b_Md_bind 53 = .ok (.getfield 64, 3) := by decide +kernel
set_option maxRecDepth 100000 in
theorem d_Md_bind_56 : decode b_Md_bind 56 = .ok (.iload_n 1, 1) := by decide +kernel
set_option maxRecDepth 100000 in
theorem d_Md_bind_57 : decode b_Md_bind 57 = .ok (.aload_n 0, 1) := by decide +kernel
set_option maxRecDepth 100000 in
theorem d_Md_bind_58 : decode b_Md_bind 58 = .ok (.invokevirtual 45, 3) := by decide +kernel
set_option maxRecDepth 100000 in
theorem d_Md_bind_61 : decode b_Md_bind 61 = .ok (.iastore, 1) := by decide +kernel
set_option maxRecDepth 100000 in
theorem d_Md_bind_62 : decode b_Md_bind 62 = .ok (.aload_n 0, 1) := by decide +kernel
set_option maxRecDepth 100000 in
theorem d_Md_bind_63 : decode b_Md_bind 63 = .ok (.getfield 67, 3) := by decide +kernel
set_option maxRecDepth 100000 in
theorem d_Md_bind_66 : decode b_Md_bind 66 = .ok (.iload_n 1, 1) := by decide +kernel
set_option maxRecDepth 100000 in
theorem d_Md_bind_67 : decode b_Md_bind 67 = .ok (.iconst 0, 1) := by decide +kernel
set_option maxRecDepth 100000 in
theorem d_Md_bind_68 : decode b_Md_bind 68 = .ok (.iastore, 1) := by decide +kernel
set_option maxRecDepth 100000 in
theorem d_Md_bind_69 : decode b_Md_bind 69 = .ok (.iconst 1, 1) := by decide +kernel
set_option maxRecDepth 100000 in
theorem d_Md_bind_70 : decode b_Md_bind 70 = .ok (.ireturn, 1) := by decide +kernel
set_option maxRecDepth 100000 in
theorem d_Md_boat_0 : decode b_Md_boat 0 = .ok (.iload_n 1, 1) := by decide +kernel
set_option maxRecDepth 100000 in
theorem d_Md_boat_1 : decode b_Md_boat 1 = .ok (.iconst 1, 1) := by decide +kernel
set_option maxRecDepth 100000 in
theorem d_Md_boat_2 : decode b_Md_boat 2 = .ok (.iconst 2, 1) := by decide +kernel
set_option maxRecDepth 100000 in
theorem d_Md_boat_3 : decode b_Md_boat 3 = .ok (.invokestatic 10, 3) := by decide +kernel
set_option maxRecDepth 100000 in
theorem d_Md_boat_6 : decode b_Md_boat 6 = .ok (.ifCond .eq 11, 3) := by decide +kernel
set_option maxRecDepth 100000 in
theorem d_Md_boat_9 : decode b_Md_boat 9 = .ok (.aload_n 0, 1) := by decide +kernel
set_option maxRecDepth 100000 in
theorem d_Md_boat_10 : decode b_Md_boat 10 = .ok (.iload_n 2, 1) := by decide +kernel
set_option maxRecDepth 100000 in
theorem d_Md_boat_11 : decode b_Md_boat 11 = .ok (.invokevirtual 199, 3) := by decide +kernel
set_option maxRecDepth 100000 in
theorem d_Md_boat_14 : decode b_Md_boat 14 = .ok (.ifCond .ne 5, 3) := by decide +kernel
set_option maxRecDepth 100000 in
theorem d_Md_boat_17 : decode b_Md_boat 17 = .ok (.iconst (-1), 1) := by decide +kernel
set_option maxRecDepth 100000 in
theorem d_Md_boat_18 : decode b_Md_boat 18 = .ok (.ireturn, 1) := by decide +kernel
set_option maxRecDepth 100000 in
theorem d_Md_boat_19 : decode b_Md_boat 19 = .ok (.aload_n 0, 1) := by decide +kernel
set_option maxRecDepth 100000 in
theorem d_Md_boat_20 : decode b_Md_boat 20 = .ok (.getfield 206, 3) := by decide +kernel
set_option maxRecDepth 100000 in
theorem d_Md_boat_23 : decode b_Md_boat 23 = .ok (.bipush 20, 2) := by decide +kernel
set_option maxRecDepth 100000 in
theorem d_Md_boat_25 : decode b_Md_boat 25 = .ok (.if_icmp .ne 6, 3) := by decide +kernel
set_option maxRecDepth 100000 in
theorem d_Md_boat_28 : decode b_Md_boat 28 = .ok (.bipush (-3), 2) := by decide +kernel
set_option maxRecDepth 100000 in
theorem d_Md_boat_30 : decode b_Md_boat 30 = .ok (.ireturn, 1) := by decide +kernel
set_option maxRecDepth 100000 in
theorem d_Md_boat_31 : decode b_Md_boat 31 = .ok (.aload_n 0, 1) := by decide +kernel
set_option maxRecDepth 100000 in
theorem d_Md_boat_32 : decode b_Md_boat 32 = .ok (.getfield 94, 3) := by decide +kernel
set_option maxRecDepth 100000 in
theorem d_Md_boat_35 : decode b_Md_boat 35 = .ok (.aload_n 0, 1) := by decide +kernel
set_option maxRecDepth 100000 in
theorem d_Md_boat_36 : decode b_Md_boat 36 = .ok (.getfield 206, 3) := by decide +kernel
set_option maxRecDepth 100000 in
theorem d_Md_boat_39 : decode b_Md_boat 39 = .ok (.iload_n 1, 1) := by decide +kernel
set_option maxRecDepth 100000 in
theorem d_Md_boat_40 : decode b_Md_boat 40 = .ok (.iastore, 1) := by decide +kernel
set_option maxRecDepth 100000 in
theorem d_Md_boat_41 : decode b_Md_boat 41 = .ok (.aload_n 0, 1) := by decide +kernel
set_option maxRecDepth 100000 in
theorem d_Md_boat_42 : decode b_Md_boat 42 = .ok (.getfield 97, 3) := by decide +kernel
set_option maxRecDepth 100000 in
theorem d_Md_boat_45 : decode b_Md_boat 45 = .ok (.aload_n 0, 1) := by decide +kernel
set_option maxRecDepth 100000 in
theorem d_Md_boat_46 : decode b_Md_boat 46 = .ok (.getfield 206, 3) := by decide +kernel
set_option maxRecDepth 100000 in
theorem d_Md_boat_49 : decode b_Md_boat 49 = .ok (.iload_n 2, 1) := by decide +kernel
set_option maxRecDepth 100000 in
theorem d_Md_boat_50 : decode b_Md_boat 50 = .ok (.iastore, 1) := by decide +kernel
set_option maxRecDepth 100000 in
theorem d_Md_boat_51 : decode b_Md_boat 51 = .ok (.aload_n 0, 1) := by decide +kernel
set_option maxRecDepth 100000 in
theorem d_Md_boat_52 : decode b_Md_boat 52 = .ok (.getfield 100, 3) := by decide +kernel
set_option maxRecDepth 100000 in
theorem d_Md_boat_55 : decode b_Md_boat 55 = .ok (.aload_n 0, 1) := by decide +kernel
set_option maxRecDepth 100000 in
theorem d_Md_boat_56 : decode b_Md_boat 56 = .ok (.getfield 206, 3) := by decide +kernel
set_option maxRecDepth 100000 in
theorem d_Md_boat_59 : decode b_Md_boat 59 = .ok (.iconst 0, 1) := by decide +kernel
set_option maxRecDepth 100000 in
theorem d_Md_boat_60 : decode b_Md_boat 60 = .ok (.iastore, 1) := by decide +kernel
set_option maxRecDepth 100000 in
theorem d_Md_boat_61 : decode b_Md_boat 61 = .ok (.aload_n 0, 1) := by decide +kernel
set_option maxRecDepth 100000 in
theorem d_Md_boat_62 : decode b_Md_boat 62 = .ok (.getfield 103, 3) := by decide +kernel
set_option maxRecDepth 100000 in
theorem d_Md_boat_65 : decode b_Md_boat 65 = .ok (.aload_n 0, 1) := by decide +kernel
set_option maxRecDepth 100000 in
theorem d_Md_boat_66 : decode b_Md_boat 66 = .ok (.getfield 206, 3) := by decide +kernel
set_option maxRecDepth 100000 in
theorem d_Md_boat_69 : decode b_Md_boat 69 = .ok (.iconst (-1), 1) := by decide +kernel
set_option maxRecDepth 100000 in
theorem d_Md_boat_70 : decode b_Md_boat 70 = .ok (.iastore, 1) := by decide +kernel
set_option maxRecDepth 100000 in
theorem d_Md_boat_71 : decode b_Md_boat 71 = .ok (.aload_n 0, 1) := by decide +kernel
set_option maxRecDepth 100000 in
theorem d_Md_boat_72 : decode b_Md_boat 72 = .ok (.dup, 1) := by decide +kernel
set_option maxRecDepth 100000 in
theorem d_Md_boat_73 : decode b_Md_boat 73 = .ok (.getfield 206, 3) := by decide +kernel
set_option maxRecDepth 100000 in
theorem d_Md_boat_76 : decode b_Md_boat 76 = .ok (.iconst 1, 1) := by decide +kernel
set_option maxRecDepth 100000 in
theorem d_Md_boat_77 : decode b_Md_boat 77 = .ok (.iadd, 1) := by decide +kernel
set_option maxRecDepth 100000 in
theorem d_Md_boat_78 : decode b_Md_boat 78 = .ok (.putfield 206, 3) := by decide +kernel
set_option maxRecDepth 100000 in
theorem d_Md_boat_81 : decode b_Md_boat 81 = .ok (.aload_n 0, 1) := by decide +kernel
set_option maxRecDepth 100000 in
theorem d_Md_boat_82 : decode b_Md_boat 82 = .ok (.getfield 206, 3) := by decide +kernel
set_option maxRecDepth 100000 in
theorem d_Md_boat_85 : decode b_Md_boat 85 = .ok (.iconst 1, 1) := by decide +kernel
set_option maxRecDepth 100000 in
theorem d_Md_boat_86 : decode b_Md_boat 86 = .ok (.isub, 1) := by decide +kernel
set_option maxRecDepth 100000 in
theorem d_Md_boat_87 : decode b_Md_boat 87 = .ok (.ireturn, 1) := by decide +kernel
set_option maxRecDepth 100000 in
theorem d_Md_bridge_0 : decode b_Md_bridge 0 = .ok (.iload_n 1, 1) := by decide +kernel
set_option maxRecDepth 100000 in
theorem d_Md_bridge_1 : decode b_Md_bridge 1 = .ok (.iconst (-1), 1) := by decide +kernel
set_option maxRecDepth 100000 in
theorem d_Md_bridge_2 : decode b_Md_bridge 2 = .ok (.if_icmp .eq 19, 3) := by decide +kernel
set_option maxRecDepth 100000 in
theorem d_Md_bridge_5 : decode b_Md_bridge 5 = .ok (.iload_n 1, 1) := by decide +kernel
set_option maxRecDepth 100000 in
theorem d_Md_bridge_6 : decode b_Md_bridge 6 = .ok (.iconst 0, 1) := by decide +kernel
set_option maxRecDepth 100000 in
theorem d_Md_bridge_7 : decode b_Md_bridge 7 = .ok (.aload_n 0, 1) := by decide +kernel
set_option maxRecDepth 100000 in
theorem d_Md_bridge_8 : decode b_Md_bridge 8 = .ok (.getfield 14, 3) := by decide +kernel
set_option maxRecDepth 100000 in
theorem d_Md_bridge_11 : decode b_Md_bridge 11 = .ok (.iconst 2, 1) := by decide +kernel
set_option maxRecDepth 100000 in
theorem d_Md_bridge_12 : decode b_Md_bridge 12 = .ok (.isub, 1) := by decide +kernel
set_option maxRecDepth 100000 in
theorem d_Md_bridge_13 : decode b_Md_bridge 13 = .ok (.invokestatic 10, 3) := by decide +kernel
set_option maxRecDepth 100000 in
theorem d_Md_bridge_16 : decode b_Md_bridge 16 = .ok (.ifCond .ne 5, 3) := by decide +kernel
set_option maxRecDepth 100000 in
theorem d_Md_bridge_19 : decode b_Md_bridge 19 = .ok (.iconst (-1), 1) := by decide +kernel
set_option maxRecDepth 100000 in
theorem d_Md_bridge_20 : decode b_Md_bridge 20 = .ok (.ireturn, 1) := by decide +kernel
set_option maxRecDepth 100000 in
theorem d_Md_bridge_21 : decode b_Md_bridge 21 = .ok (.aload_n 0, 1) := by decide +kernel
set_option maxRecDepth 100000 in
theorem d_Md_bridge_22 : decode b_Md_bridge 22 = .ok (.iload_n 1, 1) := by decide +kernel
set_option maxRecDepth 100000 in
theorem d_Md_bridge_23 : decode b_Md_bridge 23 = .ok (.putfield 35, 3) := by decide +kernel
set_option maxRecDepth 100000 in
theorem d_Md_bridge_26 : decode b_Md_bridge 26 = .ok (.iconst 1, 1) := by decide +kernel
set_option maxRecDepth 100000 in
theorem d_Md_bridge_27 : decode b_Md_bridge 27 = .ok (.ireturn, 1) := by decide +kernel
set_option maxRecDepth 100000 in
theorem d_Md_by_0 : decode b_Md_by 0 = .ok (.iload_n 0, 1) := by decide +kernel
set_option maxRecDepth 100000 in
theorem d_Md_by_1 : decode b_Md_by 1 = .ok (.i2l, 1) := by decide +kernel
set_option maxRecDepth 100000 in
theorem d_Md_by_2 : decode b_Md_by 2 = .ok (.iload_n 1, 1) := by decide +kernel
set_option maxRecDepth 100000 in
theorem d_Md_by_3 : decode b_Md_by 3 = .ok (.i2l, 1) := by decide +kernel
set_option maxRecDepth 100000 in
theorem d_Md_by_4 : decode b_Md_by 4 = .ok (.lmul, 1) := by decide +kernel
set_option maxRecDepth 100000 in
theorem d_Md_by_5 : decode b_Md_by 5 = .ok (.ldc2_w 284, 3) := by decide +kernel
set_option maxRecDepth 100000 in
theorem d_Md_by_8 : decode b_Md_by 8 = .ok (.ldiv, 1) := by decide +kernel
set_option maxRecDepth 100000 in
theorem d_Md_by_9 : decode b_Md_by 9 = .ok (.lstore_n 2, 1) := by decide +kernel
set_option maxRecDepth 100000 in
theorem d_Md_by_10 : decode b_Md_by 10 = .ok (.lload_n 2, 1) := by decide +kernel
set_option maxRecDepth 100000 in
theorem d_Md_by_11 : decode b_Md_by 11 = .ok (.ldc2_w 286, 3) := by decide +kernel
set_option maxRecDepth 100000 in
theorem d_Md_by_14 : decode b_Md_by 14 = .ok (.lcmp, 1) := by decide +kernel
set_option maxRecDepth 100000 in
theorem d_Md_by_15 : decode b_Md_by 15 = .ok (.ifCond .le 9, 3) := by decide +kernel
set_option maxRecDepth 100000 in
theorem d_Md_by_18 : decode b_Md_by 18 = .ok (.ldc_w 288, 3) := by decide +kernel
set_option maxRecDepth 100000 in
theorem d_Md_by_21 : decode b_Md_by 21 = .ok (.goto 5, 3) := by decide +kernel
set_option maxRecDepth 100000 in
theorem d_Md_by_24 : decode b_Md_by 24 = .ok (.lload_n 2, 1) := by decide +kernel
set_option maxRecDepth 100000 in
theorem d_Md_by_25 : decode b_Md_by 25 = .ok (.l2i, 1) := by decide +kernel
set_option maxRecDepth 100000 in
theorem d_Md_by_26 : decode b_Md_by 26 = .ok (.ireturn, 1) := by decide +kernel
set_option maxRecDepth 100000 in
theorem d_Md_count_0 : decode b_Md_count 0 = .ok (.iload_n 1, 1) := by decide +kernel
set_option maxRecDepth 100000 in
theorem d_Md_count_1 : decode b_Md_count 1 = .ok (.tableswitch 108 0 9 #[55, 60, 65, 70, 75, 80, 86, 92, 98, 103], 55) := by decide +kernel
set_option maxRecDepth 100000 in
theorem d_Md_count_56 : decode b_Md_count 56 = .ok (.aload_n 0, 1) := by decide +kernel
set_option maxRecDepth 100000 in
theorem d_Md_count_57 : decode b_Md_count 57 = .ok (.getfield 14, 3) := by decide +kernel
set_option maxRecDepth 100000 in
theorem d_Md_count_60 : decode b_Md_count 60 = .ok (.ireturn, 1) := by decide +kernel
set_option maxRecDepth 100000 in
theorem d_Md_count_61 : decode b_Md_count 61 = .ok (.aload_n 0, 1) := by decide +kernel
set_option maxRecDepth 100000 in
theorem d_Md_count_62 : decode b_Md_count 62 = .ok (.getfield 206, 3) := by decide +kernel
set_option maxRecDepth 100000 in
theorem d_Md_count_65 : decode b_Md_count 65 = .ok (.ireturn, 1) := by decide +kernel
set_option maxRecDepth 100000 in
theorem d_Md_count_66 : decode b_Md_count 66 = .ok (.aload_n 0, 1) := by decide +kernel
set_option maxRecDepth 100000 in
theorem d_Md_count_67 : decode b_Md_count 67 = .ok (.getfield 313, 3) := by decide +kernel
set_option maxRecDepth 100000 in
theorem d_Md_count_70 : decode b_Md_count 70 = .ok (.ireturn, 1) := by decide +kernel
set_option maxRecDepth 100000 in
theorem d_Md_count_71 : decode b_Md_count 71 = .ok (.aload_n 0, 1) := by decide +kernel
set_option maxRecDepth 100000 in
theorem d_Md_count_72 : decode b_Md_count 72 = .ok (.getfield 275, 3) := by decide +kernel
set_option maxRecDepth 100000 in
theorem d_Md_count_75 : decode b_Md_count 75 = .ok (.ireturn, 1) := by decide +kernel
set_option maxRecDepth 100000 in
theorem d_Md_count_76 : decode b_Md_count 76 = .ok (.aload_n 0, 1) := by decide +kernel
set_option maxRecDepth 100000 in
theorem d_Md_count_77 : decode b_Md_count 77 = .ok (.getfield 7, 3) := by decide +kernel
set_option maxRecDepth 100000 in
theorem d_Md_count_80 : decode b_Md_count 80 = .ok (.ireturn, 1) := by decide +kernel
set_option maxRecDepth 100000 in
theorem d_Md_count_81 : decode b_Md_count 81 = .ok (.aload_n 0, 1) := by decide +kernel
set_option maxRecDepth 100000 in
theorem d_Md_count_82 : decode b_Md_count 82 = .ok (.iconst 2, 1) := by decide +kernel
set_option maxRecDepth 100000 in
theorem d_Md_count_83 : decode b_Md_count 83 = .ok (.invokevirtual 348, 3) := by decide +kernel
set_option maxRecDepth 100000 in
theorem d_Md_count_86 : decode b_Md_count 86 = .ok (.ireturn, 1) := by decide +kernel
set_option maxRecDepth 100000 in
theorem d_Md_count_87 : decode b_Md_count 87 = .ok (.aload_n 0, 1) := by decide +kernel
set_option maxRecDepth 100000 in
theorem d_Md_count_88 : decode b_Md_count 88 = .ok (.iconst 1, 1) := by decide +kernel
set_option maxRecDepth 100000 in
theorem d_Md_count_89 : decode b_Md_count 89 = .ok (.invokevirtual 348, 3) := by decide +kernel
set_option maxRecDepth 100000 in
theorem d_Md_count_92 : decode b_Md_count 92 = .ok (.ireturn, 1) := by decide +kernel
set_option maxRecDepth 100000 in
theorem d_Md_count_93 : decode b_Md_count 93 = .ok (.aload_n 0, 1) := by decide +kernel
set_option maxRecDepth 100000 in
theorem d_Md_count_94 : decode b_Md_count 94 = .ok (.iconst 3, 1) := by decide +kernel
set_option maxRecDepth 100000 in
theorem d_Md_count_95 : decode b_Md_count 95 = .ok (.invokevirtual 348, 3) := by decide +kernel
set_option maxRecDepth 100000 in
theorem d_Md_count_98 : decode b_Md_count 98 = .ok (.ireturn, 1) := by decide +kernel
set_option maxRecDepth 100000 in
theorem d_Md_count_99 : decode b_Md_count 99 = .ok (.aload_n 0, 1) := by decide +kernel
set_option maxRecDepth 100000 in
theorem d_Md_count_100 : decode b_Md_count 100 = .ok (.getfield 323, 3) := by decide +kernel
set_option maxRecDepth 100000 in
theorem d_Md_count_103 : decode b_Md_count 103 = .ok (.ireturn, 1) := by decide +kernel
set_option maxRecDepth 100000 in
theorem d_Md_count_104 : decode b_Md_count 104 = .ok (.aload_n 0, 1) := by decide +kernel
set_option maxRecDepth 100000 in
theorem d_Md_count_105 : decode b_Md_count 105 = .ok (.getfield 212, 3) := by decide +kernel
set_option maxRecDepth 100000 in
theorem d_Md_count_108 : decode b_Md_count 108 = .ok (.ireturn, 1) := by decide +kernel
set_option maxRecDepth 100000 in
theorem d_Md_count_109 : decode b_Md_count 109 = .ok (.iconst (-1), 1) := by decide +kernel
set_option maxRecDepth 100000 in
theorem d_Md_count_110 : decode b_Md_count 110 = .ok (.ireturn, 1) := by decide +kernel
set_option maxRecDepth 100000 in
theorem d_Md_craft_0 : decode b_Md_craft 0 = .ok (.aload_n 0, 1) := by decide +kernel
set_option maxRecDepth 100000 in
theorem d_Md_craft_1 : decode b_Md_craft 1 = .ok (.iload_n 1, 1) := by decide +kernel
set_option maxRecDepth 100000 in
theorem d_Md_craft_2 : decode b_Md_craft 2 = .ok (.invokevirtual 209, 3) := by decide +kernel
set_option maxRecDepth 100000 in
theorem d_Md_craft_5 : decode b_Md_craft 5 = .ok (.ifCond .ne 5, 3) := by decide +kernel
set_option maxRecDepth 100000 in
theorem d_Md_craft_8 : decode b_Md_craft 8 = .ok (.iconst (-1), 1) := by decide +kernel
set_option maxRecDepth 100000 in
theorem d_Md_craft_9 : decode b_Md_craft 9 = .ok (.ireturn, 1) := by decide +kernel
set_option maxRecDepth 100000 in
theorem d_Md_craft_10 : decode b_Md_craft 10 = .ok (.iload_n 2, 1) := by decide +kernel
set_option maxRecDepth 100000 in
theorem d_Md_craft_11 : decode b_Md_craft 11 = .ok (.tableswitch 107 0 4 #[33, 40, 47, 54, 79], 33) := by decide +kernel
set_option maxRecDepth 100000 in
theorem d_Md_craft_44 : decode b_Md_craft 44 = .ok (.aload_n 0, 1) := by decide +kernel
set_option maxRecDepth 100000 in
theorem d_Md_craft_45 : decode b_Md_craft 45 = .ok (.getfield 97, 3) := by decide +kernel
set_option maxRecDepth 100000 in
theorem d_Md_craft_48 : decode b_Md_craft 48 = .ok (.iload_n 1, 1) := by decide +kernel
set_option maxRecDepth 100000 in
theorem d_Md_craft_49 : decode b_Md_craft 49 = .ok (.iaload, 1) := by decide +kernel
set_option maxRecDepth 100000 in
theorem d_Md_craft_50 : decode b_Md_craft 50 = .ok (.ireturn, 1) := by decide +kernel
set_option maxRecDepth 100000 in
theorem d_Md_craft_51 : decode b_Md_craft 51 = .ok (.aload_n 0, 1) := by decide +kernel
set_option maxRecDepth 100000 in
theorem d_Md_craft_52 : decode b_Md_craft 52 = .ok (.getfield 94, 3) := by decide +kernel
set_option maxRecDepth 100000 in
theorem d_Md_craft_55 : decode b_Md_craft 55 = .ok (.iload_n 1, 1) := by decide +kernel
set_option maxRecDepth 100000 in
theorem d_Md_craft_56 : decode b_Md_craft 56 = .ok (.iaload, 1) := by decide +kernel
set_option maxRecDepth 100000 in
theorem d_Md_craft_57 : decode b_Md_craft 57 = .ok (.ireturn, 1) := by decide +kernel
set_option maxRecDepth 100000 in
theorem d_Md_craft_58 : decode b_Md_craft 58 = .ok (.aload_n 0, 1) := by decide +kernel
set_option maxRecDepth 100000 in
theorem d_Md_craft_59 : decode b_Md_craft 59 = .ok (.getfield 100, 3) := by decide +kernel
set_option maxRecDepth 100000 in
theorem d_Md_craft_62 : decode b_Md_craft 62 = .ok (.iload_n 1, 1) := by decide +kernel
set_option maxRecDepth 100000 in
theorem d_Md_craft_63 : decode b_Md_craft 63 = .ok (.iaload, 1) := by decide +kernel
set_option maxRecDepth 100000 in
theorem d_Md_craft_64 : decode b_Md_craft 64 = .ok (.ireturn, 1) := by decide +kernel
set_option maxRecDepth 100000 in
theorem d_Md_craft_65 : decode b_Md_craft 65 = .ok (.aload_n 0, 1) := by decide +kernel
set_option maxRecDepth 100000 in
theorem d_Md_craft_66 : decode b_Md_craft 66 = .ok (.getfield 103, 3) := by decide +kernel
set_option maxRecDepth 100000 in
theorem d_Md_craft_69 : decode b_Md_craft 69 = .ok (.iload_n 1, 1) := by decide +kernel
set_option maxRecDepth 100000 in
theorem d_Md_craft_70 : decode b_Md_craft 70 = .ok (.iaload, 1) := by decide +kernel
set_option maxRecDepth 100000 in
theorem d_Md_craft_71 : decode b_Md_craft 71 = .ok (.ifCond .ge 7, 3) := by decide +kernel
set_option maxRecDepth 100000 in
theorem d_Md_craft_74 : decode b_Md_craft 74 = .ok (.iconst (-1), 1) := by decide +kernel
set_option maxRecDepth 100000 in
theorem d_Md_craft_75 : decode b_Md_craft 75 = .ok (.goto 14, 3) := by decide +kernel
set_option maxRecDepth 100000 in
theorem d_Md_craft_78 : decode b_Md_craft 78 = .ok (.aload_n 0, 1) := by decide +kernel
set_option maxRecDepth 100000 in
theorem d_Md_craft_79 : decode b_Md_craft 79 = .ok (.getfield 152, 3) := by decide +kernel
set_option maxRecDepth 100000 in
theorem d_Md_craft_82 : decode b_Md_craft 82 = .ok (.aload_n 0, 1) := by decide +kernel
set_option maxRecDepth 100000 in
theorem d_Md_craft_83 : decode b_Md_craft 83 = .ok (.getfield 103, 3) := by decide +kernel
set_option maxRecDepth 100000 in
theorem d_Md_craft_86 : decode b_Md_craft 86 = .ok (.iload_n 1, 1) := by decide +kernel
set_option maxRecDepth 100000 in
theorem d_Md_craft_87 : decode b_Md_craft 87 = .ok (.iaload, 1) := by decide +kernel
set_option maxRecDepth 100000 in
theorem d_Md_craft_88 : decode b_Md_craft 88 = .ok (.iaload, 1) := by decide +kernel
set_option maxRecDepth 100000 in
theorem d_Md_craft_89 : decode b_Md_craft 89 = .ok (.ireturn, 1) := by decide +kernel
set_option maxRecDepth 100000 in
theorem d_Md_craft_90 : decode b_Md_craft 90 = .ok (.aload_n 0, 1) := by decide +kernel
set_option maxRecDepth 100000 in
theorem d_Md_craft_91 : decode b_Md_craft 91 = .ok (.getfield 106, 3) := by decide +kernel
set_option maxRecDepth 100000 in
theorem d_Md_craft_94 : decode b_Md_craft 94 = .ok (.iload_n 1, 1) := by decide +kernel
set_option maxRecDepth 100000 in
theorem d_Md_craft_95 : decode b_Md_craft 95 = .ok (.baload, 1) := by decide +kernel
set_option maxRecDepth 100000 in
theorem d_Md_craft_96 : decode b_Md_craft 96 = .ok (.ifCond .eq 7, 3) := by decide +kernel
set_option maxRecDepth 100000 in
theorem d_Md_craft_99 : decode b_Md_craft 99 = .ok (.iconst 2, 1) := by decide +kernel
set_option maxRecDepth 100000 in
theorem d_Md_craft_100 : decode b_Md_craft 100 = .ok (.goto 17, 3) := by decide +kernel
set_option maxRecDepth 100000 in
theorem d_Md_craft_103 : decode b_Md_craft 103 = .ok (.aload_n 0, 1) := by decide +kernel
set_option maxRecDepth 100000 in
theorem d_Md_craft_104 : decode b_Md_craft 104 = .ok (.getfield 103, 3) := by decide +kernel
set_option maxRecDepth 100000 in
theorem d_Md_craft_107 : decode b_Md_craft 107 = .ok (.iload_n 1, 1) := by decide +kernel
set_option maxRecDepth 100000 in
theorem d_Md_craft_108 : decode b_Md_craft 108 = .ok (.iaload, 1) := by decide +kernel
set_option maxRecDepth 100000 in
theorem d_Md_craft_109 : decode b_Md_craft 109 = .ok (.ifCond .lt 7, 3) := by decide +kernel
set_option maxRecDepth 100000 in
theorem d_Md_craft_112 : decode b_Md_craft 112 = .ok (.iconst 1, 1) := by decide +kernel
set_option maxRecDepth 100000 in
theorem d_Md_craft_113 : decode b_Md_craft 113 = .ok (.goto 4, 3) := by decide +kernel
set_option maxRecDepth 100000 in
theorem d_Md_craft_116 : decode b_Md_craft 116 = .ok (.iconst 0, 1) := by decide +kernel
set_option maxRecDepth 100000 in
theorem d_Md_craft_117 : decode b_Md_craft 117 = .ok (.ireturn, 1) := by decide +kernel
set_option maxRecDepth 100000 in
theorem d_Md_craft_118 : decode b_Md_craft 118 = .ok (.iconst (-1), 1) := by decide +kernel
set_option maxRecDepth 100000 in
theorem d_Md_craft_119 : decode b_Md_craft 119 = .ok (.ireturn, 1) := by decide +kernel
set_option maxRecDepth 100000 in
theorem d_Md_due_0 : decode b_Md_due 0 = .ok (.iload_n 1, 1) := by decide +kernel
set_option maxRecDepth 100000 in
theorem d_Md_due_1 : decode b_Md_due 1 = .ok (.iconst 0, 1) := by decide +kernel
set_option maxRecDepth 100000 in
theorem d_Md_due_2 : decode b_Md_due 2 = .ok (.aload_n 0, 1) := by decide +kernel
set_option maxRecDepth 100000 in
theorem d_Md_due_3 : decode b_Md_due 3 = .ok (.getfield 313, 3) := by decide +kernel
set_option maxRecDepth 100000 in
theorem d_Md_due_6 : decode b_Md_due 6 = .ok (.iconst 1, 1) := by decide +kernel
set_option maxRecDepth 100000 in
theorem d_Md_due_7 : decode b_Md_due 7 = .ok (.isub, 1) := by decide +kernel
set_option maxRecDepth 100000 in
theorem d_Md_due_8 : decode b_Md_due 8 = .ok (.invokestatic 10, 3) := by decide +kernel
set_option maxRecDepth 100000 in
theorem d_Md_due_11 : decode b_Md_due 11 = .ok (.ifCond .eq 19, 3) := by decide +kernel
set_option maxRecDepth 100000 in
theorem d_Md_due_14 : decode b_Md_due 14 = .ok (.iload_n 2, 1) := by decide +kernel
set_option maxRecDepth 100000 in
theorem d_Md_due_15 : decode b_Md_due 15 = .ok (.invokestatic 38, 3) := by decide +kernel
set_option maxRecDepth 100000 in
theorem d_Md_due_18 : decode b_Md_due 18 = .ok (.ifCond .eq 12, 3) := by decide +kernel
set_option maxRecDepth 100000 in
theorem d_Md_due_21 : decode b_Md_due 21 = .ok (.aload_n 0, 1) := by decide +kernel
set_option maxRecDepth 100000 in
theorem d_Md_due_22 : decode b_Md_due 22 = .ok (.iload_n 1, 1) := by decide +kernel
set_option maxRecDepth 100000 in
theorem d_Md_due_23 : decode b_Md_due 23 = .ok (.iload_n 2, 1) := by decide +kernel
set_option maxRecDepth 100000 in
theorem d_Md_due_24 : decode b_Md_due 24 = .ok (.invokevirtual 345, 3) := by decide +kernel
set_option maxRecDepth 100000 in
theorem d_Md_due_27 : decode b_Md_due 27 = .ok (.goto 5, 3) := by decide +kernel
set_option maxRecDepth 100000 in
theorem d_Md_due_30 : decode b_Md_due 30 = .ok (.bipush (-2), 2) := by decide +kernel
set_option maxRecDepth 100000 in
theorem d_Md_due_32 : decode b_Md_due 32 = .ok (.ireturn, 1) := by decide +kernel
set_option maxRecDepth 100000 in
theorem d_Md_dueOf_0 : decode b_Md_dueOf 0 = .ok (.aload_n 0, 1) := by decide +kernel
set_option maxRecDepth 100000 in
theorem d_Md_dueOf_1 : decode b_Md_dueOf 1 = .ok (.getfield 161, 3) := by decide +kernel
set_option maxRecDepth 100000 in
theorem d_Md_dueOf_4 : decode b_Md_dueOf 4 = .ok (.iload_n 1, 1) := by decide +kernel
set_option maxRecDepth 100000 in
theorem d_Md_dueOf_5 : decode b_Md_dueOf 5 = .ok (.iaload, 1) := by decide +kernel
set_option maxRecDepth 100000 in
theorem d_Md_dueOf_6 : decode b_Md_dueOf 6 = .ok (.sipush 720, 3) := by decide +kernel
set_option maxRecDepth 100000 in
theorem d_Md_dueOf_9 : decode b_Md_dueOf 9 = .ok (.idiv, 1) := by decide +kernel
set_option maxRecDepth 100000 in
theorem d_Md_dueOf_10 : decode b_Md_dueOf 10 = .ok (.istore_n 3, 1) := by decide +kernel
set_option maxRecDepth 100000 in
theorem d_Md_dueOf_11 : decode b_Md_dueOf 11 = .ok (.aload_n 0, 1) := by decide +kernel
set_option maxRecDepth 100000 in
theorem d_Md_dueOf_12 : decode b_Md_dueOf 12 = .ok (.iload_n 3, 1) := by decide +kernel
set_option maxRecDepth 100000 in
theorem d_Md_dueOf_13 : decode b_Md_dueOf 13 = .ok (.iload_n 2, 1) := by decide +kernel
set_option maxRecDepth 100000 in
theorem d_Md_dueOf_14 : decode b_Md_dueOf 14 = .ok (.invokevirtual 281, 3) := by decide +kernel
set_option maxRecDepth 100000 in
theorem d_Md_dueOf_17 : decode b_Md_dueOf 17 = .ok (.istore 4, 2) := by decide +kernel
set_option maxRecDepth 100000 in
theorem d_Md_dueOf_19 : decode b_Md_dueOf 19 = .ok (.iload 4, 2) := by decide +kernel
set_option maxRecDepth 100000 in
theorem d_Md_dueOf_21 : decode b_Md_dueOf 21 = .ok (.ifCond .ge 7, 3) := by decide +kernel
set_option maxRecDepth 100000 in
theorem d_Md_dueOf_24 : decode b_Md_dueOf 24 = .ok (.iconst (-1), 1) := by decide +kernel
set_option maxRecDepth 100000 in
theorem d_Md_dueOf_25 : decode b_Md_dueOf 25 = .ok (.goto 46, 3) := by decide +kernel
set_option maxRecDepth 100000 in
theorem d_Md_dueOf_28 : decode b_Md_dueOf 28 = .ok (.aload_n 0, 1) := by decide +kernel
set_option maxRecDepth 100000 in
theorem d_Md_dueOf_29 : decode b_Md_dueOf 29 = .ok (.iload 4, 2) := by decide +kernel
set_option maxRecDepth 100000 in
theorem d_Md_dueOf_31 : decode b_Md_dueOf 31 = .ok (.aload_n 0, 1) := by decide +kernel
set_option maxRecDepth 100000 in
theorem d_Md_dueOf_32 : decode b_Md_dueOf 32 = .ok (.getfield 155, 3) := by decide +kernel
set_option maxRecDepth 100000 in
theorem d_Md_dueOf_35 : decode b_Md_dueOf 35 = .ok (.iload_n 1, 1) := by decide +kernel
set_option maxRecDepth 100000 in
theorem d_Md_dueOf_36 : decode b_Md_dueOf 36 = .ok (.iaload, 1) := by decide +kernel
set_option maxRecDepth 100000 in
theorem d_Md_dueOf_37 : decode b_Md_dueOf 37 = .ok (.aload_n 0, 1) := by decide +kernel
set_option maxRecDepth 100000 in
theorem d_Md_dueOf_38 : decode b_Md_dueOf 38 = .ok (.getfield 158, 3) := by decide +kernel
set_option maxRecDepth 100000 in
theorem d_Md_dueOf_41 : decode b_Md_dueOf 41 = .ok (.iload_n 1, 1) := by decide +kernel
set_option maxRecDepth 100000 in
theorem d_Md_dueOf_42 : decode b_Md_dueOf 42 = .ok (.iaload, 1) := by decide +kernel
set_option maxRecDepth 100000 in
theorem d_Md_dueOf_43 : decode b_Md_dueOf 43 = .ok (.iload_n 3, 1) := by decide +kernel
set_option maxRecDepth 100000 in
theorem d_Md_dueOf_44 : decode b_Md_dueOf 44 = .ok (.aload_n 0, 1) := by decide +kernel
set_option maxRecDepth 100000 in
theorem d_Md_dueOf_45 : decode b_Md_dueOf 45 = .ok (.getfield 161, 3) := by decide +kernel
set_option maxRecDepth 100000 in
theorem d_Md_dueOf_48 : decode b_Md_dueOf 48 = .ok (.iload_n 1, 1) := by decide +kernel
set_option maxRecDepth 100000 in
theorem d_Md_dueOf_49 : decode b_Md_dueOf 49 = .ok (.iaload, 1) := by decide +kernel
set_option maxRecDepth 100000 in
theorem d_Md_dueOf_50 : decode b_Md_dueOf 50 = .ok (.sipush 720, 3) := by decide +kernel
set_option maxRecDepth 100000 in
theorem d_Md_dueOf_53 : decode b_Md_dueOf 53 = .ok (.irem, 1) := by decide +kernel
set_option maxRecDepth 100000 in
theorem d_Md_dueOf_54 : decode b_Md_dueOf 54 = .ok (.bipush 60, 2) := by decide +kernel
set_option maxRecDepth 100000 in
theorem d_Md_dueOf_56 : decode b_Md_dueOf 56 = .ok (.idiv, 1) := by decide +kernel
set_option maxRecDepth 100000 in
theorem d_Md_dueOf_57 : decode b_Md_dueOf 57 = .ok (.aload_n 0, 1) := by decide +kernel
set_option maxRecDepth 100000 in
theorem d_Md_dueOf_58 : decode b_Md_dueOf 58 = .ok (.getfield 94, 3) := by decide +kernel
set_option maxRecDepth 100000 in
theorem d_Md_dueOf_61 : decode b_Md_dueOf 61 = .ok (.aload_n 0, 1) := by decide +kernel
set_option maxRecDepth 100000 in
theorem d_Md_dueOf_62 : decode b_Md_dueOf 62 = .ok (.getfield 149, 3) := by decide +kernel
set_option maxRecDepth 100000 in
theorem d_Md_dueOf_65 : decode b_Md_dueOf 65 = .ok (.iload_n 1, 1) := by decide +kernel
set_option maxRecDepth 100000 in
theorem d_Md_dueOf_66 : decode b_Md_dueOf 66 = .ok (.iaload, 1) := by decide +kernel
set_option maxRecDepth 100000 in
theorem d_Md_dueOf_67 : decode b_Md_dueOf 67 = .ok (.iaload, 1) := by decide +kernel
set_option maxRecDepth 100000 in
theorem d_Md_dueOf_68 : decode b_Md_dueOf 68 = .ok (.invokevirtual 295, 3) := by decide +kernel
set_option maxRecDepth 100000 in
theorem d_Md_dueOf_71 : decode b_Md_dueOf 71 = .ok (.istore 5, 2) := by decide +kernel
set_option maxRecDepth 100000 in
theorem d_Md_dueOf_73 : decode b_Md_dueOf 73 = .ok (.iload 5, 2) := by decide +kernel
set_option maxRecDepth 100000 in
theorem d_Md_dueOf_75 : decode b_Md_dueOf 75 = .ok (.ifCond .ge 7, 3) := by decide +kernel
set_option maxRecDepth 100000 in
theorem d_Md_dueOf_78 : decode b_Md_dueOf 78 = .ok (.iconst (-1), 1) := by decide +kernel
set_option maxRecDepth 100000 in
theorem d_Md_dueOf_79 : decode b_Md_dueOf 79 = .ok (.goto 5, 3) := by decide +kernel
set_option maxRecDepth 100000 in
theorem d_Md_dueOf_82 : decode b_Md_dueOf 82 = .ok (.iload 5, 2) := by decide +kernel
set_option maxRecDepth 100000 in
theorem d_Md_dueOf_84 : decode b_Md_dueOf 84 = .ok (.ireturn, 1) := by decide +kernel
set_option maxRecDepth 100000 in
theorem d_Md_end_0 : decode b_Md_end 0 = .ok (.iload_n 1, 1) := by decide +kernel
set_option maxRecDepth 100000 in
theorem d_Md_end_1 : decode b_Md_end 1 = .ok (.iconst 0, 1) := by decide +kernel
set_option maxRecDepth 100000 in
theorem d_Md_end_2 : decode b_Md_end 2 = .ok (.aload_n 0, 1) := by decide +kernel
set_option maxRecDepth 100000 in
theorem d_Md_end_3 : decode b_Md_end 3 = .ok (.getfield 212, 3) := by decide +kernel
set_option maxRecDepth 100000 in
theorem d_Md_end_6 : decode b_Md_end 6 = .ok (.invokestatic 10, 3) := by decide +kernel
set_option maxRecDepth 100000 in
theorem d_Md_end_9 : decode b_Md_end 9 = .ok (.ifCond .ne 5, 3) := by decide +kernel
set_option maxRecDepth 100000 in
theorem d_Md_end_12 : decode b_Md_end 12 = .ok (.iconst (-1), 1) := by decide +kernel
set_option maxRecDepth 100000 in
theorem d_Md_end_13 : decode b_Md_end 13 = .ok (.ireturn, 1) := by decide +kernel
set_option maxRecDepth 100000 in
theorem d_Md_end_14 : decode b_Md_end 14 = .ok (.aload_n 0, 1) := by decide +kernel
set_option maxRecDepth 100000 in
theorem d_Md_end_15 : decode b_Md_end 15 = .ok (.iload_n 1, 1) := by decide +kernel
set_option maxRecDepth 100000 in
theorem d_Md_end_16 : decode b_Md_end 16 = .ok (.putfield 212, 3) := by decide +kernel
set_option maxRecDepth 100000 in
theorem d_Md_end_19 : decode b_Md_end 19 = .ok (.iload_n 1, 1) := by decide +kernel
set_option maxRecDepth 100000 in
theorem d_Md_end_20 : decode b_Md_end 20 = .ok (.ireturn, 1) := by decide +kernel
set_option maxRecDepth 100000 in
theorem d_Md_fare_0 : decode b_Md_fare 0 = .ok (.iload_n 1, 1) := by decide +kernel
set_option maxRecDepth 100000 in
theorem d_Md_fare_1 : decode b_Md_fare 1 = .ok (.iconst 0, 1) := by decide +kernel
set_option maxRecDepth 100000 in
theorem d_Md_fare_2 : decode b_Md_fare 2 = .ok (.aload_n 0, 1) := by decide +kernel
set_option maxRecDepth 100000 in
theorem d_Md_fare_3 : decode b_Md_fare 3 = .ok (.getfield 275, 3) := by decide +kernel
set_option maxRecDepth 100000 in
theorem d_Md_fare_6 : decode b_Md_fare 6 = .ok (.iconst 1, 1) := by decide +kernel
set_option maxRecDepth 100000 in
theorem d_Md_fare_7 : decode b_Md_fare 7 = .ok (.isub, 1) := by decide +kernel
set_option maxRecDepth 100000 in
theorem d_Md_fare_8 : decode b_Md_fare 8 = .ok (.invokestatic 10, 3) := by decide +kernel
set_option maxRecDepth 100000 in
theorem d_Md_fare_11 : decode b_Md_fare 11 = .ok (.ifCond .eq 46, 3) := by decide +kernel
set_option maxRecDepth 100000 in
theorem d_Md_fare_14 : decode b_Md_fare 14 = .ok (.aload_n 0, 1) := by decide +kernel
set_option maxRecDepth 100000 in
theorem d_Md_fare_15 : decode b_Md_fare 15 = .ok (.iload_n 2, 1) := by decide +kernel
set_option maxRecDepth 100000 in
theorem d_Md_fare_16 : decode b_Md_fare 16 = .ok (.invokevirtual 199, 3) := by decide +kernel
set_option maxRecDepth 100000 in
theorem d_Md_fare_19 : decode b_Md_fare 19 = .ok (.ifCond .eq 38, 3) := by decide +kernel
set_option maxRecDepth 100000 in
theorem d_Md_fare_22 : decode b_Md_fare 22 = .ok (.aload_n 0, 1) := by decide +kernel
set_option maxRecDepth 100000 in
theorem d_Md_fare_23 : decode b_Md_fare 23 = .ok (.iload_n 3, 1) := by decide +kernel
set_option maxRecDepth 100000 in
theorem d_Md_fare_24 : decode b_Md_fare 24 = .ok (.invokevirtual 199, 3) := by decide +kernel
set_option maxRecDepth 100000 in
theorem d_Md_fare_27 : decode b_Md_fare 27 = .ok (.ifCond .eq 30, 3) := by decide +kernel
set_option maxRecDepth 100000 in
theorem d_Md_fare_30 : decode b_Md_fare 30 = .ok (.iload_n 2, 1) := by decide +kernel
set_option maxRecDepth 100000 in
theorem d_Md_fare_31 : decode b_Md_fare 31 = .ok (.iload_n 3, 1) := by decide +kernel
set_option maxRecDepth 100000 in
theorem d_Md_fare_32 : decode b_Md_fare 32 = .ok (.if_icmp .eq 25, 3) := by decide +kernel
set_option maxRecDepth 100000 in
theorem d_Md_fare_35 : decode b_Md_fare 35 = .ok (.iload 4, 2) := by decide +kernel
set_option maxRecDepth 100000 in
theorem d_Md_fare_37 : decode b_Md_fare 37 = .ok (.iconst 0, 1) := by decide +kernel
set_option maxRecDepth 100000 in
theorem d_Md_fare_38 : decode b_Md_fare 38 = .ok (.sipush 5999, 3) := by decide +kernel
set_option maxRecDepth 100000 in
theorem d_Md_fare_41 : decode b_Md_fare 41 = .ok (.invokestatic 10, 3) := by decide +kernel
set_option maxRecDepth 100000 in
theorem d_Md_fare_44 : decode b_Md_fare 44 = .ok (.ifCond .eq 13, 3) := by decide +kernel
set_option maxRecDepth 100000 in
theorem d_Md_fare_47 : decode b_Md_fare 47 = .ok (.iload 5, 2) := by decide +kernel
set_option maxRecDepth 100000 in
theorem d_Md_fare_49 : decode b_Md_fare 49 = .ok (.iconst 1, 1) := by decide +kernel
set_option maxRecDepth 100000 in
theorem d_Md_fare_50 : decode b_Md_fare 50 = .ok (.iconst 2, 1) := by decide +kernel
set_option maxRecDepth 100000 in
theorem d_Md_fare_51 : decode b_Md_fare 51 = .ok (.invokestatic 10, 3) := by decide +kernel
set_option maxRecDepth 100000 in
theorem d_Md_fare_54 : decode b_Md_fare 54 = .ok (.ifCond .ne 5, 3) := by decide +kernel
set_option maxRecDepth 100000 in
theorem d_Md_fare_57 : decode b_Md_fare 57 = .ok (.iconst (-1), 1) := by decide +kernel
set_option maxRecDepth 100000 in
theorem d_Md_fare_58 : decode b_Md_fare 58 = .ok (.ireturn, 1) := by decide +kernel
set_option maxRecDepth 100000 in
theorem d_Md_fare_59 : decode b_Md_fare 59 = .ok (.aload_n 0, 1) := by decide +kernel
set_option maxRecDepth 100000 in
theorem d_Md_fare_60 : decode b_Md_fare 60 = .ok (.iload_n 1, 1) := by decide +kernel
set_option maxRecDepth 100000 in
theorem d_Md_fare_61 : decode b_Md_fare 61 = .ok (.iload_n 2, 1) := by decide +kernel
set_option maxRecDepth 100000 in
theorem d_Md_fare_62 : decode b_Md_fare 62 = .ok (.iload_n 3, 1) := by decide +kernel
set_option maxRecDepth 100000 in
theorem d_Md_fare_63 : decode b_Md_fare 63 = .ok (.iload 4, 2) := by decide +kernel
set_option maxRecDepth 100000 in
theorem d_Md_fare_65 : decode b_Md_fare 65 = .ok (.bipush 12, 2) := by decide +kernel
set_option maxRecDepth 100000 in
theorem d_Md_fare_67 : decode b_Md_fare 67 = .ok (.idiv, 1) := by decide +kernel
set_option maxRecDepth 100000 in
theorem d_Md_fare_68 : decode b_Md_fare 68 = .ok (.iload 4, 2) := by decide +kernel
set_option maxRecDepth 100000 in
theorem d_Md_fare_70 : decode b_Md_fare 70 = .ok (.bipush 12, 2) := by decide +kernel
set_option maxRecDepth 100000 in
theorem d_Md_fare_72 : decode b_Md_fare 72 = .ok (.irem, 1) := by decide +kernel
set_option maxRecDepth 100000 in
theorem d_Md_fare_73 : decode b_Md_fare 73 = .ok (.iload 5, 2) := by decide +kernel
set_option maxRecDepth 100000 in
theorem d_Md_fare_75 : decode b_Md_fare 75 = .ok (.invokevirtual 295, 3) := by decide +kernel
set_option maxRecDepth 100000 in
theorem d_Md_fare_78 : decode b_Md_fare 78 = .ok (.ireturn, 1) := by decide +kernel
set_option maxRecDepth 100000 in
theorem d_Md_fareOf_0 : decode b_Md_fareOf 0 = .ok (.aload_n 0, 1) := by decide +kernel
set_option maxRecDepth 100000 in
theorem d_Md_fareOf_1 : decode b_Md_fareOf 1 = .ok (.getfield 32, 3) := by decide +kernel
set_option maxRecDepth 100000 in
theorem d_Md_fareOf_4 : decode b_Md_fareOf 4 = .ok (.iload_n 3, 1) := by decide +kernel
set_option maxRecDepth 100000 in
theorem d_Md_fareOf_5 : decode b_Md_fareOf 5 = .ok (.iaload, 1) := by decide +kernel
set_option maxRecDepth 100000 in
theorem d_Md_fareOf_6 : decode b_Md_fareOf 6 = .ok (.aload_n 0, 1) := by decide +kernel
set_option maxRecDepth 100000 in
theorem d_Md_fareOf_7 : decode b_Md_fareOf 7 = .ok (.getfield 32, 3) := by decide +kernel
set_option maxRecDepth 100000 in
theorem d_Md_fareOf_10 : decode b_Md_fareOf 10 = .ok (.iload_n 2, 1) := by decide +kernel
set_option maxRecDepth 100000 in
theorem d_Md_fareOf_11 : decode b_Md_fareOf 11 = .ok (.iaload, 1) := by decide +kernel
set_option maxRecDepth 100000 in
theorem d_Md_fareOf_12 : decode b_Md_fareOf 12 = .ok (.isub, 1) := by decide +kernel
set_option maxRecDepth 100000 in
theorem d_Md_fareOf_13 : decode b_Md_fareOf 13 = .ok (.istore 7, 2) := by decide +kernel
set_option maxRecDepth 100000 in
theorem d_Md_fareOf_15 : decode b_Md_fareOf 15 = .ok (.iload 7, 2) := by decide +kernel
set_option maxRecDepth 100000 in
theorem d_Md_fareOf_17 : decode b_Md_fareOf 17 = .ok (.ifCond .le 7, 3) := by decide +kernel
set_option maxRecDepth 100000 in
theorem d_Md_fareOf_20 : decode b_Md_fareOf 20 = .ok (.iconst 1, 1) := by decide +kernel
set_option maxRecDepth 100000 in
theorem d_Md_fareOf_21 : decode b_Md_fareOf 21 = .ok (.goto 4, 3) := by decide +kernel
set_option maxRecDepth 100000 in
theorem d_Md_fareOf_24 : decode b_Md_fareOf 24 = .ok (.iconst 0, 1) := by decide +kernel
set_option maxRecDepth 100000 in
theorem d_Md_fareOf_25 : decode b_Md_fareOf 25 = .ok (.istore 8, 2) := by decide +kernel
set_option maxRecDepth 100000 in
theorem d_Md_fareOf_27 : decode b_Md_fareOf 27 = .ok (.iload 8, 2) := by decide +kernel
set_option maxRecDepth 100000 in
theorem d_Md_fareOf_29 : decode b_Md_fareOf 29 = .ok (.ifCond .eq 8, 3) := by decide +kernel
set_option maxRecDepth 100000 in
theorem d_Md_fareOf_32 : decode b_Md_fareOf 32 = .ok (.iload 7, 2) := by decide +kernel
set_option maxRecDepth 100000 in
theorem d_Md_fareOf_34 : decode b_Md_fareOf 34 = .ok (.goto 6, 3) := by decide +kernel
set_option maxRecDepth 100000 in
theorem d_Md_fareOf_37 : decode b_Md_fareOf 37 = .ok (.iload 7, 2) := by decide +kernel
set_option maxRecDepth 100000 in
theorem d_Md_fareOf_39 : decode b_Md_fareOf 39 = .ok (.ineg, 1) := by decide +kernel
set_option maxRecDepth 100000 in
theorem d_Md_fareOf_40 : decode b_Md_fareOf 40 = .ok (.istore 7, 2) := by decide +kernel
set_option maxRecDepth 100000 in
theorem d_Md_fareOf_42 : decode b_Md_fareOf 42 = .ok (.iconst (-1), 1) := by decide +kernel
set_option maxRecDepth 100000 in
theorem d_Md_fareOf_43 : decode b_Md_fareOf 43 = .ok (.istore 9, 2) := by decide +kernel
set_option maxRecDepth 100000 in
theorem d_Md_fareOf_45 : decode b_Md_fareOf 45 = .ok (.iconst 0, 1) := by decide +kernel
set_option maxRecDepth 100000 in
theorem d_Md_fareOf_46 : decode b_Md_fareOf 46 = .ok (.istore 10, 2) := by decide +kernel
set_option maxRecDepth 100000 in
theorem d_Md_fareOf_48 : decode b_Md_fareOf 48 = .ok (.iload 10, 2) := by decide +kernel
set_option maxRecDepth 100000 in
theorem d_Md_fareOf_50 : decode b_Md_fareOf 50 = .ok (.aload_n 0, 1) := by decide +kernel
set_option maxRecDepth 100000 in
theorem d_Md_fareOf_51 : decode b_Md_fareOf 51 = .ok (.getfield 119, 3) := by decide +kernel
set_option maxRecDepth 100000 in
theorem d_Md_fareOf_54 : decode b_Md_fareOf 54 = .ok (.iload_n 1, 1) := by decide +kernel
set_option maxRecDepth 100000 in
theorem d_Md_fareOf_55 : decode b_Md_fareOf 55 = .ok (.iaload, 1) := by decide +kernel
set_option maxRecDepth 100000 in
theorem d_Md_fareOf_56 : decode b_Md_fareOf 56 = .ok (.if_icmp .ge 60, 3) := by decide +kernel
set_option maxRecDepth 100000 in
theorem d_Md_fareOf_59 : decode b_Md_fareOf 59 = .ok (.iload 9, 2) := by decide +kernel
set_option maxRecDepth 100000 in
theorem d_Md_fareOf_61 : decode b_Md_fareOf 61 = .ok (.ifCond .ge 55, 3) := by decide +kernel
set_option maxRecDepth 100000 in
theorem d_Md_fareOf_64 : decode b_Md_fareOf 64 = .ok (.iload 7, 2) := by decide +kernel
set_option maxRecDepth 100000 in
theorem d_Md_fareOf_66 : decode b_Md_fareOf 66 = .ok (.aload_n 0, 1) := by decide +kernel
set_option maxRecDepth 100000 in
theorem d_Md_fareOf_67 : decode b_Md_fareOf 67 = .ok (.getfield 122, 3) := by decide +kernel
set_option maxRecDepth 100000 in
theorem d_Md_fareOf_70 : decode b_Md_fareOf 70 = .ok (.bipush 12, 2) := by decide +kernel
set_option maxRecDepth 100000 in
theorem d_Md_fareOf_72 : decode b_Md_fareOf 72 = .ok (.iload_n 1, 1) := by decide +kernel
set_option maxRecDepth 100000 in
theorem d_Md_fareOf_73 : decode b_Md_fareOf 73 = .ok (.imul, 1) := by decide +kernel
set_option maxRecDepth 100000 in
theorem d_Md_fareOf_74 : decode b_Md_fareOf 74 = .ok (.iload 10, 2) := by decide +kernel
set_option maxRecDepth 100000 in
theorem d_Md_fareOf_76 : decode b_Md_fareOf 76 = .ok (.iadd, 1) := by decide +kernel
set_option maxRecDepth 100000 in
theorem d_Md_fareOf_77 : decode b_Md_fareOf 77 = .ok (.iaload, 1) := by decide +kernel
set_option maxRecDepth 100000 in
theorem d_Md_fareOf_78 : decode b_Md_fareOf 78 = .ok (.aload_n 0, 1) := by decide +kernel
set_option maxRecDepth 100000 in
theorem d_Md_fareOf_79 : decode b_Md_fareOf 79 = .ok (.getfield 125, 3) := by decide +kernel
set_option maxRecDepth 100000 in
theorem d_Md_fareOf_82 : decode b_Md_fareOf 82 = .ok (.bipush 12, 2) := by decide +kernel
set_option maxRecDepth 100000 in
theorem d_Md_fareOf_84 : decode b_Md_fareOf 84 = .ok (.iload_n 1, 1) := by decide +kernel
set_option maxRecDepth 100000 in
theorem d_Md_fareOf_85 : decode b_Md_fareOf 85 = .ok (.imul, 1) := by decide +kernel
set_option maxRecDepth 100000 in
theorem d_Md_fareOf_86 : decode b_Md_fareOf 86 = .ok (.iload 10, 2) := by decide +kernel
set_option maxRecDepth 100000 in
theorem d_Md_fareOf_88 : decode b_Md_fareOf 88 = .ok (.iadd, 1) := by decide +kernel
set_option maxRecDepth 100000 in
theorem d_Md_fareOf_89 : decode b_Md_fareOf 89 = .ok (.iaload, 1) := by decide +kernel
set_option maxRecDepth 100000 in
theorem d_Md_fareOf_90 : decode b_Md_fareOf 90 = .ok (.invokestatic 10, 3) := by decide +kernel
set_option maxRecDepth 100000 in
theorem d_Md_fareOf_93 : decode b_Md_fareOf 93 = .ok (.ifCond .eq 17, 3) := by decide +kernel
set_option maxRecDepth 100000 in
theorem d_Md_fareOf_96 : decode b_Md_fareOf 96 = .ok (.aload_n 0, 1) := by decide +kernel
set_option maxRecDepth 100000 in
theorem d_Md_fareOf_97 : decode b_Md_fareOf 97 = .ok (.getfield 128, 3) := by decide +kernel
set_option maxRecDepth 100000 in
theorem d_Md_fareOf_100 : decode b_Md_fareOf 100 = .ok (.bipush 12, 2) := by decide +kernel
set_option maxRecDepth 100000 in
theorem d_Md_fareOf_102 : decode b_Md_fareOf 102 = .ok (.iload_n 1, 1) := by decide +kernel
set_option maxRecDepth 100000 in
theorem d_Md_fareOf_103 : decode b_Md_fareOf 103 = .ok (.imul, 1) := by decide +kernel
set_option maxRecDepth 100000 in
theorem d_Md_fareOf_104 : decode b_Md_fareOf 104 = .ok (.iload 10, 2) := by decide +kernel
set_option maxRecDepth 100000 in
theorem d_Md_fareOf_106 : decode b_Md_fareOf 106 = .ok (.iadd, 1) := by decide +kernel
set_option maxRecDepth 100000 in
theorem d_Md_fareOf_107 : decode b_Md_fareOf 107 = .ok (.iaload, 1) := by decide +kernel
set_option maxRecDepth 100000 in
theorem d_Md_fareOf_108 : decode b_Md_fareOf 108 = .ok (.istore 9, 2) := by decide +kernel
set_option maxRecDepth 100000 in
theorem d_Md_fareOf_110 : decode b_Md_fareOf 110 = .ok (.iinc 10 1, 3) := by decide +kernel
set_option maxRecDepth 100000 in
theorem d_Md_fareOf_113 : decode b_Md_fareOf 113 = .ok (.goto (-65), 3) := by decide +kernel
set_option maxRecDepth 100000 in
theorem d_Md_fareOf_116 : decode b_Md_fareOf 116 = .ok (.iload 9, 2) := by decide +kernel
set_option maxRecDepth 100000 in
theorem d_Md_fareOf_118 : decode b_Md_fareOf 118 = .ok (.ifCond .ge 6, 3) := by decide +kernel
set_option maxRecDepth 100000 in
theorem d_Md_fareOf_121 : decode b_Md_fareOf 121 = .ok (.bipush (-2), 2) := by decide +kernel
set_option maxRecDepth 100000 in
theorem d_Md_fareOf_123 : decode b_Md_fareOf 123 = .ok (.ireturn, 1) := by decide +kernel
set_option maxRecDepth 100000 in
theorem d_Md_fareOf_124 : decode b_Md_fareOf 124 = .ok (.aload_n 0, 1) := by decide +kernel
set_option maxRecDepth 100000 in
theorem d_Md_fareOf_125 : decode b_Md_fareOf 125 = .ok (.iload 4, 2) := by decide +kernel
set_option maxRecDepth 100000 in
theorem d_Md_fareOf_127 : decode b_Md_fareOf 127 = .ok (.iload 5, 2) := by decide +kernel
set_option maxRecDepth 100000 in
theorem d_Md_fareOf_129 : decode b_Md_fareOf 129 = .ok (.invokevirtual 42, 3) := by decide +kernel
set_option maxRecDepth 100000 in
theorem d_Md_fareOf_132 : decode b_Md_fareOf 132 = .ok (.istore 10, 2) := by decide +kernel
set_option maxRecDepth 100000 in
theorem d_Md_fareOf_134 : decode b_Md_fareOf 134 = .ok (.iload 10, 2) := by decide +kernel
set_option maxRecDepth 100000 in
theorem d_Md_fareOf_136 : decode b_Md_fareOf 136 = .ok (.ifCond .ne 7, 3) := by decide +kernel
set_option maxRecDepth 100000 in
theorem d_Md_fareOf_139 : decode b_Md_fareOf 139 = .ok (.iconst 0, 1) := by decide +kernel
set_option maxRecDepth 100000 in
theorem d_Md_fareOf_140 : decode b_Md_fareOf 140 = .ok (.goto 25, 3) := by decide +kernel
set_option maxRecDepth 100000 in
theorem d_Md_fareOf_143 : decode b_Md_fareOf 143 = .ok (.iload 10, 2) := by decide +kernel
set_option maxRecDepth 100000 in
theorem d_Md_fareOf_145 : decode b_Md_fareOf 145 = .ok (.ifCond .le 7, 3) := by decide +kernel
set_option maxRecDepth 100000 in
theorem d_Md_fareOf_148 : decode b_Md_fareOf 148 = .ok (.iconst 1, 1) := by decide +kernel
set_option maxRecDepth 100000 in
theorem d_Md_fareOf_149 : decode b_Md_fareOf 149 = .ok (.goto 4, 3) := by decide +kernel
set_option maxRecDepth 100000 in
theorem d_Md_fareOf_152 : decode b_Md_fareOf 152 = .ok (.iconst 0, 1) := by decide +kernel
set_option maxRecDepth 100000 in
theorem d_Md_fareOf_153 : decode b_Md_fareOf 153 = .ok (.iload 8, 2) := by decide +kernel
set_option maxRecDepth 100000 in
theorem d_Md_fareOf_155 : decode b_Md_fareOf 155 = .ok (.if_icmp .ne 8, 3) := by decide +kernel
set_option maxRecDepth 100000 in
theorem d_Md_fareOf_158 : decode b_Md_fareOf 158 = .ok (.bipush 12, 2) := by decide +kernel
set_option maxRecDepth 100000 in
theorem d_Md_fareOf_160 : decode b_Md_fareOf 160 = .ok (.goto 5, 3) := by decide +kernel
set_option maxRecDepth 100000 in
theorem d_Md_fareOf_163 : decode b_Md_fareOf 163 = .ok (.bipush 13, 2) := by decide +kernel
set_option maxRecDepth 100000 in
theorem d_Md_fareOf_165 : decode b_Md_fareOf 165 = .ok (.istore 11, 2) := by decide +kernel
set_option maxRecDepth 100000 in
theorem d_Md_fareOf_167 : decode b_Md_fareOf 167 = .ok (.iload 11, 2) := by decide +kernel
set_option maxRecDepth 100000 in
theorem d_Md_fareOf_169 : decode b_Md_fareOf 169 = .ok (.ifCond .le 27, 3) := by decide +kernel
set_option maxRecDepth 100000 in
theorem d_Md_fareOf_172 : decode b_Md_fareOf 172 = .ok (.aload_n 0, 1) := by decide +kernel
set_option maxRecDepth 100000 in
theorem d_Md_fareOf_173 : decode b_Md_fareOf 173 = .ok (.iload_n 1, 1) := by decide +kernel
set_option maxRecDepth 100000 in
theorem d_Md_fareOf_174 : decode b_Md_fareOf 174 = .ok (.iload 11, 2) := by decide +kernel
set_option maxRecDepth 100000 in
theorem d_Md_fareOf_176 : decode b_Md_fareOf 176 = .ok (.invokevirtual 289, 3) := by decide +kernel
set_option maxRecDepth 100000 in
theorem d_Md_fareOf_179 : decode b_Md_fareOf 179 = .ok (.ifCond .lt 17, 3) := by decide +kernel
set_option maxRecDepth 100000 in
theorem d_Md_fareOf_182 : decode b_Md_fareOf 182 = .ok (.iload 9, 2) := by decide +kernel
set_option maxRecDepth 100000 in
theorem d_Md_fareOf_184 : decode b_Md_fareOf 184 = .ok (.aload_n 0, 1) := by decide +kernel
set_option maxRecDepth 100000 in
theorem d_Md_fareOf_185 : decode b_Md_fareOf 185 = .ok (.iload_n 1, 1) := by decide +kernel
set_option maxRecDepth 100000 in
theorem d_Md_fareOf_186 : decode b_Md_fareOf 186 = .ok (.iload 11, 2) := by decide +kernel
set_option maxRecDepth 100000 in
theorem d_Md_fareOf_188 : decode b_Md_fareOf 188 = .ok (.invokevirtual 289, 3) := by decide +kernel
set_option maxRecDepth 100000 in
theorem d_Md_fareOf_191 : decode b_Md_fareOf 191 = .ok (.invokestatic 292, 3) := by decide +kernel
set_option maxRecDepth 100000 in
theorem d_Md_fareOf_194 : decode b_Md_fareOf 194 = .ok (.istore 9, 2) := by decide +kernel
set_option maxRecDepth 100000 in
theorem d_Md_fareOf_196 : decode b_Md_fareOf 196 = .ok (.iconst 0, 1) := by decide +kernel
set_option maxRecDepth 100000 in
theorem d_Md_fareOf_197 : decode b_Md_fareOf 197 = .ok (.istore 12, 2) := by decide +kernel
set_option maxRecDepth 100000 in
theorem d_Md_fareOf_199 : decode b_Md_fareOf 199 = .ok (.iload 12, 2) := by decide +kernel
set_option maxRecDepth 100000 in
theorem d_Md_fareOf_201 : decode b_Md_fareOf 201 = .ok (.aload_n 0, 1) := by decide +kernel
set_option maxRecDepth 100000 in
theorem d_Md_fareOf_202 : decode b_Md_fareOf 202 = .ok (.getfield 131, 3) := by decide +kernel
set_option maxRecDepth 100000 in
theorem d_Md_fareOf_205 : decode b_Md_fareOf 205 = .ok (.iload_n 1, 1) := by decide +kernel
set_option maxRecDepth 100000 in
theorem d_Md_fareOf_206 : decode b_Md_fareOf 206 = .ok (.iaload, 1) := by decide +kernel
set_option maxRecDepth 100000 in
theorem d_Md_fareOf_207 : decode b_Md_fareOf 207 = .ok (.if_icmp .ge 60, 3) := by decide +kernel
set_option maxRecDepth 100000 in
theorem d_Md_fareOf_210 : decode b_Md_fareOf 210 = .ok (.iload 5, 2) := by decide +kernel
set_option maxRecDepth 100000 in
theorem d_Md_fareOf_212 : decode b_Md_fareOf 212 = .ok (.aload_n 0, 1) := by decide +kernel
set_option maxRecDepth 100000 in
theorem d_Md_fareOf_213 : decode b_Md_fareOf 213 = .ok (.getfield 134, 3) := by decide +kernel
set_option maxRecDepth 100000 in
theorem d_Md_fareOf_216 : decode b_Md_fareOf 216 = .ok (.bipush 12, 2) := by decide +kernel
set_option maxRecDepth 100000 in
theorem d_Md_fareOf_218 : decode b_Md_fareOf 218 = .ok (.iload_n 1, 1) := by decide +kernel
set_option maxRecDepth 100000 in
theorem d_Md_fareOf_219 : decode b_Md_fareOf 219 = .ok (.imul, 1) := by decide +kernel
set_option maxRecDepth 100000 in
theorem d_Md_fareOf_220 : decode b_Md_fareOf 220 = .ok (.iload 12, 2) := by decide +kernel
set_option maxRecDepth 100000 in
theorem d_Md_fareOf_222 : decode b_Md_fareOf 222 = .ok (.iadd, 1) := by decide +kernel
set_option maxRecDepth 100000 in
theorem d_Md_fareOf_223 : decode b_Md_fareOf 223 = .ok (.iaload, 1) := by decide +kernel
set_option maxRecDepth 100000 in
theorem d_Md_fareOf_224 : decode b_Md_fareOf 224 = .ok (.aload_n 0, 1) := by decide +kernel
set_option maxRecDepth 100000 in
theorem d_Md_fareOf_225 : decode b_Md_fareOf 225 = .ok (.getfield 137, 3) := by decide +kernel
set_option maxRecDepth 100000 in
theorem d_Md_fareOf_228 : decode b_Md_fareOf 228 = .ok (.bipush 12, 2) := by decide +kernel
set_option maxRecDepth 100000 in
theorem d_Md_fareOf_230 : decode b_Md_fareOf 230 = .ok (.iload_n 1, 1) := by decide +kernel
set_option maxRecDepth 100000 in
theorem d_Md_fareOf_231 : decode b_Md_fareOf 231 = .ok (.imul, 1) := by decide +kernel
set_option maxRecDepth 100000 in
theorem d_Md_fareOf_232 : decode b_Md_fareOf 232 = .ok (.iload 12, 2) := by decide +kernel
set_option maxRecDepth 100000 in
theorem d_Md_fareOf_234 : decode b_Md_fareOf 234 = .ok (.iadd, 1) := by decide +kernel
set_option maxRecDepth 100000 in
theorem d_Md_fareOf_235 : decode b_Md_fareOf 235 = .ok (.iaload, 1) := by decide +kernel
set_option maxRecDepth 100000 in
theorem d_Md_fareOf_236 : decode b_Md_fareOf 236 = .ok (.invokestatic 10, 3) := by decide +kernel
set_option maxRecDepth 100000 in
theorem d_Md_fareOf_239 : decode b_Md_fareOf 239 = .ok (.ifCond .eq 22, 3) := by decide +kernel
set_option maxRecDepth 100000 in
theorem d_Md_fareOf_242 : decode b_Md_fareOf 242 = .ok (.iload 9, 2) := by decide +kernel
set_option maxRecDepth 100000 in
theorem d_Md_fareOf_244 : decode b_Md_fareOf 244 = .ok (.aload_n 0, 1) := by decide +kernel
set_option maxRecDepth 100000 in
theorem d_Md_fareOf_245 : decode b_Md_fareOf 245 = .ok (.getfield 140, 3) := by decide +kernel
set_option maxRecDepth 100000 in
theorem d_Md_fareOf_248 : decode b_Md_fareOf 248 = .ok (.bipush 12, 2) := by decide +kernel
set_option maxRecDepth 100000 in
theorem d_Md_fareOf_250 : decode b_Md_fareOf 250 = .ok (.iload_n 1, 1) := by decide +kernel
set_option maxRecDepth 100000 in
theorem d_Md_fareOf_251 : decode b_Md_fareOf 251 = .ok (.imul, 1) := by decide +kernel
set_option maxRecDepth 100000 in
theorem d_Md_fareOf_252 : decode b_Md_fareOf 252 = .ok (.iload 12, 2) := by decide +kernel
set_option maxRecDepth 100000 in
theorem d_Md_fareOf_254 : decode b_Md_fareOf 254 = .ok (.iadd, 1) := by decide +kernel
set_option maxRecDepth 100000 in
theorem d_Md_fareOf_255 : decode b_Md_fareOf 255 = .ok (.iaload, 1) := by decide +kernel
set_option maxRecDepth 100000 in
theorem d_Md_fareOf_256 : decode b_Md_fareOf 256 = .ok (.invokestatic 292, 3) := by decide +kernel
set_option maxRecDepth 100000 in
theorem d_Md_fareOf_259 : decode b_Md_fareOf 259 = .ok (.istore 9, 2) := by decide +kernel
set_option maxRecDepth 100000 in
theorem d_Md_fareOf_261 : decode b_Md_fareOf 261 = .ok (.iinc 12 1, 3) := by decide +kernel
set_option maxRecDepth 100000 in
theorem d_Md_fareOf_264 : decode b_Md_fareOf 264 = .ok (.goto (-65), 3) := by decide +kernel
set_option maxRecDepth 100000 in
theorem d_Md_fareOf_267 : decode b_Md_fareOf 267 = .ok (.iload 4, 2) := by decide +kernel
set_option maxRecDepth 100000 in
theorem d_Md_fareOf_269 : decode b_Md_fareOf 269 = .ok (.bipush 7, 2) := by decide +kernel
set_option maxRecDepth 100000 in
theorem d_Md_fareOf_271 : decode b_Md_fareOf 271 = .ok (.irem, 1) := by decide +kernel
set_option maxRecDepth 100000 in
theorem d_Md_fareOf_272 : decode b_Md_fareOf 272 = .ok (.ifCond .ne 27, 3) := by decide +kernel
set_option maxRecDepth 100000 in
theorem d_Md_fareOf_275 : decode b_Md_fareOf 275 = .ok (.aload_n 0, 1) := by decide +kernel
set_option maxRecDepth 100000 in
theorem d_Md_fareOf_276 : decode b_Md_fareOf 276 = .ok (.iload_n 1, 1) := by decide +kernel
set_option maxRecDepth 100000 in
theorem d_Md_fareOf_277 : decode b_Md_fareOf 277 = .ok (.bipush 14, 2) := by decide +kernel
set_option maxRecDepth 100000 in
theorem d_Md_fareOf_279 : decode b_Md_fareOf 279 = .ok (.invokevirtual 289, 3) := by decide +kernel
set_option maxRecDepth 100000 in
theorem d_Md_fareOf_282 : decode b_Md_fareOf 282 = .ok (.ifCond .lt 17, 3) := by decide +kernel
set_option maxRecDepth 100000 in
theorem d_Md_fareOf_285 : decode b_Md_fareOf 285 = .ok (.iload 9, 2) := by decide +kernel
set_option maxRecDepth 100000 in
theorem d_Md_fareOf_287 : decode b_Md_fareOf 287 = .ok (.aload_n 0, 1) := by decide +kernel
set_option maxRecDepth 100000 in
theorem d_Md_fareOf_288 : decode b_Md_fareOf 288 = .ok (.iload_n 1, 1) := by decide +kernel
set_option maxRecDepth 100000 in
theorem d_Md_fareOf_289 : decode b_Md_fareOf 289 = .ok (.bipush 14, 2) := by decide +kernel
set_option maxRecDepth 100000 in
theorem d_Md_fareOf_291 : decode b_Md_fareOf 291 = .ok (.invokevirtual 289, 3) := by decide +kernel
set_option maxRecDepth 100000 in
theorem d_Md_fareOf_294 : decode b_Md_fareOf 294 = .ok (.invokestatic 292, 3) := by decide +kernel
set_option maxRecDepth 100000 in
theorem d_Md_fareOf_297 : decode b_Md_fareOf 297 = .ok (.istore 9, 2) := by decide +kernel
set_option maxRecDepth 100000 in
theorem d_Md_fareOf_299 : decode b_Md_fareOf 299 = .ok (.iload 6, 2) := by decide +kernel
set_option maxRecDepth 100000 in
theorem d_Md_fareOf_301 : decode b_Md_fareOf 301 = .ok (.iconst 2, 1) := by decide +kernel
set_option maxRecDepth 100000 in
theorem d_Md_fareOf_302 : decode b_Md_fareOf 302 = .ok (.if_icmp .ne 27, 3) := by decide +kernel
set_option maxRecDepth 100000 in
theorem d_Md_fareOf_305 : decode b_Md_fareOf 305 = .ok (.aload_n 0, 1) := by decide +kernel
set_option maxRecDepth 100000 in
theorem d_Md_fareOf_306 : decode b_Md_fareOf 306 = .ok (.iload_n 1, 1) := by decide +kernel
set_option maxRecDepth 100000 in
theorem d_Md_fareOf_307 : decode b_Md_fareOf 307 = .ok (.bipush 18, 2) := by decide +kernel
set_option maxRecDepth 100000 in
theorem d_Md_fareOf_309 : decode b_Md_fareOf 309 = .ok (.invokevirtual 289, 3) := by decide +kernel
set_option maxRecDepth 100000 in
theorem d_Md_fareOf_312 : decode b_Md_fareOf 312 = .ok (.ifCond .lt 17, 3) := by decide +kernel
set_option maxRecDepth 100000 in
theorem d_Md_fareOf_315 : decode b_Md_fareOf 315 = .ok (.iload 9, 2) := by decide +kernel
set_option maxRecDepth 100000 in
theorem d_Md_fareOf_317 : decode b_Md_fareOf 317 = .ok (.aload_n 0, 1) := by decide +kernel
set_option maxRecDepth 100000 in
theorem d_Md_fareOf_318 : decode b_Md_fareOf 318 = .ok (.iload_n 1, 1) := by decide +kernel
set_option maxRecDepth 100000 in
theorem d_Md_fareOf_319 : decode b_Md_fareOf 319 = .ok (.bipush 18, 2) := by decide +kernel
set_option maxRecDepth 100000 in
theorem d_Md_fareOf_321 : decode b_Md_fareOf 321 = .ok (.invokevirtual 289, 3) := by decide +kernel
set_option maxRecDepth 100000 in
theorem d_Md_fareOf_324 : decode b_Md_fareOf 324 = .ok (.invokestatic 292, 3) := by decide +kernel
set_option maxRecDepth 100000 in
theorem d_Md_fareOf_327 : decode b_Md_fareOf 327 = .ok (.istore 9, 2) := by decide +kernel
set_option maxRecDepth 100000 in
theorem d_Md_fareOf_329 : decode b_Md_fareOf 329 = .ok (.aload_n 0, 1) := by decide +kernel
set_option maxRecDepth 100000 in
theorem d_Md_fareOf_330 : decode b_Md_fareOf 330 = .ok (.iload_n 1, 1) := by decide +kernel
set_option maxRecDepth 100000 in
theorem d_Md_fareOf_331 : decode b_Md_fareOf 331 = .ok (.bipush 15, 2) := by decide +kernel
set_option maxRecDepth 100000 in
theorem d_Md_fareOf_333 : decode b_Md_fareOf 333 = .ok (.invokevirtual 289, 3) := by decide +kernel
set_option maxRecDepth 100000 in
theorem d_Md_fareOf_336 : decode b_Md_fareOf 336 = .ok (.iload 9, 2) := by decide +kernel
set_option maxRecDepth 100000 in
theorem d_Md_fareOf_338 : decode b_Md_fareOf 338 = .ok (.if_icmp .le 13, 3) := by decide +kernel
set_option maxRecDepth 100000 in
theorem d_Md_fareOf_341 : decode b_Md_fareOf 341 = .ok (.aload_n 0, 1) := by decide +kernel
set_option maxRecDepth 100000 in
theorem d_Md_fareOf_342 : decode b_Md_fareOf 342 = .ok (.iload_n 1, 1) := by decide +kernel
set_option maxRecDepth 100000 in
theorem d_Md_fareOf_343 : decode b_Md_fareOf 343 = .ok (.bipush 15, 2) := by decide +kernel
set_option maxRecDepth 100000 in
theorem d_Md_fareOf_345 : decode b_Md_fareOf 345 = .ok (.invokevirtual 289, 3) := by decide +kernel
set_option maxRecDepth 100000 in
theorem d_Md_fareOf_348 : decode b_Md_fareOf 348 = .ok (.goto 5, 3) := by decide +kernel
set_option maxRecDepth 100000 in
theorem d_Md_fareOf_351 : decode b_Md_fareOf 351 = .ok (.iload 9, 2) := by decide +kernel
set_option maxRecDepth 100000 in
theorem d_Md_fareOf_353 : decode b_Md_fareOf 353 = .ok (.ireturn, 1) := by decide +kernel
set_option maxRecDepth 100000 in
theorem d_Md_feed_0 : decode b_Md_feed 0 = .ok (.aload_n 0, 1) := by decide +kernel
set_option maxRecDepth 100000 in
theorem d_Md_feed_1 : decode b_Md_feed 1 = .ok (.getfield 212, 3) := by decide +kernel
set_option maxRecDepth 100000 in
theorem d_Md_feed_4 : decode b_Md_feed 4 = .ok (.bipush 20, 2) := by decide +kernel
set_option maxRecDepth 100000 in
theorem d_Md_feed_6 : decode b_Md_feed 6 = .ok (.iadd, 1) := by decide +kernel
set_option maxRecDepth 100000 in
theorem d_Md_feed_7 : decode b_Md_feed 7 = .ok (.sipush 400, 3) := by decide +kernel
set_option maxRecDepth 100000 in
theorem d_Md_feed_10 : decode b_Md_feed 10 = .ok (.if_icmp .le 6, 3) := by decide +kernel
set_option maxRecDepth 100000 in
theorem d_Md_feed_13 : decode b_Md_feed 13 = .ok (.bipush (-3), 2) := by decide +kernel
set_option maxRecDepth 100000 in
theorem d_Md_feed_15 : decode b_Md_feed 15 = .ok (.ireturn, 1) := by decide +kernel
set_option maxRecDepth 100000 in
theorem d_Md_feed_16 : decode b_Md_feed 16 = .ok (.aload_n 0, 1) := by decide +kernel
set_option maxRecDepth 100000 in
theorem d_Md_feed_17 : decode b_Md_feed 17 = .ok (.iload_n 1, 1) := by decide +kernel
set_option maxRecDepth 100000 in
theorem d_Md_feed_18 : decode b_Md_feed 18 = .ok (.invokevirtual 215, 3) := by decide +kernel
set_option maxRecDepth 100000 in
theorem d_Md_feed_21 : decode b_Md_feed 21 = .ok (.aload_n 0, 1) := by decide +kernel
set_option maxRecDepth 100000 in
theorem d_Md_feed_22 : decode b_Md_feed 22 = .ok (.iload_n 2, 1) := by decide +kernel
set_option maxRecDepth 100000 in
theorem d_Md_feed_23 : decode b_Md_feed 23 = .ok (.invokevirtual 215, 3) := by decide +kernel
set_option maxRecDepth 100000 in
theorem d_Md_feed_26 : decode b_Md_feed 26 = .ok (.aload_n 0, 1) := by decide +kernel
set_option maxRecDepth 100000 in
theorem d_Md_feed_27 : decode b_Md_feed 27 = .ok (.iload_n 3, 1) := by decide +kernel
set_option maxRecDepth 100000 in
theorem d_Md_feed_28 : decode b_Md_feed 28 = .ok (.invokevirtual 215, 3) := by decide +kernel
set_option maxRecDepth 100000 in
theorem d_Md_feed_31 : decode b_Md_feed 31 = .ok (.aload_n 0, 1) := by decide +kernel
set_option maxRecDepth 100000 in
theorem d_Md_feed_32 : decode b_Md_feed 32 = .ok (.iload 4, 2) := by decide +kernel
set_option maxRecDepth 100000 in
theorem d_Md_feed_34 : decode b_Md_feed 34 = .ok (.invokevirtual 215, 3) := by decide +kernel
set_option maxRecDepth 100000 in
theorem d_Md_feed_37 : decode b_Md_feed 37 = .ok (.aload_n 0, 1) := by decide +kernel
set_option maxRecDepth 100000 in
theorem d_Md_feed_38 : decode b_Md_feed 38 = .ok (.iload 5, 2) := by decide +kernel
set_option maxRecDepth 100000 in
theorem d_Md_feed_40 : decode b_Md_feed 40 = .ok (.invokevirtual 215, 3) := by decide +kernel
set_option maxRecDepth 100000 in
theorem d_Md_feed_43 : decode b_Md_feed 43 = .ok (.aload_n 0, 1) := by decide +kernel
set_option maxRecDepth 100000 in
theorem d_Md_feed_44 : decode b_Md_feed 44 = .ok (.getfield 212, 3) := by decide +kernel
set_option maxRecDepth 100000 in
theorem d_Md_feed_47 : decode b_Md_feed 47 = .ok (.ireturn, 1) := by decide +kernel
set_option maxRecDepth 100000 in
theorem d_Md_flow_0 : decode b_Md_flow 0 = .ok (.iload_n 1, 1) := by decide +kernel
set_option maxRecDepth 100000 in
theorem d_Md_flow_1 : decode b_Md_flow 1 = .ok (.invokestatic 38, 3) := by decide +kernel
set_option maxRecDepth 100000 in
theorem d_Md_flow_4 : decode b_Md_flow 4 = .ok (.ifCond .eq 22, 3) := by decide +kernel
set_option maxRecDepth 100000 in
theorem d_Md_flow_7 : decode b_Md_flow 7 = .ok (.iload_n 2, 1) := by decide +kernel
set_option maxRecDepth 100000 in
theorem d_Md_flow_8 : decode b_Md_flow 8 = .ok (.iconst 0, 1) := by decide +kernel
set_option maxRecDepth 100000 in
theorem d_Md_flow_9 : decode b_Md_flow 9 = .ok (.bipush 11, 2) := by decide +kernel
set_option maxRecDepth 100000 in
theorem d_Md_flow_11 : decode b_Md_flow 11 = .ok (.invokestatic 10, 3) := by decide +kernel
set_option maxRecDepth 100000 in
theorem d_Md_flow_14 : decode b_Md_flow 14 = .ok (.ifCond .eq 12, 3) := by decide +kernel
set_option maxRecDepth 100000 in
theorem d_Md_flow_17 : decode b_Md_flow 17 = .ok (.aload_n 0, 1) := by decide +kernel
set_option maxRecDepth 100000 in
theorem d_Md_flow_18 : decode b_Md_flow 18 = .ok (.iload_n 1, 1) := by decide +kernel
set_option maxRecDepth 100000 in
theorem d_Md_flow_19 : decode b_Md_flow 19 = .ok (.iload_n 2, 1) := by decide +kernel
set_option maxRecDepth 100000 in
theorem d_Md_flow_20 : decode b_Md_flow 20 = .ok (.invokevirtual 42, 3) := by decide +kernel
set_option maxRecDepth 100000 in
theorem d_Md_flow_23 : decode b_Md_flow 23 = .ok (.goto 6, 3) := by decide +kernel
set_option maxRecDepth 100000 in
theorem d_Md_flow_26 : decode b_Md_flow 26 = .ok (.sipush (-1000), 3) := by decide +kernel
set_option maxRecDepth 100000 in
theorem d_Md_flow_29 : decode b_Md_flow 29 = .ok (.ireturn, 1) := by decide +kernel
set_option maxRecDepth 100000 in
theorem d_Md_flowOf_0 : decode b_Md_flowOf 0 = .ok (.iload_n 2, 1) := by decide +kernel
set_option maxRecDepth 100000 in
theorem d_Md_flowOf_1 : decode b_Md_flowOf 1 = .ok (.bipush 11, 2) := by decide +kernel
set_option maxRecDepth 100000 in
theorem d_Md_flowOf_3 : decode b_Md_flowOf 3 = .ok (.if_icmp .ne 14, 3) := by decide +kernel
set_option maxRecDepth 100000 in
theorem d_Md_flowOf_6 : decode b_Md_flowOf 6 = .ok (.aload_n 0, 1) := by decide +kernel
set_option maxRecDepth 100000 in
theorem d_Md_flowOf_7 : decode b_Md_flowOf 7 = .ok (.iload_n 1, 1) := by decide +kernel
set_option maxRecDepth 100000 in
theorem d_Md_flowOf_8 : decode b_Md_flowOf 8 = .ok (.iconst 1, 1) := by decide +kernel
set_option maxRecDepth 100000 in
theorem d_Md_flowOf_9 : decode b_Md_flowOf 9 = .ok (.iadd, 1) := by decide +kernel
set_option maxRecDepth 100000 in
theorem d_Md_flowOf_10 : decode b_Md_flowOf 10 = .ok (.iconst 0, 1) := by decide +kernel
set_option maxRecDepth 100000 in
theorem d_Md_flowOf_11 : decode b_Md_flowOf 11 = .ok (.invokevirtual 28, 3) := by decide +kernel
set_option maxRecDepth 100000 in
theorem d_Md_flowOf_14 : decode b_Md_flowOf 14 = .ok (.goto 11, 3) := by decide +kernel
set_option maxRecDepth 100000 in
theorem d_Md_flowOf_17 : decode b_Md_flowOf 17 = .ok (.aload_n 0, 1) := by decide +kernel
set_option maxRecDepth 100000 in
theorem d_Md_flowOf_18 : decode b_Md_flowOf 18 = .ok (.iload_n 1, 1) := by decide +kernel
set_option maxRecDepth 100000 in
theorem d_Md_flowOf_19 : decode b_Md_flowOf 19 = .ok (.iload_n 2, 1) := by decide +kernel
set_option maxRecDepth 100000 in
theorem d_Md_flowOf_20 : decode b_Md_flowOf 20 = .ok (.iconst 1, 1) := by decide +kernel
set_option maxRecDepth 100000 in
theorem d_Md_flowOf_21 : decode b_Md_flowOf 21 = .ok (.iadd, 1) := by decide +kernel
set_option maxRecDepth 100000 in
theorem d_Md_flowOf_22 : decode b_Md_flowOf 22 = .ok (.invokevirtual 28, 3) := by decide +kernel
set_option maxRecDepth 100000 in
theorem d_Md_flowOf_25 : decode b_Md_flowOf 25 = .ok (.aload_n 0, 1) := by decide +kernel
set_option maxRecDepth 100000 in
theorem d_Md_flowOf_26 : decode b_Md_flowOf 26 = .ok (.iload_n 1, 1) := by decide +kernel
set_option maxRecDepth 100000 in
theorem d_Md_flowOf_27 : decode b_Md_flowOf 27 = .ok (.iload_n 2, 1) := by decide +kernel
set_option maxRecDepth 100000 in
theorem d_Md_flowOf_28 : decode b_Md_flowOf 28 = .ok (.invokevirtual 28, 3) := by decide +kernel
set_option maxRecDepth 100000 in
theorem d_Md_flowOf_31 : decode b_Md_flowOf 31 = .ok (.isub, 1) := by decide +kernel
set_option maxRecDepth 100000 in
theorem d_Md_flowOf_32 : decode b_Md_flowOf 32 = .ok (.ireturn, 1) := by decide +kernel
set_option maxRecDepth 100000 in
theorem d_Md_forceOn_0 : decode b_Md_forceOn 0 = .ok (.aload_n 0, 1) := by decide +kernel
set_option maxRecDepth 100000 in
theorem d_Md_forceOn_1 : decode b_Md_forceOn 1 = .ok (.getfield 275, 3) := by decide +kernel
set_option maxRecDepth 100000 in
theorem d_Md_forceOn_4 : decode b_Md_forceOn 4 = .ok (.iconst 1, 1) := by decide +kernel
set_option maxRecDepth 100000 in
theorem d_Md_forceOn_5 : decode b_Md_forceOn 5 = .ok (.isub, 1) := by decide +kernel
set_option maxRecDepth 100000 in
theorem d_Md_forceOn_6 : decode b_Md_forceOn 6 = .ok (.istore_n 3, 1) := by decide +kernel
set_option maxRecDepth 100000 in
theorem d_Md_forceOn_7 : decode b_Md_forceOn 7 = .ok (.iload_n 3, 1) := by decide +kernel
set_option maxRecDepth 100000 in
theorem d_Md_forceOn_8 : decode b_Md_forceOn 8 = .ok (.ifCond .lt 31, 3) := by decide +kernel
set_option maxRecDepth 100000 in
theorem d_Md_forceOn_11 : decode b_Md_forceOn 11 = .ok (.aload_n 0, 1) := by decide +kernel
set_option maxRecDepth 100000 in
theorem d_Md_forceOn_12 : decode b_Md_forceOn 12 = .ok (.getfield 116, 3) := by decide +kernel
set_option maxRecDepth 100000 in
theorem d_Md_forceOn_15 : decode b_Md_forceOn 15 = .ok (.iload_n 3, 1) := by decide +kernel
set_option maxRecDepth 100000 in
theorem d_Md_forceOn_16 : decode b_Md_forceOn 16 = .ok (.iaload, 1) := by decide +kernel
set_option maxRecDepth 100000 in
theorem d_Md_forceOn_17 : decode b_Md_forceOn 17 = .ok (.iload_n 2, 1) := by decide +kernel
set_option maxRecDepth 100000 in
theorem d_Md_forceOn_18 : decode b_Md_forceOn 18 = .ok (.if_icmp .gt 15, 3) := by decide +kernel
set_option maxRecDepth 100000 in
theorem d_Md_forceOn_21 : decode b_Md_forceOn 21 = .ok (.aload_n 0, 1) := by decide +kernel
set_option maxRecDepth 100000 in
theorem d_Md_forceOn_22 : decode b_Md_forceOn 22 = .ok (.getfield 113, 3) := by decide +kernel
set_option maxRecDepth 100000 in
theorem d_Md_forceOn_25 : decode b_Md_forceOn 25 = .ok (.iload_n 3, 1) := by decide +kernel
set_option maxRecDepth 100000 in
theorem d_Md_forceOn_26 : decode b_Md_forceOn 26 = .ok (.iaload, 1) := by decide +kernel
set_option maxRecDepth 100000 in
theorem d_Md_forceOn_27 : decode b_Md_forceOn 27 = .ok (.iload_n 1, 1) := by decide +kernel
set_option maxRecDepth 100000 in
theorem d_Md_forceOn_28 : decode b_Md_forceOn 28 = .ok (.if_icmp .gt 5, 3) := by decide +kernel
set_option maxRecDepth 100000 in
theorem d_Md_forceOn_31 : decode b_Md_forceOn 31 = .ok (.iload_n 3, 1) := by decide +kernel
set_option maxRecDepth 100000 in
theorem d_Md_forceOn_32 : decode b_Md_forceOn 32 = .ok (.ireturn, 1) := by decide +kernel
set_option maxRecDepth 100000 in
theorem d_Md_forceOn_33 : decode b_Md_forceOn 33 = .ok (.iinc 3 (-1), 3) := by decide +kernel
set_option maxRecDepth 100000 in
theorem d_Md_forceOn_36 : decode b_Md_forceOn 36 = .ok (.goto (-29), 3) := by decide +kernel
set_option maxRecDepth 100000 in
theorem d_Md_forceOn_39 : decode b_Md_forceOn 39 = .ok (.bipush (-2), 2) := by decide +kernel
set_option maxRecDepth 100000 in
theorem d_Md_forceOn_41 : decode b_Md_forceOn 41 = .ok (.ireturn, 1) := by decide +kernel
set_option maxRecDepth 100000 in
theorem d_Md_four_0 : decode b_Md_four 0 = .ok (.iconst 3, 1) := by decide +kernel
set_option maxRecDepth 100000 in
theorem d_Md_four_1 : decode b_Md_four 1 = .ok (.istore_n 2, 1) := by decide +kernel
set_option maxRecDepth 100000 in
theorem d_Md_four_2 : decode b_Md_four 2 = .ok (.iload_n 2, 1) := by decide +kernel
set_option maxRecDepth 100000 in
theorem d_Md_four_3 : decode b_Md_four 3 = .ok (.ifCond .lt 35, 3) := by decide +kernel
set_option maxRecDepth 100000 in
theorem d_Md_four_6 : decode b_Md_four 6 = .ok (.aload_n 0, 1) := by decide +kernel
set_option maxRecDepth 100000 in
theorem d_Md_four_7 : decode b_Md_four 7 = .ok (.getfield 109, 3) := by decide +kernel
set_option maxRecDepth 100000 in
theorem d_Md_four_10 : decode b_Md_four 10 = .ok (.aload_n 0, 1) := by decide +kernel
set_option maxRecDepth 100000 in
theorem d_Md_four_11 : decode b_Md_four 11 = .ok (.getfield 212, 3) := by decide +kernel
set_option maxRecDepth 100000 in
theorem d_Md_four_14 : decode b_Md_four 14 = .ok (.iload_n 1, 1) := by decide +kernel
set_option maxRecDepth 100000 in
theorem d_Md_four_15 : decode b_Md_four 15 = .ok (.bipush 8, 2) := by decide +kernel
set_option maxRecDepth 100000 in
theorem d_Md_four_17 : decode b_Md_four 17 = .ok (.iload_n 2, 1) := by decide +kernel
set_option maxRecDepth 100000 in
theorem d_Md_four_18 : decode b_Md_four 18 = .ok (.imul, 1) := by decide +kernel
set_option maxRecDepth 100000 in
theorem d_Md_four_19 : decode b_Md_four 19 = .ok (.ishr, 1) := by decide +kernel
set_option maxRecDepth 100000 in
theorem d_Md_four_20 : decode b_Md_four 20 = .ok (.i2b, 1) := by decide +kernel
set_option maxRecDepth 100000 in
theorem d_Md_four_21 : decode b_Md_four 21 = .ok (.bastore, 1) := by decide +kernel
set_option maxRecDepth 100000 in
theorem d_Md_four_22 : decode b_Md_four 22 = .ok (.aload_n 0, 1) := by decide +kernel
set_option maxRecDepth 100000 in
theorem d_Md_four_23 : decode b_Md_four 23 = .ok (.dup, 1) := by decide +kernel
set_option maxRecDepth 100000 in
theorem d_Md_four_24 : decode b_Md_four 24 = .ok (.getfield 212, 3) := by decide +kernel
set_option maxRecDepth 100000 in
theorem d_Md_four_27 : decode b_Md_four 27 = .ok (.iconst 1, 1) := by decide +kernel
set_option maxRecDepth 100000 in
theorem d_Md_four_28 : decode b_Md_four 28 = .ok (.iadd, 1) := by decide +kernel
set_option maxRecDepth 100000 in
theorem d_Md_four_29 : decode b_Md_four 29 = .ok (.putfield 212, 3) := by decide +kernel
set_option maxRecDepth 100000 in
theorem d_Md_four_32 : decode b_Md_four 32 = .ok (.iinc 2 (-1), 3) := by decide +kernel
set_option maxRecDepth 100000 in
theorem d_Md_four_35 : decode b_Md_four 35 = .ok (.goto (-33), 3) := by decide +kernel
set_option maxRecDepth 100000 in
theorem d_Md_four_38 : decode b_Md_four 38 = .ok (.return_, 1) := by decide +kernel
set_option maxRecDepth 100000 in
theorem d_Md_free_0 : decode b_Md_free 0 = .ok (.iload_n 1, 1) := by decide +kernel
set_option maxRecDepth 100000 in
theorem d_Md_free_1 : decode b_Md_free 1 = .ok (.invokestatic 186, 3) := by decide +kernel
set_option maxRecDepth 100000 in
theorem d_Md_free_4 : decode b_Md_free 4 = .ok (.ifCond .ne 5, 3) := by decide +kernel
set_option maxRecDepth 100000 in
theorem d_Md_free_7 : decode b_Md_free 7 = .ok (.iconst (-1), 1) := by decide +kernel
set_option maxRecDepth 100000 in
theorem d_Md_free_8 : decode b_Md_free 8 = .ok (.ireturn, 1) := by decide +kernel
set_option maxRecDepth 100000 in
theorem d_Md_free_9 : decode b_Md_free 9 = .ok (.aload_n 0, 1) := by decide +kernel
set_option maxRecDepth 100000 in
theorem d_Md_free_10 : decode b_Md_free 10 = .ok (.getfield 58, 3) := by decide +kernel
set_option maxRecDepth 100000 in
theorem d_Md_free_13 : decode b_Md_free 13 = .ok (.iload_n 1, 1) := by decide +kernel
set_option maxRecDepth 100000 in
theorem d_Md_free_14 : decode b_Md_free 14 = .ok (.iaload, 1) := by decide +kernel
set_option maxRecDepth 100000 in
theorem d_Md_free_15 : decode b_Md_free 15 = .ok (.ifCond .eq 6, 3) := by decide +kernel
set_option maxRecDepth 100000 in
theorem d_Md_free_18 : decode b_Md_free 18 = .ok (.bipush (-2), 2) := by decide +kernel
set_option maxRecDepth 100000 in
theorem d_Md_free_20 : decode b_Md_free 20 = .ok (.ireturn, 1) := by decide +kernel
set_option maxRecDepth 100000 in
theorem d_Md_free_21 : decode b_Md_free 21 = .ok (.aload_n 0, 1) := by decide +kernel
set_option maxRecDepth 100000 in
theorem d_Md_free_22 : decode b_Md_free 22 = .ok (.getfield 58, 3) := by decide +kernel
set_option maxRecDepth 100000 in
theorem d_Md_free_25 : decode b_Md_free 25 = .ok (.iload_n 1, 1) := by decide +kernel
set_option maxRecDepth 100000 in
theorem d_Md_free_26 : decode b_Md_free 26 = .ok (.iconst 2, 1) := by decide +kernel
set_option maxRecDepth 100000 in
theorem d_Md_free_27 : decode b_Md_free 27 = .ok (.iastore, 1) := by decide +kernel
set_option maxRecDepth 100000 in
theorem d_Md_free_28 : decode b_Md_free 28 = .ok (.iconst 1, 1) := by decide +kernel
set_option maxRecDepth 100000 in
theorem d_Md_free_29 : decode b_Md_free 29 = .ok (.ireturn, 1) := by decide +kernel
set_option maxRecDepth 100000 in
theorem d_Md_frost_0 : decode b_Md_frost 0 = .ok (.iload_n 1, 1) := by decide +kernel
set_option maxRecDepth 100000 in
theorem d_Md_frost_1 : decode b_Md_frost 1 = .ok (.aload_n 0, 1) := by decide +kernel
set_option maxRecDepth 100000 in
theorem d_Md_frost_2 : decode b_Md_frost 2 = .ok (.invokevirtual 45, 3) := by decide +kernel
set_option maxRecDepth 100000 in
theorem d_Md_frost_5 : decode b_Md_frost 5 = .ok (.sipush 499, 3) := by decide +kernel
set_option maxRecDepth 100000 in
theorem d_Md_frost_8 : decode b_Md_frost 8 = .ok (.invokestatic 10, 3) := by decide +kernel
set_option maxRecDepth 100000 in
theorem d_Md_frost_11 : decode b_Md_frost 11 = .ok (.ifCond .eq 12, 3) := by decide +kernel
set_option maxRecDepth 100000 in
theorem d_Md_frost_14 : decode b_Md_frost 14 = .ok (.iload_n 2, 1) := by decide +kernel
set_option maxRecDepth 100000 in
theorem d_Md_frost_15 : decode b_Md_frost 15 = .ok (.iconst 0, 1) := by decide +kernel
set_option maxRecDepth 100000 in
theorem d_Md_frost_16 : decode b_Md_frost 16 = .ok (.iconst 1, 1) := by decide +kernel
set_option maxRecDepth 100000 in
theorem d_Md_frost_17 : decode b_Md_frost 17 = .ok (.invokestatic 10, 3) := by decide +kernel
set_option maxRecDepth 100000 in
theorem d_Md_frost_20 : decode b_Md_frost 20 = .ok (.ifCond .ne 5, 3) := by decide +kernel
set_option maxRecDepth 100000 in
theorem d_Md_frost_23 : decode b_Md_frost 23 = .ok (.iconst (-1), 1) := by decide +kernel
set_option maxRecDepth 100000 in
theorem d_Md_frost_24 : decode b_Md_frost 24 = .ok (.ireturn, 1) := by decide +kernel
set_option maxRecDepth 100000 in
theorem d_Md_frost_25 : decode b_Md_frost 25 = .ok (.aload_n 0, 1) := by decide +kernel
set_option maxRecDepth 100000 in
theorem d_Md_frost_26 : decode b_Md_frost 26 = .ok (.getfield 49, 3) := by decide +kernel
set_option maxRecDepth 100000 in
theorem d_Md_frost_29 : decode b_Md_frost 29 = .ok (.iload_n 1, 1) := by decide +kernel
set_option maxRecDepth 100000 in
theorem d_Md_frost_30 : decode b_Md_frost 30 = .ok (.baload, 1) := by decide +kernel
set_option maxRecDepth 100000 in
theorem d_Md_frost_31 : decode b_Md_frost 31 = .ok (.ifCond .eq 7, 3) := by decide +kernel
set_option maxRecDepth 100000 in
theorem d_Md_frost_34 : decode b_Md_frost 34 = .ok (.iconst 1, 1) := by decide +kernel
set_option maxRecDepth 100000 in
theorem d_Md_frost_35 : decode b_Md_frost 35 = .ok (.goto 4, 3) := by decide +kernel
set_option maxRecDepth 100000 in
theorem d_Md_frost_38 : decode b_Md_frost 38 = .ok (.iconst 0, 1) := by decide +kernel
set_option maxRecDepth 100000 in
theorem d_Md_frost_39 : decode b_Md_frost 39 = .ok (.istore_n 3, 1) := by decide +kernel
set_option maxRecDepth 100000 in
theorem d_Md_frost_40 : decode b_Md_frost 40 = .ok (.aload_n 0, 1) := by decide +kernel
set_option maxRecDepth 100000 in
theorem d_Md_frost_41 : decode b_Md_frost 41 = .ok (.getfield 49, 3) := by decide +kernel
set_option maxRecDepth 100000 in
theorem d_Md_frost_44 : decode b_Md_frost 44 = .ok (.iload_n 1, 1) := by decide +kernel
set_option maxRecDepth 100000 in
theorem d_Md_frost_45 : decode b_Md_frost 45 = .ok (.iload_n 2, 1) := by decide +kernel
set_option maxRecDepth 100000 in
theorem d_Md_frost_46 : decode b_Md_frost 46 = .ok (.iconst 1, 1) := by decide +kernel
set_option maxRecDepth 100000 in
theorem d_Md_frost_47 : decode b_Md_frost 47 = .ok (.if_icmp .ne 7, 3) := by decide +kernel
set_option maxRecDepth 100000 in
theorem d_Md_frost_50 : decode b_Md_frost 50 = .ok (.iconst 1, 1) := by decide +kernel
set_option maxRecDepth 100000 in
theorem d_Md_frost_51 : decode b_Md_frost 51 = .ok (.goto 4, 3) := by decide +kernel
set_option maxRecDepth 100000 in
theorem d_Md_frost_54 : decode b_Md_frost 54 = .ok (.iconst 0, 1) := by decide +kernel
set_option maxRecDepth 100000 in
theorem d_Md_frost_55 : decode b_Md_frost 55 = .ok (.bastore, 1) := by decide +kernel
set_option maxRecDepth 100000 in
theorem d_Md_frost_56 : decode b_Md_frost 56 = .ok (.iload_n 3, 1) := by decide +kernel
set_option maxRecDepth 100000 in
theorem d_Md_frost_57 : decode b_Md_frost 57 = .ok (.ireturn, 1) := by decide +kernel
set_option maxRecDepth 100000 in
theorem d_Md_hinders_0 : decode b_Md_hinders 0 = .ok (.aload_n 0, 1) := by decide +kernel
set_option maxRecDepth 100000 in
theorem d_Md_hinders_1 : decode b_Md_hinders 1 = .ok (.getfield 49, 3) := by decide +kernel
set_option maxRecDepth 100000 in
theorem d_Md_hinders_4 : decode b_Md_hinders 4 = .ok (.aload_n 0, 1) := by decide +kernel
set_option maxRecDepth 100000 in
theorem d_Md_hinders_5 : decode b_Md_hinders 5 = .ok (.invokevirtual 45, 3) := by decide +kernel
set_option maxRecDepth 100000 in
theorem d_Md_hinders_8 : decode b_Md_hinders 8 = .ok (.baload, 1) := by decide +kernel
set_option maxRecDepth 100000 in
theorem d_Md_hinders_9 : decode b_Md_hinders 9 = .ok (.ifCond .eq 5, 3) := by decide +kernel
set_option maxRecDepth 100000 in
theorem d_Md_hinders_12 : decode b_Md_hinders 12 = .ok (.iconst 1, 1) := by decide +kernel
set_option maxRecDepth 100000 in
theorem d_Md_hinders_13 : decode b_Md_hinders 13 = .ok (.ireturn, 1) := by decide +kernel
set_option maxRecDepth 100000 in
theorem d_Md_hinders_14 : decode b_Md_hinders 14 = .ok (.aload_n 0, 1) := by decide +kernel
set_option maxRecDepth 100000 in
theorem d_Md_hinders_15 : decode b_Md_hinders 15 = .ok (.getfield 103, 3) := by decide +kernel
set_option maxRecDepth 100000 in
theorem d_Md_hinders_18 : decode b_Md_hinders 18 = .ok (.iload_n 1, 1) := by decide +kernel
set_option maxRecDepth 100000 in
theorem d_Md_hinders_19 : decode b_Md_hinders 19 = .ok (.iaload, 1) := by decide +kernel
set_option maxRecDepth 100000 in
theorem d_Md_hinders_20 : decode b_Md_hinders 20 = .ok (.ifCond .lt 5, 3) := by decide +kernel
set_option maxRecDepth 100000 in
theorem d_Md_hinders_23 : decode b_Md_hinders 23 = .ok (.iconst 2, 1) := by decide +kernel
set_option maxRecDepth 100000 in
theorem d_Md_hinders_24 : decode b_Md_hinders 24 = .ok (.ireturn, 1) := by decide +kernel
set_option maxRecDepth 100000 in
theorem d_Md_hinders_25 : decode b_Md_hinders 25 = .ok (.aload_n 0, 1) := by decide +kernel
set_option maxRecDepth 100000 in
theorem d_Md_hinders_26 : decode b_Md_hinders 26 = .ok (.getfield 58, 3) := by decide +kernel
set_option maxRecDepth 100000 in
theorem d_Md_hinders_29 : decode b_Md_hinders 29 = .ok (.iload_n 2, 1) := by decide +kernel
set_option maxRecDepth 100000 in
theorem d_Md_hinders_30 : decode b_Md_hinders 30 = .ok (.iaload, 1) := by decide +kernel
set_option maxRecDepth 100000 in
theorem d_Md_hinders_31 : decode b_Md_hinders 31 = .ok (.iconst 2, 1) := by decide +kernel
set_option maxRecDepth 100000 in
theorem d_Md_hinders_32 : decode b_Md_hinders 32 = .ok (.if_icmp .ne 12, 3) := by decide +kernel
set_option maxRecDepth 100000 in
theorem d_Md_hinders_35 : decode b_Md_hinders 35 = .ok (.aload_n 0, 1) := by decide +kernel
set_option maxRecDepth 100000 in
theorem d_Md_hinders_36 : decode b_Md_hinders 36 = .ok (.getfield 79, 3) := by decide +kernel
set_option maxRecDepth 100000 in
theorem d_Md_hinders_39 : decode b_Md_hinders 39 = .ok (.iload_n 2, 1) := by decide +kernel
set_option maxRecDepth 100000 in
theorem d_Md_hinders_40 : decode b_Md_hinders 40 = .ok (.iaload, 1) := by decide +kernel
set_option maxRecDepth 100000 in
theorem d_Md_hinders_41 : decode b_Md_hinders 41 = .ok (.ifCond .lt 5, 3) := by decide +kernel
set_option maxRecDepth 100000 in
theorem d_Md_hinders_44 : decode b_Md_hinders 44 = .ok (.iconst 3, 1) := by decide +kernel
set_option maxRecDepth 100000 in
theorem d_Md_hinders_45 : decode b_Md_hinders 45 = .ok (.ireturn, 1) := by decide +kernel
set_option maxRecDepth 100000 in
theorem d_Md_hinders_46 : decode b_Md_hinders 46 = .ok (.aload_n 0, 1) := by decide +kernel
set_option maxRecDepth 100000 in
theorem d_Md_hinders_47 : decode b_Md_hinders 47 = .ok (.getfield 97, 3) := by decide +kernel
set_option maxRecDepth 100000 in
theorem d_Md_hinders_50 : decode b_Md_hinders 50 = .ok (.iload_n 1, 1) := by decide +kernel
set_option maxRecDepth 100000 in
theorem d_Md_hinders_51 : decode b_Md_hinders 51 = .ok (.iaload, 1) := by decide +kernel
set_option maxRecDepth 100000 in
theorem d_Md_hinders_52 : decode b_Md_hinders 52 = .ok (.istore 4, 2) := by decide +kernel
set_option maxRecDepth 100000 in
theorem d_Md_hinders_54 : decode b_Md_hinders 54 = .ok (.aload_n 0, 1) := by decide +kernel
set_option maxRecDepth 100000 in
theorem d_Md_hinders_55 : decode b_Md_hinders 55 = .ok (.getfield 88, 3) := by decide +kernel
set_option maxRecDepth 100000 in
theorem d_Md_hinders_58 : decode b_Md_hinders 58 = .ok (.iload 4, 2) := by decide +kernel
set_option maxRecDepth 100000 in
theorem d_Md_hinders_60 : decode b_Md_hinders 60 = .ok (.iaload, 1) := by decide +kernel
set_option maxRecDepth 100000 in
theorem d_Md_hinders_61 : decode b_Md_hinders 61 = .ok (.ifCond .le 19, 3) := by decide +kernel
set_option maxRecDepth 100000 in
theorem d_Md_hinders_64 : decode b_Md_hinders 64 = .ok (.aload_n 0, 1) := by decide +kernel
set_option maxRecDepth 100000 in
theorem d_Md_hinders_65 : decode b_Md_hinders 65 = .ok (.getfield 91, 3) := by decide +kernel
set_option maxRecDepth 100000 in
theorem d_Md_hinders_68 : decode b_Md_hinders 68 = .ok (.bipush 40, 2) := by decide +kernel
set_option maxRecDepth 100000 in
theorem d_Md_hinders_70 : decode b_Md_hinders 70 = .ok (.iload 4, 2) := by decide +kernel
set_option maxRecDepth 100000 in
theorem d_Md_hinders_72 : decode b_Md_hinders 72 = .ok (.imul, 1) := by decide +kernel
set_option maxRecDepth 100000 in
theorem d_Md_hinders_73 : decode b_Md_hinders 73 = .ok (.iaload, 1) := by decide +kernel
set_option maxRecDepth 100000 in
theorem d_Md_hinders_74 : decode b_Md_hinders 74 = .ok (.iload_n 2, 1) := by decide +kernel
set_option maxRecDepth 100000 in
theorem d_Md_hinders_75 : decode b_Md_hinders 75 = .ok (.if_icmp .eq 5, 3) := by decide +kernel
set_option maxRecDepth 100000 in
theorem d_Md_hinders_78 : decode b_Md_hinders 78 = .ok (.iconst 4, 1) := by decide +kernel
set_option maxRecDepth 100000 in
theorem d_Md_hinders_79 : decode b_Md_hinders 79 = .ok (.ireturn, 1) := by decide +kernel
set_option maxRecDepth 100000 in
theorem d_Md_hinders_80 : decode b_Md_hinders 80 = .ok (.aload_n 0, 1) := by decide +kernel
set_option maxRecDepth 100000 in
theorem d_Md_hinders_81 : decode b_Md_hinders 81 = .ok (.aload_n 0, 1) := by decide +kernel
set_option maxRecDepth 100000 in
theorem d_Md_hinders_82 : decode b_Md_hinders 82 = .ok (.invokevirtual 45, 3) := by decide +kernel
set_option maxRecDepth 100000 in
theorem d_Md_hinders_85 : decode b_Md_hinders 85 = .ok (.aload_n 0, 1) := by decide +kernel
set_option maxRecDepth 100000 in
theorem d_Md_hinders_86 : decode b_Md_hinders 86 = .ok (.invokevirtual 45, 3) := by decide +kernel
set_option maxRecDepth 100000 in
theorem d_Md_hinders_89 : decode b_Md_hinders 89 = .ok (.invokevirtual 281, 3) := by decide +kernel
set_option maxRecDepth 100000 in
theorem d_Md_hinders_92 : decode b_Md_hinders 92 = .ok (.istore 5, 2) := by decide +kernel
set_option maxRecDepth 100000 in
theorem d_Md_hinders_94 : decode b_Md_hinders 94 = .ok (.iload 5, 2) := by decide +kernel
set_option maxRecDepth 100000 in
theorem d_Md_hinders_96 : decode b_Md_hinders 96 = .ok (.ifCond .lt 29, 3) := by decide +kernel
set_option maxRecDepth 100000 in
theorem d_Md_hinders_99 : decode b_Md_hinders 99 = .ok (.aload_n 0, 1) := by decide +kernel
set_option maxRecDepth 100000 in
theorem d_Md_hinders_100 : decode b_Md_hinders 100 = .ok (.iload 5, 2) := by decide +kernel
set_option maxRecDepth 100000 in
theorem d_Md_hinders_102 : decode b_Md_hinders 102 = .ok (.iload 4, 2) := by decide +kernel
set_option maxRecDepth 100000 in
theorem d_Md_hinders_104 : decode b_Md_hinders 104 = .ok (.iload_n 3, 1) := by decide +kernel
set_option maxRecDepth 100000 in
theorem d_Md_hinders_105 : decode b_Md_hinders 105 = .ok (.aload_n 0, 1) := by decide +kernel
set_option maxRecDepth 100000 in
theorem d_Md_hinders_106 : decode b_Md_hinders 106 = .ok (.invokevirtual 45, 3) := by decide +kernel
set_option maxRecDepth 100000 in
theorem d_Md_hinders_109 : decode b_Md_hinders 109 = .ok (.aload_n 0, 1) := by decide +kernel
set_option maxRecDepth 100000 in
theorem d_Md_hinders_110 : decode b_Md_hinders 110 = .ok (.invokevirtual 299, 3) := by decide +kernel
set_option maxRecDepth 100000 in
theorem d_Md_hinders_113 : decode b_Md_hinders 113 = .ok (.aload_n 0, 1) := by decide +kernel
set_option maxRecDepth 100000 in
theorem d_Md_hinders_114 : decode b_Md_hinders 114 = .ok (.getfield 94, 3) := by decide +kernel
set_option maxRecDepth 100000 in
theorem d_Md_hinders_117 : decode b_Md_hinders 117 = .ok (.iload_n 1, 1) := by decide +kernel
set_option maxRecDepth 100000 in
theorem d_Md_hinders_118 : decode b_Md_hinders 118 = .ok (.iaload, 1) := by decide +kernel
set_option maxRecDepth 100000 in
theorem d_Md_hinders_119 : decode b_Md_hinders 119 = .ok (.invokevirtual 295, 3) := by decide +kernel
set_option maxRecDepth 100000 in
theorem d_Md_hinders_122 : decode b_Md_hinders 122 = .ok (.ifCond .ge 5, 3) := by decide +kernel
set_option maxRecDepth 100000 in
theorem d_Md_hinders_125 : decode b_Md_hinders 125 = .ok (.iconst 5, 1) := by decide +kernel
set_option maxRecDepth 100000 in
theorem d_Md_hinders_126 : decode b_Md_hinders 126 = .ok (.ireturn, 1) := by decide +kernel
set_option maxRecDepth 100000 in
theorem d_Md_hinders_127 : decode b_Md_hinders 127 = .ok (.aload_n 0, 1) := by decide +kernel
set_option maxRecDepth 100000 in
theorem d_Md_hinders_128 : decode b_Md_hinders 128 = .ok (.getfield 35, 3) := by decide +kernel
set_option maxRecDepth 100000 in
theorem d_Md_hinders_131 : decode b_Md_hinders 131 = .ok (.ifCond .lt 37, 3) := by decide +kernel
set_option maxRecDepth 100000 in
theorem d_Md_hinders_134 : decode b_Md_hinders 134 = .ok (.iload 4, 2) := by decide +kernel
set_option maxRecDepth 100000 in
theorem d_Md_hinders_136 : decode b_Md_hinders 136 = .ok (.aload_n 0, 1) := by decide +kernel
set_option maxRecDepth 100000 in
theorem d_Md_hinders_137 : decode b_Md_hinders 137 = .ok (.getfield 35, 3) := by decide +kernel
set_option maxRecDepth 100000 in
theorem d_Md_hinders_140 : decode b_Md_hinders 140 = .ok (.if_icmp .gt 7, 3) := by decide +kernel
set_option maxRecDepth 100000 in
theorem d_Md_hinders_143 : decode b_Md_hinders 143 = .ok (.iconst 1, 1) := by decide +kernel
set_option maxRecDepth 100000 in
theorem d_Md_hinders_144 : decode b_Md_hinders 144 = .ok (.goto 4, 3) := by decide +kernel
set_option maxRecDepth 100000 in
theorem d_Md_hinders_147 : decode b_Md_hinders 147 = .ok (.iconst 0, 1) := by decide +kernel
set_option maxRecDepth 100000 in
theorem d_Md_hinders_148 : decode b_Md_hinders 148 = .ok (.iload_n 3, 1) := by decide +kernel
set_option maxRecDepth 100000 in
theorem d_Md_hinders_149 : decode b_Md_hinders 149 = .ok (.aload_n 0, 1) := by decide +kernel
set_option maxRecDepth 100000 in
theorem d_Md_hinders_150 : decode b_Md_hinders 150 = .ok (.getfield 35, 3) := by decide +kernel
set_option maxRecDepth 100000 in
theorem d_Md_hinders_153 : decode b_Md_hinders 153 = .ok (.if_icmp .gt 7, 3) := by decide +kernel
set_option maxRecDepth 100000 in
theorem d_Md_hinders_156 : decode b_Md_hinders 156 = .ok (.iconst 1, 1) := by decide +kernel
set_option maxRecDepth 100000 in
theorem d_Md_hinders_157 : decode b_Md_hinders 157 = .ok (.goto 4, 3) := by decide +kernel
set_option maxRecDepth 100000 in
theorem d_Md_hinders_160 : decode b_Md_hinders 160 = .ok (.iconst 0, 1) := by decide +kernel
set_option maxRecDepth 100000 in
theorem d_Md_hinders_161 : decode b_Md_hinders 161 = .ok (.if_icmp .eq 7, 3) := by decide +kernel
set_option maxRecDepth 100000 in
theorem d_Md_hinders_164 : decode b_Md_hinders 164 = .ok (.iconst 1, 1) := by decide +kernel
set_option maxRecDepth 100000 in
theorem d_Md_hinders_165 : decode b_Md_hinders 165 = .ok (.goto 4, 3) := by decide +kernel
set_option maxRecDepth 100000 in
theorem d_Md_hinders_168 : decode b_Md_hinders 168 = .ok (.iconst 0, 1) := by decide +kernel
set_option maxRecDepth 100000 in
theorem d_Md_hinders_169 : decode b_Md_hinders 169 = .ok (.istore 6, 2) := by decide +kernel
set_option maxRecDepth 100000 in
theorem d_Md_hinders_171 : decode b_Md_hinders 171 = .ok (.aload_n 0, 1) := by decide +kernel
set_option maxRecDepth 100000 in
theorem d_Md_hinders_172 : decode b_Md_hinders 172 = .ok (.aload_n 0, 1) := by decide +kernel
set_option maxRecDepth 100000 in
theorem d_Md_hinders_173 : decode b_Md_hinders 173 = .ok (.invokevirtual 45, 3) := by decide +kernel
set_option maxRecDepth 100000 in
theorem d_Md_hinders_176 : decode b_Md_hinders 176 = .ok (.aload_n 0, 1) := by decide +kernel
set_option maxRecDepth 100000 in
theorem d_Md_hinders_177 : decode b_Md_hinders 177 = .ok (.invokevirtual 299, 3) := by decide +kernel
set_option maxRecDepth 100000 in
theorem d_Md_hinders_180 : decode b_Md_hinders 180 = .ok (.invokevirtual 42, 3) := by decide +kernel
set_option maxRecDepth 100000 in
theorem d_Md_hinders_183 : decode b_Md_hinders 183 = .ok (.istore 7, 2) := by decide +kernel
set_option maxRecDepth 100000 in
theorem d_Md_hinders_185 : decode b_Md_hinders 185 = .ok (.iload 6, 2) := by decide +kernel
set_option maxRecDepth 100000 in
theorem d_Md_hinders_187 : decode b_Md_hinders 187 = .ok (.ifCond .eq 42, 3) := by decide +kernel
set_option maxRecDepth 100000 in
theorem d_Md_hinders_190 : decode b_Md_hinders 190 = .ok (.aload_n 0, 1) := by decide +kernel
set_option maxRecDepth 100000 in
theorem d_Md_hinders_191 : decode b_Md_hinders 191 = .ok (.iload 5, 2) := by decide +kernel
set_option maxRecDepth 100000 in
theorem d_Md_hinders_193 : decode b_Md_hinders 193 = .ok (.bipush 16, 2) := by decide +kernel
set_option maxRecDepth 100000 in
theorem d_Md_hinders_195 : decode b_Md_hinders 195 = .ok (.invokevirtual 289, 3) := by decide +kernel
set_option maxRecDepth 100000 in
theorem d_Md_hinders_198 : decode b_Md_hinders 198 = .ok (.ifCond .lt 31, 3) := by decide +kernel
set_option maxRecDepth 100000 in
theorem d_Md_hinders_201 : decode b_Md_hinders 201 = .ok (.aload_n 0, 1) := by decide +kernel
set_option maxRecDepth 100000 in
theorem d_Md_hinders_202 : decode b_Md_hinders 202 = .ok (.invokevirtual 299, 3) := by decide +kernel
set_option maxRecDepth 100000 in
theorem d_Md_hinders_205 : decode b_Md_hinders 205 = .ok (.aload_n 0, 1) := by decide +kernel
set_option maxRecDepth 100000 in
theorem d_Md_hinders_206 : decode b_Md_hinders 206 = .ok (.iload 5, 2) := by decide +kernel
set_option maxRecDepth 100000 in
theorem d_Md_hinders_208 : decode b_Md_hinders 208 = .ok (.bipush 16, 2) := by decide +kernel
set_option maxRecDepth 100000 in
theorem d_Md_hinders_210 : decode b_Md_hinders 210 = .ok (.invokevirtual 289, 3) := by decide +kernel
set_option maxRecDepth 100000 in
theorem d_Md_hinders_213 : decode b_Md_hinders 213 = .ok (.aload_n 0, 1) := by decide +kernel
set_option maxRecDepth 100000 in
theorem d_Md_hinders_214 : decode b_Md_hinders 214 = .ok (.getfield 146, 3) := by decide +kernel
set_option maxRecDepth 100000 in
theorem d_Md_hinders_217 : decode b_Md_hinders 217 = .ok (.iload 5, 2) := by decide +kernel
set_option maxRecDepth 100000 in
theorem d_Md_hinders_219 : decode b_Md_hinders 219 = .ok (.iaload, 1) := by decide +kernel
set_option maxRecDepth 100000 in
theorem d_Md_hinders_220 : decode b_Md_hinders 220 = .ok (.invokestatic 10, 3) := by decide +kernel
set_option maxRecDepth 100000 in
theorem d_Md_hinders_223 : decode b_Md_hinders 223 = .ok (.ifCond .ne 6, 3) := by decide +kernel
set_option maxRecDepth 100000 in
theorem d_Md_hinders_226 : decode b_Md_hinders 226 = .ok (.bipush 6, 2) := by decide +kernel
set_option maxRecDepth 100000 in
theorem d_Md_hinders_228 : decode b_Md_hinders 228 = .ok (.ireturn, 1) := by decide +kernel
set_option maxRecDepth 100000 in
theorem d_Md_hinders_229 : decode b_Md_hinders 229 = .ok (.iload 6, 2) := by decide +kernel
set_option maxRecDepth 100000 in
theorem d_Md_hinders_231 : decode b_Md_hinders 231 = .ok (.ifCond .eq 41, 3) := by decide +kernel
set_option maxRecDepth 100000 in
theorem d_Md_hinders_234 : decode b_Md_hinders 234 = .ok (.aload_n 0, 1) := by decide +kernel
set_option maxRecDepth 100000 in
theorem d_Md_hinders_235 : decode b_Md_hinders 235 = .ok (.iload 5, 2) := by decide +kernel
set_option maxRecDepth 100000 in
theorem d_Md_hinders_237 : decode b_Md_hinders 237 = .ok (.bipush 17, 2) := by decide +kernel
set_option maxRecDepth 100000 in
theorem d_Md_hinders_239 : decode b_Md_hinders 239 = .ok (.invokevirtual 289, 3) := by decide +kernel
set_option maxRecDepth 100000 in
theorem d_Md_hinders_242 : decode b_Md_hinders 242 = .ok (.ifCond .lt 30, 3) := by decide +kernel
set_option maxRecDepth 100000 in
theorem d_Md_hinders_245 : decode b_Md_hinders 245 = .ok (.iload 7, 2) := by decide +kernel
set_option maxRecDepth 100000 in
theorem d_Md_hinders_247 : decode b_Md_hinders 247 = .ok (.ifCond .ge 9, 3) := by decide +kernel
set_option maxRecDepth 100000 in
theorem d_Md_hinders_250 : decode b_Md_hinders 250 = .ok (.iload 7, 2) := by decide +kernel
set_option maxRecDepth 100000 in
theorem d_Md_hinders_252 : decode b_Md_hinders 252 = .ok (.ineg, 1) := by decide +kernel
set_option maxRecDepth 100000 in
theorem d_Md_hinders_253 : decode b_Md_hinders 253 = .ok (.goto 5, 3) := by decide +kernel
set_option maxRecDepth 100000 in
theorem d_Md_hinders_256 : decode b_Md_hinders 256 = .ok (.iload 7, 2) := by decide +kernel
set_option maxRecDepth 100000 in
theorem d_Md_hinders_258 : decode b_Md_hinders 258 = .ok (.aload_n 0, 1) := by decide +kernel
set_option maxRecDepth 100000 in
theorem d_Md_hinders_259 : decode b_Md_hinders 259 = .ok (.iload 5, 2) := by decide +kernel
set_option maxRecDepth 100000 in
theorem d_Md_hinders_261 : decode b_Md_hinders 261 = .ok (.bipush 17, 2) := by decide +kernel
set_option maxRecDepth 100000 in
theorem d_Md_hinders_263 : decode b_Md_hinders 263 = .ok (.invokevirtual 289, 3) := by decide +kernel
set_option maxRecDepth 100000 in
theorem d_Md_hinders_266 : decode b_Md_hinders 266 = .ok (.if_icmp .le 6, 3) := by decide +kernel
set_option maxRecDepth 100000 in
theorem d_Md_hinders_269 : decode b_Md_hinders 269 = .ok (.bipush 6, 2) := by decide +kernel
set_option maxRecDepth 100000 in
theorem d_Md_hinders_271 : decode b_Md_hinders 271 = .ok (.ireturn, 1) := by decide +kernel
set_option maxRecDepth 100000 in
theorem d_Md_hinders_272 : decode b_Md_hinders 272 = .ok (.aload_n 0, 1) := by decide +kernel
set_option maxRecDepth 100000 in
theorem d_Md_hinders_273 : decode b_Md_hinders 273 = .ok (.getfield 7, 3) := by decide +kernel
set_option maxRecDepth 100000 in
theorem d_Md_hinders_276 : decode b_Md_hinders 276 = .ok (.aload_n 0, 1) := by decide +kernel
set_option maxRecDepth 100000 in
theorem d_Md_hinders_277 : decode b_Md_hinders 277 = .ok (.iload_n 1, 1) := by decide +kernel
set_option maxRecDepth 100000 in
theorem d_Md_hinders_278 : decode b_Md_hinders 278 = .ok (.iload_n 3, 1) := by decide +kernel
set_option maxRecDepth 100000 in
theorem d_Md_hinders_279 : decode b_Md_hinders 279 = .ok (.invokevirtual 302, 3) := by decide +kernel
set_option maxRecDepth 100000 in
theorem d_Md_hinders_282 : decode b_Md_hinders 282 = .ok (.iadd, 1) := by decide +kernel
set_option maxRecDepth 100000 in
theorem d_Md_hinders_283 : decode b_Md_hinders 283 = .ok (.ldc_w 305, 3) := by decide +kernel
set_option maxRecDepth 100000 in
theorem d_Md_hinders_286 : decode b_Md_hinders 286 = .ok (.if_icmp .le 8, 3) := by decide +kernel
set_option maxRecDepth 100000 in
theorem d_Md_hinders_289 : decode b_Md_hinders 289 = .ok (.bipush 7, 2) := by decide +kernel
set_option maxRecDepth 100000 in
theorem d_Md_hinders_291 : decode b_Md_hinders 291 = .ok (.goto 4, 3) := by decide +kernel
set_option maxRecDepth 100000 in
theorem d_Md_hinders_294 : decode b_Md_hinders 294 = .ok (.iconst 0, 1) := by decide +kernel
set_option maxRecDepth 100000 in
theorem d_Md_hinders_295 : decode b_Md_hinders 295 = .ok (.ireturn, 1) := by decide +kernel
set_option maxRecDepth 100000 in
theorem d_Md_hourNow_0 : decode b_Md_hourNow 0 = .ok (.aload_n 0, 1) := by decide +kernel
set_option maxRecDepth 100000 in
theorem d_Md_hourNow_1 : decode b_Md_hourNow 1 = .ok (.getfield 7, 3) := by decide +kernel
set_option maxRecDepth 100000 in
theorem d_Md_hourNow_4 : decode b_Md_hourNow 4 = .ok (.sipush 720, 3) := by decide +kernel
set_option maxRecDepth 100000 in
theorem d_Md_hourNow_7 : decode b_Md_hourNow 7 = .ok (.irem, 1) := by decide +kernel
set_option maxRecDepth 100000 in
theorem d_Md_hourNow_8 : decode b_Md_hourNow 8 = .ok (.bipush 60, 2) := by decide +kernel
set_option maxRecDepth 100000 in
theorem d_Md_hourNow_10 : decode b_Md_hourNow 10 = .ok (.idiv, 1) := by decide +kernel
set_option maxRecDepth 100000 in
theorem d_Md_hourNow_11 : decode b_Md_hourNow 11 = .ok (.ireturn, 1) := by decide +kernel
set_option maxRecDepth 100000 in
theorem d_Md_inForce_0 : decode b_Md_inForce 0 = .ok (.iload_n 1, 1) := by decide +kernel
set_option maxRecDepth 100000 in
theorem d_Md_inForce_1 : decode b_Md_inForce 1 = .ok (.invokestatic 38, 3) := by decide +kernel
set_option maxRecDepth 100000 in
theorem d_Md_inForce_4 : decode b_Md_inForce 4 = .ok (.ifCond .eq 19, 3) := by decide +kernel
set_option maxRecDepth 100000 in
theorem d_Md_inForce_7 : decode b_Md_inForce 7 = .ok (.iload_n 2, 1) := by decide +kernel
set_option maxRecDepth 100000 in
theorem d_Md_inForce_8 : decode b_Md_inForce 8 = .ok (.invokestatic 38, 3) := by decide +kernel
set_option maxRecDepth 100000 in
theorem d_Md_inForce_11 : decode b_Md_inForce 11 = .ok (.ifCond .eq 12, 3) := by decide +kernel
set_option maxRecDepth 100000 in
theorem d_Md_inForce_14 : decode b_Md_inForce 14 = .ok (.aload_n 0, 1) := by decide +kernel
set_option maxRecDepth 100000 in
theorem d_Md_inForce_15 : decode b_Md_inForce 15 = .ok (.iload_n 1, 1) := by decide +kernel
set_option maxRecDepth 100000 in
theorem d_Md_inForce_16 : decode b_Md_inForce 16 = .ok (.iload_n 2, 1) := by decide +kernel
set_option maxRecDepth 100000 in
theorem d_Md_inForce_17 : decode b_Md_inForce 17 = .ok (.invokevirtual 281, 3) := by decide +kernel
set_option maxRecDepth 100000 in
theorem d_Md_inForce_20 : decode b_Md_inForce 20 = .ok (.goto 4, 3) := by decide +kernel
set_option maxRecDepth 100000 in
theorem d_Md_inForce_23 : decode b_Md_inForce 23 = .ok (.iconst (-1), 1) := by decide +kernel
set_option maxRecDepth 100000 in
theorem d_Md_inForce_24 : decode b_Md_inForce 24 = .ok (.ireturn, 1) := by decide +kernel
set_option maxRecDepth 100000 in
theorem d_Md_isAsked_0 : decode b_Md_isAsked 0 = .ok (.aload_n 0, 1) := by decide +kernel
set_option maxRecDepth 100000 in
theorem d_Md_isAsked_1 : decode b_Md_isAsked 1 = .ok (.iload_n 1, 1) := by decide +kernel
set_option maxRecDepth 100000 in
theorem d_Md_isAsked_2 : decode b_Md_isAsked 2 = .ok (.invokevirtual 209, 3) := by decide +kernel
set_option maxRecDepth 100000 in
theorem d_Md_isAsked_5 : decode b_Md_isAsked 5 = .ok (.ifCond .eq 41, 3) := by decide +kernel
set_option maxRecDepth 100000 in
theorem d_Md_isAsked_8 : decode b_Md_isAsked 8 = .ok (.aload_n 0, 1) := by decide +kernel
set_option maxRecDepth 100000 in
theorem d_Md_isAsked_9 : decode b_Md_isAsked 9 = .ok (.getfield 106, 3) := by decide +kernel
set_option maxRecDepth 100000 in
theorem d_Md_isAsked_12 : decode b_Md_isAsked 12 = .ok (.iload_n 1, 1) := by decide +kernel
set_option maxRecDepth 100000 in
theorem d_Md_isAsked_13 : decode b_Md_isAsked 13 = .ok (.baload, 1) := by decide +kernel
set_option maxRecDepth 100000 in
theorem d_Md_isAsked_14 : decode b_Md_isAsked 14 = .ok (.ifCond .ne 32, 3) := by decide +kernel
set_option maxRecDepth 100000 in
theorem d_Md_isAsked_17 : decode b_Md_isAsked 17 = .ok (.iload_n 2, 1) := by decide +kernel
set_option maxRecDepth 100000 in
theorem d_Md_isAsked_18 : decode b_Md_isAsked 18 = .ok (.invokestatic 186, 3) := by decide +kernel
set_option maxRecDepth 100000 in
theorem d_Md_isAsked_21 : decode b_Md_isAsked 21 = .ok (.ifCond .eq 25, 3) := by decide +kernel
set_option maxRecDepth 100000 in
theorem d_Md_isAsked_24 : decode b_Md_isAsked 24 = .ok (.aload_n 0, 1) := by decide +kernel
set_option maxRecDepth 100000 in
theorem d_Md_isAsked_25 : decode b_Md_isAsked 25 = .ok (.iload_n 3, 1) := by decide +kernel
set_option maxRecDepth 100000 in
theorem d_Md_isAsked_26 : decode b_Md_isAsked 26 = .ok (.invokevirtual 199, 3) := by decide +kernel
set_option maxRecDepth 100000 in
theorem d_Md_isAsked_29 : decode b_Md_isAsked 29 = .ok (.ifCond .eq 17, 3) := by decide +kernel
set_option maxRecDepth 100000 in
theorem d_Md_isAsked_32 : decode b_Md_isAsked 32 = .ok (.iload_n 3, 1) := by decide +kernel
set_option maxRecDepth 100000 in
theorem d_Md_isAsked_33 : decode b_Md_isAsked 33 = .ok (.aload_n 0, 1) := by decide +kernel
set_option maxRecDepth 100000 in
theorem d_Md_isAsked_34 : decode b_Md_isAsked 34 = .ok (.getfield 97, 3) := by decide +kernel
set_option maxRecDepth 100000 in
theorem d_Md_isAsked_37 : decode b_Md_isAsked 37 = .ok (.iload_n 1, 1) := by decide +kernel
set_option maxRecDepth 100000 in
theorem d_Md_isAsked_38 : decode b_Md_isAsked 38 = .ok (.iaload, 1) := by decide +kernel
set_option maxRecDepth 100000 in
theorem d_Md_isAsked_39 : decode b_Md_isAsked 39 = .ok (.if_icmp .eq 7, 3) := by decide +kernel
set_option maxRecDepth 100000 in
theorem d_Md_isAsked_42 : decode b_Md_isAsked 42 = .ok (.iconst 1, 1) := by decide +kernel
set_option maxRecDepth 100000 in
theorem d_Md_isAsked_43 : decode b_Md_isAsked 43 = .ok (.goto 4, 3) := by decide +kernel
set_option maxRecDepth 100000 in
theorem d_Md_isAsked_46 : decode b_Md_isAsked 46 = .ok (.iconst 0, 1) := by decide +kernel
set_option maxRecDepth 100000 in
theorem d_Md_isAsked_47 : decode b_Md_isAsked 47 = .ok (.ireturn, 1) := by decide +kernel
set_option maxRecDepth 100000 in
theorem d_Md_isBoat_0 : decode b_Md_isBoat 0 = .ok (.iload_n 1, 1) := by decide +kernel
set_option maxRecDepth 100000 in
theorem d_Md_isBoat_1 : decode b_Md_isBoat 1 = .ok (.iconst 0, 1) := by decide +kernel
set_option maxRecDepth 100000 in
theorem d_Md_isBoat_2 : decode b_Md_isBoat 2 = .ok (.aload_n 0, 1) := by decide +kernel
set_option maxRecDepth 100000 in
theorem d_Md_isBoat_3 : decode b_Md_isBoat 3 = .ok (.getfield 206, 3) := by decide +kernel
set_option maxRecDepth 100000 in
theorem d_Md_isBoat_6 : decode b_Md_isBoat 6 = .ok (.iconst 1, 1) := by decide +kernel
set_option maxRecDepth 100000 in
theorem d_Md_isBoat_7 : decode b_Md_isBoat 7 = .ok (.isub, 1) := by decide +kernel
set_option maxRecDepth 100000 in
theorem d_Md_isBoat_8 : decode b_Md_isBoat 8 = .ok (.invokestatic 10, 3) := by decide +kernel
set_option maxRecDepth 100000 in
theorem d_Md_isBoat_11 : decode b_Md_isBoat 11 = .ok (.ireturn, 1) := by decide +kernel
set_option maxRecDepth 100000 in
theorem d_Md_isDay_0 : decode b_Md_isDay 0 = .ok (.iload_n 0, 1) := by decide +kernel
set_option maxRecDepth 100000 in
theorem d_Md_isDay_1 : decode b_Md_isDay 1 = .ok (.iconst 0, 1) := by decide +kernel
set_option maxRecDepth 100000 in
theorem d_Md_isDay_2 : decode b_Md_isDay 2 = .ok (.sipush 499, 3) := by decide +kernel
set_option maxRecDepth 100000 in
theorem d_Md_isDay_5 : decode b_Md_isDay 5 = .ok (.invokestatic 10, 3) := by decide +kernel
set_option maxRecDepth 100000 in
theorem d_Md_isDay_8 : decode b_Md_isDay 8 = .ok (.ireturn, 1) := by decide +kernel
set_option maxRecDepth 100000 in
theorem d_Md_isDigit_0 : decode b_Md_isDigit 0 = .ok (.iload_n 0, 1) := by decide +kernel
set_option maxRecDepth 100000 in
theorem d_Md_isDigit_1 : decode b_Md_isDigit 1 = .ok (.bipush 48, 2) := by decide +kernel
set_option maxRecDepth 100000 in
theorem d_Md_isDigit_3 : decode b_Md_isDigit 3 = .ok (.if_icmp .lt 13, 3) := by decide +kernel
set_option maxRecDepth 100000 in
theorem d_Md_isDigit_6 : decode b_Md_isDigit 6 = .ok (.iload_n 0, 1) := by decide +kernel
set_option maxRecDepth 100000 in
theorem d_Md_isDigit_7 : decode b_Md_isDigit 7 = .ok (.bipush 57, 2) := by decide +kernel
set_option maxRecDepth 100000 in
theorem d_Md_isDigit_9 : decode b_Md_isDigit 9 = .ok (.if_icmp .gt 7, 3) := by decide +kernel
set_option maxRecDepth 100000 in
theorem d_Md_isDigit_12 : decode b_Md_isDigit 12 = .ok (.iconst 1, 1) := by decide +kernel
set_option maxRecDepth 100000 in
theorem d_Md_isDigit_13 : decode b_Md_isDigit 13 = .ok (.goto 4, 3) := by decide +kernel
set_option maxRecDepth 100000 in
theorem d_Md_isDigit_16 : decode b_Md_isDigit 16 = .ok (.iconst 0, 1) := by decide +kernel
set_option maxRecDepth 100000 in
theorem d_Md_isDigit_17 : decode b_Md_isDigit 17 = .ok (.ireturn, 1) := by decide +kernel
set_option maxRecDepth 100000 in
theorem d_Md_isLetter_0 : decode b_Md_isLetter 0 = .ok (.iload_n 0, 1) := by decide +kernel
set_option maxRecDepth 100000 in
theorem d_Md_isLetter_1 : decode b_Md_isLetter 1 = .ok (.bipush 97, 2) := by decide +kernel
set_option maxRecDepth 100000 in
theorem d_Md_isLetter_3 : decode b_Md_isLetter 3 = .ok (.if_icmp .lt 13, 3) := by decide +kernel
set_option maxRecDepth 100000 in
theorem d_Md_isLetter_6 : decode b_Md_isLetter 6 = .ok (.iload_n 0, 1) := by decide +kernel
set_option maxRecDepth 100000 in
theorem d_Md_isLetter_7 : decode b_Md_isLetter 7 = .ok (.bipush 122, 2) := by decide +kernel
set_option maxRecDepth 100000 in
theorem d_Md_isLetter_9 : decode b_Md_isLetter 9 = .ok (.if_icmp .gt 7, 3) := by decide +kernel
set_option maxRecDepth 100000 in
theorem d_Md_isLetter_12 : decode b_Md_isLetter 12 = .ok (.iconst 1, 1) := by decide +kernel
set_option maxRecDepth 100000 in
theorem d_Md_isLetter_13 : decode b_Md_isLetter 13 = .ok (.goto 4, 3) := by decide +kernel
set_option maxRecDepth 100000 in
theorem d_Md_isLetter_16 : decode b_Md_isLetter 16 = .ok (.iconst 0, 1) := by decide +kernel
set_option maxRecDepth 100000 in
theorem d_Md_isLetter_17 : decode b_Md_isLetter 17 = .ok (.ireturn, 1) := by decide +kernel
set_option maxRecDepth 100000 in
theorem d_Md_isPension_0 : decode b_Md_isPension 0 = .ok (.iload_n 0, 1) := by decide +kernel
set_option maxRecDepth 100000 in
theorem d_Md_isPension_1 : decode b_Md_isPension 1 = .ok (.iconst 1, 1) := by decide +kernel
set_option maxRecDepth 100000 in
theorem d_Md_isPension_2 : decode b_Md_isPension 2 = .ok (.sipush 10000, 3) := by decide +kernel
set_option maxRecDepth 100000 in
theorem d_Md_isPension_5 : decode b_Md_isPension 5 = .ok (.invokestatic 10, 3) := by decide +kernel
set_option maxRecDepth 100000 in
theorem d_Md_isPension_8 : decode b_Md_isPension 8 = .ok (.ifCond .eq 18, 3) := by decide +kernel
set_option maxRecDepth 100000 in
theorem d_Md_isPension_11 : decode b_Md_isPension 11 = .ok (.iload_n 1, 1) := by decide +kernel
set_option maxRecDepth 100000 in
theorem d_Md_isPension_12 : decode b_Md_isPension 12 = .ok (.iconst 0, 1) := by decide +kernel
set_option maxRecDepth 100000 in
theorem d_Md_isPension_13 : decode b_Md_isPension 13 = .ok (.sipush 9999, 3) := by decide +kernel
set_option maxRecDepth 100000 in
theorem d_Md_isPension_16 : decode b_Md_isPension 16 = .ok (.invokestatic 10, 3) := by decide +kernel
set_option maxRecDepth 100000 in
theorem d_Md_isPension_19 : decode b_Md_isPension 19 = .ok (.ifCond .eq 7, 3) := by decide +kernel
set_option maxRecDepth 100000 in
theorem d_Md_isPension_22 : decode b_Md_isPension 22 = .ok (.iconst 1, 1) := by decide +kernel
set_option maxRecDepth 100000 in
theorem d_Md_isPension_23 : decode b_Md_isPension 23 = .ok (.goto 4, 3) := by decide +kernel
set_option maxRecDepth 100000 in
theorem d_Md_isPension_26 : decode b_Md_isPension 26 = .ok (.iconst 0, 1) := by decide +kernel
set_option maxRecDepth 100000 in
theorem d_Md_isPension_27 : decode b_Md_isPension 27 = .ok (.ireturn, 1) := by decide +kernel
set_option maxRecDepth 100000 in
theorem d_Md_isStairs_0 : decode b_Md_isStairs 0 = .ok (.iload_n 1, 1) := by decide +kernel
set_option maxRecDepth 100000 in
theorem d_Md_isStairs_1 : decode b_Md_isStairs 1 = .ok (.iconst 0, 1) := by decide +kernel
set_option maxRecDepth 100000 in
theorem d_Md_isStairs_2 : decode b_Md_isStairs 2 = .ok (.aload_n 0, 1) := by decide +kernel
set_option maxRecDepth 100000 in
theorem d_Md_isStairs_3 : decode b_Md_isStairs 3 = .ok (.getfield 14, 3) := by decide +kernel
set_option maxRecDepth 100000 in
theorem d_Md_isStairs_6 : decode b_Md_isStairs 6 = .ok (.iconst 1, 1) := by decide +kernel
set_option maxRecDepth 100000 in
theorem d_Md_isStairs_7 : decode b_Md_isStairs 7 = .ok (.isub, 1) := by decide +kernel
set_option maxRecDepth 100000 in
theorem d_Md_isStairs_8 : decode b_Md_isStairs 8 = .ok (.invokestatic 10, 3) := by decide +kernel
set_option maxRecDepth 100000 in
theorem d_Md_isStairs_11 : decode b_Md_isStairs 11 = .ok (.ireturn, 1) := by decide +kernel
set_option maxRecDepth 100000 in
theorem d_Md_join_0 : decode b_Md_join 0 = .ok (.aload_n 0, 1) := by decide +kernel
set_option maxRecDepth 100000 in
theorem d_Md_join_1 : decode b_Md_join 1 = .ok (.iload_n 1, 1) := by decide +kernel
set_option maxRecDepth 100000 in
theorem d_Md_join_2 : decode b_Md_join 2 = .ok (.invokevirtual 199, 3) := by decide +kernel
set_option maxRecDepth 100000 in
theorem d_Md_join_5 : decode b_Md_join 5 = .ok (.ifCond .eq 10, 3) := by decide +kernel
set_option maxRecDepth 100000 in
theorem d_Md_join_8 : decode b_Md_join 8 = .ok (.iload_n 2, 1) := by decide +kernel
set_option maxRecDepth 100000 in
theorem d_Md_join_9 : decode b_Md_join 9 = .ok (.invokestatic 186, 3) := by decide +kernel
set_option maxRecDepth 100000 in
theorem d_Md_join_12 : decode b_Md_join 12 = .ok (.ifCond .ne 5, 3) := by decide +kernel
set_option maxRecDepth 100000 in
theorem d_Md_join_15 : decode b_Md_join 15 = .ok (.iconst (-1), 1) := by decide +kernel
set_option maxRecDepth 100000 in
theorem d_Md_join_16 : decode b_Md_join 16 = .ok (.ireturn, 1) := by decide +kernel
set_option maxRecDepth 100000 in
theorem d_Md_join_17 : decode b_Md_join 17 = .ok (.aload_n 0, 1) := by decide +kernel
set_option maxRecDepth 100000 in
theorem d_Md_join_18 : decode b_Md_join 18 = .ok (.getfield 58, 3) := by decide +kernel
set_option maxRecDepth 100000 in
theorem d_Md_join_21 : decode b_Md_join 21 = .ok (.iload_n 2, 1) := by decide +kernel
set_option maxRecDepth 100000 in
theorem d_Md_join_22 : decode b_Md_join 22 = .ok (.iaload, 1) := by decide +kernel
set_option maxRecDepth 100000 in
theorem d_Md_join_23 : decode b_Md_join 23 = .ok (.iconst 2, 1) := by decide +kernel
set_option maxRecDepth 100000 in
theorem d_Md_join_24 : decode b_Md_join 24 = .ok (.if_icmp .ne 20, 3) := by decide +kernel
set_option maxRecDepth 100000 in
theorem d_Md_join_27 : decode b_Md_join 27 = .ok (.aload_n 0, 1) := by decide +kernel
set_option maxRecDepth 100000 in
theorem d_Md_join_28 : decode b_Md_join 28 = .ok (.getfield 79, 3) := by decide +kernel
set_option maxRecDepth 100000 in
theorem d_Md_join_31 : decode b_Md_join 31 = .ok (.iload_n 2, 1) := by decide +kernel
set_option maxRecDepth 100000 in
theorem d_Md_join_32 : decode b_Md_join 32 = .ok (.iaload, 1) := by decide +kernel
set_option maxRecDepth 100000 in
theorem d_Md_join_33 : decode b_Md_join 33 = .ok (.ifCond .ge 11, 3) := by decide +kernel
set_option maxRecDepth 100000 in
theorem d_Md_join_36 : decode b_Md_join 36 = .ok (.aload_n 0, 1) := by decide +kernel
set_option maxRecDepth 100000 in
theorem d_Md_join_37 : decode b_Md_join 37 = .ok (.iload_n 2, 1) := by decide +kernel
set_option maxRecDepth 100000 in
theorem d_Md_join_38 : decode b_Md_join 38 = .ok (.invokevirtual 193, 3) := by decide +kernel
set_option maxRecDepth 100000 in
theorem d_Md_join_41 : decode b_Md_join 41 = .ok (.ifCond .lt 6, 3) := by decide +kernel
set_option maxRecDepth 100000 in
theorem d_Md_join_44 : decode b_Md_join 44 = .ok (.bipush (-2), 2) := by decide +kernel
set_option maxRecDepth 100000 in
theorem d_Md_join_46 : decode b_Md_join 46 = .ok (.ireturn, 1) := by decide +kernel
set_option maxRecDepth 100000 in
theorem d_Md_join_47 : decode b_Md_join 47 = .ok (.aload_n 0, 1) := by decide +kernel
set_option maxRecDepth 100000 in
theorem d_Md_join_48 : decode b_Md_join 48 = .ok (.getfield 91, 3) := by decide +kernel
set_option maxRecDepth 100000 in
theorem d_Md_join_51 : decode b_Md_join 51 = .ok (.bipush 40, 2) := by decide +kernel
set_option maxRecDepth 100000 in
theorem d_Md_join_53 : decode b_Md_join 53 = .ok (.iload_n 1, 1) := by decide +kernel
set_option maxRecDepth 100000 in
theorem d_Md_join_54 : decode b_Md_join 54 = .ok (.imul, 1) := by decide +kernel
set_option maxRecDepth 100000 in
theorem d_Md_join_55 : decode b_Md_join 55 = .ok (.aload_n 0, 1) := by decide +kernel
set_option maxRecDepth 100000 in
theorem d_Md_join_56 : decode b_Md_join 56 = .ok (.getfield 88, 3) := by decide +kernel
set_option maxRecDepth 100000 in
theorem d_Md_join_59 : decode b_Md_join 59 = .ok (.iload_n 1, 1) := by decide +kernel
set_option maxRecDepth 100000 in
theorem d_Md_join_60 : decode b_Md_join 60 = .ok (.iaload, 1) := by decide +kernel
set_option maxRecDepth 100000 in
theorem d_Md_join_61 : decode b_Md_join 61 = .ok (.iadd, 1) := by decide +kernel
set_option maxRecDepth 100000 in
theorem d_Md_join_62 : decode b_Md_join 62 = .ok (.iload_n 2, 1) := by decide +kernel
set_option maxRecDepth 100000 in
theorem d_Md_join_63 : decode b_Md_join 63 = .ok (.iastore, 1) := by decide +kernel
set_option maxRecDepth 100000 in
theorem d_Md_join_64 : decode b_Md_join 64 = .ok (.aload_n 0, 1) := by decide +kernel
set_option maxRecDepth 100000 in
theorem d_Md_join_65 : decode b_Md_join 65 = .ok (.getfield 88, 3) := by decide +kernel
set_option maxRecDepth 100000 in
theorem d_Md_join_68 : decode b_Md_join 68 = .ok (.iload_n 1, 1) := by decide +kernel
set_option maxRecDepth 100000 in
theorem d_Md_join_69 : decode b_Md_join 69 = .ok (.dup2, 1) := by decide +kernel
set_option maxRecDepth 100000 in
theorem d_Md_join_70 : decode b_Md_join 70 = .ok (.iaload, 1) := by decide +kernel
set_option maxRecDepth 100000 in
theorem d_Md_join_71 : decode b_Md_join 71 = .ok (.iconst 1, 1) := by decide +kernel
set_option maxRecDepth 100000 in
theorem d_Md_join_72 : decode b_Md_join 72 = .ok (.iadd, 1) := by decide +kernel
set_option maxRecDepth 100000 in
theorem d_Md_join_73 : decode b_Md_join 73 = .ok (.iastore, 1) := by decide +kernel
set_option maxRecDepth 100000 in
theorem d_Md_join_74 : decode b_Md_join 74 = .ok (.aload_n 0, 1) := by decide +kernel
set_option maxRecDepth 100000 in
theorem d_Md_join_75 : decode b_Md_join 75 = .ok (.getfield 88, 3) := by decide +kernel
set_option maxRecDepth 100000 in
theorem d_Md_join_78 : decode b_Md_join 78 = .ok (.iload_n 1, 1) := by decide +kernel
set_option maxRecDepth 100000 in
theorem d_Md_join_79 : decode b_Md_join 79 = .ok (.iaload, 1) := by decide +kernel
set_option maxRecDepth 100000 in
theorem d_Md_join_80 : decode b_Md_join 80 = .ok (.ireturn, 1) := by decide +kernel
set_option maxRecDepth 100000 in
theorem d_Md_leave_0 : decode b_Md_leave 0 = .ok (.iload_n 1, 1) := by decide +kernel
set_option maxRecDepth 100000 in
theorem d_Md_leave_1 : decode b_Md_leave 1 = .ok (.invokestatic 186, 3) := by decide +kernel
set_option maxRecDepth 100000 in
theorem d_Md_leave_4 : decode b_Md_leave 4 = .ok (.ifCond .ne 5, 3) := by decide +kernel
set_option maxRecDepth 100000 in
theorem d_Md_leave_7 : decode b_Md_leave 7 = .ok (.iconst (-1), 1) := by decide +kernel
set_option maxRecDepth 100000 in
theorem d_Md_leave_8 : decode b_Md_leave 8 = .ok (.ireturn, 1) := by decide +kernel
set_option maxRecDepth 100000 in
theorem d_Md_leave_9 : decode b_Md_leave 9 = .ok (.aload_n 0, 1) := by decide +kernel
set_option maxRecDepth 100000 in
theorem d_Md_leave_10 : decode b_Md_leave 10 = .ok (.iload_n 1, 1) := by decide +kernel
set_option maxRecDepth 100000 in
theorem d_Md_leave_11 : decode b_Md_leave 11 = .ok (.invokevirtual 193, 3) := by decide +kernel
set_option maxRecDepth 100000 in
theorem d_Md_leave_14 : decode b_Md_leave 14 = .ok (.ifCond .ge 6, 3) := by decide +kernel
set_option maxRecDepth 100000 in
theorem d_Md_leave_17 : decode b_Md_leave 17 = .ok (.bipush (-2), 2) := by decide +kernel
set_option maxRecDepth 100000 in
theorem d_Md_leave_19 : decode b_Md_leave 19 = .ok (.ireturn, 1) := by decide +kernel
set_option maxRecDepth 100000 in
theorem d_Md_leave_20 : decode b_Md_leave 20 = .ok (.aload_n 0, 1) := by decide +kernel
set_option maxRecDepth 100000 in
theorem d_Md_leave_21 : decode b_Md_leave 21 = .ok (.iload_n 1, 1) := by decide +kernel
set_option maxRecDepth 100000 in
theorem d_Md_leave_22 : decode b_Md_leave 22 = .ok (.invokevirtual 202, 3) := by decide +kernel
set_option maxRecDepth 100000 in
theorem d_Md_leave_25 : decode b_Md_leave 25 = .ok (.iconst 1, 1) := by decide +kernel
set_option maxRecDepth 100000 in
theorem d_Md_leave_26 : decode b_Md_leave 26 = .ok (.ireturn, 1) := by decide +kernel
set_option maxRecDepth 100000 in
theorem d_Md_leaves_0 : decode b_Md_leaves 0 = .ok (.aload_n 0, 1) := by decide +kernel
set_option maxRecDepth 100000 in
theorem d_Md_leaves_1 : decode b_Md_leaves 1 = .ok (.iload_n 1, 1) := by decide +kernel
set_option maxRecDepth 100000 in
theorem d_Md_leaves_2 : decode b_Md_leaves 2 = .ok (.invokevirtual 193, 3) := by decide +kernel
set_option maxRecDepth 100000 in
theorem d_Md_leaves_5 : decode b_Md_leaves 5 = .ok (.istore_n 2, 1) := by decide +kernel
set_option maxRecDepth 100000 in
theorem d_Md_leaves_6 : decode b_Md_leaves 6 = .ok (.iload_n 2, 1) := by decide +kernel
set_option maxRecDepth 100000 in
theorem d_Md_leaves_7 : decode b_Md_leaves 7 = .ok (.ifCond .ge 4, 3) := by decide +kernel
set_option maxRecDepth 100000 in
theorem d_Md_leaves_10 : decode b_Md_leaves 10 = .ok (.return_, 1) := by decide +kernel
set_option maxRecDepth 100000 in
theorem d_Md_leaves_11 : decode b_Md_leaves 11 = .ok (.aload_n 0, 1) := by decide +kernel
set_option maxRecDepth 100000 in
theorem d_Md_leaves_12 : decode b_Md_leaves 12 = .ok (.iload_n 1, 1) := by decide +kernel
set_option maxRecDepth 100000 in
theorem d_Md_leaves_13 : decode b_Md_leaves 13 = .ok (.invokevirtual 196, 3) := by decide +kernel
set_option maxRecDepth 100000 in
theorem d_Md_leaves_16 : decode b_Md_leaves 16 = .ok (.istore_n 3, 1) := by decide +kernel
set_option maxRecDepth 100000 in
theorem d_Md_leaves_17 : decode b_Md_leaves 17 = .ok (.aload_n 0, 1) := by decide +kernel
set_option maxRecDepth 100000 in
theorem d_Md_leaves_18 : decode b_Md_leaves 18 = .ok (.getfield 88, 3) := by decide +kernel
set_option maxRecDepth 100000 in
theorem d_Md_leaves_21 : decode b_Md_leaves 21 = .ok (.iload_n 2, 1) := by decide +kernel
set_option maxRecDepth 100000 in
theorem d_Md_leaves_22 : decode b_Md_leaves 22 = .ok (.dup2, 1) := by decide +kernel
set_option maxRecDepth 100000 in
theorem d_Md_leaves_23 : decode b_Md_leaves 23 = .ok (.iaload, 1) := by decide +kernel
set_option maxRecDepth 100000 in
theorem d_Md_leaves_24 : decode b_Md_leaves 24 = .ok (.iconst 1, 1) := by decide +kernel
set_option maxRecDepth 100000 in
theorem d_Md_leaves_25 : decode b_Md_leaves 25 = .ok (.isub, 1) := by decide +kernel
set_option maxRecDepth 100000 in
theorem d_Md_leaves_26 : decode b_Md_leaves 26 = .ok (.iastore, 1) := by decide +kernel
set_option maxRecDepth 100000 in
theorem d_Md_leaves_27 : decode b_Md_leaves 27 = .ok (.iload_n 3, 1) := by decide +kernel
set_option maxRecDepth 100000 in
theorem d_Md_leaves_28 : decode b_Md_leaves 28 = .ok (.istore 4, 2) := by decide +kernel
set_option maxRecDepth 100000 in
theorem d_Md_leaves_30 : decode b_Md_leaves 30 = .ok (.iload 4, 2) := by decide +kernel
set_option maxRecDepth 100000 in
theorem d_Md_leaves_32 : decode b_Md_leaves 32 = .ok (.aload_n 0, 1) := by decide +kernel
set_option maxRecDepth 100000 in
theorem d_Md_leaves_33 : decode b_Md_leaves 33 = .ok (.getfield 88, 3) := by decide +kernel
set_option maxRecDepth 100000 in
theorem d_Md_leaves_36 : decode b_Md_leaves 36 = .ok (.iload_n 2, 1) := by decide +kernel
set_option maxRecDepth 100000 in
theorem d_Md_leaves_37 : decode b_Md_leaves 37 = .ok (.iaload, 1) := by decide +kernel
set_option maxRecDepth 100000 in
theorem d_Md_leaves_38 : decode b_Md_leaves 38 = .ok (.if_icmp .ge 35, 3) := by decide +kernel
set_option maxRecDepth 100000 in
theorem d_Md_leaves_41 : decode b_Md_leaves 41 = .ok (.aload_n 0, 1) := by decide +kernel
set_option maxRecDepth 100000 in
theorem d_Md_leaves_42 : decode b_Md_leaves 42 = .ok (.getfield 91, 3) := by decide +kernel
set_option maxRecDepth 100000 in
theorem d_Md_leaves_45 : decode b_Md_leaves 45 = .ok (.bipush 40, 2) := by decide +kernel
set_option maxRecDepth 100000 in
theorem d_Md_leaves_47 : decode b_Md_leaves 47 = .ok (.iload_n 2, 1) := by decide +kernel
set_option maxRecDepth 100000 in
theorem d_Md_leaves_48 : decode b_Md_leaves 48 = .ok (.imul, 1) := by decide +kernel
set_option maxRecDepth 100000 in
theorem d_Md_leaves_49 : decode b_Md_leaves 49 = .ok (.iload 4, 2) := by decide +kernel
set_option maxRecDepth 100000 in
theorem d_Md_leaves_51 : decode b_Md_leaves 51 = .ok (.iadd, 1) := by decide +kernel
set_option maxRecDepth 100000 in
theorem d_Md_leaves_52 : decode b_Md_leaves 52 = .ok (.aload_n 0, 1) := by decide +kernel
set_option maxRecDepth 100000 in
theorem d_Md_leaves_53 : decode b_Md_leaves 53 = .ok (.getfield 91, 3) := by decide +kernel
set_option maxRecDepth 100000 in
theorem d_Md_leaves_56 : decode b_Md_leaves 56 = .ok (.bipush 40, 2) := by decide +kernel
set_option maxRecDepth 100000 in
theorem d_Md_leaves_58 : decode b_Md_leaves 58 = .ok (.iload_n 2, 1) := by decide +kernel
set_option maxRecDepth 100000 in
theorem d_Md_leaves_59 : decode b_Md_leaves 59 = .ok (.imul, 1) := by decide +kernel
set_option maxRecDepth 100000 in
theorem d_Md_leaves_60 : decode b_Md_leaves 60 = .ok (.iload 4, 2) := by decide +kernel
set_option maxRecDepth 100000 in
theorem d_Md_leaves_62 : decode b_Md_leaves 62 = .ok (.iadd, 1) := by decide +kernel
set_option maxRecDepth 100000 in
theorem d_Md_leaves_63 : decode b_Md_leaves 63 = .ok (.iconst 1, 1) := by decide +kernel
set_option maxRecDepth 100000 in
theorem d_Md_leaves_64 : decode b_Md_leaves 64 = .ok (.iadd, 1) := by decide +kernel
set_option maxRecDepth 100000 in
theorem d_Md_leaves_65 : decode b_Md_leaves 65 = .ok (.iaload, 1) := by decide +kernel
set_option maxRecDepth 100000 in
theorem d_Md_leaves_66 : decode b_Md_leaves 66 = .ok (.iastore, 1) := by decide +kernel
set_option maxRecDepth 100000 in
theorem d_Md_leaves_67 : decode b_Md_leaves 67 = .ok (.iinc 4 1, 3) := by decide +kernel
set_option maxRecDepth 100000 in
theorem d_Md_leaves_70 : decode b_Md_leaves 70 = .ok (.goto (-40), 3) := by decide +kernel
set_option maxRecDepth 100000 in
theorem d_Md_leaves_73 : decode b_Md_leaves 73 = .ok (.return_, 1) := by decide +kernel
set_option maxRecDepth 100000 in
theorem d_Md_level_0 : decode b_Md_level 0 = .ok (.iload_n 1, 1) := by decide +kernel
set_option maxRecDepth 100000 in
theorem d_Md_level_1 : decode b_Md_level 1 = .ok (.invokestatic 38, 3) := by decide +kernel
set_option maxRecDepth 100000 in
theorem d_Md_level_4 : decode b_Md_level 4 = .ok (.ifCond .eq 24, 3) := by decide +kernel
set_option maxRecDepth 100000 in
theorem d_Md_level_7 : decode b_Md_level 7 = .ok (.iload_n 2, 1) := by decide +kernel
set_option maxRecDepth 100000 in
theorem d_Md_level_8 : decode b_Md_level 8 = .ok (.iconst 0, 1) := by decide +kernel
set_option maxRecDepth 100000 in
theorem d_Md_level_9 : decode b_Md_level 9 = .ok (.bipush 11, 2) := by decide +kernel
set_option maxRecDepth 100000 in
theorem d_Md_level_11 : decode b_Md_level 11 = .ok (.invokestatic 10, 3) := by decide +kernel
set_option maxRecDepth 100000 in
theorem d_Md_level_14 : decode b_Md_level 14 = .ok (.ifCond .eq 14, 3) := by decide +kernel
set_option maxRecDepth 100000 in
theorem d_Md_level_17 : decode b_Md_level 17 = .ok (.iload_n 3, 1) := by decide +kernel
set_option maxRecDepth 100000 in
theorem d_Md_level_18 : decode b_Md_level 18 = .ok (.bipush (-90), 2) := by decide +kernel
set_option maxRecDepth 100000 in
theorem d_Md_level_20 : decode b_Md_level 20 = .ok (.bipush 90, 2) := by decide +kernel
set_option maxRecDepth 100000 in
theorem d_Md_level_22 : decode b_Md_level 22 = .ok (.invokestatic 10, 3) := by decide +kernel
set_option maxRecDepth 100000 in
theorem d_Md_level_25 : decode b_Md_level 25 = .ok (.ifCond .ne 5, 3) := by decide +kernel
set_option maxRecDepth 100000 in
theorem d_Md_level_28 : decode b_Md_level 28 = .ok (.iconst (-1), 1) := by decide +kernel
set_option maxRecDepth 100000 in
theorem d_Md_level_29 : decode b_Md_level 29 = .ok (.ireturn, 1) := by decide +kernel
set_option maxRecDepth 100000 in
theorem d_Md_level_30 : decode b_Md_level 30 = .ok (.iconst 0, 1) := by decide +kernel
set_option maxRecDepth 100000 in
theorem d_Md_level_31 : decode b_Md_level 31 = .ok (.istore 4, 2) := by decide +kernel
set_option maxRecDepth 100000 in
theorem d_Md_level_33 : decode b_Md_level 33 = .ok (.iload 4, 2) := by decide +kernel
set_option maxRecDepth 100000 in
theorem d_Md_level_35 : decode b_Md_level 35 = .ok (.bipush 12, 2) := by decide +kernel
set_option maxRecDepth 100000 in
theorem d_Md_level_37 : decode b_Md_level 37 = .ok (.if_icmp .ge 42, 3) := by decide +kernel
set_option maxRecDepth 100000 in
theorem d_Md_level_40 : decode b_Md_level 40 = .ok (.aload_n 0, 1) := by decide +kernel
set_option maxRecDepth 100000 in
theorem d_Md_level_41 : decode b_Md_level 41 = .ok (.getfield 17, 3) := by decide +kernel
set_option maxRecDepth 100000 in
theorem d_Md_level_44 : decode b_Md_level 44 = .ok (.iload_n 1, 1) := by decide +kernel
set_option maxRecDepth 100000 in
theorem d_Md_level_45 : decode b_Md_level 45 = .ok (.baload, 1) := by decide +kernel
set_option maxRecDepth 100000 in
theorem d_Md_level_46 : decode b_Md_level 46 = .ok (.ifCond .ne 33, 3) := by decide +kernel
set_option maxRecDepth 100000 in
theorem d_Md_level_49 : decode b_Md_level 49 = .ok (.aload_n 0, 1) := by decide +kernel
set_option maxRecDepth 100000 in
theorem d_Md_level_50 : decode b_Md_level 50 = .ok (.getfield 21, 3) := by decide +kernel
set_option maxRecDepth 100000 in
theorem d_Md_level_53 : decode b_Md_level 53 = .ok (.bipush 12, 2) := by decide +kernel
set_option maxRecDepth 100000 in
theorem d_Md_level_55 : decode b_Md_level 55 = .ok (.iload_n 1, 1) := by decide +kernel
set_option maxRecDepth 100000 in
theorem d_Md_level_56 : decode b_Md_level 56 = .ok (.imul, 1) := by decide +kernel
set_option maxRecDepth 100000 in
theorem d_Md_level_57 : decode b_Md_level 57 = .ok (.iload 4, 2) := by decide +kernel
set_option maxRecDepth 100000 in
theorem d_Md_level_59 : decode b_Md_level 59 = .ok (.iadd, 1) := by decide +kernel
set_option maxRecDepth 100000 in
theorem d_Md_level_60 : decode b_Md_level 60 = .ok (.aload_n 0, 1) := by decide +kernel
set_option maxRecDepth 100000 in
theorem d_Md_level_61 : decode b_Md_level 61 = .ok (.getfield 25, 3) := by decide +kernel
set_option maxRecDepth 100000 in
theorem d_Md_level_64 : decode b_Md_level 64 = .ok (.iload 4, 2) := by decide +kernel
set_option maxRecDepth 100000 in
theorem d_Md_level_66 : decode b_Md_level 66 = .ok (.iload_n 1, 1) := by decide +kernel
set_option maxRecDepth 100000 in
theorem d_Md_level_67 : decode b_Md_level 67 = .ok (.iadd, 1) := by decide +kernel
set_option maxRecDepth 100000 in
theorem d_Md_level_68 : decode b_Md_level 68 = .ok (.bipush 12, 2) := by decide +kernel
set_option maxRecDepth 100000 in
theorem d_Md_level_70 : decode b_Md_level 70 = .ok (.irem, 1) := by decide +kernel
set_option maxRecDepth 100000 in
theorem d_Md_level_71 : decode b_Md_level 71 = .ok (.iaload, 1) := by decide +kernel
set_option maxRecDepth 100000 in
theorem d_Md_level_72 : decode b_Md_level 72 = .ok (.iastore, 1) := by decide +kernel
set_option maxRecDepth 100000 in
theorem d_Md_level_73 : decode b_Md_level 73 = .ok (.iinc 4 1, 3) := by decide +kernel
set_option maxRecDepth 100000 in
theorem d_Md_level_76 : decode b_Md_level 76 = .ok (.goto (-43), 3) := by decide +kernel
set_option maxRecDepth 100000 in
theorem d_Md_level_79 : decode b_Md_level 79 = .ok (.aload_n 0, 1) := by decide +kernel
set_option maxRecDepth 100000 in
theorem d_Md_level_80 : decode b_Md_level 80 = .ok (.getfield 17, 3) := by decide +kernel
set_option maxRecDepth 100000 in
theorem d_Md_level_83 : decode b_Md_level 83 = .ok (.iload_n 1, 1) := by decide +kernel
set_option maxRecDepth 100000 in
theorem d_Md_level_84 : decode b_Md_level 84 = .ok (.iconst 1, 1) := by decide +kernel
set_option maxRecDepth 100000 in
theorem d_Md_level_85 : decode b_Md_level 85 = .ok (.bastore, 1) := by decide +kernel
set_option maxRecDepth 100000 in
theorem d_Md_level_86 : decode b_Md_level 86 = .ok (.aload_n 0, 1) := by decide +kernel
set_option maxRecDepth 100000 in
theorem d_Md_level_87 : decode b_Md_level 87 = .ok (.getfield 21, 3) := by decide +kernel
set_option maxRecDepth 100000 in
theorem d_Md_level_90 : decode b_Md_level 90 = .ok (.bipush 12, 2) := by decide +kernel
set_option maxRecDepth 100000 in
theorem d_Md_level_92 : decode b_Md_level 92 = .ok (.iload_n 1, 1) := by decide +kernel
set_option maxRecDepth 100000 in
theorem d_Md_level_93 : decode b_Md_level 93 = .ok (.imul, 1) := by decide +kernel
set_option maxRecDepth 100000 in
theorem d_Md_level_94 : decode b_Md_level 94 = .ok (.iload_n 2, 1) := by decide +kernel
set_option maxRecDepth 100000 in
theorem d_Md_level_95 : decode b_Md_level 95 = .ok (.iadd, 1) := by decide +kernel
set_option maxRecDepth 100000 in
theorem d_Md_level_96 : decode b_Md_level 96 = .ok (.iload_n 3, 1) := by decide +kernel
set_option maxRecDepth 100000 in
theorem d_Md_level_97 : decode b_Md_level 97 = .ok (.iastore, 1) := by decide +kernel
set_option maxRecDepth 100000 in
theorem d_Md_level_98 : decode b_Md_level 98 = .ok (.iconst 1, 1) := by decide +kernel
set_option maxRecDepth 100000 in
theorem d_Md_level_99 : decode b_Md_level 99 = .ok (.ireturn, 1) := by decide +kernel
set_option maxRecDepth 100000 in
theorem d_Md_levelOf_0 : decode b_Md_levelOf 0 = .ok (.iload_n 1, 1) := by decide +kernel
set_option maxRecDepth 100000 in
theorem d_Md_levelOf_1 : decode b_Md_levelOf 1 = .ok (.sipush 500, 3) := by decide +kernel
set_option maxRecDepth 100000 in
theorem d_Md_levelOf_4 : decode b_Md_levelOf 4 = .ok (.if_icmp .ge 26, 3) := by decide +kernel
set_option maxRecDepth 100000 in
theorem d_Md_levelOf_7 : decode b_Md_levelOf 7 = .ok (.aload_n 0, 1) := by decide +kernel
set_option maxRecDepth 100000 in
theorem d_Md_levelOf_8 : decode b_Md_levelOf 8 = .ok (.getfield 17, 3) := by decide +kernel
set_option maxRecDepth 100000 in
theorem d_Md_levelOf_11 : decode b_Md_levelOf 11 = .ok (.iload_n 1, 1) := by decide +kernel
set_option maxRecDepth 100000 in
theorem d_Md_levelOf_12 : decode b_Md_levelOf 12 = .ok (.baload, 1) := by decide +kernel
set_option maxRecDepth 100000 in
theorem d_Md_levelOf_13 : decode b_Md_levelOf 13 = .ok (.ifCond .eq 17, 3) := by decide +kernel
set_option maxRecDepth 100000 in
theorem d_Md_levelOf_16 : decode b_Md_levelOf 16 = .ok (.aload_n 0, 1) := by decide +kernel
set_option maxRecDepth 100000 in
theorem d_Md_levelOf_17 : decode b_Md_levelOf 17 = .ok (.getfield 21, 3) := by decide +kernel
set_option maxRecDepth 100000 in
theorem d_Md_levelOf_20 : decode b_Md_levelOf 20 = .ok (.bipush 12, 2) := by decide +kernel
set_option maxRecDepth 100000 in
theorem d_Md_levelOf_22 : decode b_Md_levelOf 22 = .ok (.iload_n 1, 1) := by decide +kernel
set_option maxRecDepth 100000 in
theorem d_Md_levelOf_23 : decode b_Md_levelOf 23 = .ok (.imul, 1) := by decide +kernel
set_option maxRecDepth 100000 in
theorem d_Md_levelOf_24 : decode b_Md_levelOf 24 = .ok (.iload_n 2, 1) := by decide +kernel
set_option maxRecDepth 100000 in
theorem d_Md_levelOf_25 : decode b_Md_levelOf 25 = .ok (.iadd, 1) := by decide +kernel
set_option maxRecDepth 100000 in
theorem d_Md_levelOf_26 : decode b_Md_levelOf 26 = .ok (.iaload, 1) := by decide +kernel
set_option maxRecDepth 100000 in
theorem d_Md_levelOf_27 : decode b_Md_levelOf 27 = .ok (.goto 14, 3) := by decide +kernel
set_option maxRecDepth 100000 in
theorem d_Md_levelOf_30 : decode b_Md_levelOf 30 = .ok (.aload_n 0, 1) := by decide +kernel
set_option maxRecDepth 100000 in
theorem d_Md_levelOf_31 : decode b_Md_levelOf 31 = .ok (.getfield 25, 3) := by decide +kernel
set_option maxRecDepth 100000 in
theorem d_Md_levelOf_34 : decode b_Md_levelOf 34 = .ok (.iload_n 2, 1) := by decide +kernel
set_option maxRecDepth 100000 in
theorem d_Md_levelOf_35 : decode b_Md_levelOf 35 = .ok (.iload_n 1, 1) := by decide +kernel
set_option maxRecDepth 100000 in
theorem d_Md_levelOf_36 : decode b_Md_levelOf 36 = .ok (.iadd, 1) := by decide +kernel
set_option maxRecDepth 100000 in
theorem d_Md_levelOf_37 : decode b_Md_levelOf 37 = .ok (.bipush 12, 2) := by decide +kernel
set_option maxRecDepth 100000 in
theorem d_Md_levelOf_39 : decode b_Md_levelOf 39 = .ok (.irem, 1) := by decide +kernel
set_option maxRecDepth 100000 in
theorem d_Md_levelOf_40 : decode b_Md_levelOf 40 = .ok (.iaload, 1) := by decide +kernel
set_option maxRecDepth 100000 in
theorem d_Md_levelOf_41 : decode b_Md_levelOf 41 = .ok (.ireturn, 1) := by decide +kernel
set_option maxRecDepth 100000 in
theorem d_Md_line_0 : decode b_Md_line 0 = .ok (.aload_n 0, 1) := by decide +kernel
set_option maxRecDepth 100000 in
theorem d_Md_line_1 : decode b_Md_line 1 = .ok (.getfield 224, 3) := by decide +kernel
set_option maxRecDepth 100000 in
theorem d_Md_line_4 : decode b_Md_line 4 = .ok (.istore_n 2, 1) := by decide +kernel
set_option maxRecDepth 100000 in
theorem d_Md_line_5 : decode b_Md_line 5 = .ok (.iload_n 2, 1) := by decide +kernel
set_option maxRecDepth 100000 in
theorem d_Md_line_6 : decode b_Md_line 6 = .ok (.bipush 10, 2) := by decide +kernel
set_option maxRecDepth 100000 in
theorem d_Md_line_8 : decode b_Md_line 8 = .ok (.if_icmp .ge 5, 3) := by decide +kernel
set_option maxRecDepth 100000 in
theorem d_Md_line_11 : decode b_Md_line 11 = .ok (.iconst 0, 1) := by decide +kernel
set_option maxRecDepth 100000 in
theorem d_Md_line_12 : decode b_Md_line 12 = .ok (.ireturn, 1) := by decide +kernel
set_option maxRecDepth 100000 in
theorem d_Md_line_13 : decode b_Md_line 13 = .ok (.iload_n 2, 1) := by decide +kernel
set_option maxRecDepth 100000 in
theorem d_Md_line_14 : decode b_Md_line 14 = .ok (.bipush 10, 2) := by decide +kernel
set_option maxRecDepth 100000 in
theorem d_Md_line_16 : decode b_Md_line 16 = .ok (.if_icmp .ne 17, 3) := by decide +kernel
set_option maxRecDepth 100000 in
theorem d_Md_line_19 : decode b_Md_line 19 = .ok (.aload_n 0, 1) := by decide +kernel
set_option maxRecDepth 100000 in
theorem d_Md_line_20 : decode b_Md_line 20 = .ok (.getfield 119, 3) := by decide +kernel
set_option maxRecDepth 100000 in
theorem d_Md_line_23 : decode b_Md_line 23 = .ok (.iload_n 1, 1) := by decide +kernel
set_option maxRecDepth 100000 in
theorem d_Md_line_24 : decode b_Md_line 24 = .ok (.iaload, 1) := by decide +kernel
set_option maxRecDepth 100000 in
theorem d_Md_line_25 : decode b_Md_line 25 = .ok (.bipush 12, 2) := by decide +kernel
set_option maxRecDepth 100000 in
theorem d_Md_line_27 : decode b_Md_line 27 = .ok (.if_icmp .ne 45, 3) := by decide +kernel
set_option maxRecDepth 100000 in
theorem d_Md_line_30 : decode b_Md_line 30 = .ok (.goto 40, 3) := by decide +kernel
set_option maxRecDepth 100000 in
theorem d_Md_line_33 : decode b_Md_line 33 = .ok (.iload_n 2, 1) := by decide +kernel
set_option maxRecDepth 100000 in
theorem d_Md_line_34 : decode b_Md_line 34 = .ok (.bipush 11, 2) := by decide +kernel
set_option maxRecDepth 100000 in
theorem d_Md_line_36 : decode b_Md_line 36 = .ok (.if_icmp .ne 17, 3) := by decide +kernel
set_option maxRecDepth 100000 in
theorem d_Md_line_39 : decode b_Md_line 39 = .ok (.aload_n 0, 1) := by decide +kernel
set_option maxRecDepth 100000 in
theorem d_Md_line_40 : decode b_Md_line 40 = .ok (.getfield 131, 3) := by decide +kernel
set_option maxRecDepth 100000 in
theorem d_Md_line_43 : decode b_Md_line 43 = .ok (.iload_n 1, 1) := by decide +kernel
set_option maxRecDepth 100000 in
theorem d_Md_line_44 : decode b_Md_line 44 = .ok (.iaload, 1) := by decide +kernel
set_option maxRecDepth 100000 in
theorem d_Md_line_45 : decode b_Md_line 45 = .ok (.bipush 12, 2) := by decide +kernel
set_option maxRecDepth 100000 in
theorem d_Md_line_47 : decode b_Md_line 47 = .ok (.if_icmp .ne 25, 3) := by decide +kernel
set_option maxRecDepth 100000 in
theorem d_Md_line_50 : decode b_Md_line 50 = .ok (.goto 20, 3) := by decide +kernel
set_option maxRecDepth 100000 in
theorem d_Md_line_53 : decode b_Md_line 53 = .ok (.aload_n 0, 1) := by decide +kernel
set_option maxRecDepth 100000 in
theorem d_Md_line_54 : decode b_Md_line 54 = .ok (.getfield 143, 3) := by decide +kernel
set_option maxRecDepth 100000 in
theorem d_Md_line_57 : decode b_Md_line 57 = .ok (.bipush 9, 2) := by decide +kernel
set_option maxRecDepth 100000 in
theorem d_Md_line_59 : decode b_Md_line 59 = .ok (.iload_n 1, 1) := by decide +kernel
set_option maxRecDepth 100000 in
theorem d_Md_line_60 : decode b_Md_line 60 = .ok (.imul, 1) := by decide +kernel
set_option maxRecDepth 100000 in
theorem d_Md_line_61 : decode b_Md_line 61 = .ok (.iload_n 2, 1) := by decide +kernel
set_option maxRecDepth 100000 in
theorem d_Md_line_62 : decode b_Md_line 62 = .ok (.iadd, 1) := by decide +kernel
set_option maxRecDepth 100000 in
theorem d_Md_line_63 : decode b_Md_line 63 = .ok (.bipush 10, 2) := by decide +kernel
set_option maxRecDepth 100000 in
theorem d_Md_line_65 : decode b_Md_line 65 = .ok (.isub, 1) := by decide +kernel
set_option maxRecDepth 100000 in
theorem d_Md_line_66 : decode b_Md_line 66 = .ok (.iaload, 1) := by decide +kernel
set_option maxRecDepth 100000 in
theorem d_Md_line_67 : decode b_Md_line 67 = .ok (.ifCond .lt 5, 3) := by decide +kernel
set_option maxRecDepth 100000 in
theorem d_Md_line_70 : decode b_Md_line 70 = .ok (.iconst 0, 1) := by decide +kernel
set_option maxRecDepth 100000 in
theorem d_Md_line_71 : decode b_Md_line 71 = .ok (.ireturn, 1) := by decide +kernel
set_option maxRecDepth 100000 in
theorem d_Md_line_72 : decode b_Md_line 72 = .ok (.aload_n 0, 1) := by decide +kernel
set_option maxRecDepth 100000 in
theorem d_Md_line_73 : decode b_Md_line 73 = .ok (.invokevirtual 269, 3) := by decide +kernel
set_option maxRecDepth 100000 in
theorem d_Md_line_76 : decode b_Md_line 76 = .ok (.aload_n 0, 1) := by decide +kernel
set_option maxRecDepth 100000 in
theorem d_Md_line_77 : decode b_Md_line 77 = .ok (.iconst 1, 1) := by decide +kernel
set_option maxRecDepth 100000 in
theorem d_Md_line_78 : decode b_Md_line 78 = .ok (.invokevirtual 272, 3) := by decide +kernel
set_option maxRecDepth 100000 in
theorem d_Md_line_81 : decode b_Md_line 81 = .ok (.ifCond .ne 5, 3) := by decide +kernel
set_option maxRecDepth 100000 in
theorem d_Md_line_84 : decode b_Md_line 84 = .ok (.iconst 0, 1) := by decide +kernel
set_option maxRecDepth 100000 in
theorem d_Md_line_85 : decode b_Md_line 85 = .ok (.ireturn, 1) := by decide +kernel
set_option maxRecDepth 100000 in
theorem d_Md_line_86 : decode b_Md_line 86 = .ok (.aload_n 0, 1) := by decide +kernel
set_option maxRecDepth 100000 in
theorem d_Md_line_87 : decode b_Md_line 87 = .ok (.getfield 266, 3) := by decide +kernel
set_option maxRecDepth 100000 in
theorem d_Md_line_90 : decode b_Md_line 90 = .ok (.istore_n 3, 1) := by decide +kernel
set_option maxRecDepth 100000 in
theorem d_Md_line_91 : decode b_Md_line 91 = .ok (.iconst 0, 1) := by decide +kernel
set_option maxRecDepth 100000 in
theorem d_Md_line_92 : decode b_Md_line 92 = .ok (.istore 4, 2) := by decide +kernel
set_option maxRecDepth 100000 in
theorem d_Md_line_94 : decode b_Md_line 94 = .ok (.iload_n 2, 1) := by decide +kernel
set_option maxRecDepth 100000 in
theorem d_Md_line_95 : decode b_Md_line 95 = .ok (.bipush 10, 2) := by decide +kernel
set_option maxRecDepth 100000 in
theorem d_Md_line_97 : decode b_Md_line 97 = .ok (.if_icmp .eq 15, 3) := by decide +kernel
set_option maxRecDepth 100000 in
theorem d_Md_line_100 : decode b_Md_line 100 = .ok (.iload_n 2, 1) := by decide +kernel
set_option maxRecDepth 100000 in
theorem d_Md_line_101 : decode b_Md_line 101 = .ok (.bipush 11, 2) := by decide +kernel
set_option maxRecDepth 100000 in
theorem d_Md_line_103 : decode b_Md_line 103 = .ok (.if_icmp .eq 9, 3) := by decide +kernel
set_option maxRecDepth 100000 in
theorem d_Md_line_106 : decode b_Md_line 106 = .ok (.iload_n 2, 1) := by decide +kernel
set_option maxRecDepth 100000 in
theorem d_Md_line_107 : decode b_Md_line 107 = .ok (.bipush 16, 2) := by decide +kernel
set_option maxRecDepth 100000 in
theorem d_Md_line_109 : decode b_Md_line 109 = .ok (.if_icmp .ne 27, 3) := by decide +kernel
set_option maxRecDepth 100000 in
theorem d_Md_line_112 : decode b_Md_line 112 = .ok (.aload_n 0, 1) := by decide +kernel
set_option maxRecDepth 100000 in
theorem d_Md_line_113 : decode b_Md_line 113 = .ok (.iconst 4, 1) := by decide +kernel
set_option maxRecDepth 100000 in
theorem d_Md_line_114 : decode b_Md_line 114 = .ok (.invokevirtual 272, 3) := by decide +kernel
set_option maxRecDepth 100000 in
theorem d_Md_line_117 : decode b_Md_line 117 = .ok (.ifCond .eq 11, 3) := by decide +kernel
set_option maxRecDepth 100000 in
theorem d_Md_line_120 : decode b_Md_line 120 = .ok (.aload_n 0, 1) := by decide +kernel
set_option maxRecDepth 100000 in
theorem d_Md_line_121 : decode b_Md_line 121 = .ok (.iconst 1, 1) := by decide +kernel
set_option maxRecDepth 100000 in
theorem d_Md_line_122 : decode b_Md_line 122 = .ok (.invokevirtual 272, 3) := by decide +kernel
set_option maxRecDepth 100000 in
theorem d_Md_line_125 : decode b_Md_line 125 = .ok (.ifCond .ne 5, 3) := by decide +kernel
set_option maxRecDepth 100000 in
theorem d_Md_line_128 : decode b_Md_line 128 = .ok (.iconst 0, 1) := by decide +kernel
set_option maxRecDepth 100000 in
theorem d_Md_line_129 : decode b_Md_line 129 = .ok (.ireturn, 1) := by decide +kernel
set_option maxRecDepth 100000 in
theorem d_Md_line_130 : decode b_Md_line 130 = .ok (.aload_n 0, 1) := by decide +kernel
set_option maxRecDepth 100000 in
theorem d_Md_line_131 : decode b_Md_line 131 = .ok (.getfield 266, 3) := by decide +kernel
set_option maxRecDepth 100000 in
theorem d_Md_line_134 : decode b_Md_line 134 = .ok (.istore 4, 2) := by decide +kernel
set_option maxRecDepth 100000 in
theorem d_Md_line_136 : decode b_Md_line 136 = .ok (.iconst 0, 1) := by decide +kernel
set_option maxRecDepth 100000 in
theorem d_Md_line_137 : decode b_Md_line 137 = .ok (.istore 5, 2) := by decide +kernel
set_option maxRecDepth 100000 in
theorem d_Md_line_139 : decode b_Md_line 139 = .ok (.iload_n 2, 1) := by decide +kernel
set_option maxRecDepth 100000 in
theorem d_Md_line_140 : decode b_Md_line 140 = .ok (.bipush 10, 2) := by decide +kernel
set_option maxRecDepth 100000 in
theorem d_Md_line_142 : decode b_Md_line 142 = .ok (.if_icmp .eq 9, 3) := by decide +kernel
set_option maxRecDepth 100000 in
theorem d_Md_line_145 : decode b_Md_line 145 = .ok (.iload_n 2, 1) := by decide +kernel
set_option maxRecDepth 100000 in
theorem d_Md_line_146 : decode b_Md_line 146 = .ok (.bipush 11, 2) := by decide +kernel
set_option maxRecDepth 100000 in
theorem d_Md_line_148 : decode b_Md_line 148 = .ok (.if_icmp .ne 27, 3) := by decide +kernel
set_option maxRecDepth 100000 in
theorem d_Md_line_151 : decode b_Md_line 151 = .ok (.aload_n 0, 1) := by decide +kernel
set_option maxRecDepth 100000 in
theorem d_Md_line_152 : decode b_Md_line 152 = .ok (.iconst 5, 1) := by decide +kernel
set_option maxRecDepth 100000 in
theorem d_Md_line_153 : decode b_Md_line 153 = .ok (.invokevirtual 272, 3) := by decide +kernel
set_option maxRecDepth 100000 in
theorem d_Md_line_156 : decode b_Md_line 156 = .ok (.ifCond .eq 11, 3) := by decide +kernel
set_option maxRecDepth 100000 in
theorem d_Md_line_159 : decode b_Md_line 159 = .ok (.aload_n 0, 1) := by decide +kernel
set_option maxRecDepth 100000 in
theorem d_Md_line_160 : decode b_Md_line 160 = .ok (.iconst 1, 1) := by decide +kernel
set_option maxRecDepth 100000 in
theorem d_Md_line_161 : decode b_Md_line 161 = .ok (.invokevirtual 272, 3) := by decide +kernel
set_option maxRecDepth 100000 in
theorem d_Md_line_164 : decode b_Md_line 164 = .ok (.ifCond .ne 5, 3) := by decide +kernel
set_option maxRecDepth 100000 in
theorem d_Md_line_167 : decode b_Md_line 167 = .ok (.iconst 0, 1) := by decide +kernel
set_option maxRecDepth 100000 in
theorem d_Md_line_168 : decode b_Md_line 168 = .ok (.ireturn, 1) := by decide +kernel
set_option maxRecDepth 100000 in
theorem d_Md_line_169 : decode b_Md_line 169 = .ok (.aload_n 0, 1) := by decide +kernel
set_option maxRecDepth 100000 in
theorem d_Md_line_170 : decode b_Md_line 170 = .ok (.getfield 266, 3) := by decide +kernel
set_option maxRecDepth 100000 in
theorem d_Md_line_173 : decode b_Md_line 173 = .ok (.istore 5, 2) := by decide +kernel
set_option maxRecDepth 100000 in
theorem d_Md_line_175 : decode b_Md_line 175 = .ok (.aload_n 0, 1) := by decide +kernel
set_option maxRecDepth 100000 in
theorem d_Md_line_176 : decode b_Md_line 176 = .ok (.iconst 2, 1) := by decide +kernel
set_option maxRecDepth 100000 in
theorem d_Md_line_177 : decode b_Md_line 177 = .ok (.invokevirtual 272, 3) := by decide +kernel
set_option maxRecDepth 100000 in
theorem d_Md_line_180 : decode b_Md_line 180 = .ok (.ifCond .ne 5, 3) := by decide +kernel
set_option maxRecDepth 100000 in
theorem d_Md_line_183 : decode b_Md_line 183 = .ok (.iconst 0, 1) := by decide +kernel
set_option maxRecDepth 100000 in
theorem d_Md_line_184 : decode b_Md_line 184 = .ok (.ireturn, 1) := by decide +kernel
set_option maxRecDepth 100000 in
theorem d_Md_line_185 : decode b_Md_line 185 = .ok (.iload_n 2, 1) := by decide +kernel
set_option maxRecDepth 100000 in
theorem d_Md_line_186 : decode b_Md_line 186 = .ok (.bipush 10, 2) := by decide +kernel
set_option maxRecDepth 100000 in
theorem d_Md_line_188 : decode b_Md_line 188 = .ok (.if_icmp .ne 69, 3) := by decide +kernel
set_option maxRecDepth 100000 in
theorem d_Md_line_191 : decode b_Md_line 191 = .ok (.aload_n 0, 1) := by decide +kernel
set_option maxRecDepth 100000 in
theorem d_Md_line_192 : decode b_Md_line 192 = .ok (.getfield 122, 3) := by decide +kernel
set_option maxRecDepth 100000 in
theorem d_Md_line_195 : decode b_Md_line 195 = .ok (.bipush 12, 2) := by decide +kernel
set_option maxRecDepth 100000 in
theorem d_Md_line_197 : decode b_Md_line 197 = .ok (.iload_n 1, 1) := by decide +kernel
set_option maxRecDepth 100000 in
theorem d_Md_line_198 : decode b_Md_line 198 = .ok (.imul, 1) := by decide +kernel
set_option maxRecDepth 100000 in
theorem d_Md_line_199 : decode b_Md_line 199 = .ok (.aload_n 0, 1) := by decide +kernel
set_option maxRecDepth 100000 in
theorem d_Md_line_200 : decode b_Md_line 200 = .ok (.getfield 119, 3) := by decide +kernel
set_option maxRecDepth 100000 in
theorem d_Md_line_203 : decode b_Md_line 203 = .ok (.iload_n 1, 1) := by decide +kernel
set_option maxRecDepth 100000 in
theorem d_Md_line_204 : decode b_Md_line 204 = .ok (.iaload, 1) := by decide +kernel
set_option maxRecDepth 100000 in
theorem d_Md_line_205 : decode b_Md_line 205 = .ok (.iadd, 1) := by decide +kernel
set_option maxRecDepth 100000 in
theorem d_Md_line_206 : decode b_Md_line 206 = .ok (.iload_n 3, 1) := by decide +kernel
set_option maxRecDepth 100000 in
theorem d_Md_line_207 : decode b_Md_line 207 = .ok (.iastore, 1) := by decide +kernel
set_option maxRecDepth 100000 in
theorem d_Md_line_208 : decode b_Md_line 208 = .ok (.aload_n 0, 1) := by decide +kernel
set_option maxRecDepth 100000 in
theorem d_Md_line_209 : decode b_Md_line 209 = .ok (.getfield 125, 3) := by decide +kernel
set_option maxRecDepth 100000 in
theorem d_Md_line_212 : decode b_Md_line 212 = .ok (.bipush 12, 2) := by decide +kernel
set_option maxRecDepth 100000 in
theorem d_Md_line_214 : decode b_Md_line 214 = .ok (.iload_n 1, 1) := by decide +kernel
set_option maxRecDepth 100000 in
theorem d_Md_line_215 : decode b_Md_line 215 = .ok (.imul, 1) := by decide +kernel
set_option maxRecDepth 100000 in
theorem d_Md_line_216 : decode b_Md_line 216 = .ok (.aload_n 0, 1) := by decide +kernel
set_option maxRecDepth 100000 in
theorem d_Md_line_217 : decode b_Md_line 217 = .ok (.getfield 119, 3) := by decide +kernel
set_option maxRecDepth 100000 in
theorem d_Md_line_220 : decode b_Md_line 220 = .ok (.iload_n 1, 1) := by decide +kernel
set_option maxRecDepth 100000 in
theorem d_Md_line_221 : decode b_Md_line 221 = .ok (.iaload, 1) := by decide +kernel
set_option maxRecDepth 100000 in
theorem d_Md_line_222 : decode b_Md_line 222 = .ok (.iadd, 1) := by decide +kernel
set_option maxRecDepth 100000 in
theorem d_Md_line_223 : decode b_Md_line 223 = .ok (.iload 4, 2) := by decide +kernel
set_option maxRecDepth 100000 in
theorem d_Md_line_225 : decode b_Md_line 225 = .ok (.iastore, 1) := by decide +kernel
set_option maxRecDepth 100000 in
theorem d_Md_line_226 : decode b_Md_line 226 = .ok (.aload_n 0, 1) := by decide +kernel
set_option maxRecDepth 100000 in
theorem d_Md_line_227 : decode b_Md_line 227 = .ok (.getfield 128, 3) := by decide +kernel
set_option maxRecDepth 100000 in
theorem d_Md_line_230 : decode b_Md_line 230 = .ok (.bipush 12, 2) := by decide +kernel
set_option maxRecDepth 100000 in
theorem d_Md_line_232 : decode b_Md_line 232 = .ok (.iload_n 1, 1) := by decide +kernel
set_option maxRecDepth 100000 in
theorem d_Md_line_233 : decode b_Md_line 233 = .ok (.imul, 1) := by decide +kernel
set_option maxRecDepth 100000 in
theorem d_Md_line_234 : decode b_Md_line 234 = .ok (.aload_n 0, 1) := by decide +kernel
set_option maxRecDepth 100000 in
theorem d_Md_line_235 : decode b_Md_line 235 = .ok (.getfield 119, 3) := by decide +kernel
set_option maxRecDepth 100000 in
theorem d_Md_line_238 : decode b_Md_line 238 = .ok (.iload_n 1, 1) := by decide +kernel
set_option maxRecDepth 100000 in
theorem d_Md_line_239 : decode b_Md_line 239 = .ok (.iaload, 1) := by decide +kernel
set_option maxRecDepth 100000 in
theorem d_Md_line_240 : decode b_Md_line 240 = .ok (.iadd, 1) := by decide +kernel
set_option maxRecDepth 100000 in
theorem d_Md_line_241 : decode b_Md_line 241 = .ok (.iload 5, 2) := by decide +kernel
set_option maxRecDepth 100000 in
theorem d_Md_line_243 : decode b_Md_line 243 = .ok (.iastore, 1) := by decide +kernel
set_option maxRecDepth 100000 in
theorem d_Md_line_244 : decode b_Md_line 244 = .ok (.aload_n 0, 1) := by decide +kernel
set_option maxRecDepth 100000 in
theorem d_Md_line_245 : decode b_Md_line 245 = .ok (.getfield 119, 3) := by decide +kernel
set_option maxRecDepth 100000 in
theorem d_Md_line_248 : decode b_Md_line 248 = .ok (.iload_n 1, 1) := by decide +kernel
set_option maxRecDepth 100000 in
theorem d_Md_line_249 : decode b_Md_line 249 = .ok (.dup2, 1) := by decide +kernel
set_option maxRecDepth 100000 in
theorem d_Md_line_250 : decode b_Md_line 250 = .ok (.iaload, 1) := by decide +kernel
set_option maxRecDepth 100000 in
theorem d_Md_line_251 : decode b_Md_line 251 = .ok (.iconst 1, 1) := by decide +kernel
set_option maxRecDepth 100000 in
theorem d_Md_line_252 : decode b_Md_line 252 = .ok (.iadd, 1) := by decide +kernel
set_option maxRecDepth 100000 in
theorem d_Md_line_253 : decode b_Md_line 253 = .ok (.iastore, 1) := by decide +kernel
set_option maxRecDepth 100000 in
theorem d_Md_line_254 : decode b_Md_line 254 = .ok (.goto 113, 3) := by decide +kernel
set_option maxRecDepth 100000 in
theorem d_Md_line_257 : decode b_Md_line 257 = .ok (.iload_n 2, 1) := by decide +kernel
set_option maxRecDepth 100000 in
theorem d_Md_line_258 : decode b_Md_line 258 = .ok (.bipush 11, 2) := by decide +kernel
set_option maxRecDepth 100000 in
theorem d_Md_line_260 : decode b_Md_line 260 = .ok (.if_icmp .ne 69, 3) := by decide +kernel
set_option maxRecDepth 100000 in
theorem d_Md_line_263 : decode b_Md_line 263 = .ok (.aload_n 0, 1) := by decide +kernel
set_option maxRecDepth 100000 in
theorem d_Md_line_264 : decode b_Md_line 264 = .ok (.getfield 134, 3) := by decide +kernel
set_option maxRecDepth 100000 in
theorem d_Md_line_267 : decode b_Md_line 267 = .ok (.bipush 12, 2) := by decide +kernel
set_option maxRecDepth 100000 in
theorem d_Md_line_269 : decode b_Md_line 269 = .ok (.iload_n 1, 1) := by decide +kernel
set_option maxRecDepth 100000 in
theorem d_Md_line_270 : decode b_Md_line 270 = .ok (.imul, 1) := by decide +kernel
set_option maxRecDepth 100000 in
theorem d_Md_line_271 : decode b_Md_line 271 = .ok (.aload_n 0, 1) := by decide +kernel
set_option maxRecDepth 100000 in
theorem d_Md_line_272 : decode b_Md_line 272 = .ok (.getfield 131, 3) := by decide +kernel
set_option maxRecDepth 100000 in
theorem d_Md_line_275 : decode b_Md_line 275 = .ok (.iload_n 1, 1) := by decide +kernel
set_option maxRecDepth 100000 in
theorem d_Md_line_276 : decode b_Md_line 276 = .ok (.iaload, 1) := by decide +kernel
set_option maxRecDepth 100000 in
theorem d_Md_line_277 : decode b_Md_line 277 = .ok (.iadd, 1) := by decide +kernel
set_option maxRecDepth 100000 in
theorem d_Md_line_278 : decode b_Md_line 278 = .ok (.iload_n 3, 1) := by decide +kernel
set_option maxRecDepth 100000 in
theorem d_Md_line_279 : decode b_Md_line 279 = .ok (.iastore, 1) := by decide +kernel
set_option maxRecDepth 100000 in
theorem d_Md_line_280 : decode b_Md_line 280 = .ok (.aload_n 0, 1) := by decide +kernel
set_option maxRecDepth 100000 in
theorem d_Md_line_281 : decode b_Md_line 281 = .ok (.getfield 137, 3) := by decide +kernel
set_option maxRecDepth 100000 in
theorem d_Md_line_284 : decode b_Md_line 284 = .ok (.bipush 12, 2) := by decide +kernel
set_option maxRecDepth 100000 in
theorem d_Md_line_286 : decode b_Md_line 286 = .ok (.iload_n 1, 1) := by decide +kernel
set_option maxRecDepth 100000 in
theorem d_Md_line_287 : decode b_Md_line 287 = .ok (.imul, 1) := by decide +kernel
set_option maxRecDepth 100000 in
theorem d_Md_line_288 : decode b_Md_line 288 = .ok (.aload_n 0, 1) := by decide +kernel
set_option maxRecDepth 100000 in
theorem d_Md_line_289 : decode b_Md_line 289 = .ok (.getfield 131, 3) := by decide +kernel
set_option maxRecDepth 100000 in
theorem d_Md_line_292 : decode b_Md_line 292 = .ok (.iload_n 1, 1) := by decide +kernel
set_option maxRecDepth 100000 in
theorem d_Md_line_293 : decode b_Md_line 293 = .ok (.iaload, 1) := by decide +kernel
set_option maxRecDepth 100000 in
theorem d_Md_line_294 : decode b_Md_line 294 = .ok (.iadd, 1) := by decide +kernel
set_option maxRecDepth 100000 in
theorem d_Md_line_295 : decode b_Md_line 295 = .ok (.iload 4, 2) := by decide +kernel
set_option maxRecDepth 100000 in
theorem d_Md_line_297 : decode b_Md_line 297 = .ok (.iastore, 1) := by decide +kernel
set_option maxRecDepth 100000 in
theorem d_Md_line_298 : decode b_Md_line 298 = .ok (.aload_n 0, 1) := by decide +kernel
set_option maxRecDepth 100000 in
theorem d_Md_line_299 : decode b_Md_line 299 = .ok (.getfield 140, 3) := by decide +kernel
set_option maxRecDepth 100000 in
theorem d_Md_line_302 : decode b_Md_line 302 = .ok (.bipush 12, 2) := by decide +kernel
set_option maxRecDepth 100000 in
theorem d_Md_line_304 : decode b_Md_line 304 = .ok (.iload_n 1, 1) := by decide +kernel
set_option maxRecDepth 100000 in
theorem d_Md_line_305 : decode b_Md_line 305 = .ok (.imul, 1) := by decide +kernel
set_option maxRecDepth 100000 in
theorem d_Md_line_306 : decode b_Md_line 306 = .ok (.aload_n 0, 1) := by decide +kernel
set_option maxRecDepth 100000 in
theorem d_Md_line_307 : decode b_Md_line 307 = .ok (.getfield 131, 3) := by decide +kernel
set_option maxRecDepth 100000 in
theorem d_Md_line_310 : decode b_Md_line 310 = .ok (.iload_n 1, 1) := by decide +kernel
set_option maxRecDepth 100000 in
theorem d_Md_line_311 : decode b_Md_line 311 = .ok (.iaload, 1) := by decide +kernel
set_option maxRecDepth 100000 in
theorem d_Md_line_312 : decode b_Md_line 312 = .ok (.iadd, 1) := by decide +kernel
set_option maxRecDepth 100000 in
theorem d_Md_line_313 : decode b_Md_line 313 = .ok (.iload 5, 2) := by decide +kernel
set_option maxRecDepth 100000 in
theorem d_Md_line_315 : decode b_Md_line 315 = .ok (.iastore, 1) := by decide +kernel
set_option maxRecDepth 100000 in
theorem d_Md_line_316 : decode b_Md_line 316 = .ok (.aload_n 0, 1) := by decide +kernel
set_option maxRecDepth 100000 in
theorem d_Md_line_317 : decode b_Md_line 317 = .ok (.getfield 131, 3) := by decide +kernel
set_option maxRecDepth 100000 in
theorem d_Md_line_320 : decode b_Md_line 320 = .ok (.iload_n 1, 1) := by decide +kernel
set_option maxRecDepth 100000 in
theorem d_Md_line_321 : decode b_Md_line 321 = .ok (.dup2, 1) := by decide +kernel
set_option maxRecDepth 100000 in
theorem d_Md_line_322 : decode b_Md_line 322 = .ok (.iaload, 1) := by decide +kernel
set_option maxRecDepth 100000 in
theorem d_Md_line_323 : decode b_Md_line 323 = .ok (.iconst 1, 1) := by decide +kernel
set_option maxRecDepth 100000 in
theorem d_Md_line_324 : decode b_Md_line 324 = .ok (.iadd, 1) := by decide +kernel
set_option maxRecDepth 100000 in
theorem d_Md_line_325 : decode b_Md_line 325 = .ok (.iastore, 1) := by decide +kernel
set_option maxRecDepth 100000 in
theorem d_Md_line_326 : decode b_Md_line 326 = .ok (.goto 41, 3) := by decide +kernel
set_option maxRecDepth 100000 in
theorem d_Md_line_329 : decode b_Md_line 329 = .ok (.aload_n 0, 1) := by decide +kernel
set_option maxRecDepth 100000 in
theorem d_Md_line_330 : decode b_Md_line 330 = .ok (.getfield 143, 3) := by decide +kernel
set_option maxRecDepth 100000 in
theorem d_Md_line_333 : decode b_Md_line 333 = .ok (.bipush 9, 2) := by decide +kernel
set_option maxRecDepth 100000 in
theorem d_Md_line_335 : decode b_Md_line 335 = .ok (.iload_n 1, 1) := by decide +kernel
set_option maxRecDepth 100000 in
theorem d_Md_line_336 : decode b_Md_line 336 = .ok (.imul, 1) := by decide +kernel
set_option maxRecDepth 100000 in
theorem d_Md_line_337 : decode b_Md_line 337 = .ok (.iload_n 2, 1) := by decide +kernel
set_option maxRecDepth 100000 in
theorem d_Md_line_338 : decode b_Md_line 338 = .ok (.iadd, 1) := by decide +kernel
set_option maxRecDepth 100000 in
theorem d_Md_line_339 : decode b_Md_line 339 = .ok (.bipush 10, 2) := by decide +kernel
set_option maxRecDepth 100000 in
theorem d_Md_line_341 : decode b_Md_line 341 = .ok (.isub, 1) := by decide +kernel
set_option maxRecDepth 100000 in
theorem d_Md_line_342 : decode b_Md_line 342 = .ok (.iload_n 3, 1) := by decide +kernel
set_option maxRecDepth 100000 in
theorem d_Md_line_343 : decode b_Md_line 343 = .ok (.iastore, 1) := by decide +kernel
set_option maxRecDepth 100000 in
theorem d_Md_line_344 : decode b_Md_line 344 = .ok (.aload_n 0, 1) := by decide +kernel
set_option maxRecDepth 100000 in
theorem d_Md_line_345 : decode b_Md_line 345 = .ok (.getfield 146, 3) := by decide +kernel
set_option maxRecDepth 100000 in
theorem d_Md_line_348 : decode b_Md_line 348 = .ok (.iload_n 1, 1) := by decide +kernel
set_option maxRecDepth 100000 in
theorem d_Md_line_349 : decode b_Md_line 349 = .ok (.iload_n 2, 1) := by decide +kernel
set_option maxRecDepth 100000 in
theorem d_Md_line_350 : decode b_Md_line 350 = .ok (.bipush 16, 2) := by decide +kernel
set_option maxRecDepth 100000 in
theorem d_Md_line_352 : decode b_Md_line 352 = .ok (.if_icmp .ne 8, 3) := by decide +kernel
set_option maxRecDepth 100000 in
theorem d_Md_line_355 : decode b_Md_line 355 = .ok (.iload 4, 2) := by decide +kernel
set_option maxRecDepth 100000 in
theorem d_Md_line_357 : decode b_Md_line 357 = .ok (.goto 9, 3) := by decide +kernel
set_option maxRecDepth 100000 in
theorem d_Md_line_360 : decode b_Md_line 360 = .ok (.aload_n 0, 1) := by decide +kernel
set_option maxRecDepth 100000 in
theorem d_Md_line_361 : decode b_Md_line 361 = .ok (.getfield 146, 3) := by decide +kernel
set_option maxRecDepth 100000 in
theorem d_Md_line_364 : decode b_Md_line 364 = .ok (.iload_n 1, 1) := by decide +kernel
set_option maxRecDepth 100000 in
theorem d_Md_line_365 : decode b_Md_line 365 = .ok (.iaload, 1) := by decide +kernel
set_option maxRecDepth 100000 in
theorem d_Md_line_366 : decode b_Md_line 366 = .ok (.iastore, 1) := by decide +kernel
set_option maxRecDepth 100000 in
theorem d_Md_line_367 : decode b_Md_line 367 = .ok (.iconst 1, 1) := by decide +kernel
set_option maxRecDepth 100000 in
theorem d_Md_line_368 : decode b_Md_line 368 = .ok (.ireturn, 1) := by decide +kernel
set_option maxRecDepth 100000 in
theorem d_Md_lineOf_0 : decode b_Md_lineOf 0 = .ok (.aload_n 0, 1) := by decide +kernel
set_option maxRecDepth 100000 in
theorem d_Md_lineOf_1 : decode b_Md_lineOf 1 = .ok (.getfield 143, 3) := by decide +kernel
set_option maxRecDepth 100000 in
theorem d_Md_lineOf_4 : decode b_Md_lineOf 4 = .ok (.bipush 9, 2) := by decide +kernel
set_option maxRecDepth 100000 in
theorem d_Md_lineOf_6 : decode b_Md_lineOf 6 = .ok (.iload_n 1, 1) := by decide +kernel
set_option maxRecDepth 100000 in
theorem d_Md_lineOf_7 : decode b_Md_lineOf 7 = .ok (.imul, 1) := by decide +kernel
set_option maxRecDepth 100000 in
theorem d_Md_lineOf_8 : decode b_Md_lineOf 8 = .ok (.iload_n 2, 1) := by decide +kernel
set_option maxRecDepth 100000 in
theorem d_Md_lineOf_9 : decode b_Md_lineOf 9 = .ok (.iadd, 1) := by decide +kernel
set_option maxRecDepth 100000 in
theorem d_Md_lineOf_10 : decode b_Md_lineOf 10 = .ok (.bipush 10, 2) := by decide +kernel
set_option maxRecDepth 100000 in
theorem d_Md_lineOf_12 : decode b_Md_lineOf 12 = .ok (.isub, 1) := by decide +kernel
set_option maxRecDepth 100000 in
theorem d_Md_lineOf_13 : decode b_Md_lineOf 13 = .ok (.iaload, 1) := by decide +kernel
set_option maxRecDepth 100000 in
theorem d_Md_lineOf_14 : decode b_Md_lineOf 14 = .ok (.ireturn, 1) := by decide +kernel
set_option maxRecDepth 100000 in
theorem d_Md_menAs_0 : decode b_Md_menAs 0 = .ok (.iconst 0, 1) := by decide +kernel
set_option maxRecDepth 100000 in
theorem d_Md_menAs_1 : decode b_Md_menAs 1 = .ok (.istore_n 2, 1) := by decide +kernel
set_option maxRecDepth 100000 in
theorem d_Md_menAs_2 : decode b_Md_menAs 2 = .ok (.iconst 0, 1) := by decide +kernel
set_option maxRecDepth 100000 in
theorem d_Md_menAs_3 : decode b_Md_menAs 3 = .ok (.istore_n 3, 1) := by decide +kernel
set_option maxRecDepth 100000 in
theorem d_Md_menAs_4 : decode b_Md_menAs 4 = .ok (.iload_n 3, 1) := by decide +kernel
set_option maxRecDepth 100000 in
theorem d_Md_menAs_5 : decode b_Md_menAs 5 = .ok (.bipush 40, 2) := by decide +kernel
set_option maxRecDepth 100000 in
theorem d_Md_menAs_7 : decode b_Md_menAs 7 = .ok (.if_icmp .ge 27, 3) := by decide +kernel
set_option maxRecDepth 100000 in
theorem d_Md_menAs_10 : decode b_Md_menAs 10 = .ok (.iload_n 2, 1) := by decide +kernel
set_option maxRecDepth 100000 in
theorem d_Md_menAs_11 : decode b_Md_menAs 11 = .ok (.aload_n 0, 1) := by decide +kernel
set_option maxRecDepth 100000 in
theorem d_Md_menAs_12 : decode b_Md_menAs 12 = .ok (.getfield 58, 3) := by decide +kernel
set_option maxRecDepth 100000 in
theorem d_Md_menAs_15 : decode b_Md_menAs 15 = .ok (.iload_n 3, 1) := by decide +kernel
set_option maxRecDepth 100000 in
theorem d_Md_menAs_16 : decode b_Md_menAs 16 = .ok (.iaload, 1) := by decide +kernel
set_option maxRecDepth 100000 in
theorem d_Md_menAs_17 : decode b_Md_menAs 17 = .ok (.iload_n 1, 1) := by decide +kernel
set_option maxRecDepth 100000 in
theorem d_Md_menAs_18 : decode b_Md_menAs 18 = .ok (.if_icmp .ne 7, 3) := by decide +kernel
set_option maxRecDepth 100000 in
theorem d_Md_menAs_21 : decode b_Md_menAs 21 = .ok (.iconst 1, 1) := by decide +kernel
set_option maxRecDepth 100000 in
theorem d_Md_menAs_22 : decode b_Md_menAs 22 = .ok (.goto 4, 3) := by decide +kernel
set_option maxRecDepth 100000 in
theorem d_Md_menAs_25 : decode b_Md_menAs 25 = .ok (.iconst 0, 1) := by decide +kernel
set_option maxRecDepth 100000 in
theorem d_Md_menAs_26 : decode b_Md_menAs 26 = .ok (.iadd, 1) := by decide +kernel
set_option maxRecDepth 100000 in
theorem d_Md_menAs_27 : decode b_Md_menAs 27 = .ok (.istore_n 2, 1) := by decide +kernel
set_option maxRecDepth 100000 in
theorem d_Md_menAs_28 : decode b_Md_menAs 28 = .ok (.iinc 3 1, 3) := by decide +kernel
set_option maxRecDepth 100000 in
theorem d_Md_menAs_31 : decode b_Md_menAs 31 = .ok (.goto (-27), 3) := by decide +kernel
set_option maxRecDepth 100000 in
theorem d_Md_menAs_34 : decode b_Md_menAs 34 = .ok (.iload_n 2, 1) := by decide +kernel
set_option maxRecDepth 100000 in
theorem d_Md_menAs_35 : decode b_Md_menAs 35 = .ok (.ireturn, 1) := by decide +kernel
set_option maxRecDepth 100000 in
theorem d_Md_minutes_0 : decode b_Md_minutes 0 = .ok (.iload_n 1, 1) := by decide +kernel
set_option maxRecDepth 100000 in
theorem d_Md_minutes_1 : decode b_Md_minutes 1 = .ok (.iconst 1, 1) := by decide +kernel
set_option maxRecDepth 100000 in
theorem d_Md_minutes_2 : decode b_Md_minutes 2 = .ok (.sipush 1440, 3) := by decide +kernel
set_option maxRecDepth 100000 in
theorem d_Md_minutes_5 : decode b_Md_minutes 5 = .ok (.invokestatic 10, 3) := by decide +kernel
set_option maxRecDepth 100000 in
theorem d_Md_minutes_8 : decode b_Md_minutes 8 = .ok (.ifCond .eq 15, 3) := by decide +kernel
set_option maxRecDepth 100000 in
theorem d_Md_minutes_11 : decode b_Md_minutes 11 = .ok (.aload_n 0, 1) := by decide +kernel
set_option maxRecDepth 100000 in
theorem d_Md_minutes_12 : decode b_Md_minutes 12 = .ok (.getfield 7, 3) := by decide +kernel
set_option maxRecDepth 100000 in
theorem d_Md_minutes_15 : decode b_Md_minutes 15 = .ok (.iload_n 1, 1) := by decide +kernel
set_option maxRecDepth 100000 in
theorem d_Md_minutes_16 : decode b_Md_minutes 16 = .ok (.iadd, 1) := by decide +kernel
set_option maxRecDepth 100000 in
theorem d_Md_minutes_17 : decode b_Md_minutes 17 = .ok (.ldc_w 305, 3) := by decide +kernel
set_option maxRecDepth 100000 in
theorem d_Md_minutes_20 : decode b_Md_minutes 20 = .ok (.if_icmp .le 5, 3) := by decide +kernel
set_option maxRecDepth 100000 in
theorem d_Md_minutes_23 : decode b_Md_minutes 23 = .ok (.iconst (-1), 1) := by decide +kernel
set_option maxRecDepth 100000 in
theorem d_Md_minutes_24 : decode b_Md_minutes 24 = .ok (.ireturn, 1) := by decide +kernel
set_option maxRecDepth 100000 in
theorem d_Md_minutes_25 : decode b_Md_minutes 25 = .ok (.iconst 0, 1) := by decide +kernel
set_option maxRecDepth 100000 in
theorem d_Md_minutes_26 : decode b_Md_minutes 26 = .ok (.istore_n 2, 1) := by decide +kernel
set_option maxRecDepth 100000 in
theorem d_Md_minutes_27 : decode b_Md_minutes 27 = .ok (.iload_n 2, 1) := by decide +kernel
set_option maxRecDepth 100000 in
theorem d_Md_minutes_28 : decode b_Md_minutes 28 = .ok (.iload_n 1, 1) := by decide +kernel
set_option maxRecDepth 100000 in
theorem d_Md_minutes_29 : decode b_Md_minutes 29 = .ok (.if_icmp .ge 77, 3) := by decide +kernel
set_option maxRecDepth 100000 in
theorem d_Md_minutes_32 : decode b_Md_minutes 32 = .ok (.aload_n 0, 1) := by decide +kernel
set_option maxRecDepth 100000 in
theorem d_Md_minutes_33 : decode b_Md_minutes 33 = .ok (.dup, 1) := by decide +kernel
set_option maxRecDepth 100000 in
theorem d_Md_minutes_34 : decode b_Md_minutes 34 = .ok (.getfield 7, 3) := by decide +kernel
set_option maxRecDepth 100000 in
theorem d_Md_minutes_37 : decode b_Md_minutes 37 = .ok (.iconst 1, 1) := by decide +kernel
set_option maxRecDepth 100000 in
theorem d_Md_minutes_38 : decode b_Md_minutes 38 = .ok (.iadd, 1) := by decide +kernel
set_option maxRecDepth 100000 in
theorem d_Md_minutes_39 : decode b_Md_minutes 39 = .ok (.putfield 7, 3) := by decide +kernel
set_option maxRecDepth 100000 in
theorem d_Md_minutes_42 : decode b_Md_minutes 42 = .ok (.aload_n 0, 1) := by decide +kernel
set_option maxRecDepth 100000 in
theorem d_Md_minutes_43 : decode b_Md_minutes 43 = .ok (.invokevirtual 329, 3) := by decide +kernel
set_option maxRecDepth 100000 in
theorem d_Md_minutes_46 : decode b_Md_minutes 46 = .ok (.aload_n 0, 1) := by decide +kernel
set_option maxRecDepth 100000 in
theorem d_Md_minutes_47 : decode b_Md_minutes 47 = .ok (.getfield 7, 3) := by decide +kernel
set_option maxRecDepth 100000 in
theorem d_Md_minutes_50 : decode b_Md_minutes 50 = .ok (.sipush 720, 3) := by decide +kernel
set_option maxRecDepth 100000 in
theorem d_Md_minutes_53 : decode b_Md_minutes 53 = .ok (.irem, 1) := by decide +kernel
set_option maxRecDepth 100000 in
theorem d_Md_minutes_54 : decode b_Md_minutes 54 = .ok (.ifCond .eq 6, 3) := by decide +kernel
set_option maxRecDepth 100000 in
theorem d_Md_minutes_57 : decode b_Md_minutes 57 = .ok (.goto 43, 3) := by decide +kernel
set_option maxRecDepth 100000 in
theorem d_Md_minutes_60 : decode b_Md_minutes 60 = .ok (.aload_n 0, 1) := by decide +kernel
set_option maxRecDepth 100000 in
theorem d_Md_minutes_61 : decode b_Md_minutes 61 = .ok (.invokevirtual 45, 3) := by decide +kernel
set_option maxRecDepth 100000 in
theorem d_Md_minutes_64 : decode b_Md_minutes 64 = .ok (.iconst 1, 1) := by decide +kernel
set_option maxRecDepth 100000 in
theorem d_Md_minutes_65 : decode b_Md_minutes 65 = .ok (.isub, 1) := by decide +kernel
set_option maxRecDepth 100000 in
theorem d_Md_minutes_66 : decode b_Md_minutes 66 = .ok (.bipush 7, 2) := by decide +kernel
set_option maxRecDepth 100000 in
theorem d_Md_minutes_68 : decode b_Md_minutes 68 = .ok (.irem, 1) := by decide +kernel
set_option maxRecDepth 100000 in
theorem d_Md_minutes_69 : decode b_Md_minutes 69 = .ok (.ifCond .ne 13, 3) := by decide +kernel
set_option maxRecDepth 100000 in
theorem d_Md_minutes_72 : decode b_Md_minutes 72 = .ok (.aload_n 0, 1) := by decide +kernel
set_option maxRecDepth 100000 in
theorem d_Md_minutes_73 : decode b_Md_minutes 73 = .ok (.aload_n 0, 1) := by decide +kernel
set_option maxRecDepth 100000 in
theorem d_Md_minutes_74 : decode b_Md_minutes 74 = .ok (.invokevirtual 45, 3) := by decide +kernel
set_option maxRecDepth 100000 in
theorem d_Md_minutes_77 : decode b_Md_minutes 77 = .ok (.iconst 1, 1) := by decide +kernel
set_option maxRecDepth 100000 in
theorem d_Md_minutes_78 : decode b_Md_minutes 78 = .ok (.isub, 1) := by decide +kernel
set_option maxRecDepth 100000 in
theorem d_Md_minutes_79 : decode b_Md_minutes 79 = .ok (.invokevirtual 332, 3) := by decide +kernel
set_option maxRecDepth 100000 in
theorem d_Md_minutes_82 : decode b_Md_minutes 82 = .ok (.aload_n 0, 1) := by decide +kernel
set_option maxRecDepth 100000 in
theorem d_Md_minutes_83 : decode b_Md_minutes 83 = .ok (.invokevirtual 45, 3) := by decide +kernel
set_option maxRecDepth 100000 in
theorem d_Md_minutes_86 : decode b_Md_minutes 86 = .ok (.bipush 100, 2) := by decide +kernel
set_option maxRecDepth 100000 in
theorem d_Md_minutes_88 : decode b_Md_minutes 88 = .ok (.irem, 1) := by decide +kernel
set_option maxRecDepth 100000 in
theorem d_Md_minutes_89 : decode b_Md_minutes 89 = .ok (.ifCond .ne 11, 3) := by decide +kernel
set_option maxRecDepth 100000 in
theorem d_Md_minutes_92 : decode b_Md_minutes 92 = .ok (.aload_n 0, 1) := by decide +kernel
set_option maxRecDepth 100000 in
theorem d_Md_minutes_93 : decode b_Md_minutes 93 = .ok (.aload_n 0, 1) := by decide +kernel
set_option maxRecDepth 100000 in
theorem d_Md_minutes_94 : decode b_Md_minutes 94 = .ok (.invokevirtual 45, 3) := by decide +kernel
set_option maxRecDepth 100000 in
theorem d_Md_minutes_97 : decode b_Md_minutes 97 = .ok (.invokevirtual 335, 3) := by decide +kernel
set_option maxRecDepth 100000 in
theorem d_Md_minutes_100 : decode b_Md_minutes 100 = .ok (.iinc 2 1, 3) := by decide +kernel
set_option maxRecDepth 100000 in
theorem d_Md_minutes_103 : decode b_Md_minutes 103 = .ok (.goto (-76), 3) := by decide +kernel
set_option maxRecDepth 100000 in
theorem d_Md_minutes_106 : decode b_Md_minutes 106 = .ok (.aload_n 0, 1) := by decide +kernel
set_option maxRecDepth 100000 in
theorem d_Md_minutes_107 : decode b_Md_minutes 107 = .ok (.getfield 7, 3) := by decide +kernel
set_option maxRecDepth 100000 in
theorem d_Md_minutes_110 : decode b_Md_minutes 110 = .ok (.ireturn, 1) := by decide +kernel
set_option maxRecDepth 100000 in
theorem d_Md_minutesOf_0 : decode b_Md_minutesOf 0 = .ok (.aload_n 0, 1) := by decide +kernel
set_option maxRecDepth 100000 in
theorem d_Md_minutesOf_1 : decode b_Md_minutesOf 1 = .ok (.getfield 32, 3) := by decide +kernel
set_option maxRecDepth 100000 in
theorem d_Md_minutesOf_4 : decode b_Md_minutesOf 4 = .ok (.iload_n 2, 1) := by decide +kernel
set_option maxRecDepth 100000 in
theorem d_Md_minutesOf_5 : decode b_Md_minutesOf 5 = .ok (.iaload, 1) := by decide +kernel
set_option maxRecDepth 100000 in
theorem d_Md_minutesOf_6 : decode b_Md_minutesOf 6 = .ok (.aload_n 0, 1) := by decide +kernel
set_option maxRecDepth 100000 in
theorem d_Md_minutesOf_7 : decode b_Md_minutesOf 7 = .ok (.getfield 32, 3) := by decide +kernel
set_option maxRecDepth 100000 in
theorem d_Md_minutesOf_10 : decode b_Md_minutesOf 10 = .ok (.aload_n 0, 1) := by decide +kernel
set_option maxRecDepth 100000 in
theorem d_Md_minutesOf_11 : decode b_Md_minutesOf 11 = .ok (.getfield 97, 3) := by decide +kernel
set_option maxRecDepth 100000 in
theorem d_Md_minutesOf_14 : decode b_Md_minutesOf 14 = .ok (.iload_n 1, 1) := by decide +kernel
set_option maxRecDepth 100000 in
theorem d_Md_minutesOf_15 : decode b_Md_minutesOf 15 = .ok (.iaload, 1) := by decide +kernel
set_option maxRecDepth 100000 in
theorem d_Md_minutesOf_16 : decode b_Md_minutesOf 16 = .ok (.iaload, 1) := by decide +kernel
set_option maxRecDepth 100000 in
theorem d_Md_minutesOf_17 : decode b_Md_minutesOf 17 = .ok (.isub, 1) := by decide +kernel
set_option maxRecDepth 100000 in
theorem d_Md_minutesOf_18 : decode b_Md_minutesOf 18 = .ok (.istore_n 3, 1) := by decide +kernel
set_option maxRecDepth 100000 in
theorem d_Md_minutesOf_19 : decode b_Md_minutesOf 19 = .ok (.aload_n 0, 1) := by decide +kernel
set_option maxRecDepth 100000 in
theorem d_Md_minutesOf_20 : decode b_Md_minutesOf 20 = .ok (.aload_n 0, 1) := by decide +kernel
set_option maxRecDepth 100000 in
theorem d_Md_minutesOf_21 : decode b_Md_minutesOf 21 = .ok (.invokevirtual 45, 3) := by decide +kernel
set_option maxRecDepth 100000 in
theorem d_Md_minutesOf_24 : decode b_Md_minutesOf 24 = .ok (.aload_n 0, 1) := by decide +kernel
set_option maxRecDepth 100000 in
theorem d_Md_minutesOf_25 : decode b_Md_minutesOf 25 = .ok (.invokevirtual 299, 3) := by decide +kernel
set_option maxRecDepth 100000 in
theorem d_Md_minutesOf_28 : decode b_Md_minutesOf 28 = .ok (.invokevirtual 42, 3) := by decide +kernel
set_option maxRecDepth 100000 in
theorem d_Md_minutesOf_31 : decode b_Md_minutesOf 31 = .ok (.istore 4, 2) := by decide +kernel
set_option maxRecDepth 100000 in
theorem d_Md_minutesOf_33 : decode b_Md_minutesOf 33 = .ok (.iload 4, 2) := by decide +kernel
set_option maxRecDepth 100000 in
theorem d_Md_minutesOf_35 : decode b_Md_minutesOf 35 = .ok (.ifCond .ne 8, 3) := by decide +kernel
set_option maxRecDepth 100000 in
theorem d_Md_minutesOf_38 : decode b_Md_minutesOf 38 = .ok (.bipush 10, 2) := by decide +kernel
set_option maxRecDepth 100000 in
theorem d_Md_minutesOf_40 : decode b_Md_minutesOf 40 = .ok (.goto 32, 3) := by decide +kernel
set_option maxRecDepth 100000 in
theorem d_Md_minutesOf_43 : decode b_Md_minutesOf 43 = .ok (.iload 4, 2) := by decide +kernel
set_option maxRecDepth 100000 in
theorem d_Md_minutesOf_45 : decode b_Md_minutesOf 45 = .ok (.ifCond .le 7, 3) := by decide +kernel
set_option maxRecDepth 100000 in
theorem d_Md_minutesOf_48 : decode b_Md_minutesOf 48 = .ok (.iconst 1, 1) := by decide +kernel
set_option maxRecDepth 100000 in
theorem d_Md_minutesOf_49 : decode b_Md_minutesOf 49 = .ok (.goto 4, 3) := by decide +kernel
set_option maxRecDepth 100000 in
theorem d_Md_minutesOf_52 : decode b_Md_minutesOf 52 = .ok (.iconst 0, 1) := by decide +kernel
set_option maxRecDepth 100000 in
theorem d_Md_minutesOf_53 : decode b_Md_minutesOf 53 = .ok (.iload_n 3, 1) := by decide +kernel
set_option maxRecDepth 100000 in
theorem d_Md_minutesOf_54 : decode b_Md_minutesOf 54 = .ok (.ifCond .le 7, 3) := by decide +kernel
set_option maxRecDepth 100000 in
theorem d_Md_minutesOf_57 : decode b_Md_minutesOf 57 = .ok (.iconst 1, 1) := by decide +kernel
set_option maxRecDepth 100000 in
theorem d_Md_minutesOf_58 : decode b_Md_minutesOf 58 = .ok (.goto 4, 3) := by decide +kernel
set_option maxRecDepth 100000 in
theorem d_Md_minutesOf_61 : decode b_Md_minutesOf 61 = .ok (.iconst 0, 1) := by decide +kernel
set_option maxRecDepth 100000 in
theorem d_Md_minutesOf_62 : decode b_Md_minutesOf 62 = .ok (.if_icmp .ne 8, 3) := by decide +kernel
set_option maxRecDepth 100000 in
theorem d_Md_minutesOf_65 : decode b_Md_minutesOf 65 = .ok (.bipush 7, 2) := by decide +kernel
set_option maxRecDepth 100000 in
theorem d_Md_minutesOf_67 : decode b_Md_minutesOf 67 = .ok (.goto 5, 3) := by decide +kernel
set_option maxRecDepth 100000 in
theorem d_Md_minutesOf_70 : decode b_Md_minutesOf 70 = .ok (.bipush 14, 2) := by decide +kernel
set_option maxRecDepth 100000 in
theorem d_Md_minutesOf_72 : decode b_Md_minutesOf 72 = .ok (.istore 5, 2) := by decide +kernel
set_option maxRecDepth 100000 in
theorem d_Md_minutesOf_74 : decode b_Md_minutesOf 74 = .ok (.iload_n 3, 1) := by decide +kernel
set_option maxRecDepth 100000 in
theorem d_Md_minutesOf_75 : decode b_Md_minutesOf 75 = .ok (.ifCond .ge 8, 3) := by decide +kernel
set_option maxRecDepth 100000 in
theorem d_Md_minutesOf_78 : decode b_Md_minutesOf 78 = .ok (.iload_n 3, 1) := by decide +kernel
set_option maxRecDepth 100000 in
theorem d_Md_minutesOf_79 : decode b_Md_minutesOf 79 = .ok (.ineg, 1) := by decide +kernel
set_option maxRecDepth 100000 in
theorem d_Md_minutesOf_80 : decode b_Md_minutesOf 80 = .ok (.goto 4, 3) := by decide +kernel
set_option maxRecDepth 100000 in
theorem d_Md_minutesOf_83 : decode b_Md_minutesOf 83 = .ok (.iload_n 3, 1) := by decide +kernel
set_option maxRecDepth 100000 in
theorem d_Md_minutesOf_84 : decode b_Md_minutesOf 84 = .ok (.iload 5, 2) := by decide +kernel
set_option maxRecDepth 100000 in
theorem d_Md_minutesOf_86 : decode b_Md_minutesOf 86 = .ok (.imul, 1) := by decide +kernel
set_option maxRecDepth 100000 in
theorem d_Md_minutesOf_87 : decode b_Md_minutesOf 87 = .ok (.istore 6, 2) := by decide +kernel
set_option maxRecDepth 100000 in
theorem d_Md_minutesOf_89 : decode b_Md_minutesOf 89 = .ok (.aload_n 0, 1) := by decide +kernel
set_option maxRecDepth 100000 in
theorem d_Md_minutesOf_90 : decode b_Md_minutesOf 90 = .ok (.getfield 94, 3) := by decide +kernel
set_option maxRecDepth 100000 in
theorem d_Md_minutesOf_93 : decode b_Md_minutesOf 93 = .ok (.iload_n 1, 1) := by decide +kernel
set_option maxRecDepth 100000 in
theorem d_Md_minutesOf_94 : decode b_Md_minutesOf 94 = .ok (.iaload, 1) := by decide +kernel
set_option maxRecDepth 100000 in
theorem d_Md_minutesOf_95 : decode b_Md_minutesOf 95 = .ok (.iconst 2, 1) := by decide +kernel
set_option maxRecDepth 100000 in
theorem d_Md_minutesOf_96 : decode b_Md_minutesOf 96 = .ok (.if_icmp .ne 12, 3) := by decide +kernel
set_option maxRecDepth 100000 in
theorem d_Md_minutesOf_99 : decode b_Md_minutesOf 99 = .ok (.iload 6, 2) := by decide +kernel
set_option maxRecDepth 100000 in
theorem d_Md_minutesOf_101 : decode b_Md_minutesOf 101 = .ok (.iconst 2, 1) := by decide +kernel
set_option maxRecDepth 100000 in
theorem d_Md_minutesOf_102 : decode b_Md_minutesOf 102 = .ok (.imul, 1) := by decide +kernel
set_option maxRecDepth 100000 in
theorem d_Md_minutesOf_103 : decode b_Md_minutesOf 103 = .ok (.iconst 3, 1) := by decide +kernel
set_option maxRecDepth 100000 in
theorem d_Md_minutesOf_104 : decode b_Md_minutesOf 104 = .ok (.idiv, 1) := by decide +kernel
set_option maxRecDepth 100000 in
theorem d_Md_minutesOf_105 : decode b_Md_minutesOf 105 = .ok (.goto 5, 3) := by decide +kernel
set_option maxRecDepth 100000 in
theorem d_Md_minutesOf_108 : decode b_Md_minutesOf 108 = .ok (.iload 6, 2) := by decide +kernel
set_option maxRecDepth 100000 in
theorem d_Md_minutesOf_110 : decode b_Md_minutesOf 110 = .ok (.istore 6, 2) := by decide +kernel
set_option maxRecDepth 100000 in
theorem d_Md_minutesOf_112 : decode b_Md_minutesOf 112 = .ok (.iload 6, 2) := by decide +kernel
set_option maxRecDepth 100000 in
theorem d_Md_minutesOf_114 : decode b_Md_minutesOf 114 = .ok (.iconst 1, 1) := by decide +kernel
set_option maxRecDepth 100000 in
theorem d_Md_minutesOf_115 : decode b_Md_minutesOf 115 = .ok (.if_icmp .ge 7, 3) := by decide +kernel
set_option maxRecDepth 100000 in
theorem d_Md_minutesOf_118 : decode b_Md_minutesOf 118 = .ok (.iconst 1, 1) := by decide +kernel
set_option maxRecDepth 100000 in
theorem d_Md_minutesOf_119 : decode b_Md_minutesOf 119 = .ok (.goto 5, 3) := by decide +kernel
set_option maxRecDepth 100000 in
theorem d_Md_minutesOf_122 : decode b_Md_minutesOf 122 = .ok (.iload 6, 2) := by decide +kernel
set_option maxRecDepth 100000 in
theorem d_Md_minutesOf_124 : decode b_Md_minutesOf 124 = .ok (.ireturn, 1) := by decide +kernel
set_option maxRecDepth 100000 in
theorem d_Md_newPensioner_0 : decode b_Md_newPensioner 0 = .ok (.aload_n 0, 1) := by decide +kernel
set_option maxRecDepth 100000 in
theorem d_Md_newPensioner_1 : decode b_Md_newPensioner 1 = .ok (.getfield 177, 3) := by decide +kernel
set_option maxRecDepth 100000 in
theorem d_Md_newPensioner_4 : decode b_Md_newPensioner 4 = .ok (.aload_n 0, 1) := by decide +kernel
set_option maxRecDepth 100000 in
theorem d_Md_newPensioner_5 : decode b_Md_newPensioner 5 = .ok (.getfield 323, 3) := by decide +kernel
set_option maxRecDepth 100000 in
theorem d_Md_newPensioner_8 : decode b_Md_newPensioner 8 = .ok (.iload_n 1, 1) := by decide +kernel
set_option maxRecDepth 100000 in
theorem d_Md_newPensioner_9 : decode b_Md_newPensioner 9 = .ok (.iastore, 1) := by decide +kernel
set_option maxRecDepth 100000 in
theorem d_Md_newPensioner_10 : decode b_Md_newPensioner 10 = .ok (.aload_n 0, 1) := by decide +kernel
set_option maxRecDepth 100000 in
theorem d_Md_newPensioner_11 : decode b_Md_newPensioner 11 = .ok (.getfield 180, 3) := by decide +kernel
set_option maxRecDepth 100000 in
theorem d_Md_newPensioner_14 : decode b_Md_newPensioner 14 = .ok (.aload_n 0, 1) := by decide +kernel
set_option maxRecDepth 100000 in
theorem d_Md_newPensioner_15 : decode b_Md_newPensioner 15 = .ok (.getfield 323, 3) := by decide +kernel
set_option maxRecDepth 100000 in
theorem d_Md_newPensioner_18 : decode b_Md_newPensioner 18 = .ok (.iload_n 2, 1) := by decide +kernel
set_option maxRecDepth 100000 in
theorem d_Md_newPensioner_19 : decode b_Md_newPensioner 19 = .ok (.iastore, 1) := by decide +kernel
set_option maxRecDepth 100000 in
theorem d_Md_newPensioner_20 : decode b_Md_newPensioner 20 = .ok (.aload_n 0, 1) := by decide +kernel
set_option maxRecDepth 100000 in
theorem d_Md_newPensioner_21 : decode b_Md_newPensioner 21 = .ok (.dup, 1) := by decide +kernel
set_option maxRecDepth 100000 in
theorem d_Md_newPensioner_22 : decode b_Md_newPensioner 22 = .ok (.getfield 323, 3) := by decide +kernel
set_option maxRecDepth 100000 in
theorem d_Md_newPensioner_25 : decode b_Md_newPensioner 25 = .ok (.iconst 1, 1) := by decide +kernel
set_option maxRecDepth 100000 in
theorem d_Md_newPensioner_26 : decode b_Md_newPensioner 26 = .ok (.iadd, 1) := by decide +kernel
set_option maxRecDepth 100000 in
theorem d_Md_newPensioner_27 : decode b_Md_newPensioner 27 = .ok (.putfield 323, 3) := by decide +kernel
set_option maxRecDepth 100000 in
theorem d_Md_newPensioner_30 : decode b_Md_newPensioner 30 = .ok (.aload_n 0, 1) := by decide +kernel
set_option maxRecDepth 100000 in
theorem d_Md_newPensioner_31 : decode b_Md_newPensioner 31 = .ok (.getfield 323, 3) := by decide +kernel
set_option maxRecDepth 100000 in
theorem d_Md_newPensioner_34 : decode b_Md_newPensioner 34 = .ok (.iconst 1, 1) := by decide +kernel
set_option maxRecDepth 100000 in
theorem d_Md_newPensioner_35 : decode b_Md_newPensioner 35 = .ok (.isub, 1) := by decide +kernel
set_option maxRecDepth 100000 in
theorem d_Md_newPensioner_36 : decode b_Md_newPensioner 36 = .ok (.ireturn, 1) := by decide +kernel
set_option maxRecDepth 100000 in
theorem d_Md_order_0 : decode b_Md_order 0 = .ok (.iload_n 1, 1) := by decide +kernel
set_option maxRecDepth 100000 in
theorem d_Md_order_1 : decode b_Md_order 1 = .ok (.invokestatic 38, 3) := by decide +kernel
set_option maxRecDepth 100000 in
theorem d_Md_order_4 : decode b_Md_order 4 = .ok (.ifCond .ne 5, 3) := by decide +kernel
set_option maxRecDepth 100000 in
theorem d_Md_order_7 : decode b_Md_order 7 = .ok (.iconst (-1), 1) := by decide +kernel
set_option maxRecDepth 100000 in
theorem d_Md_order_8 : decode b_Md_order 8 = .ok (.ireturn, 1) := by decide +kernel
set_option maxRecDepth 100000 in
theorem d_Md_order_9 : decode b_Md_order 9 = .ok (.aload_n 0, 1) := by decide +kernel
set_option maxRecDepth 100000 in
theorem d_Md_order_10 : decode b_Md_order 10 = .ok (.getfield 275, 3) := by decide +kernel
set_option maxRecDepth 100000 in
theorem d_Md_order_13 : decode b_Md_order 13 = .ok (.bipush 20, 2) := by decide +kernel
set_option maxRecDepth 100000 in
theorem d_Md_order_15 : decode b_Md_order 15 = .ok (.if_icmp .ne 6, 3) := by decide +kernel
set_option maxRecDepth 100000 in
theorem d_Md_order_18 : decode b_Md_order 18 = .ok (.bipush (-3), 2) := by decide +kernel
set_option maxRecDepth 100000 in
theorem d_Md_order_20 : decode b_Md_order 20 = .ok (.ireturn, 1) := by decide +kernel
set_option maxRecDepth 100000 in
theorem d_Md_order_21 : decode b_Md_order 21 = .ok (.aload_n 0, 1) := by decide +kernel
set_option maxRecDepth 100000 in
theorem d_Md_order_22 : decode b_Md_order 22 = .ok (.getfield 275, 3) := by decide +kernel
set_option maxRecDepth 100000 in
theorem d_Md_order_25 : decode b_Md_order 25 = .ok (.istore_n 2, 1) := by decide +kernel
set_option maxRecDepth 100000 in
theorem d_Md_order_26 : decode b_Md_order 26 = .ok (.aload_n 0, 1) := by decide +kernel
set_option maxRecDepth 100000 in
theorem d_Md_order_27 : decode b_Md_order 27 = .ok (.getfield 119, 3) := by decide +kernel
set_option maxRecDepth 100000 in
theorem d_Md_order_30 : decode b_Md_order 30 = .ok (.iload_n 2, 1) := by decide +kernel
set_option maxRecDepth 100000 in
theorem d_Md_order_31 : decode b_Md_order 31 = .ok (.iconst 0, 1) := by decide +kernel
set_option maxRecDepth 100000 in
theorem d_Md_order_32 : decode b_Md_order 32 = .ok (.iastore, 1) := by decide +kernel
set_option maxRecDepth 100000 in
theorem d_Md_order_33 : decode b_Md_order 33 = .ok (.aload_n 0, 1) := by decide +kernel
set_option maxRecDepth 100000 in
theorem d_Md_order_34 : decode b_Md_order 34 = .ok (.getfield 131, 3) := by decide +kernel
set_option maxRecDepth 100000 in
theorem d_Md_order_37 : decode b_Md_order 37 = .ok (.iload_n 2, 1) := by decide +kernel
set_option maxRecDepth 100000 in
theorem d_Md_order_38 : decode b_Md_order 38 = .ok (.iconst 0, 1) := by decide +kernel
set_option maxRecDepth 100000 in
theorem d_Md_order_39 : decode b_Md_order 39 = .ok (.iastore, 1) := by decide +kernel
set_option maxRecDepth 100000 in
theorem d_Md_order_40 : decode b_Md_order 40 = .ok (.iconst 0, 1) := by decide +kernel
set_option maxRecDepth 100000 in
theorem d_Md_order_41 : decode b_Md_order 41 = .ok (.istore_n 3, 1) := by decide +kernel
set_option maxRecDepth 100000 in
theorem d_Md_order_42 : decode b_Md_order 42 = .ok (.iload_n 3, 1) := by decide +kernel
set_option maxRecDepth 100000 in
theorem d_Md_order_43 : decode b_Md_order 43 = .ok (.bipush 9, 2) := by decide +kernel
set_option maxRecDepth 100000 in
theorem d_Md_order_45 : decode b_Md_order 45 = .ok (.if_icmp .ge 21, 3) := by decide +kernel
set_option maxRecDepth 100000 in
theorem d_Md_order_48 : decode b_Md_order 48 = .ok (.aload_n 0, 1) := by decide +kernel
set_option maxRecDepth 100000 in
theorem d_Md_order_49 : decode b_Md_order 49 = .ok (.getfield 143, 3) := by decide +kernel
set_option maxRecDepth 100000 in
theorem d_Md_order_52 : decode b_Md_order 52 = .ok (.bipush 9, 2) := by decide +kernel
set_option maxRecDepth 100000 in
theorem d_Md_order_54 : decode b_Md_order 54 = .ok (.iload_n 2, 1) := by decide +kernel
set_option maxRecDepth 100000 in
theorem d_Md_order_55 : decode b_Md_order 55 = .ok (.imul, 1) := by decide +kernel
set_option maxRecDepth 100000 in
theorem d_Md_order_56 : decode b_Md_order 56 = .ok (.iload_n 3, 1) := by decide +kernel
set_option maxRecDepth 100000 in
theorem d_Md_order_57 : decode b_Md_order 57 = .ok (.iadd, 1) := by decide +kernel
set_option maxRecDepth 100000 in
theorem d_Md_order_58 : decode b_Md_order 58 = .ok (.iconst (-1), 1) := by decide +kernel
set_option maxRecDepth 100000 in
theorem d_Md_order_59 : decode b_Md_order 59 = .ok (.iastore, 1) := by decide +kernel
set_option maxRecDepth 100000 in
theorem d_Md_order_60 : decode b_Md_order 60 = .ok (.iinc 3 1, 3) := by decide +kernel
set_option maxRecDepth 100000 in
theorem d_Md_order_63 : decode b_Md_order 63 = .ok (.goto (-21), 3) := by decide +kernel
set_option maxRecDepth 100000 in
theorem d_Md_order_66 : decode b_Md_order 66 = .ok (.aload_n 0, 1) := by decide +kernel
set_option maxRecDepth 100000 in
theorem d_Md_order_67 : decode b_Md_order 67 = .ok (.iconst 0, 1) := by decide +kernel
set_option maxRecDepth 100000 in
theorem d_Md_order_68 : decode b_Md_order 68 = .ok (.putfield 218, 3) := by decide +kernel
set_option maxRecDepth 100000 in
theorem d_Md_order_71 : decode b_Md_order 71 = .ok (.aload_n 0, 1) := by decide +kernel
set_option maxRecDepth 100000 in
theorem d_Md_order_72 : decode b_Md_order 72 = .ok (.invokevirtual 269, 3) := by decide +kernel
set_option maxRecDepth 100000 in
theorem d_Md_order_75 : decode b_Md_order 75 = .ok (.iconst 1, 1) := by decide +kernel
set_option maxRecDepth 100000 in
theorem d_Md_order_76 : decode b_Md_order 76 = .ok (.istore_n 3, 1) := by decide +kernel
set_option maxRecDepth 100000 in
theorem d_Md_order_77 : decode b_Md_order 77 = .ok (.iconst 1, 1) := by decide +kernel
set_option maxRecDepth 100000 in
theorem d_Md_order_78 : decode b_Md_order 78 = .ok (.istore 4, 2) := by decide +kernel
set_option maxRecDepth 100000 in
theorem d_Md_order_80 : decode b_Md_order 80 = .ok (.iload_n 3, 1) := by decide +kernel
set_option maxRecDepth 100000 in
theorem d_Md_order_81 : decode b_Md_order 81 = .ok (.ifCond .eq 31, 3) := by decide +kernel
set_option maxRecDepth 100000 in
theorem d_Md_order_84 : decode b_Md_order 84 = .ok (.iload 4, 2) := by decide +kernel
set_option maxRecDepth 100000 in
theorem d_Md_order_86 : decode b_Md_order 86 = .ok (.ifCond .eq 26, 3) := by decide +kernel
set_option maxRecDepth 100000 in
theorem d_Md_order_89 : decode b_Md_order 89 = .ok (.aload_n 0, 1) := by decide +kernel
set_option maxRecDepth 100000 in
theorem d_Md_order_90 : decode b_Md_order 90 = .ok (.iload_n 2, 1) := by decide +kernel
set_option maxRecDepth 100000 in
theorem d_Md_order_91 : decode b_Md_order 91 = .ok (.invokevirtual 278, 3) := by decide +kernel
set_option maxRecDepth 100000 in
theorem d_Md_order_94 : decode b_Md_order 94 = .ok (.istore_n 3, 1) := by decide +kernel
set_option maxRecDepth 100000 in
theorem d_Md_order_95 : decode b_Md_order 95 = .ok (.aload_n 0, 1) := by decide +kernel
set_option maxRecDepth 100000 in
theorem d_Md_order_96 : decode b_Md_order 96 = .ok (.getfield 224, 3) := by decide +kernel
set_option maxRecDepth 100000 in
theorem d_Md_order_99 : decode b_Md_order 99 = .ok (.ifCond .eq 7, 3) := by decide +kernel
set_option maxRecDepth 100000 in
theorem d_Md_order_102 : decode b_Md_order 102 = .ok (.iconst 1, 1) := by decide +kernel
set_option maxRecDepth 100000 in
theorem d_Md_order_103 : decode b_Md_order 103 = .ok (.goto 4, 3) := by decide +kernel
set_option maxRecDepth 100000 in
theorem d_Md_order_106 : decode b_Md_order 106 = .ok (.iconst 0, 1) := by decide +kernel
set_option maxRecDepth 100000 in
theorem d_Md_order_107 : decode b_Md_order 107 = .ok (.istore 4, 2) := by decide +kernel
set_option maxRecDepth 100000 in
theorem d_Md_order_109 : decode b_Md_order 109 = .ok (.goto (-29), 3) := by decide +kernel
set_option maxRecDepth 100000 in
theorem d_Md_order_112 : decode b_Md_order 112 = .ok (.aload_n 0, 1) := by decide +kernel
set_option maxRecDepth 100000 in
theorem d_Md_order_113 : decode b_Md_order 113 = .ok (.iconst 0, 1) := by decide +kernel
set_option maxRecDepth 100000 in
theorem d_Md_order_114 : decode b_Md_order 114 = .ok (.putfield 212, 3) := by decide +kernel
set_option maxRecDepth 100000 in
theorem d_Md_order_117 : decode b_Md_order 117 = .ok (.iload_n 3, 1) := by decide +kernel
set_option maxRecDepth 100000 in
theorem d_Md_order_118 : decode b_Md_order 118 = .ok (.ifCond .ne 11, 3) := by decide +kernel
set_option maxRecDepth 100000 in
theorem d_Md_order_121 : decode b_Md_order 121 = .ok (.bipush (-100), 2) := by decide +kernel
set_option maxRecDepth 100000 in
theorem d_Md_order_123 : decode b_Md_order 123 = .ok (.aload_n 0, 1) := by decide +kernel
set_option maxRecDepth 100000 in
theorem d_Md_order_124 : decode b_Md_order 124 = .ok (.getfield 221, 3) := by decide +kernel
set_option maxRecDepth 100000 in
theorem d_Md_order_127 : decode b_Md_order 127 = .ok (.isub, 1) := by decide +kernel
set_option maxRecDepth 100000 in
theorem d_Md_order_128 : decode b_Md_order 128 = .ok (.ireturn, 1) := by decide +kernel
set_option maxRecDepth 100000 in
theorem d_Md_order_129 : decode b_Md_order 129 = .ok (.aload_n 0, 1) := by decide +kernel
set_option maxRecDepth 100000 in
theorem d_Md_order_130 : decode b_Md_order 130 = .ok (.getfield 113, 3) := by decide +kernel
set_option maxRecDepth 100000 in
theorem d_Md_order_133 : decode b_Md_order 133 = .ok (.iload_n 2, 1) := by decide +kernel
set_option maxRecDepth 100000 in
theorem d_Md_order_134 : decode b_Md_order 134 = .ok (.iload_n 1, 1) := by decide +kernel
set_option maxRecDepth 100000 in
theorem d_Md_order_135 : decode b_Md_order 135 = .ok (.iastore, 1) := by decide +kernel
set_option maxRecDepth 100000 in
theorem d_Md_order_136 : decode b_Md_order 136 = .ok (.aload_n 0, 1) := by decide +kernel
set_option maxRecDepth 100000 in
theorem d_Md_order_137 : decode b_Md_order 137 = .ok (.getfield 116, 3) := by decide +kernel
set_option maxRecDepth 100000 in
theorem d_Md_order_140 : decode b_Md_order 140 = .ok (.iload_n 2, 1) := by decide +kernel
set_option maxRecDepth 100000 in
theorem d_Md_order_141 : decode b_Md_order 141 = .ok (.aload_n 0, 1) := by decide +kernel
set_option maxRecDepth 100000 in
theorem d_Md_order_142 : decode b_Md_order 142 = .ok (.invokevirtual 45, 3) := by decide +kernel
set_option maxRecDepth 100000 in
theorem d_Md_order_145 : decode b_Md_order 145 = .ok (.iastore, 1) := by decide +kernel
set_option maxRecDepth 100000 in
theorem d_Md_order_146 : decode b_Md_order 146 = .ok (.aload_n 0, 1) := by decide +kernel
set_option maxRecDepth 100000 in
theorem d_Md_order_147 : decode b_Md_order 147 = .ok (.dup, 1) := by decide +kernel
set_option maxRecDepth 100000 in
theorem d_Md_order_148 : decode b_Md_order 148 = .ok (.getfield 275, 3) := by decide +kernel
set_option maxRecDepth 100000 in
theorem d_Md_order_151 : decode b_Md_order 151 = .ok (.iconst 1, 1) := by decide +kernel
set_option maxRecDepth 100000 in
theorem d_Md_order_152 : decode b_Md_order 152 = .ok (.iadd, 1) := by decide +kernel
set_option maxRecDepth 100000 in
theorem d_Md_order_153 : decode b_Md_order 153 = .ok (.putfield 275, 3) := by decide +kernel
set_option maxRecDepth 100000 in
theorem d_Md_order_156 : decode b_Md_order 156 = .ok (.iload_n 2, 1) := by decide +kernel
set_option maxRecDepth 100000 in
theorem d_Md_order_157 : decode b_Md_order 157 = .ok (.ireturn, 1) := by decide +kernel
set_option maxRecDepth 100000 in
theorem d_Md_over_0 : decode b_Md_over 0 = .ok (.iload_n 1, 1) := by decide +kernel
set_option maxRecDepth 100000 in
theorem d_Md_over_1 : decode b_Md_over 1 = .ok (.invokestatic 186, 3) := by decide +kernel
set_option maxRecDepth 100000 in
theorem d_Md_over_4 : decode b_Md_over 4 = .ok (.ifCond .eq 10, 3) := by decide +kernel
set_option maxRecDepth 100000 in
theorem d_Md_over_7 : decode b_Md_over 7 = .ok (.iload_n 2, 1) := by decide +kernel
set_option maxRecDepth 100000 in
theorem d_Md_over_8 : decode b_Md_over 8 = .ok (.invokestatic 38, 3) := by decide +kernel
set_option maxRecDepth 100000 in
theorem d_Md_over_11 : decode b_Md_over 11 = .ok (.ifCond .ne 5, 3) := by decide +kernel
set_option maxRecDepth 100000 in
theorem d_Md_over_14 : decode b_Md_over 14 = .ok (.iconst (-1), 1) := by decide +kernel
set_option maxRecDepth 100000 in
theorem d_Md_over_15 : decode b_Md_over 15 = .ok (.ireturn, 1) := by decide +kernel
set_option maxRecDepth 100000 in
theorem d_Md_over_16 : decode b_Md_over 16 = .ok (.iconst 0, 1) := by decide +kernel
set_option maxRecDepth 100000 in
theorem d_Md_over_17 : decode b_Md_over 17 = .ok (.istore_n 3, 1) := by decide +kernel
set_option maxRecDepth 100000 in
theorem d_Md_over_18 : decode b_Md_over 18 = .ok (.iconst 0, 1) := by decide +kernel
set_option maxRecDepth 100000 in
theorem d_Md_over_19 : decode b_Md_over 19 = .ok (.istore 4, 2) := by decide +kernel
set_option maxRecDepth 100000 in
theorem d_Md_over_21 : decode b_Md_over 21 = .ok (.iload 4, 2) := by decide +kernel
set_option maxRecDepth 100000 in
theorem d_Md_over_23 : decode b_Md_over 23 = .ok (.aload_n 0, 1) := by decide +kernel
set_option maxRecDepth 100000 in
theorem d_Md_over_24 : decode b_Md_over 24 = .ok (.getfield 313, 3) := by decide +kernel
set_option maxRecDepth 100000 in
theorem d_Md_over_27 : decode b_Md_over 27 = .ok (.if_icmp .ge 66, 3) := by decide +kernel
set_option maxRecDepth 100000 in
theorem d_Md_over_30 : decode b_Md_over 30 = .ok (.aload_n 0, 1) := by decide +kernel
set_option maxRecDepth 100000 in
theorem d_Md_over_31 : decode b_Md_over 31 = .ok (.getfield 152, 3) := by decide +kernel
set_option maxRecDepth 100000 in
theorem d_Md_over_34 : decode b_Md_over 34 = .ok (.iload 4, 2) := by decide +kernel
set_option maxRecDepth 100000 in
theorem d_Md_over_36 : decode b_Md_over 36 = .ok (.iaload, 1) := by decide +kernel
set_option maxRecDepth 100000 in
theorem d_Md_over_37 : decode b_Md_over 37 = .ok (.iload_n 1, 1) := by decide +kernel
set_option maxRecDepth 100000 in
theorem d_Md_over_38 : decode b_Md_over 38 = .ok (.if_icmp .eq 6, 3) := by decide +kernel
set_option maxRecDepth 100000 in
theorem d_Md_over_41 : decode b_Md_over 41 = .ok (.goto 46, 3) := by decide +kernel
set_option maxRecDepth 100000 in
theorem d_Md_over_44 : decode b_Md_over 44 = .ok (.aload_n 0, 1) := by decide +kernel
set_option maxRecDepth 100000 in
theorem d_Md_over_45 : decode b_Md_over 45 = .ok (.iload 4, 2) := by decide +kernel
set_option maxRecDepth 100000 in
theorem d_Md_over_47 : decode b_Md_over 47 = .ok (.iload_n 2, 1) := by decide +kernel
set_option maxRecDepth 100000 in
theorem d_Md_over_48 : decode b_Md_over 48 = .ok (.invokevirtual 345, 3) := by decide +kernel
set_option maxRecDepth 100000 in
theorem d_Md_over_51 : decode b_Md_over 51 = .ok (.istore 5, 2) := by decide +kernel
set_option maxRecDepth 100000 in
theorem d_Md_over_53 : decode b_Md_over 53 = .ok (.iload_n 3, 1) := by decide +kernel
set_option maxRecDepth 100000 in
theorem d_Md_over_54 : decode b_Md_over 54 = .ok (.iload 5, 2) := by decide +kernel
set_option maxRecDepth 100000 in
theorem d_Md_over_56 : decode b_Md_over 56 = .ok (.ifCond .lt 28, 3) := by decide +kernel
set_option maxRecDepth 100000 in
theorem d_Md_over_59 : decode b_Md_over 59 = .ok (.aload_n 0, 1) := by decide +kernel
set_option maxRecDepth 100000 in
theorem d_Md_over_60 : decode b_Md_over 60 = .ok (.getfield 167, 3) := by decide +kernel
set_option maxRecDepth 100000 in
theorem d_Md_over_63 : decode b_Md_over 63 = .ok (.iload 4, 2) := by decide +kernel
set_option maxRecDepth 100000 in
theorem d_Md_over_65 : decode b_Md_over 65 = .ok (.iaload, 1) := by decide +kernel
set_option maxRecDepth 100000 in
theorem d_Md_over_66 : decode b_Md_over 66 = .ok (.iload 5, 2) := by decide +kernel
set_option maxRecDepth 100000 in
theorem d_Md_over_68 : decode b_Md_over 68 = .ok (.if_icmp .le 16, 3) := by decide +kernel
set_option maxRecDepth 100000 in
theorem d_Md_over_71 : decode b_Md_over 71 = .ok (.aload_n 0, 1) := by decide +kernel
set_option maxRecDepth 100000 in
theorem d_Md_over_72 : decode b_Md_over 72 = .ok (.getfield 167, 3) := by decide +kernel
set_option maxRecDepth 100000 in
theorem d_Md_over_75 : decode b_Md_over 75 = .ok (.iload 4, 2) := by decide +kernel
set_option maxRecDepth 100000 in
theorem d_Md_over_77 : decode b_Md_over 77 = .ok (.iaload, 1) := by decide +kernel
set_option maxRecDepth 100000 in
theorem d_Md_over_78 : decode b_Md_over 78 = .ok (.iload 5, 2) := by decide +kernel
set_option maxRecDepth 100000 in
theorem d_Md_over_80 : decode b_Md_over 80 = .ok (.isub, 1) := by decide +kernel
set_option maxRecDepth 100000 in
theorem d_Md_over_81 : decode b_Md_over 81 = .ok (.goto 4, 3) := by decide +kernel
set_option maxRecDepth 100000 in
theorem d_Md_over_84 : decode b_Md_over 84 = .ok (.iconst 0, 1) := by decide +kernel
set_option maxRecDepth 100000 in
theorem d_Md_over_85 : decode b_Md_over 85 = .ok (.iadd, 1) := by decide +kernel
set_option maxRecDepth 100000 in
theorem d_Md_over_86 : decode b_Md_over 86 = .ok (.istore_n 3, 1) := by decide +kernel
set_option maxRecDepth 100000 in
theorem d_Md_over_87 : decode b_Md_over 87 = .ok (.iinc 4 1, 3) := by decide +kernel
set_option maxRecDepth 100000 in
theorem d_Md_over_90 : decode b_Md_over 90 = .ok (.goto (-69), 3) := by decide +kernel
set_option maxRecDepth 100000 in
theorem d_Md_over_93 : decode b_Md_over 93 = .ok (.iload_n 3, 1) := by decide +kernel
set_option maxRecDepth 100000 in
theorem d_Md_over_94 : decode b_Md_over 94 = .ok (.ireturn, 1) := by decide +kernel
set_option maxRecDepth 100000 in
theorem d_Md_part_0 : decode b_Md_part 0 = .ok (.iconst 0, 1) := by decide +kernel
set_option maxRecDepth 100000 in
theorem d_Md_part_1 : decode b_Md_part 1 = .ok (.istore_n 2, 1) := by decide +kernel
set_option maxRecDepth 100000 in
theorem d_Md_part_2 : decode b_Md_part 2 = .ok (.iconst 0, 1) := by decide +kernel
set_option maxRecDepth 100000 in
theorem d_Md_part_3 : decode b_Md_part 3 = .ok (.istore_n 3, 1) := by decide +kernel
set_option maxRecDepth 100000 in
theorem d_Md_part_4 : decode b_Md_part 4 = .ok (.iload_n 3, 1) := by decide +kernel
set_option maxRecDepth 100000 in
theorem d_Md_part_5 : decode b_Md_part 5 = .ok (.bipush 40, 2) := by decide +kernel
set_option maxRecDepth 100000 in
theorem d_Md_part_7 : decode b_Md_part 7 = .ok (.if_icmp .ge 26, 3) := by decide +kernel
set_option maxRecDepth 100000 in
theorem d_Md_part_10 : decode b_Md_part 10 = .ok (.iload_n 2, 1) := by decide +kernel
set_option maxRecDepth 100000 in
theorem d_Md_part_11 : decode b_Md_part 11 = .ok (.aload_n 0, 1) := by decide +kernel
set_option maxRecDepth 100000 in
theorem d_Md_part_12 : decode b_Md_part 12 = .ok (.getfield 85, 3) := by decide +kernel
set_option maxRecDepth 100000 in
theorem d_Md_part_15 : decode b_Md_part 15 = .ok (.iload_n 3, 1) := by decide +kernel
set_option maxRecDepth 100000 in
theorem d_Md_part_16 : decode b_Md_part 16 = .ok (.baload, 1) := by decide +kernel
set_option maxRecDepth 100000 in
theorem d_Md_part_17 : decode b_Md_part 17 = .ok (.ifCond .eq 7, 3) := by decide +kernel
set_option maxRecDepth 100000 in
theorem d_Md_part_20 : decode b_Md_part 20 = .ok (.iconst 1, 1) := by decide +kernel
set_option maxRecDepth 100000 in
theorem d_Md_part_21 : decode b_Md_part 21 = .ok (.goto 4, 3) := by decide +kernel
set_option maxRecDepth 100000 in
theorem d_Md_part_24 : decode b_Md_part 24 = .ok (.iconst 0, 1) := by decide +kernel
set_option maxRecDepth 100000 in
theorem d_Md_part_25 : decode b_Md_part 25 = .ok (.iadd, 1) := by decide +kernel
set_option maxRecDepth 100000 in
theorem d_Md_part_26 : decode b_Md_part 26 = .ok (.istore_n 2, 1) := by decide +kernel
set_option maxRecDepth 100000 in
theorem d_Md_part_27 : decode b_Md_part 27 = .ok (.iinc 3 1, 3) := by decide +kernel
set_option maxRecDepth 100000 in
theorem d_Md_part_30 : decode b_Md_part 30 = .ok (.goto (-26), 3) := by decide +kernel
set_option maxRecDepth 100000 in
theorem d_Md_part_33 : decode b_Md_part 33 = .ok (.iload_n 2, 1) := by decide +kernel
set_option maxRecDepth 100000 in
theorem d_Md_part_34 : decode b_Md_part 34 = .ok (.ifCond .ne 7, 3) := by decide +kernel
set_option maxRecDepth 100000 in
theorem d_Md_part_37 : decode b_Md_part 37 = .ok (.lconst 0, 1) := by decide +kernel
set_option maxRecDepth 100000 in
theorem d_Md_part_38 : decode b_Md_part 38 = .ok (.goto 10, 3) := by decide +kernel
set_option maxRecDepth 100000 in
theorem d_Md_part_41 : decode b_Md_part 41 = .ok (.aload_n 0, 1) := by decide +kernel
set_option maxRecDepth 100000 in
theorem d_Md_part_42 : decode b_Md_part 42 = .ok (.getfield 320, 3) := by decide +kernel
set_option maxRecDepth 100000 in
theorem d_Md_part_45 : decode b_Md_part 45 = .ok (.iload_n 2, 1) := by decide +kernel
set_option maxRecDepth 100000 in
theorem d_Md_part_46 : decode b_Md_part 46 = .ok (.i2l, 1) := by decide +kernel
set_option maxRecDepth 100000 in
theorem d_Md_part_47 : decode b_Md_part 47 = .ok (.ldiv, 1) := by decide +kernel
set_option maxRecDepth 100000 in
theorem d_Md_part_48 : decode b_Md_part 48 = .ok (.lstore_n 3, 1) := by decide +kernel
set_option maxRecDepth 100000 in
theorem d_Md_part_49 : decode b_Md_part 49 = .ok (.iconst 0, 1) := by decide +kernel
set_option maxRecDepth 100000 in
theorem d_Md_part_50 : decode b_Md_part 50 = .ok (.istore 5, 2) := by decide +kernel
set_option maxRecDepth 100000 in
theorem d_Md_part_52 : decode b_Md_part 52 = .ok (.iload 5, 2) := by decide +kernel
set_option maxRecDepth 100000 in
theorem d_Md_part_54 : decode b_Md_part 54 = .ok (.bipush 40, 2) := by decide +kernel
set_option maxRecDepth 100000 in
theorem d_Md_part_56 : decode b_Md_part 56 = .ok (.if_icmp .ge 39, 3) := by decide +kernel
set_option maxRecDepth 100000 in
theorem d_Md_part_59 : decode b_Md_part 59 = .ok (.aload_n 0, 1) := by decide +kernel
set_option maxRecDepth 100000 in
theorem d_Md_part_60 : decode b_Md_part 60 = .ok (.getfield 85, 3) := by decide +kernel
set_option maxRecDepth 100000 in
theorem d_Md_part_63 : decode b_Md_part 63 = .ok (.iload 5, 2) := by decide +kernel
set_option maxRecDepth 100000 in
theorem d_Md_part_65 : decode b_Md_part 65 = .ok (.baload, 1) := by decide +kernel
set_option maxRecDepth 100000 in
theorem d_Md_part_66 : decode b_Md_part 66 = .ok (.ifCond .eq 15, 3) := by decide +kernel
set_option maxRecDepth 100000 in
theorem d_Md_part_69 : decode b_Md_part 69 = .ok (.aload_n 0, 1) := by decide +kernel
set_option maxRecDepth 100000 in
theorem d_Md_part_70 : decode b_Md_part 70 = .ok (.getfield 76, 3) := by decide +kernel
set_option maxRecDepth 100000 in
theorem d_Md_part_73 : decode b_Md_part 73 = .ok (.iload 5, 2) := by decide +kernel
set_option maxRecDepth 100000 in
theorem d_Md_part_75 : decode b_Md_part 75 = .ok (.dup2, 1) := by decide +kernel
set_option maxRecDepth 100000 in
theorem d_Md_part_76 : decode b_Md_part 76 = .ok (.iaload, 1) := by decide +kernel
set_option maxRecDepth 100000 in
theorem d_Md_part_77 : decode b_Md_part 77 = .ok (.lload_n 3, 1) := by decide +kernel
set_option maxRecDepth 100000 in
theorem d_Md_part_78 : decode b_Md_part 78 = .ok (.l2i, 1) := by decide +kernel
set_option maxRecDepth 100000 in
theorem d_Md_part_79 : decode b_Md_part 79 = .ok (.iadd, 1) := by decide +kernel
set_option maxRecDepth 100000 in
theorem d_Md_part_80 : decode b_Md_part 80 = .ok (.iastore, 1) := by decide +kernel
set_option maxRecDepth 100000 in
theorem d_Md_part_81 : decode b_Md_part 81 = .ok (.aload_n 0, 1) := by decide +kernel
set_option maxRecDepth 100000 in
theorem d_Md_part_82 : decode b_Md_part 82 = .ok (.getfield 85, 3) := by decide +kernel
set_option maxRecDepth 100000 in
theorem d_Md_part_85 : decode b_Md_part 85 = .ok (.iload 5, 2) := by decide +kernel
set_option maxRecDepth 100000 in
theorem d_Md_part_87 : decode b_Md_part 87 = .ok (.iconst 0, 1) := by decide +kernel
set_option maxRecDepth 100000 in
theorem d_Md_part_88 : decode b_Md_part 88 = .ok (.bastore, 1) := by decide +kernel
set_option maxRecDepth 100000 in
theorem d_Md_part_89 : decode b_Md_part 89 = .ok (.iinc 5 1, 3) := by decide +kernel
set_option maxRecDepth 100000 in
theorem d_Md_part_92 : decode b_Md_part 92 = .ok (.goto (-40), 3) := by decide +kernel
set_option maxRecDepth 100000 in
theorem d_Md_part_95 : decode b_Md_part 95 = .ok (.aload_n 0, 1) := by decide +kernel
set_option maxRecDepth 100000 in
theorem d_Md_part_96 : decode b_Md_part 96 = .ok (.dup, 1) := by decide +kernel
set_option maxRecDepth 100000 in
theorem d_Md_part_97 : decode b_Md_part 97 = .ok (.getfield 316, 3) := by decide +kernel
set_option maxRecDepth 100000 in
theorem d_Md_part_100 : decode b_Md_part 100 = .ok (.aload_n 0, 1) := by decide +kernel
set_option maxRecDepth 100000 in
theorem d_Md_part_101 : decode b_Md_part 101 = .ok (.getfield 320, 3) := by decide +kernel
set_option maxRecDepth 100000 in
theorem d_Md_part_104 : decode b_Md_part 104 = .ok (.lload_n 3, 1) := by decide +kernel
set_option maxRecDepth 100000 in
theorem d_Md_part_105 : decode b_Md_part 105 = .ok (.iload_n 2, 1) := by decide +kernel
set_option maxRecDepth 100000 in
theorem d_Md_part_106 : decode b_Md_part 106 = .ok (.i2l, 1) := by decide +kernel
set_option maxRecDepth 100000 in
theorem d_Md_part_107 : decode b_Md_part 107 = .ok (.lmul, 1) := by decide +kernel
set_option maxRecDepth 100000 in
theorem d_Md_part_108 : decode b_Md_part 108 = .ok (.lsub, 1) := by decide +kernel
set_option maxRecDepth 100000 in
theorem d_Md_part_109 : decode b_Md_part 109 = .ok (.ladd, 1) := by decide +kernel
set_option maxRecDepth 100000 in
theorem d_Md_part_110 : decode b_Md_part 110 = .ok (.putfield 316, 3) := by decide +kernel
set_option maxRecDepth 100000 in
theorem d_Md_part_113 : decode b_Md_part 113 = .ok (.aload_n 0, 1) := by decide +kernel
set_option maxRecDepth 100000 in
theorem d_Md_part_114 : decode b_Md_part 114 = .ok (.getfield 173, 3) := by decide +kernel
set_option maxRecDepth 100000 in
theorem d_Md_part_117 : decode b_Md_part 117 = .ok (.iload_n 1, 1) := by decide +kernel
set_option maxRecDepth 100000 in
theorem d_Md_part_118 : decode b_Md_part 118 = .ok (.dup2, 1) := by decide +kernel
set_option maxRecDepth 100000 in
theorem d_Md_part_119 : decode b_Md_part 119 = .ok (.laload, 1) := by decide +kernel
set_option maxRecDepth 100000 in
theorem d_Md_part_120 : decode b_Md_part 120 = .ok (.aload_n 0, 1) := by decide +kernel
set_option maxRecDepth 100000 in
theorem d_Md_part_121 : decode b_Md_part 121 = .ok (.getfield 320, 3) := by decide +kernel
set_option maxRecDepth 100000 in
theorem d_Md_part_124 : decode b_Md_part 124 = .ok (.lload_n 3, 1) := by decide +kernel
set_option maxRecDepth 100000 in
theorem d_Md_part_125 : decode b_Md_part 125 = .ok (.iload_n 2, 1) := by decide +kernel
set_option maxRecDepth 100000 in
theorem d_Md_part_126 : decode b_Md_part 126 = .ok (.i2l, 1) := by decide +kernel
set_option maxRecDepth 100000 in
theorem d_Md_part_127 : decode b_Md_part 127 = .ok (.lmul, 1) := by decide +kernel
set_option maxRecDepth 100000 in
theorem d_Md_part_128 : decode b_Md_part 128 = .ok (.lsub, 1) := by decide +kernel
set_option maxRecDepth 100000 in
theorem d_Md_part_129 : decode b_Md_part 129 = .ok (.ladd, 1) := by decide +kernel
set_option maxRecDepth 100000 in
theorem d_Md_part_130 : decode b_Md_part 130 = .ok (.lastore, 1) := by decide +kernel
set_option maxRecDepth 100000 in
theorem d_Md_part_131 : decode b_Md_part 131 = .ok (.aload_n 0, 1) := by decide +kernel
set_option maxRecDepth 100000 in
theorem d_Md_part_132 : decode b_Md_part 132 = .ok (.lconst 0, 1) := by decide +kernel
set_option maxRecDepth 100000 in
theorem d_Md_part_133 : decode b_Md_part 133 = .ok (.putfield 320, 3) := by decide +kernel
set_option maxRecDepth 100000 in
theorem d_Md_part_136 : decode b_Md_part 136 = .ok (.return_, 1) := by decide +kernel
set_option maxRecDepth 100000 in
theorem d_Md_pass_0 : decode b_Md_pass 0 = .ok (.iload_n 1, 1) := by decide +kernel
set_option maxRecDepth 100000 in
theorem d_Md_pass_1 : decode b_Md_pass 1 = .ok (.invokestatic 186, 3) := by decide +kernel
set_option maxRecDepth 100000 in
theorem d_Md_pass_4 : decode b_Md_pass 4 = .ok (.ifCond .ne 5, 3) := by decide +kernel
set_option maxRecDepth 100000 in
theorem d_Md_pass_7 : decode b_Md_pass 7 = .ok (.iconst (-1), 1) := by decide +kernel
set_option maxRecDepth 100000 in
theorem d_Md_pass_8 : decode b_Md_pass 8 = .ok (.ireturn, 1) := by decide +kernel
set_option maxRecDepth 100000 in
theorem d_Md_pass_9 : decode b_Md_pass 9 = .ok (.aload_n 0, 1) := by decide +kernel
set_option maxRecDepth 100000 in
theorem d_Md_pass_10 : decode b_Md_pass 10 = .ok (.getfield 58, 3) := by decide +kernel
set_option maxRecDepth 100000 in
theorem d_Md_pass_13 : decode b_Md_pass 13 = .ok (.iload_n 1, 1) := by decide +kernel
set_option maxRecDepth 100000 in
theorem d_Md_pass_14 : decode b_Md_pass 14 = .ok (.iaload, 1) := by decide +kernel
set_option maxRecDepth 100000 in
theorem d_Md_pass_15 : decode b_Md_pass 15 = .ok (.iconst 1, 1) := by decide +kernel
set_option maxRecDepth 100000 in
theorem d_Md_pass_16 : decode b_Md_pass 16 = .ok (.if_icmp .eq 6, 3) := by decide +kernel
set_option maxRecDepth 100000 in
theorem d_Md_pass_19 : decode b_Md_pass 19 = .ok (.bipush (-2), 2) := by decide +kernel
set_option maxRecDepth 100000 in
theorem d_Md_pass_21 : decode b_Md_pass 21 = .ok (.ireturn, 1) := by decide +kernel
set_option maxRecDepth 100000 in
theorem d_Md_pass_22 : decode b_Md_pass 22 = .ok (.aload_n 0, 1) := by decide +kernel
set_option maxRecDepth 100000 in
theorem d_Md_pass_23 : decode b_Md_pass 23 = .ok (.iload_n 1, 1) := by decide +kernel
set_option maxRecDepth 100000 in
theorem d_Md_pass_24 : decode b_Md_pass 24 = .ok (.invokevirtual 189, 3) := by decide +kernel
set_option maxRecDepth 100000 in
theorem d_Md_pass_27 : decode b_Md_pass 27 = .ok (.istore_n 2, 1) := by decide +kernel
set_option maxRecDepth 100000 in
theorem d_Md_pass_28 : decode b_Md_pass 28 = .ok (.iload_n 2, 1) := by decide +kernel
set_option maxRecDepth 100000 in
theorem d_Md_pass_29 : decode b_Md_pass 29 = .ok (.sipush 300, 3) := by decide +kernel
set_option maxRecDepth 100000 in
theorem d_Md_pass_32 : decode b_Md_pass 32 = .ok (.if_icmp .ge 12, 3) := by decide +kernel
set_option maxRecDepth 100000 in
theorem d_Md_pass_35 : decode b_Md_pass 35 = .ok (.bipush (-100), 2) := by decide +kernel
set_option maxRecDepth 100000 in
theorem d_Md_pass_37 : decode b_Md_pass 37 = .ok (.sipush 300, 3) := by decide +kernel
set_option maxRecDepth 100000 in
theorem d_Md_pass_40 : decode b_Md_pass 40 = .ok (.iload_n 2, 1) := by decide +kernel
set_option maxRecDepth 100000 in
theorem d_Md_pass_41 : decode b_Md_pass 41 = .ok (.isub, 1) := by decide +kernel
set_option maxRecDepth 100000 in
theorem d_Md_pass_42 : decode b_Md_pass 42 = .ok (.isub, 1) := by decide +kernel
set_option maxRecDepth 100000 in
theorem d_Md_pass_43 : decode b_Md_pass 43 = .ok (.ireturn, 1) := by decide +kernel
set_option maxRecDepth 100000 in
theorem d_Md_pass_44 : decode b_Md_pass 44 = .ok (.aload_n 0, 1) := by decide +kernel
set_option maxRecDepth 100000 in
theorem d_Md_pass_45 : decode b_Md_pass 45 = .ok (.getfield 58, 3) := by decide +kernel
set_option maxRecDepth 100000 in
theorem d_Md_pass_48 : decode b_Md_pass 48 = .ok (.iload_n 1, 1) := by decide +kernel
set_option maxRecDepth 100000 in
theorem d_Md_pass_49 : decode b_Md_pass 49 = .ok (.iconst 2, 1) := by decide +kernel
set_option maxRecDepth 100000 in
theorem d_Md_pass_50 : decode b_Md_pass 50 = .ok (.iastore, 1) := by decide +kernel
set_option maxRecDepth 100000 in
theorem d_Md_pass_51 : decode b_Md_pass 51 = .ok (.aload_n 0, 1) := by decide +kernel
set_option maxRecDepth 100000 in
theorem d_Md_pass_52 : decode b_Md_pass 52 = .ok (.getfield 61, 3) := by decide +kernel
set_option maxRecDepth 100000 in
theorem d_Md_pass_55 : decode b_Md_pass 55 = .ok (.iload_n 1, 1) := by decide +kernel
set_option maxRecDepth 100000 in
theorem d_Md_pass_56 : decode b_Md_pass 56 = .ok (.iconst (-1), 1) := by decide +kernel
set_option maxRecDepth 100000 in
theorem d_Md_pass_57 : decode b_Md_pass 57 = .ok (.iastore, 1) := by decide +kernel
set_option maxRecDepth 100000 in
theorem d_Md_pass_58 : decode b_Md_pass 58 = .ok (.iconst 1, 1) := by decide +kernel
set_option maxRecDepth 100000 in
theorem d_Md_pass_59 : decode b_Md_pass 59 = .ok (.ireturn, 1) := by decide +kernel
set_option maxRecDepth 100000 in
theorem d_Md_pay_0 : decode b_Md_pay 0 = .ok (.iconst 0, 1) := by decide +kernel
set_option maxRecDepth 100000 in
theorem d_Md_pay_1 : decode b_Md_pay 1 = .ok (.istore_n 2, 1) := by decide +kernel
set_option maxRecDepth 100000 in
theorem d_Md_pay_2 : decode b_Md_pay 2 = .ok (.iload_n 2, 1) := by decide +kernel
set_option maxRecDepth 100000 in
theorem d_Md_pay_3 : decode b_Md_pay 3 = .ok (.aload_n 0, 1) := by decide +kernel
set_option maxRecDepth 100000 in
theorem d_Md_pay_4 : decode b_Md_pay 4 = .ok (.getfield 323, 3) := by decide +kernel
set_option maxRecDepth 100000 in
theorem d_Md_pay_7 : decode b_Md_pay 7 = .ok (.if_icmp .ge 84, 3) := by decide +kernel
set_option maxRecDepth 100000 in
theorem d_Md_pay_10 : decode b_Md_pay 10 = .ok (.iload_n 1, 1) := by decide +kernel
set_option maxRecDepth 100000 in
theorem d_Md_pay_11 : decode b_Md_pay 11 = .ok (.aload_n 0, 1) := by decide +kernel
set_option maxRecDepth 100000 in
theorem d_Md_pay_12 : decode b_Md_pay 12 = .ok (.getfield 180, 3) := by decide +kernel
set_option maxRecDepth 100000 in
theorem d_Md_pay_15 : decode b_Md_pay 15 = .ok (.iload_n 2, 1) := by decide +kernel
set_option maxRecDepth 100000 in
theorem d_Md_pay_16 : decode b_Md_pay 16 = .ok (.iaload, 1) := by decide +kernel
set_option maxRecDepth 100000 in
theorem d_Md_pay_17 : decode b_Md_pay 17 = .ok (.if_icmp .ge 68, 3) := by decide +kernel
set_option maxRecDepth 100000 in
theorem d_Md_pay_20 : decode b_Md_pay 20 = .ok (.aload_n 0, 1) := by decide +kernel
set_option maxRecDepth 100000 in
theorem d_Md_pay_21 : decode b_Md_pay 21 = .ok (.getfield 316, 3) := by decide +kernel
set_option maxRecDepth 100000 in
theorem d_Md_pay_24 : decode b_Md_pay 24 = .ok (.aload_n 0, 1) := by decide +kernel
set_option maxRecDepth 100000 in
theorem d_Md_pay_25 : decode b_Md_pay 25 = .ok (.getfield 177, 3) := by decide +kernel
set_option maxRecDepth 100000 in
theorem d_Md_pay_28 : decode b_Md_pay 28 = .ok (.iload_n 2, 1) := by decide +kernel
set_option maxRecDepth 100000 in
theorem d_Md_pay_29 : decode b_Md_pay 29 = .ok (.iaload, 1) := by decide +kernel
set_option maxRecDepth 100000 in
theorem d_Md_pay_30 : decode b_Md_pay 30 = .ok (.i2l, 1) := by decide +kernel
set_option maxRecDepth 100000 in
theorem d_Md_pay_31 : decode b_Md_pay 31 = .ok (.lcmp, 1) := by decide +kernel
set_option maxRecDepth 100000 in
theorem d_Md_pay_32 : decode b_Md_pay 32 = .ok (.ifCond .ge 6, 3) := by decide +kernel
set_option maxRecDepth 100000 in
theorem d_Md_pay_35 : decode b_Md_pay 35 = .ok (.goto 50, 3) := by decide +kernel
set_option maxRecDepth 100000 in
theorem d_Md_pay_38 : decode b_Md_pay 38 = .ok (.aload_n 0, 1) := by decide +kernel
set_option maxRecDepth 100000 in
theorem d_Md_pay_39 : decode b_Md_pay 39 = .ok (.dup, 1) := by decide +kernel
set_option maxRecDepth 100000 in
theorem d_Md_pay_40 : decode b_Md_pay 40 = .ok (.getfield 316, 3) := by decide +kernel
set_option maxRecDepth 100000 in
theorem d_Md_pay_43 : decode b_Md_pay 43 = .ok (.aload_n 0, 1) := by decide +kernel
set_option maxRecDepth 100000 in
theorem d_Md_pay_44 : decode b_Md_pay 44 = .ok (.getfield 177, 3) := by decide +kernel
set_option maxRecDepth 100000 in
theorem d_Md_pay_47 : decode b_Md_pay 47 = .ok (.iload_n 2, 1) := by decide +kernel
set_option maxRecDepth 100000 in
theorem d_Md_pay_48 : decode b_Md_pay 48 = .ok (.iaload, 1) := by decide +kernel
set_option maxRecDepth 100000 in
theorem d_Md_pay_49 : decode b_Md_pay 49 = .ok (.i2l, 1) := by decide +kernel
set_option maxRecDepth 100000 in
theorem d_Md_pay_50 : decode b_Md_pay 50 = .ok (.lsub, 1) := by decide +kernel
set_option maxRecDepth 100000 in
theorem d_Md_pay_51 : decode b_Md_pay 51 = .ok (.putfield 316, 3) := by decide +kernel
set_option maxRecDepth 100000 in
theorem d_Md_pay_54 : decode b_Md_pay 54 = .ok (.aload_n 0, 1) := by decide +kernel
set_option maxRecDepth 100000 in
theorem d_Md_pay_55 : decode b_Md_pay 55 = .ok (.getfield 183, 3) := by decide +kernel
set_option maxRecDepth 100000 in
theorem d_Md_pay_58 : decode b_Md_pay 58 = .ok (.iload_n 2, 1) := by decide +kernel
set_option maxRecDepth 100000 in
theorem d_Md_pay_59 : decode b_Md_pay 59 = .ok (.dup2, 1) := by decide +kernel
set_option maxRecDepth 100000 in
theorem d_Md_pay_60 : decode b_Md_pay 60 = .ok (.iaload, 1) := by decide +kernel
set_option maxRecDepth 100000 in
theorem d_Md_pay_61 : decode b_Md_pay 61 = .ok (.aload_n 0, 1) := by decide +kernel
set_option maxRecDepth 100000 in
theorem d_Md_pay_62 : decode b_Md_pay 62 = .ok (.getfield 177, 3) := by decide +kernel
set_option maxRecDepth 100000 in
theorem d_Md_pay_65 : decode b_Md_pay 65 = .ok (.iload_n 2, 1) := by decide +kernel
set_option maxRecDepth 100000 in
theorem d_Md_pay_66 : decode b_Md_pay 66 = .ok (.iaload, 1) := by decide +kernel
set_option maxRecDepth 100000 in
theorem d_Md_pay_67 : decode b_Md_pay 67 = .ok (.iadd, 1) := by decide +kernel
set_option maxRecDepth 100000 in
theorem d_Md_pay_68 : decode b_Md_pay 68 = .ok (.iastore, 1) := by decide +kernel
set_option maxRecDepth 100000 in
theorem d_Md_pay_69 : decode b_Md_pay 69 = .ok (.aload_n 0, 1) := by decide +kernel
set_option maxRecDepth 100000 in
theorem d_Md_pay_70 : decode b_Md_pay 70 = .ok (.dup, 1) := by decide +kernel
set_option maxRecDepth 100000 in
theorem d_Md_pay_71 : decode b_Md_pay 71 = .ok (.getfield 326, 3) := by decide +kernel
set_option maxRecDepth 100000 in
theorem d_Md_pay_74 : decode b_Md_pay 74 = .ok (.aload_n 0, 1) := by decide +kernel
set_option maxRecDepth 100000 in
theorem d_Md_pay_75 : decode b_Md_pay 75 = .ok (.getfield 177, 3) := by decide +kernel
set_option maxRecDepth 100000 in
theorem d_Md_pay_78 : decode b_Md_pay 78 = .ok (.iload_n 2, 1) := by decide +kernel
set_option maxRecDepth 100000 in
theorem d_Md_pay_79 : decode b_Md_pay 79 = .ok (.iaload, 1) := by decide +kernel
set_option maxRecDepth 100000 in
theorem d_Md_pay_80 : decode b_Md_pay 80 = .ok (.i2l, 1) := by decide +kernel
set_option maxRecDepth 100000 in
theorem d_Md_pay_81 : decode b_Md_pay 81 = .ok (.ladd, 1) := by decide +kernel
set_option maxRecDepth 100000 in
theorem d_Md_pay_82 : decode b_Md_pay 82 = .ok (.putfield 326, 3) := by decide +kernel
set_option maxRecDepth 100000 in
theorem d_Md_pay_85 : decode b_Md_pay 85 = .ok (.iinc 2 1, 3) := by decide +kernel
set_option maxRecDepth 100000 in
theorem d_Md_pay_88 : decode b_Md_pay 88 = .ok (.goto (-86), 3) := by decide +kernel
set_option maxRecDepth 100000 in
theorem d_Md_pay_91 : decode b_Md_pay 91 = .ok (.return_, 1) := by decide +kernel
set_option maxRecDepth 100000 in
theorem d_Md_pension_0 : decode b_Md_pension 0 = .ok (.iload_n 1, 1) := by decide +kernel
set_option maxRecDepth 100000 in
theorem d_Md_pension_1 : decode b_Md_pension 1 = .ok (.iload_n 2, 1) := by decide +kernel
set_option maxRecDepth 100000 in
theorem d_Md_pension_2 : decode b_Md_pension 2 = .ok (.invokestatic 338, 3) := by decide +kernel
set_option maxRecDepth 100000 in
theorem d_Md_pension_5 : decode b_Md_pension 5 = .ok (.ifCond .ne 5, 3) := by decide +kernel
set_option maxRecDepth 100000 in
theorem d_Md_pension_8 : decode b_Md_pension 8 = .ok (.iconst (-1), 1) := by decide +kernel
set_option maxRecDepth 100000 in
theorem d_Md_pension_9 : decode b_Md_pension 9 = .ok (.ireturn, 1) := by decide +kernel
set_option maxRecDepth 100000 in
theorem d_Md_pension_10 : decode b_Md_pension 10 = .ok (.aload_n 0, 1) := by decide +kernel
set_option maxRecDepth 100000 in
theorem d_Md_pension_11 : decode b_Md_pension 11 = .ok (.getfield 323, 3) := by decide +kernel
set_option maxRecDepth 100000 in
theorem d_Md_pension_14 : decode b_Md_pension 14 = .ok (.bipush 30, 2) := by decide +kernel
set_option maxRecDepth 100000 in
theorem d_Md_pension_16 : decode b_Md_pension 16 = .ok (.if_icmp .ne 8, 3) := by decide +kernel
set_option maxRecDepth 100000 in
theorem d_Md_pension_19 : decode b_Md_pension 19 = .ok (.bipush (-3), 2) := by decide +kernel
set_option maxRecDepth 100000 in
theorem d_Md_pension_21 : decode b_Md_pension 21 = .ok (.goto 9, 3) := by decide +kernel
set_option maxRecDepth 100000 in
theorem d_Md_pension_24 : decode b_Md_pension 24 = .ok (.aload_n 0, 1) := by decide +kernel
set_option maxRecDepth 100000 in
theorem d_Md_pension_25 : decode b_Md_pension 25 = .ok (.iload_n 1, 1) := by decide +kernel
set_option maxRecDepth 100000 in
theorem d_Md_pension_26 : decode b_Md_pension 26 = .ok (.iload_n 2, 1) := by decide +kernel
set_option maxRecDepth 100000 in
theorem d_Md_pension_27 : decode b_Md_pension 27 = .ok (.invokevirtual 342, 3) := by decide +kernel
set_option maxRecDepth 100000 in
theorem d_Md_pension_30 : decode b_Md_pension 30 = .ok (.ireturn, 1) := by decide +kernel
set_option maxRecDepth 100000 in
theorem d_Md_row_0 : decode b_Md_row 0 = .ok (.aload_n 0, 1) := by decide +kernel
set_option maxRecDepth 100000 in
theorem d_Md_row_1 : decode b_Md_row 1 = .ok (.iload_n 1, 1) := by decide +kernel
set_option maxRecDepth 100000 in
theorem d_Md_row_2 : decode b_Md_row 2 = .ok (.iload_n 2, 1) := by decide +kernel
set_option maxRecDepth 100000 in
theorem d_Md_row_3 : decode b_Md_row 3 = .ok (.iload_n 3, 1) := by decide +kernel
set_option maxRecDepth 100000 in
theorem d_Md_row_4 : decode b_Md_row 4 = .ok (.invokevirtual 306, 3) := by decide +kernel
set_option maxRecDepth 100000 in
theorem d_Md_row_7 : decode b_Md_row 7 = .ok (.ifCond .eq 15, 3) := by decide +kernel
set_option maxRecDepth 100000 in
theorem d_Md_row_10 : decode b_Md_row 10 = .ok (.iload 4, 2) := by decide +kernel
set_option maxRecDepth 100000 in
theorem d_Md_row_12 : decode b_Md_row 12 = .ok (.iconst 0, 1) := by decide +kernel
set_option maxRecDepth 100000 in
theorem d_Md_row_13 : decode b_Md_row 13 = .ok (.ldc_w 288, 3) := by decide +kernel
set_option maxRecDepth 100000 in
theorem d_Md_row_16 : decode b_Md_row 16 = .ok (.invokestatic 10, 3) := by decide +kernel
set_option maxRecDepth 100000 in
theorem d_Md_row_19 : decode b_Md_row 19 = .ok (.ifCond .ne 5, 3) := by decide +kernel
set_option maxRecDepth 100000 in
theorem d_Md_row_22 : decode b_Md_row 22 = .ok (.iconst (-1), 1) := by decide +kernel
set_option maxRecDepth 100000 in
theorem d_Md_row_23 : decode b_Md_row 23 = .ok (.ireturn, 1) := by decide +kernel
set_option maxRecDepth 100000 in
theorem d_Md_row_24 : decode b_Md_row 24 = .ok (.aload_n 0, 1) := by decide +kernel
set_option maxRecDepth 100000 in
theorem d_Md_row_25 : decode b_Md_row 25 = .ok (.iload_n 1, 1) := by decide +kernel
set_option maxRecDepth 100000 in
theorem d_Md_row_26 : decode b_Md_row 26 = .ok (.iload_n 2, 1) := by decide +kernel
set_option maxRecDepth 100000 in
theorem d_Md_row_27 : decode b_Md_row 27 = .ok (.iload_n 3, 1) := by decide +kernel
set_option maxRecDepth 100000 in
theorem d_Md_row_28 : decode b_Md_row 28 = .ok (.invokevirtual 309, 3) := by decide +kernel
set_option maxRecDepth 100000 in
theorem d_Md_row_31 : decode b_Md_row 31 = .ok (.istore 5, 2) := by decide +kernel
set_option maxRecDepth 100000 in
theorem d_Md_row_33 : decode b_Md_row 33 = .ok (.iload 5, 2) := by decide +kernel
set_option maxRecDepth 100000 in
theorem d_Md_row_35 : decode b_Md_row 35 = .ok (.ifCond .le 9, 3) := by decide +kernel
set_option maxRecDepth 100000 in
theorem d_Md_row_38 : decode b_Md_row 38 = .ok (.bipush (-10), 2) := by decide +kernel
set_option maxRecDepth 100000 in
theorem d_Md_row_40 : decode b_Md_row 40 = .ok (.iload 5, 2) := by decide +kernel
set_option maxRecDepth 100000 in
theorem d_Md_row_42 : decode b_Md_row 42 = .ok (.isub, 1) := by decide +kernel
set_option maxRecDepth 100000 in
theorem d_Md_row_43 : decode b_Md_row 43 = .ok (.ireturn, 1) := by decide +kernel
set_option maxRecDepth 100000 in
theorem d_Md_row_44 : decode b_Md_row 44 = .ok (.aload_n 0, 1) := by decide +kernel
set_option maxRecDepth 100000 in
theorem d_Md_row_45 : decode b_Md_row 45 = .ok (.getfield 313, 3) := by decide +kernel
set_option maxRecDepth 100000 in
theorem d_Md_row_48 : decode b_Md_row 48 = .ok (.sipush 600, 3) := by decide +kernel
set_option maxRecDepth 100000 in
theorem d_Md_row_51 : decode b_Md_row 51 = .ok (.if_icmp .ne 6, 3) := by decide +kernel
set_option maxRecDepth 100000 in
theorem d_Md_row_54 : decode b_Md_row 54 = .ok (.bipush (-3), 2) := by decide +kernel
set_option maxRecDepth 100000 in
theorem d_Md_row_56 : decode b_Md_row 56 = .ok (.ireturn, 1) := by decide +kernel
set_option maxRecDepth 100000 in
theorem d_Md_row_57 : decode b_Md_row 57 = .ok (.aload_n 0, 1) := by decide +kernel
set_option maxRecDepth 100000 in
theorem d_Md_row_58 : decode b_Md_row 58 = .ok (.getfield 313, 3) := by decide +kernel
set_option maxRecDepth 100000 in
theorem d_Md_row_61 : decode b_Md_row 61 = .ok (.istore 6, 2) := by decide +kernel
set_option maxRecDepth 100000 in
theorem d_Md_row_63 : decode b_Md_row 63 = .ok (.aload_n 0, 1) := by decide +kernel
set_option maxRecDepth 100000 in
theorem d_Md_row_64 : decode b_Md_row 64 = .ok (.getfield 149, 3) := by decide +kernel
set_option maxRecDepth 100000 in
theorem d_Md_row_67 : decode b_Md_row 67 = .ok (.iload 6, 2) := by decide +kernel
set_option maxRecDepth 100000 in
theorem d_Md_row_69 : decode b_Md_row 69 = .ok (.iload_n 1, 1) := by decide +kernel
set_option maxRecDepth 100000 in
theorem d_Md_row_70 : decode b_Md_row 70 = .ok (.iastore, 1) := by decide +kernel
set_option maxRecDepth 100000 in
theorem d_Md_row_71 : decode b_Md_row 71 = .ok (.aload_n 0, 1) := by decide +kernel
set_option maxRecDepth 100000 in
theorem d_Md_row_72 : decode b_Md_row 72 = .ok (.getfield 152, 3) := by decide +kernel
set_option maxRecDepth 100000 in
theorem d_Md_row_75 : decode b_Md_row 75 = .ok (.iload 6, 2) := by decide +kernel
set_option maxRecDepth 100000 in
theorem d_Md_row_77 : decode b_Md_row 77 = .ok (.iload_n 2, 1) := by decide +kernel
set_option maxRecDepth 100000 in
theorem d_Md_row_78 : decode b_Md_row 78 = .ok (.iastore, 1) := by decide +kernel
set_option maxRecDepth 100000 in
theorem d_Md_row_79 : decode b_Md_row 79 = .ok (.aload_n 0, 1) := by decide +kernel
set_option maxRecDepth 100000 in
theorem d_Md_row_80 : decode b_Md_row 80 = .ok (.getfield 155, 3) := by decide +kernel
set_option maxRecDepth 100000 in
theorem d_Md_row_83 : decode b_Md_row 83 = .ok (.iload 6, 2) := by decide +kernel
set_option maxRecDepth 100000 in
theorem d_Md_row_85 : decode b_Md_row 85 = .ok (.aload_n 0, 1) := by decide +kernel
set_option maxRecDepth 100000 in
theorem d_Md_row_86 : decode b_Md_row 86 = .ok (.getfield 97, 3) := by decide +kernel
set_option maxRecDepth 100000 in
theorem d_Md_row_89 : decode b_Md_row 89 = .ok (.iload_n 1, 1) := by decide +kernel
set_option maxRecDepth 100000 in
theorem d_Md_row_90 : decode b_Md_row 90 = .ok (.iaload, 1) := by decide +kernel
set_option maxRecDepth 100000 in
theorem d_Md_row_91 : decode b_Md_row 91 = .ok (.iastore, 1) := by decide +kernel
set_option maxRecDepth 100000 in
theorem d_Md_row_92 : decode b_Md_row 92 = .ok (.aload_n 0, 1) := by decide +kernel
set_option maxRecDepth 100000 in
theorem d_Md_row_93 : decode b_Md_row 93 = .ok (.getfield 158, 3) := by decide +kernel
set_option maxRecDepth 100000 in
theorem d_Md_row_96 : decode b_Md_row 96 = .ok (.iload 6, 2) := by decide +kernel
set_option maxRecDepth 100000 in
theorem d_Md_row_98 : decode b_Md_row 98 = .ok (.iload_n 3, 1) := by decide +kernel
set_option maxRecDepth 100000 in
theorem d_Md_row_99 : decode b_Md_row 99 = .ok (.iastore, 1) := by decide +kernel
set_option maxRecDepth 100000 in
theorem d_Md_row_100 : decode b_Md_row 100 = .ok (.aload_n 0, 1) := by decide +kernel
set_option maxRecDepth 100000 in
theorem d_Md_row_101 : decode b_Md_row 101 = .ok (.getfield 161, 3) := by decide +kernel
set_option maxRecDepth 100000 in
theorem d_Md_row_104 : decode b_Md_row 104 = .ok (.iload 6, 2) := by decide +kernel
set_option maxRecDepth 100000 in
theorem d_Md_row_106 : decode b_Md_row 106 = .ok (.aload_n 0, 1) := by decide +kernel
set_option maxRecDepth 100000 in
theorem d_Md_row_107 : decode b_Md_row 107 = .ok (.getfield 7, 3) := by decide +kernel
set_option maxRecDepth 100000 in
theorem d_Md_row_110 : decode b_Md_row 110 = .ok (.iastore, 1) := by decide +kernel
set_option maxRecDepth 100000 in
theorem d_Md_row_111 : decode b_Md_row 111 = .ok (.aload_n 0, 1) := by decide +kernel
set_option maxRecDepth 100000 in
theorem d_Md_row_112 : decode b_Md_row 112 = .ok (.getfield 164, 3) := by decide +kernel
set_option maxRecDepth 100000 in
theorem d_Md_row_115 : decode b_Md_row 115 = .ok (.iload 6, 2) := by decide +kernel
set_option maxRecDepth 100000 in
theorem d_Md_row_117 : decode b_Md_row 117 = .ok (.aload_n 0, 1) := by decide +kernel
set_option maxRecDepth 100000 in
theorem d_Md_row_118 : decode b_Md_row 118 = .ok (.getfield 7, 3) := by decide +kernel
set_option maxRecDepth 100000 in
theorem d_Md_row_121 : decode b_Md_row 121 = .ok (.aload_n 0, 1) := by decide +kernel
set_option maxRecDepth 100000 in
theorem d_Md_row_122 : decode b_Md_row 122 = .ok (.iload_n 1, 1) := by decide +kernel
set_option maxRecDepth 100000 in
theorem d_Md_row_123 : decode b_Md_row 123 = .ok (.iload_n 3, 1) := by decide +kernel
set_option maxRecDepth 100000 in
theorem d_Md_row_124 : decode b_Md_row 124 = .ok (.invokevirtual 302, 3) := by decide +kernel
set_option maxRecDepth 100000 in
theorem d_Md_row_127 : decode b_Md_row 127 = .ok (.iadd, 1) := by decide +kernel
set_option maxRecDepth 100000 in
theorem d_Md_row_128 : decode b_Md_row 128 = .ok (.iastore, 1) := by decide +kernel
set_option maxRecDepth 100000 in
theorem d_Md_row_129 : decode b_Md_row 129 = .ok (.aload_n 0, 1) := by decide +kernel
set_option maxRecDepth 100000 in
theorem d_Md_row_130 : decode b_Md_row 130 = .ok (.getfield 167, 3) := by decide +kernel
set_option maxRecDepth 100000 in
theorem d_Md_row_133 : decode b_Md_row 133 = .ok (.iload 6, 2) := by decide +kernel
set_option maxRecDepth 100000 in
theorem d_Md_row_135 : decode b_Md_row 135 = .ok (.iload 4, 2) := by decide +kernel
set_option maxRecDepth 100000 in
theorem d_Md_row_137 : decode b_Md_row 137 = .ok (.iastore, 1) := by decide +kernel
set_option maxRecDepth 100000 in
theorem d_Md_row_138 : decode b_Md_row 138 = .ok (.aload_n 0, 1) := by decide +kernel
set_option maxRecDepth 100000 in
theorem d_Md_row_139 : decode b_Md_row 139 = .ok (.getfield 170, 3) := by decide +kernel
set_option maxRecDepth 100000 in
theorem d_Md_row_142 : decode b_Md_row 142 = .ok (.iload 6, 2) := by decide +kernel
set_option maxRecDepth 100000 in
theorem d_Md_row_144 : decode b_Md_row 144 = .ok (.iconst 0, 1) := by decide +kernel
set_option maxRecDepth 100000 in
theorem d_Md_row_145 : decode b_Md_row 145 = .ok (.bastore, 1) := by decide +kernel
set_option maxRecDepth 100000 in
theorem d_Md_row_146 : decode b_Md_row 146 = .ok (.aload_n 0, 1) := by decide +kernel
set_option maxRecDepth 100000 in
theorem d_Md_row_147 : decode b_Md_row 147 = .ok (.dup, 1) := by decide +kernel
set_option maxRecDepth 100000 in
theorem d_Md_row_148 : decode b_Md_row 148 = .ok (.getfield 313, 3) := by decide +kernel
set_option maxRecDepth 100000 in
theorem d_Md_row_151 : decode b_Md_row 151 = .ok (.iconst 1, 1) := by decide +kernel
set_option maxRecDepth 100000 in
theorem d_Md_row_152 : decode b_Md_row 152 = .ok (.iadd, 1) := by decide +kernel
set_option maxRecDepth 100000 in
theorem d_Md_row_153 : decode b_Md_row 153 = .ok (.putfield 313, 3) := by decide +kernel
set_option maxRecDepth 100000 in
theorem d_Md_row_156 : decode b_Md_row 156 = .ok (.aload_n 0, 1) := by decide +kernel
set_option maxRecDepth 100000 in
theorem d_Md_row_157 : decode b_Md_row 157 = .ok (.iload_n 2, 1) := by decide +kernel
set_option maxRecDepth 100000 in
theorem d_Md_row_158 : decode b_Md_row 158 = .ok (.invokevirtual 202, 3) := by decide +kernel
set_option maxRecDepth 100000 in
theorem d_Md_row_161 : decode b_Md_row 161 = .ok (.aload_n 0, 1) := by decide +kernel
set_option maxRecDepth 100000 in
theorem d_Md_row_162 : decode b_Md_row 162 = .ok (.getfield 103, 3) := by decide +kernel
set_option maxRecDepth 100000 in
theorem d_Md_row_165 : decode b_Md_row 165 = .ok (.iload_n 1, 1) := by decide +kernel
set_option maxRecDepth 100000 in
theorem d_Md_row_166 : decode b_Md_row 166 = .ok (.iload 6, 2) := by decide +kernel
set_option maxRecDepth 100000 in
theorem d_Md_row_168 : decode b_Md_row 168 = .ok (.iastore, 1) := by decide +kernel
set_option maxRecDepth 100000 in
theorem d_Md_row_169 : decode b_Md_row 169 = .ok (.aload_n 0, 1) := by decide +kernel
set_option maxRecDepth 100000 in
theorem d_Md_row_170 : decode b_Md_row 170 = .ok (.getfield 97, 3) := by decide +kernel
set_option maxRecDepth 100000 in
theorem d_Md_row_173 : decode b_Md_row 173 = .ok (.iload_n 1, 1) := by decide +kernel
set_option maxRecDepth 100000 in
theorem d_Md_row_174 : decode b_Md_row 174 = .ok (.iload_n 3, 1) := by decide +kernel
set_option maxRecDepth 100000 in
theorem d_Md_row_175 : decode b_Md_row 175 = .ok (.iastore, 1) := by decide +kernel
set_option maxRecDepth 100000 in
theorem d_Md_row_176 : decode b_Md_row 176 = .ok (.aload_n 0, 1) := by decide +kernel
set_option maxRecDepth 100000 in
theorem d_Md_row_177 : decode b_Md_row 177 = .ok (.getfield 100, 3) := by decide +kernel
set_option maxRecDepth 100000 in
theorem d_Md_row_180 : decode b_Md_row 180 = .ok (.iload_n 1, 1) := by decide +kernel
set_option maxRecDepth 100000 in
theorem d_Md_row_181 : decode b_Md_row 181 = .ok (.aload_n 0, 1) := by decide +kernel
set_option maxRecDepth 100000 in
theorem d_Md_row_182 : decode b_Md_row 182 = .ok (.getfield 164, 3) := by decide +kernel
set_option maxRecDepth 100000 in
theorem d_Md_row_185 : decode b_Md_row 185 = .ok (.iload 6, 2) := by decide +kernel
set_option maxRecDepth 100000 in
theorem d_Md_row_187 : decode b_Md_row 187 = .ok (.iaload, 1) := by decide +kernel
set_option maxRecDepth 100000 in
theorem d_Md_row_188 : decode b_Md_row 188 = .ok (.iastore, 1) := by decide +kernel
set_option maxRecDepth 100000 in
theorem d_Md_row_189 : decode b_Md_row 189 = .ok (.aload_n 0, 1) := by decide +kernel
set_option maxRecDepth 100000 in
theorem d_Md_row_190 : decode b_Md_row 190 = .ok (.getfield 79, 3) := by decide +kernel
set_option maxRecDepth 100000 in
theorem d_Md_row_193 : decode b_Md_row 193 = .ok (.iload_n 2, 1) := by decide +kernel
set_option maxRecDepth 100000 in
theorem d_Md_row_194 : decode b_Md_row 194 = .ok (.iload 6, 2) := by decide +kernel
set_option maxRecDepth 100000 in
theorem d_Md_row_196 : decode b_Md_row 196 = .ok (.iastore, 1) := by decide +kernel
set_option maxRecDepth 100000 in
theorem d_Md_row_197 : decode b_Md_row 197 = .ok (.aload_n 0, 1) := by decide +kernel
set_option maxRecDepth 100000 in
theorem d_Md_row_198 : decode b_Md_row 198 = .ok (.getfield 82, 3) := by decide +kernel
set_option maxRecDepth 100000 in
theorem d_Md_row_201 : decode b_Md_row 201 = .ok (.iload_n 2, 1) := by decide +kernel
set_option maxRecDepth 100000 in
theorem d_Md_row_202 : decode b_Md_row 202 = .ok (.dup2, 1) := by decide +kernel
set_option maxRecDepth 100000 in
theorem d_Md_row_203 : decode b_Md_row 203 = .ok (.iaload, 1) := by decide +kernel
set_option maxRecDepth 100000 in
theorem d_Md_row_204 : decode b_Md_row 204 = .ok (.iconst 1, 1) := by decide +kernel
set_option maxRecDepth 100000 in
theorem d_Md_row_205 : decode b_Md_row 205 = .ok (.iadd, 1) := by decide +kernel
set_option maxRecDepth 100000 in
theorem d_Md_row_206 : decode b_Md_row 206 = .ok (.iastore, 1) := by decide +kernel
set_option maxRecDepth 100000 in
theorem d_Md_row_207 : decode b_Md_row 207 = .ok (.aload_n 0, 1) := by decide +kernel
set_option maxRecDepth 100000 in
theorem d_Md_row_208 : decode b_Md_row 208 = .ok (.dup, 1) := by decide +kernel
set_option maxRecDepth 100000 in
theorem d_Md_row_209 : decode b_Md_row 209 = .ok (.getfield 316, 3) := by decide +kernel
set_option maxRecDepth 100000 in
theorem d_Md_row_212 : decode b_Md_row 212 = .ok (.iload 4, 2) := by decide +kernel
set_option maxRecDepth 100000 in
theorem d_Md_row_214 : decode b_Md_row 214 = .ok (.bipush 20, 2) := by decide +kernel
set_option maxRecDepth 100000 in
theorem d_Md_row_216 : decode b_Md_row 216 = .ok (.idiv, 1) := by decide +kernel
set_option maxRecDepth 100000 in
theorem d_Md_row_217 : decode b_Md_row 217 = .ok (.i2l, 1) := by decide +kernel
set_option maxRecDepth 100000 in
theorem d_Md_row_218 : decode b_Md_row 218 = .ok (.ladd, 1) := by decide +kernel
set_option maxRecDepth 100000 in
theorem d_Md_row_219 : decode b_Md_row 219 = .ok (.putfield 316, 3) := by decide +kernel
set_option maxRecDepth 100000 in
theorem d_Md_row_222 : decode b_Md_row 222 = .ok (.aload_n 0, 1) := by decide +kernel
set_option maxRecDepth 100000 in
theorem d_Md_row_223 : decode b_Md_row 223 = .ok (.getfield 173, 3) := by decide +kernel
set_option maxRecDepth 100000 in
theorem d_Md_row_226 : decode b_Md_row 226 = .ok (.aload_n 0, 1) := by decide +kernel
set_option maxRecDepth 100000 in
theorem d_Md_row_227 : decode b_Md_row 227 = .ok (.invokevirtual 45, 3) := by decide +kernel
set_option maxRecDepth 100000 in
theorem d_Md_row_230 : decode b_Md_row 230 = .ok (.dup2, 1) := by decide +kernel
set_option maxRecDepth 100000 in
theorem d_Md_row_231 : decode b_Md_row 231 = .ok (.laload, 1) := by decide +kernel
set_option maxRecDepth 100000 in
theorem d_Md_row_232 : decode b_Md_row 232 = .ok (.iload 4, 2) := by decide +kernel
set_option maxRecDepth 100000 in
theorem d_Md_row_234 : decode b_Md_row 234 = .ok (.bipush 20, 2) := by decide +kernel
set_option maxRecDepth 100000 in
theorem d_Md_row_236 : decode b_Md_row 236 = .ok (.idiv, 1) := by decide +kernel
set_option maxRecDepth 100000 in
theorem d_Md_row_237 : decode b_Md_row 237 = .ok (.i2l, 1) := by decide +kernel
set_option maxRecDepth 100000 in
theorem d_Md_row_238 : decode b_Md_row 238 = .ok (.ladd, 1) := by decide +kernel
set_option maxRecDepth 100000 in
theorem d_Md_row_239 : decode b_Md_row 239 = .ok (.lastore, 1) := by decide +kernel
set_option maxRecDepth 100000 in
theorem d_Md_row_240 : decode b_Md_row 240 = .ok (.aload_n 0, 1) := by decide +kernel
set_option maxRecDepth 100000 in
theorem d_Md_row_241 : decode b_Md_row 241 = .ok (.invokevirtual 45, 3) := by decide +kernel
set_option maxRecDepth 100000 in
theorem d_Md_row_244 : decode b_Md_row 244 = .ok (.bipush 7, 2) := by decide +kernel
set_option maxRecDepth 100000 in
theorem d_Md_row_246 : decode b_Md_row 246 = .ok (.irem, 1) := by decide +kernel
set_option maxRecDepth 100000 in
theorem d_Md_row_247 : decode b_Md_row 247 = .ok (.ifCond .ne 31, 3) := by decide +kernel
set_option maxRecDepth 100000 in
theorem d_Md_row_250 : decode b_Md_row 250 = .ok (.aload_n 0, 1) := by decide +kernel
set_option maxRecDepth 100000 in
theorem d_Md_row_251 : decode b_Md_row 251 = .ok (.dup, 1) := by decide +kernel
set_option maxRecDepth 100000 in
theorem d_Md_row_252 : decode b_Md_row 252 = .ok (.getfield 320, 3) := by decide +kernel
set_option maxRecDepth 100000 in
theorem d_Md_row_255 : decode b_Md_row 255 = .ok (.iload 4, 2) := by decide +kernel
set_option maxRecDepth 100000 in
theorem d_Md_row_257 : decode b_Md_row 257 = .ok (.iload 4, 2) := by decide +kernel
set_option maxRecDepth 100000 in
theorem d_Md_row_259 : decode b_Md_row 259 = .ok (.bipush 20, 2) := by decide +kernel
set_option maxRecDepth 100000 in
theorem d_Md_row_261 : decode b_Md_row 261 = .ok (.idiv, 1) := by decide +kernel
set_option maxRecDepth 100000 in
theorem d_Md_row_262 : decode b_Md_row 262 = .ok (.isub, 1) := by decide +kernel
set_option maxRecDepth 100000 in
theorem d_Md_row_263 : decode b_Md_row 263 = .ok (.i2l, 1) := by decide +kernel
set_option maxRecDepth 100000 in
theorem d_Md_row_264 : decode b_Md_row 264 = .ok (.ladd, 1) := by decide +kernel
set_option maxRecDepth 100000 in
theorem d_Md_row_265 : decode b_Md_row 265 = .ok (.putfield 320, 3) := by decide +kernel
set_option maxRecDepth 100000 in
theorem d_Md_row_268 : decode b_Md_row 268 = .ok (.aload_n 0, 1) := by decide +kernel
set_option maxRecDepth 100000 in
theorem d_Md_row_269 : decode b_Md_row 269 = .ok (.getfield 85, 3) := by decide +kernel
set_option maxRecDepth 100000 in
theorem d_Md_row_272 : decode b_Md_row 272 = .ok (.iload_n 2, 1) := by decide +kernel
set_option maxRecDepth 100000 in
theorem d_Md_row_273 : decode b_Md_row 273 = .ok (.iconst 1, 1) := by decide +kernel
set_option maxRecDepth 100000 in
theorem d_Md_row_274 : decode b_Md_row 274 = .ok (.bastore, 1) := by decide +kernel
set_option maxRecDepth 100000 in
theorem d_Md_row_275 : decode b_Md_row 275 = .ok (.goto 20, 3) := by decide +kernel
set_option maxRecDepth 100000 in
theorem d_Md_row_278 : decode b_Md_row 278 = .ok (.aload_n 0, 1) := by decide +kernel
set_option maxRecDepth 100000 in
theorem d_Md_row_279 : decode b_Md_row 279 = .ok (.getfield 76, 3) := by decide +kernel
set_option maxRecDepth 100000 in
theorem d_Md_row_282 : decode b_Md_row 282 = .ok (.iload_n 2, 1) := by decide +kernel
set_option maxRecDepth 100000 in
theorem d_Md_row_283 : decode b_Md_row 283 = .ok (.dup2, 1) := by decide +kernel
set_option maxRecDepth 100000 in
theorem d_Md_row_284 : decode b_Md_row 284 = .ok (.iaload, 1) := by decide +kernel
set_option maxRecDepth 100000 in
theorem d_Md_row_285 : decode b_Md_row 285 = .ok (.iload 4, 2) := by decide +kernel
set_option maxRecDepth 100000 in
theorem d_Md_row_287 : decode b_Md_row 287 = .ok (.iload 4, 2) := by decide +kernel
set_option maxRecDepth 100000 in
theorem d_Md_row_289 : decode b_Md_row 289 = .ok (.bipush 20, 2) := by decide +kernel
set_option maxRecDepth 100000 in
theorem d_Md_row_291 : decode b_Md_row 291 = .ok (.idiv, 1) := by decide +kernel
set_option maxRecDepth 100000 in
theorem d_Md_row_292 : decode b_Md_row 292 = .ok (.isub, 1) := by decide +kernel
set_option maxRecDepth 100000 in
theorem d_Md_row_293 : decode b_Md_row 293 = .ok (.iadd, 1) := by decide +kernel
set_option maxRecDepth 100000 in
theorem d_Md_row_294 : decode b_Md_row 294 = .ok (.iastore, 1) := by decide +kernel
set_option maxRecDepth 100000 in
theorem d_Md_row_295 : decode b_Md_row 295 = .ok (.iload 6, 2) := by decide +kernel
set_option maxRecDepth 100000 in
theorem d_Md_row_297 : decode b_Md_row 297 = .ok (.ireturn, 1) := by decide +kernel
set_option maxRecDepth 100000 in
theorem d_Md_served_0 : decode b_Md_served 0 = .ok (.iload_n 1, 1) := by decide +kernel
set_option maxRecDepth 100000 in
theorem d_Md_served_1 : decode b_Md_served 1 = .ok (.invokestatic 186, 3) := by decide +kernel
set_option maxRecDepth 100000 in
theorem d_Md_served_4 : decode b_Md_served 4 = .ok (.ifCond .ne 7, 3) := by decide +kernel
set_option maxRecDepth 100000 in
theorem d_Md_served_7 : decode b_Md_served 7 = .ok (.iconst (-1), 1) := by decide +kernel
set_option maxRecDepth 100000 in
theorem d_Md_served_8 : decode b_Md_served 8 = .ok (.goto 23, 3) := by decide +kernel
set_option maxRecDepth 100000 in
theorem d_Md_served_11 : decode b_Md_served 11 = .ok (.aload_n 0, 1) := by decide +kernel
set_option maxRecDepth 100000 in
theorem d_Md_served_12 : decode b_Md_served 12 = .ok (.getfield 58, 3) := by decide +kernel
set_option maxRecDepth 100000 in
theorem d_Md_served_15 : decode b_Md_served 15 = .ok (.iload_n 1, 1) := by decide +kernel
set_option maxRecDepth 100000 in
theorem d_Md_served_16 : decode b_Md_served 16 = .ok (.iaload, 1) := by decide +kernel
set_option maxRecDepth 100000 in
theorem d_Md_served_17 : decode b_Md_served 17 = .ok (.iconst 1, 1) := by decide +kernel
set_option maxRecDepth 100000 in
theorem d_Md_served_18 : decode b_Md_served 18 = .ok (.if_icmp .eq 8, 3) := by decide +kernel
set_option maxRecDepth 100000 in
theorem d_Md_served_21 : decode b_Md_served 21 = .ok (.bipush (-2), 2) := by decide +kernel
set_option maxRecDepth 100000 in
theorem d_Md_served_23 : decode b_Md_served 23 = .ok (.goto 8, 3) := by decide +kernel
set_option maxRecDepth 100000 in
theorem d_Md_served_26 : decode b_Md_served 26 = .ok (.aload_n 0, 1) := by decide +kernel
set_option maxRecDepth 100000 in
theorem d_Md_served_27 : decode b_Md_served 27 = .ok (.iload_n 1, 1) := by decide +kernel
set_option maxRecDepth 100000 in
theorem d_Md_served_28 : decode b_Md_served 28 = .ok (.invokevirtual 189, 3) := by decide +kernel
set_option maxRecDepth 100000 in
theorem d_Md_served_31 : decode b_Md_served 31 = .ok (.ireturn, 1) := by decide +kernel
set_option maxRecDepth 100000 in
theorem d_Md_servedOf_0 : decode b_Md_servedOf 0 = .ok (.aload_n 0, 1) := by decide +kernel
set_option maxRecDepth 100000 in
theorem d_Md_servedOf_1 : decode b_Md_servedOf 1 = .ok (.invokevirtual 45, 3) := by decide +kernel
set_option maxRecDepth 100000 in
theorem d_Md_servedOf_4 : decode b_Md_servedOf 4 = .ok (.aload_n 0, 1) := by decide +kernel
set_option maxRecDepth 100000 in
theorem d_Md_servedOf_5 : decode b_Md_servedOf 5 = .ok (.getfield 64, 3) := by decide +kernel
set_option maxRecDepth 100000 in
theorem d_Md_servedOf_8 : decode b_Md_servedOf 8 = .ok (.iload_n 1, 1) := by decide +kernel
set_option maxRecDepth 100000 in
theorem d_Md_servedOf_9 : decode b_Md_servedOf 9 = .ok (.iaload, 1) := by decide +kernel
set_option maxRecDepth 100000 in
theorem d_Md_servedOf_10 : decode b_Md_servedOf 10 = .ok (.isub, 1) := by decide +kernel
set_option maxRecDepth 100000 in
theorem d_Md_servedOf_11 : decode b_Md_servedOf 11 = .ok (.istore_n 2, 1) := by decide +kernel
set_option maxRecDepth 100000 in
theorem d_Md_servedOf_12 : decode b_Md_servedOf 12 = .ok (.iconst 0, 1) := by decide +kernel
set_option maxRecDepth 100000 in
theorem d_Md_servedOf_13 : decode b_Md_servedOf 13 = .ok (.istore_n 3, 1) := by decide +kernel
set_option maxRecDepth 100000 in
theorem d_Md_servedOf_14 : decode b_Md_servedOf 14 = .ok (.iload_n 3, 1) := by decide +kernel
set_option maxRecDepth 100000 in
theorem d_Md_servedOf_15 : decode b_Md_servedOf 15 = .ok (.aload_n 0, 1) := by decide +kernel
set_option maxRecDepth 100000 in
theorem d_Md_servedOf_16 : decode b_Md_servedOf 16 = .ok (.getfield 67, 3) := by decide +kernel
set_option maxRecDepth 100000 in
theorem d_Md_servedOf_19 : decode b_Md_servedOf 19 = .ok (.iload_n 1, 1) := by decide +kernel
set_option maxRecDepth 100000 in
theorem d_Md_servedOf_20 : decode b_Md_servedOf 20 = .ok (.iaload, 1) := by decide +kernel
set_option maxRecDepth 100000 in
theorem d_Md_servedOf_21 : decode b_Md_servedOf 21 = .ok (.if_icmp .ge 68, 3) := by decide +kernel
set_option maxRecDepth 100000 in
theorem d_Md_servedOf_24 : decode b_Md_servedOf 24 = .ok (.aload_n 0, 1) := by decide +kernel
set_option maxRecDepth 100000 in
theorem d_Md_servedOf_25 : decode b_Md_servedOf 25 = .ok (.getfield 73, 3) := by decide +kernel
set_option maxRecDepth 100000 in
theorem d_Md_servedOf_28 : decode b_Md_servedOf 28 = .ok (.bipush 6, 2) := by decide +kernel
set_option maxRecDepth 100000 in
theorem d_Md_servedOf_30 : decode b_Md_servedOf 30 = .ok (.iload_n 1, 1) := by decide +kernel
set_option maxRecDepth 100000 in
theorem d_Md_servedOf_31 : decode b_Md_servedOf 31 = .ok (.imul, 1) := by decide +kernel
set_option maxRecDepth 100000 in
theorem d_Md_servedOf_32 : decode b_Md_servedOf 32 = .ok (.iload_n 3, 1) := by decide +kernel
set_option maxRecDepth 100000 in
theorem d_Md_servedOf_33 : decode b_Md_servedOf 33 = .ok (.iadd, 1) := by decide +kernel
set_option maxRecDepth 100000 in
theorem d_Md_servedOf_34 : decode b_Md_servedOf 34 = .ok (.iaload, 1) := by decide +kernel
set_option maxRecDepth 100000 in
theorem d_Md_servedOf_35 : decode b_Md_servedOf 35 = .ok (.aload_n 0, 1) := by decide +kernel
set_option maxRecDepth 100000 in
theorem d_Md_servedOf_36 : decode b_Md_servedOf 36 = .ok (.invokevirtual 45, 3) := by decide +kernel
set_option maxRecDepth 100000 in
theorem d_Md_servedOf_39 : decode b_Md_servedOf 39 = .ok (.if_icmp .ge 17, 3) := by decide +kernel
set_option maxRecDepth 100000 in
theorem d_Md_servedOf_42 : decode b_Md_servedOf 42 = .ok (.aload_n 0, 1) := by decide +kernel
set_option maxRecDepth 100000 in
theorem d_Md_servedOf_43 : decode b_Md_servedOf 43 = .ok (.getfield 73, 3) := by decide +kernel
set_option maxRecDepth 100000 in
theorem d_Md_servedOf_46 : decode b_Md_servedOf 46 = .ok (.bipush 6, 2) := by decide +kernel
set_option maxRecDepth 100000 in
theorem d_Md_servedOf_48 : decode b_Md_servedOf 48 = .ok (.iload_n 1, 1) := by decide +kernel
set_option maxRecDepth 100000 in
theorem d_Md_servedOf_49 : decode b_Md_servedOf 49 = .ok (.imul, 1) := by decide +kernel
set_option maxRecDepth 100000 in
theorem d_Md_servedOf_50 : decode b_Md_servedOf 50 = .ok (.iload_n 3, 1) := by decide +kernel
set_option maxRecDepth 100000 in
theorem d_Md_servedOf_51 : decode b_Md_servedOf 51 = .ok (.iadd, 1) := by decide +kernel
set_option maxRecDepth 100000 in
theorem d_Md_servedOf_52 : decode b_Md_servedOf 52 = .ok (.iaload, 1) := by decide +kernel
set_option maxRecDepth 100000 in
theorem d_Md_servedOf_53 : decode b_Md_servedOf 53 = .ok (.goto 9, 3) := by decide +kernel
set_option maxRecDepth 100000 in
theorem d_Md_servedOf_56 : decode b_Md_servedOf 56 = .ok (.aload_n 0, 1) := by decide +kernel
set_option maxRecDepth 100000 in
theorem d_Md_servedOf_57 : decode b_Md_servedOf 57 = .ok (.invokevirtual 45, 3) := by decide +kernel
set_option maxRecDepth 100000 in
theorem d_Md_servedOf_60 : decode b_Md_servedOf 60 = .ok (.iconst 1, 1) := by decide +kernel
set_option maxRecDepth 100000 in
theorem d_Md_servedOf_61 : decode b_Md_servedOf 61 = .ok (.isub, 1) := by decide +kernel
set_option maxRecDepth 100000 in
theorem d_Md_servedOf_62 : decode b_Md_servedOf 62 = .ok (.istore 4, 2) := by decide +kernel
set_option maxRecDepth 100000 in
theorem d_Md_servedOf_64 : decode b_Md_servedOf 64 = .ok (.iload_n 2, 1) := by decide +kernel
set_option maxRecDepth 100000 in
theorem d_Md_servedOf_65 : decode b_Md_servedOf 65 = .ok (.iload 4, 2) := by decide +kernel
set_option maxRecDepth 100000 in
theorem d_Md_servedOf_67 : decode b_Md_servedOf 67 = .ok (.aload_n 0, 1) := by decide +kernel
set_option maxRecDepth 100000 in
theorem d_Md_servedOf_68 : decode b_Md_servedOf 68 = .ok (.getfield 70, 3) := by decide +kernel
set_option maxRecDepth 100000 in
theorem d_Md_servedOf_71 : decode b_Md_servedOf 71 = .ok (.bipush 6, 2) := by decide +kernel
set_option maxRecDepth 100000 in
theorem d_Md_servedOf_73 : decode b_Md_servedOf 73 = .ok (.iload_n 1, 1) := by decide +kernel
set_option maxRecDepth 100000 in
theorem d_Md_servedOf_74 : decode b_Md_servedOf 74 = .ok (.imul, 1) := by decide +kernel
set_option maxRecDepth 100000 in
theorem d_Md_servedOf_75 : decode b_Md_servedOf 75 = .ok (.iload_n 3, 1) := by decide +kernel
set_option maxRecDepth 100000 in
theorem d_Md_servedOf_76 : decode b_Md_servedOf 76 = .ok (.iadd, 1) := by decide +kernel
set_option maxRecDepth 100000 in
theorem d_Md_servedOf_77 : decode b_Md_servedOf 77 = .ok (.iaload, 1) := by decide +kernel
set_option maxRecDepth 100000 in
theorem d_Md_servedOf_78 : decode b_Md_servedOf 78 = .ok (.isub, 1) := by decide +kernel
set_option maxRecDepth 100000 in
theorem d_Md_servedOf_79 : decode b_Md_servedOf 79 = .ok (.iconst 1, 1) := by decide +kernel
set_option maxRecDepth 100000 in
theorem d_Md_servedOf_80 : decode b_Md_servedOf 80 = .ok (.iadd, 1) := by decide +kernel
set_option maxRecDepth 100000 in
theorem d_Md_servedOf_81 : decode b_Md_servedOf 81 = .ok (.isub, 1) := by decide +kernel
set_option maxRecDepth 100000 in
theorem d_Md_servedOf_82 : decode b_Md_servedOf 82 = .ok (.istore_n 2, 1) := by decide +kernel
set_option maxRecDepth 100000 in
theorem d_Md_servedOf_83 : decode b_Md_servedOf 83 = .ok (.iinc 3 1, 3) := by decide +kernel
set_option maxRecDepth 100000 in
theorem d_Md_servedOf_86 : decode b_Md_servedOf 86 = .ok (.goto (-72), 3) := by decide +kernel
set_option maxRecDepth 100000 in
theorem d_Md_servedOf_89 : decode b_Md_servedOf 89 = .ok (.iload_n 2, 1) := by decide +kernel
set_option maxRecDepth 100000 in
theorem d_Md_servedOf_90 : decode b_Md_servedOf 90 = .ok (.ireturn, 1) := by decide +kernel
set_option maxRecDepth 100000 in
theorem d_Md_sink_0 : decode b_Md_sink 0 = .ok (.aload_n 0, 1) := by decide +kernel
set_option maxRecDepth 100000 in
theorem d_Md_sink_1 : decode b_Md_sink 1 = .ok (.iload_n 1, 1) := by decide +kernel
set_option maxRecDepth 100000 in
theorem d_Md_sink_2 : decode b_Md_sink 2 = .ok (.invokevirtual 209, 3) := by decide +kernel
set_option maxRecDepth 100000 in
theorem d_Md_sink_5 : decode b_Md_sink 5 = .ok (.ifCond .eq 11, 3) := by decide +kernel
set_option maxRecDepth 100000 in
theorem d_Md_sink_8 : decode b_Md_sink 8 = .ok (.iload_n 2, 1) := by decide +kernel
set_option maxRecDepth 100000 in
theorem d_Md_sink_9 : decode b_Md_sink 9 = .ok (.iload_n 3, 1) := by decide +kernel
set_option maxRecDepth 100000 in
theorem d_Md_sink_10 : decode b_Md_sink 10 = .ok (.invokestatic 338, 3) := by decide +kernel
set_option maxRecDepth 100000 in
theorem d_Md_sink_13 : decode b_Md_sink 13 = .ok (.ifCond .ne 5, 3) := by decide +kernel
set_option maxRecDepth 100000 in
theorem d_Md_sink_16 : decode b_Md_sink 16 = .ok (.iconst (-1), 1) := by decide +kernel
set_option maxRecDepth 100000 in
theorem d_Md_sink_17 : decode b_Md_sink 17 = .ok (.ireturn, 1) := by decide +kernel
set_option maxRecDepth 100000 in
theorem d_Md_sink_18 : decode b_Md_sink 18 = .ok (.aload_n 0, 1) := by decide +kernel
set_option maxRecDepth 100000 in
theorem d_Md_sink_19 : decode b_Md_sink 19 = .ok (.getfield 103, 3) := by decide +kernel
set_option maxRecDepth 100000 in
theorem d_Md_sink_22 : decode b_Md_sink 22 = .ok (.iload_n 1, 1) := by decide +kernel
set_option maxRecDepth 100000 in
theorem d_Md_sink_23 : decode b_Md_sink 23 = .ok (.iaload, 1) := by decide +kernel
set_option maxRecDepth 100000 in
theorem d_Md_sink_24 : decode b_Md_sink 24 = .ok (.ifCond .ge 6, 3) := by decide +kernel
set_option maxRecDepth 100000 in
theorem d_Md_sink_27 : decode b_Md_sink 27 = .ok (.bipush (-2), 2) := by decide +kernel
set_option maxRecDepth 100000 in
theorem d_Md_sink_29 : decode b_Md_sink 29 = .ok (.ireturn, 1) := by decide +kernel
set_option maxRecDepth 100000 in
theorem d_Md_sink_30 : decode b_Md_sink 30 = .ok (.aload_n 0, 1) := by decide +kernel
set_option maxRecDepth 100000 in
theorem d_Md_sink_31 : decode b_Md_sink 31 = .ok (.getfield 323, 3) := by decide +kernel
set_option maxRecDepth 100000 in
theorem d_Md_sink_34 : decode b_Md_sink 34 = .ok (.bipush 30, 2) := by decide +kernel
set_option maxRecDepth 100000 in
theorem d_Md_sink_36 : decode b_Md_sink 36 = .ok (.if_icmp .ne 6, 3) := by decide +kernel
set_option maxRecDepth 100000 in
theorem d_Md_sink_39 : decode b_Md_sink 39 = .ok (.bipush (-3), 2) := by decide +kernel
set_option maxRecDepth 100000 in
theorem d_Md_sink_41 : decode b_Md_sink 41 = .ok (.ireturn, 1) := by decide +kernel
set_option maxRecDepth 100000 in
theorem d_Md_sink_42 : decode b_Md_sink 42 = .ok (.aload_n 0, 1) := by decide +kernel
set_option maxRecDepth 100000 in
theorem d_Md_sink_43 : decode b_Md_sink 43 = .ok (.getfield 103, 3) := by decide +kernel
set_option maxRecDepth 100000 in
theorem d_Md_sink_46 : decode b_Md_sink 46 = .ok (.iload_n 1, 1) := by decide +kernel
set_option maxRecDepth 100000 in
theorem d_Md_sink_47 : decode b_Md_sink 47 = .ok (.iaload, 1) := by decide +kernel
set_option maxRecDepth 100000 in
theorem d_Md_sink_48 : decode b_Md_sink 48 = .ok (.istore 4, 2) := by decide +kernel
set_option maxRecDepth 100000 in
theorem d_Md_sink_50 : decode b_Md_sink 50 = .ok (.aload_n 0, 1) := by decide +kernel
set_option maxRecDepth 100000 in
theorem d_Md_sink_51 : decode b_Md_sink 51 = .ok (.getfield 170, 3) := by decide +kernel
set_option maxRecDepth 100000 in
theorem d_Md_sink_54 : decode b_Md_sink 54 = .ok (.iload 4, 2) := by decide +kernel
set_option maxRecDepth 100000 in
theorem d_Md_sink_56 : decode b_Md_sink 56 = .ok (.iconst 1, 1) := by decide +kernel
set_option maxRecDepth 100000 in
theorem d_Md_sink_57 : decode b_Md_sink 57 = .ok (.bastore, 1) := by decide +kernel
set_option maxRecDepth 100000 in
theorem d_Md_sink_58 : decode b_Md_sink 58 = .ok (.aload_n 0, 1) := by decide +kernel
set_option maxRecDepth 100000 in
theorem d_Md_sink_59 : decode b_Md_sink 59 = .ok (.getfield 106, 3) := by decide +kernel
set_option maxRecDepth 100000 in
theorem d_Md_sink_62 : decode b_Md_sink 62 = .ok (.iload_n 1, 1) := by decide +kernel
set_option maxRecDepth 100000 in
theorem d_Md_sink_63 : decode b_Md_sink 63 = .ok (.iconst 1, 1) := by decide +kernel
set_option maxRecDepth 100000 in
theorem d_Md_sink_64 : decode b_Md_sink 64 = .ok (.bastore, 1) := by decide +kernel
set_option maxRecDepth 100000 in
theorem d_Md_sink_65 : decode b_Md_sink 65 = .ok (.aload_n 0, 1) := by decide +kernel
set_option maxRecDepth 100000 in
theorem d_Md_sink_66 : decode b_Md_sink 66 = .ok (.getfield 103, 3) := by decide +kernel
set_option maxRecDepth 100000 in
theorem d_Md_sink_69 : decode b_Md_sink 69 = .ok (.iload_n 1, 1) := by decide +kernel
set_option maxRecDepth 100000 in
theorem d_Md_sink_70 : decode b_Md_sink 70 = .ok (.iconst (-1), 1) := by decide +kernel
set_option maxRecDepth 100000 in
theorem d_Md_sink_71 : decode b_Md_sink 71 = .ok (.iastore, 1) := by decide +kernel
set_option maxRecDepth 100000 in
theorem d_Md_sink_72 : decode b_Md_sink 72 = .ok (.aload_n 0, 1) := by decide +kernel
set_option maxRecDepth 100000 in
theorem d_Md_sink_73 : decode b_Md_sink 73 = .ok (.getfield 58, 3) := by decide +kernel
set_option maxRecDepth 100000 in
theorem d_Md_sink_76 : decode b_Md_sink 76 = .ok (.aload_n 0, 1) := by decide +kernel
set_option maxRecDepth 100000 in
theorem d_Md_sink_77 : decode b_Md_sink 77 = .ok (.getfield 152, 3) := by decide +kernel
set_option maxRecDepth 100000 in
theorem d_Md_sink_80 : decode b_Md_sink 80 = .ok (.iload 4, 2) := by decide +kernel
set_option maxRecDepth 100000 in
theorem d_Md_sink_82 : decode b_Md_sink 82 = .ok (.iaload, 1) := by decide +kernel
set_option maxRecDepth 100000 in
theorem d_Md_sink_83 : decode b_Md_sink 83 = .ok (.iconst 3, 1) := by decide +kernel
set_option maxRecDepth 100000 in
theorem d_Md_sink_84 : decode b_Md_sink 84 = .ok (.iastore, 1) := by decide +kernel
set_option maxRecDepth 100000 in
theorem d_Md_sink_85 : decode b_Md_sink 85 = .ok (.aload_n 0, 1) := by decide +kernel
set_option maxRecDepth 100000 in
theorem d_Md_sink_86 : decode b_Md_sink 86 = .ok (.getfield 79, 3) := by decide +kernel
set_option maxRecDepth 100000 in
theorem d_Md_sink_89 : decode b_Md_sink 89 = .ok (.aload_n 0, 1) := by decide +kernel
set_option maxRecDepth 100000 in
theorem d_Md_sink_90 : decode b_Md_sink 90 = .ok (.getfield 152, 3) := by decide +kernel
set_option maxRecDepth 100000 in
theorem d_Md_sink_93 : decode b_Md_sink 93 = .ok (.iload 4, 2) := by decide +kernel
set_option maxRecDepth 100000 in
theorem d_Md_sink_95 : decode b_Md_sink 95 = .ok (.iaload, 1) := by decide +kernel
set_option maxRecDepth 100000 in
theorem d_Md_sink_96 : decode b_Md_sink 96 = .ok (.iconst (-1), 1) := by decide +kernel
set_option maxRecDepth 100000 in
theorem d_Md_sink_97 : decode b_Md_sink 97 = .ok (.iastore, 1) := by decide +kernel
set_option maxRecDepth 100000 in
theorem d_Md_sink_98 : decode b_Md_sink 98 = .ok (.aload_n 0, 1) := by decide +kernel
set_option maxRecDepth 100000 in
theorem d_Md_sink_99 : decode b_Md_sink 99 = .ok (.iload_n 2, 1) := by decide +kernel
set_option maxRecDepth 100000 in
theorem d_Md_sink_100 : decode b_Md_sink 100 = .ok (.iload_n 3, 1) := by decide +kernel
set_option maxRecDepth 100000 in
theorem d_Md_sink_101 : decode b_Md_sink 101 = .ok (.invokevirtual 342, 3) := by decide +kernel
set_option maxRecDepth 100000 in
theorem d_Md_sink_104 : decode b_Md_sink 104 = .ok (.ireturn, 1) := by decide +kernel
set_option maxRecDepth 100000 in
theorem d_Md_stairs_0 : decode b_Md_stairs 0 = .ok (.iload_n 1, 1) := by decide +kernel
set_option maxRecDepth 100000 in
theorem d_Md_stairs_1 : decode b_Md_stairs 1 = .ok (.iconst 0, 1) := by decide +kernel
set_option maxRecDepth 100000 in
theorem d_Md_stairs_2 : decode b_Md_stairs 2 = .ok (.bipush 60, 2) := by decide +kernel
set_option maxRecDepth 100000 in
theorem d_Md_stairs_4 : decode b_Md_stairs 4 = .ok (.invokestatic 10, 3) := by decide +kernel
set_option maxRecDepth 100000 in
theorem d_Md_stairs_7 : decode b_Md_stairs 7 = .ok (.ifCond .eq 25, 3) := by decide +kernel
set_option maxRecDepth 100000 in
theorem d_Md_stairs_10 : decode b_Md_stairs 10 = .ok (.aload_n 0, 1) := by decide +kernel
set_option maxRecDepth 100000 in
theorem d_Md_stairs_11 : decode b_Md_stairs 11 = .ok (.getfield 14, 3) := by decide +kernel
set_option maxRecDepth 100000 in
theorem d_Md_stairs_14 : decode b_Md_stairs 14 = .ok (.ifCond .le 20, 3) := by decide +kernel
set_option maxRecDepth 100000 in
theorem d_Md_stairs_17 : decode b_Md_stairs 17 = .ok (.iload_n 1, 1) := by decide +kernel
set_option maxRecDepth 100000 in
theorem d_Md_stairs_18 : decode b_Md_stairs 18 = .ok (.aload_n 0, 1) := by decide +kernel
set_option maxRecDepth 100000 in
theorem d_Md_stairs_19 : decode b_Md_stairs 19 = .ok (.getfield 32, 3) := by decide +kernel
set_option maxRecDepth 100000 in
theorem d_Md_stairs_22 : decode b_Md_stairs 22 = .ok (.aload_n 0, 1) := by decide +kernel
set_option maxRecDepth 100000 in
theorem d_Md_stairs_23 : decode b_Md_stairs 23 = .ok (.getfield 14, 3) := by decide +kernel
set_option maxRecDepth 100000 in
theorem d_Md_stairs_26 : decode b_Md_stairs 26 = .ok (.iconst 1, 1) := by decide +kernel
set_option maxRecDepth 100000 in
theorem d_Md_stairs_27 : decode b_Md_stairs 27 = .ok (.isub, 1) := by decide +kernel
set_option maxRecDepth 100000 in
theorem d_Md_stairs_28 : decode b_Md_stairs 28 = .ok (.iaload, 1) := by decide +kernel
set_option maxRecDepth 100000 in
theorem d_Md_stairs_29 : decode b_Md_stairs 29 = .ok (.if_icmp .gt 5, 3) := by decide +kernel
set_option maxRecDepth 100000 in
theorem d_Md_stairs_32 : decode b_Md_stairs 32 = .ok (.iconst (-1), 1) := by decide +kernel
set_option maxRecDepth 100000 in
theorem d_Md_stairs_33 : decode b_Md_stairs 33 = .ok (.ireturn, 1) := by decide +kernel
set_option maxRecDepth 100000 in
theorem d_Md_stairs_34 : decode b_Md_stairs 34 = .ok (.aload_n 0, 1) := by decide +kernel
set_option maxRecDepth 100000 in
theorem d_Md_stairs_35 : decode b_Md_stairs 35 = .ok (.getfield 14, 3) := by decide +kernel
set_option maxRecDepth 100000 in
theorem d_Md_stairs_38 : decode b_Md_stairs 38 = .ok (.bipush 12, 2) := by decide +kernel
set_option maxRecDepth 100000 in
theorem d_Md_stairs_40 : decode b_Md_stairs 40 = .ok (.if_icmp .ne 6, 3) := by decide +kernel
set_option maxRecDepth 100000 in
theorem d_Md_stairs_43 : decode b_Md_stairs 43 = .ok (.bipush (-3), 2) := by decide +kernel
set_option maxRecDepth 100000 in
theorem d_Md_stairs_45 : decode b_Md_stairs 45 = .ok (.ireturn, 1) := by decide +kernel
set_option maxRecDepth 100000 in
theorem d_Md_stairs_46 : decode b_Md_stairs 46 = .ok (.aload_n 0, 1) := by decide +kernel
set_option maxRecDepth 100000 in
theorem d_Md_stairs_47 : decode b_Md_stairs 47 = .ok (.getfield 32, 3) := by decide +kernel
set_option maxRecDepth 100000 in
theorem d_Md_stairs_50 : decode b_Md_stairs 50 = .ok (.aload_n 0, 1) := by decide +kernel
set_option maxRecDepth 100000 in
theorem d_Md_stairs_51 : decode b_Md_stairs 51 = .ok (.getfield 14, 3) := by decide +kernel
set_option maxRecDepth 100000 in
theorem d_Md_stairs_54 : decode b_Md_stairs 54 = .ok (.iload_n 1, 1) := by decide +kernel
set_option maxRecDepth 100000 in
theorem d_Md_stairs_55 : decode b_Md_stairs 55 = .ok (.iastore, 1) := by decide +kernel
set_option maxRecDepth 100000 in
theorem d_Md_stairs_56 : decode b_Md_stairs 56 = .ok (.aload_n 0, 1) := by decide +kernel
set_option maxRecDepth 100000 in
theorem d_Md_stairs_57 : decode b_Md_stairs 57 = .ok (.dup, 1) := by decide +kernel
set_option maxRecDepth 100000 in
theorem d_Md_stairs_58 : decode b_Md_stairs 58 = .ok (.getfield 14, 3) := by decide +kernel
set_option maxRecDepth 100000 in
theorem d_Md_stairs_61 : decode b_Md_stairs 61 = .ok (.iconst 1, 1) := by decide +kernel
set_option maxRecDepth 100000 in
theorem d_Md_stairs_62 : decode b_Md_stairs 62 = .ok (.iadd, 1) := by decide +kernel
set_option maxRecDepth 100000 in
theorem d_Md_stairs_63 : decode b_Md_stairs 63 = .ok (.putfield 14, 3) := by decide +kernel
set_option maxRecDepth 100000 in
theorem d_Md_stairs_66 : decode b_Md_stairs 66 = .ok (.aload_n 0, 1) := by decide +kernel
set_option maxRecDepth 100000 in
theorem d_Md_stairs_67 : decode b_Md_stairs 67 = .ok (.getfield 14, 3) := by decide +kernel
set_option maxRecDepth 100000 in
theorem d_Md_stairs_70 : decode b_Md_stairs 70 = .ok (.iconst 1, 1) := by decide +kernel
set_option maxRecDepth 100000 in
theorem d_Md_stairs_71 : decode b_Md_stairs 71 = .ok (.isub, 1) := by decide +kernel
set_option maxRecDepth 100000 in
theorem d_Md_stairs_72 : decode b_Md_stairs 72 = .ok (.ireturn, 1) := by decide +kernel
set_option maxRecDepth 100000 in
theorem d_Md_table_0 : decode b_Md_table 0 = .ok (.iload_n 1, 1) := by decide +kernel
set_option maxRecDepth 100000 in
theorem d_Md_table_1 : decode b_Md_table 1 = .ok (.iconst 0, 1) := by decide +kernel
set_option maxRecDepth 100000 in
theorem d_Md_table_2 : decode b_Md_table 2 = .ok (.bipush 11, 2) := by decide +kernel
set_option maxRecDepth 100000 in
theorem d_Md_table_4 : decode b_Md_table 4 = .ok (.invokestatic 10, 3) := by decide +kernel
set_option maxRecDepth 100000 in
theorem d_Md_table_7 : decode b_Md_table 7 = .ok (.ifCond .eq 14, 3) := by decide +kernel
set_option maxRecDepth 100000 in
theorem d_Md_table_10 : decode b_Md_table 10 = .ok (.iload_n 2, 1) := by decide +kernel
set_option maxRecDepth 100000 in
theorem d_Md_table_11 : decode b_Md_table 11 = .ok (.bipush (-90), 2) := by decide +kernel
set_option maxRecDepth 100000 in
theorem d_Md_table_13 : decode b_Md_table 13 = .ok (.bipush 90, 2) := by decide +kernel
set_option maxRecDepth 100000 in
theorem d_Md_table_15 : decode b_Md_table 15 = .ok (.invokestatic 10, 3) := by decide +kernel
set_option maxRecDepth 100000 in
theorem d_Md_table_18 : decode b_Md_table 18 = .ok (.ifCond .ne 7, 3) := by decide +kernel
set_option maxRecDepth 100000 in
theorem d_Md_table_21 : decode b_Md_table 21 = .ok (.sipush (-1000), 3) := by decide +kernel
set_option maxRecDepth 100000 in
theorem d_Md_table_24 : decode b_Md_table 24 = .ok (.ireturn, 1) := by decide +kernel
set_option maxRecDepth 100000 in
theorem d_Md_table_25 : decode b_Md_table 25 = .ok (.aload_n 0, 1) := by decide +kernel
set_option maxRecDepth 100000 in
theorem d_Md_table_26 : decode b_Md_table 26 = .ok (.getfield 25, 3) := by decide +kernel
set_option maxRecDepth 100000 in
theorem d_Md_table_29 : decode b_Md_table 29 = .ok (.iload_n 1, 1) := by decide +kernel
set_option maxRecDepth 100000 in
theorem d_Md_table_30 : decode b_Md_table 30 = .ok (.iaload, 1) := by decide +kernel
set_option maxRecDepth 100000 in
theorem d_Md_table_31 : decode b_Md_table 31 = .ok (.istore_n 3, 1) := by decide +kernel
set_option maxRecDepth 100000 in
theorem d_Md_table_32 : decode b_Md_table 32 = .ok (.aload_n 0, 1) := by decide +kernel
set_option maxRecDepth 100000 in
theorem d_Md_table_33 : decode b_Md_table 33 = .ok (.getfield 25, 3) := by decide +kernel
set_option maxRecDepth 100000 in
theorem d_Md_table_36 : decode b_Md_table 36 = .ok (.iload_n 1, 1) := by decide +kernel
set_option maxRecDepth 100000 in
theorem d_Md_table_37 : decode b_Md_table 37 = .ok (.iload_n 2, 1) := by decide +kernel
set_option maxRecDepth 100000 in
theorem d_Md_table_38 : decode b_Md_table 38 = .ok (.iastore, 1) := by decide +kernel
set_option maxRecDepth 100000 in
theorem d_Md_table_39 : decode b_Md_table 39 = .ok (.iload_n 3, 1) := by decide +kernel
set_option maxRecDepth 100000 in
theorem d_Md_table_40 : decode b_Md_table 40 = .ok (.ireturn, 1) := by decide +kernel
set_option maxRecDepth 100000 in
theorem d_Md_takes_0 : decode b_Md_takes 0 = .ok (.aload_n 0, 1) := by decide +kernel
set_option maxRecDepth 100000 in
theorem d_Md_takes_1 : decode b_Md_takes 1 = .ok (.getfield 224, 3) := by decide +kernel
set_option maxRecDepth 100000 in
theorem d_Md_takes_4 : decode b_Md_takes 4 = .ok (.iload_n 1, 1) := by decide +kernel
set_option maxRecDepth 100000 in
theorem d_Md_takes_5 : decode b_Md_takes 5 = .ok (.if_icmp .eq 5, 3) := by decide +kernel
set_option maxRecDepth 100000 in
theorem d_Md_takes_8 : decode b_Md_takes 8 = .ok (.iconst 0, 1) := by decide +kernel
set_option maxRecDepth 100000 in
theorem d_Md_takes_9 : decode b_Md_takes 9 = .ok (.ireturn, 1) := by decide +kernel
set_option maxRecDepth 100000 in
theorem d_Md_takes_10 : decode b_Md_takes 10 = .ok (.aload_n 0, 1) := by decide +kernel
set_option maxRecDepth 100000 in
theorem d_Md_takes_11 : decode b_Md_takes 11 = .ok (.aload_n 0, 1) := by decide +kernel
set_option maxRecDepth 100000 in
theorem d_Md_takes_12 : decode b_Md_takes 12 = .ok (.getfield 241, 3) := by decide +kernel
set_option maxRecDepth 100000 in
theorem d_Md_takes_15 : decode b_Md_takes 15 = .ok (.putfield 266, 3) := by decide +kernel
set_option maxRecDepth 100000 in
theorem d_Md_takes_18 : decode b_Md_takes 18 = .ok (.aload_n 0, 1) := by decide +kernel
set_option maxRecDepth 100000 in
theorem d_Md_takes_19 : decode b_Md_takes 19 = .ok (.invokevirtual 269, 3) := by decide +kernel
set_option maxRecDepth 100000 in
theorem d_Md_takes_22 : decode b_Md_takes 22 = .ok (.iconst 1, 1) := by decide +kernel
set_option maxRecDepth 100000 in
theorem d_Md_takes_23 : decode b_Md_takes 23 = .ok (.ireturn, 1) := by decide +kernel
set_option maxRecDepth 100000 in
theorem d_Md_trip_0 : decode b_Md_trip 0 = .ok (.iload_n 1, 1) := by decide +kernel
set_option maxRecDepth 100000 in
theorem d_Md_trip_1 : decode b_Md_trip 1 = .ok (.iconst 0, 1) := by decide +kernel
set_option maxRecDepth 100000 in
theorem d_Md_trip_2 : decode b_Md_trip 2 = .ok (.aload_n 0, 1) := by decide +kernel
set_option maxRecDepth 100000 in
theorem d_Md_trip_3 : decode b_Md_trip 3 = .ok (.getfield 313, 3) := by decide +kernel
set_option maxRecDepth 100000 in
theorem d_Md_trip_6 : decode b_Md_trip 6 = .ok (.iconst 1, 1) := by decide +kernel
set_option maxRecDepth 100000 in
theorem d_Md_trip_7 : decode b_Md_trip 7 = .ok (.isub, 1) := by decide +kernel
set_option maxRecDepth 100000 in
theorem d_Md_trip_8 : decode b_Md_trip 8 = .ok (.invokestatic 10, 3) := by decide +kernel
set_option maxRecDepth 100000 in
theorem d_Md_trip_11 : decode b_Md_trip 11 = .ok (.ifCond .ne 6, 3) := by decide +kernel
set_option maxRecDepth 100000 in
theorem d_Md_trip_14 : decode b_Md_trip 14 = .ok (.bipush (-2), 2) := by decide +kernel
set_option maxRecDepth 100000 in
theorem d_Md_trip_16 : decode b_Md_trip 16 = .ok (.ireturn, 1) := by decide +kernel
set_option maxRecDepth 100000 in
theorem d_Md_trip_17 : decode b_Md_trip 17 = .ok (.iload_n 2, 1) := by decide +kernel
set_option maxRecDepth 100000 in
theorem d_Md_trip_18 : decode b_Md_trip 18 = .ok (.tableswitch 110 0 7 #[46, 53, 60, 67, 74, 81, 88, 95], 46) := by decide +kernel
set_option maxRecDepth 100000 in
theorem d_Md_trip_64 : decode b_Md_trip 64 = .ok (.aload_n 0, 1) := by decide +kernel
set_option maxRecDepth 100000 in
theorem d_Md_trip_65 : decode b_Md_trip 65 = .ok (.getfield 149, 3) := by decide +kernel
set_option maxRecDepth 100000 in
theorem d_Md_trip_68 : decode b_Md_trip 68 = .ok (.iload_n 1, 1) := by decide +kernel
set_option maxRecDepth 100000 in
theorem d_Md_trip_69 : decode b_Md_trip 69 = .ok (.iaload, 1) := by decide +kernel
set_option maxRecDepth 100000 in
theorem d_Md_trip_70 : decode b_Md_trip 70 = .ok (.ireturn, 1) := by decide +kernel
set_option maxRecDepth 100000 in
theorem d_Md_trip_71 : decode b_Md_trip 71 = .ok (.aload_n 0, 1) := by decide +kernel
set_option maxRecDepth 100000 in
theorem d_Md_trip_72 : decode b_Md_trip 72 = .ok (.getfield 152, 3) := by decide +kernel
set_option maxRecDepth 100000 in
theorem d_Md_trip_75 : decode b_Md_trip 75 = .ok (.iload_n 1, 1) := by decide +kernel
set_option maxRecDepth 100000 in
theorem d_Md_trip_76 : decode b_Md_trip 76 = .ok (.iaload, 1) := by decide +kernel
set_option maxRecDepth 100000 in
theorem d_Md_trip_77 : decode b_Md_trip 77 = .ok (.ireturn, 1) := by decide +kernel
set_option maxRecDepth 100000 in
theorem d_Md_trip_78 : decode b_Md_trip 78 = .ok (.aload_n 0, 1) := by decide +kernel
set_option maxRecDepth 100000 in
theorem d_Md_trip_79 : decode b_Md_trip 79 = .ok (.getfield 155, 3) := by decide +kernel
set_option maxRecDepth 100000 in
theorem d_Md_trip_82 : decode b_Md_trip 82 = .ok (.iload_n 1, 1) := by decide +kernel
set_option maxRecDepth 100000 in
theorem d_Md_trip_83 : decode b_Md_trip 83 = .ok (.iaload, 1) := by decide +kernel
set_option maxRecDepth 100000 in
theorem d_Md_trip_84 : decode b_Md_trip 84 = .ok (.ireturn, 1) := by decide +kernel
set_option maxRecDepth 100000 in
theorem d_Md_trip_85 : decode b_Md_trip 85 = .ok (.aload_n 0, 1) := by decide +kernel
set_option maxRecDepth 100000 in
theorem d_Md_trip_86 : decode b_Md_trip 86 = .ok (.getfield 158, 3) := by decide +kernel
set_option maxRecDepth 100000 in
theorem d_Md_trip_89 : decode b_Md_trip 89 = .ok (.iload_n 1, 1) := by decide +kernel
set_option maxRecDepth 100000 in
theorem d_Md_trip_90 : decode b_Md_trip 90 = .ok (.iaload, 1) := by decide +kernel
set_option maxRecDepth 100000 in
theorem d_Md_trip_91 : decode b_Md_trip 91 = .ok (.ireturn, 1) := by decide +kernel
set_option maxRecDepth 100000 in
theorem d_Md_trip_92 : decode b_Md_trip 92 = .ok (.aload_n 0, 1) := by decide +kernel
set_option maxRecDepth 100000 in
theorem d_Md_trip_93 : decode b_Md_trip 93 = .ok (.getfield 161, 3) := by decide +kernel
set_option maxRecDepth 100000 in
theorem d_Md_trip_96 : decode b_Md_trip 96 = .ok (.iload_n 1, 1) := by decide +kernel
set_option maxRecDepth 100000 in
theorem d_Md_trip_97 : decode b_Md_trip 97 = .ok (.iaload, 1) := by decide +kernel
set_option maxRecDepth 100000 in
theorem d_Md_trip_98 : decode b_Md_trip 98 = .ok (.ireturn, 1) := by decide +kernel
set_option maxRecDepth 100000 in
theorem d_Md_trip_99 : decode b_Md_trip 99 = .ok (.aload_n 0, 1) := by decide +kernel
set_option maxRecDepth 100000 in
theorem d_Md_trip_100 : decode b_Md_trip 100 = .ok (.getfield 164, 3) := by decide +kernel
set_option maxRecDepth 100000 in
theorem d_Md_trip_103 : decode b_Md_trip 103 = .ok (.iload_n 1, 1) := by decide +kernel
set_option maxRecDepth 100000 in
theorem d_Md_trip_104 : decode b_Md_trip 104 = .ok (.iaload, 1) := by decide +kernel
set_option maxRecDepth 100000 in
theorem d_Md_trip_105 : decode b_Md_trip 105 = .ok (.ireturn, 1) := by decide +kernel
set_option maxRecDepth 100000 in
theorem d_Md_trip_106 : decode b_Md_trip 106 = .ok (.aload_n 0, 1) := by decide +kernel
set_option maxRecDepth 100000 in
theorem d_Md_trip_107 : decode b_Md_trip 107 = .ok (.getfield 167, 3) := by decide +kernel
set_option maxRecDepth 100000 in
theorem d_Md_trip_110 : decode b_Md_trip 110 = .ok (.iload_n 1, 1) := by decide +kernel
set_option maxRecDepth 100000 in
theorem d_Md_trip_111 : decode b_Md_trip 111 = .ok (.iaload, 1) := by decide +kernel
set_option maxRecDepth 100000 in
theorem d_Md_trip_112 : decode b_Md_trip 112 = .ok (.ireturn, 1) := by decide +kernel
set_option maxRecDepth 100000 in
theorem d_Md_trip_113 : decode b_Md_trip 113 = .ok (.aload_n 0, 1) := by decide +kernel
set_option maxRecDepth 100000 in
theorem d_Md_trip_114 : decode b_Md_trip 114 = .ok (.getfield 170, 3) := by decide +kernel
set_option maxRecDepth 100000 in
theorem d_Md_trip_117 : decode b_Md_trip 117 = .ok (.iload_n 1, 1) := by decide +kernel
set_option maxRecDepth 100000 in
theorem d_Md_trip_118 : decode b_Md_trip 118 = .ok (.baload, 1) := by decide +kernel
set_option maxRecDepth 100000 in
theorem d_Md_trip_119 : decode b_Md_trip 119 = .ok (.ifCond .eq 7, 3) := by decide +kernel
set_option maxRecDepth 100000 in
theorem d_Md_trip_122 : decode b_Md_trip 122 = .ok (.iconst 1, 1) := by decide +kernel
set_option maxRecDepth 100000 in
theorem d_Md_trip_123 : decode b_Md_trip 123 = .ok (.goto 4, 3) := by decide +kernel
set_option maxRecDepth 100000 in
theorem d_Md_trip_126 : decode b_Md_trip 126 = .ok (.iconst 0, 1) := by decide +kernel
set_option maxRecDepth 100000 in
theorem d_Md_trip_127 : decode b_Md_trip 127 = .ok (.ireturn, 1) := by decide +kernel
set_option maxRecDepth 100000 in
theorem d_Md_trip_128 : decode b_Md_trip 128 = .ok (.bipush (-2), 2) := by decide +kernel
set_option maxRecDepth 100000 in
theorem d_Md_trip_130 : decode b_Md_trip 130 = .ok (.ireturn, 1) := by decide +kernel
set_option maxRecDepth 100000 in
theorem d_Md_why_0 : decode b_Md_why 0 = .ok (.aload_n 0, 1) := by decide +kernel
set_option maxRecDepth 100000 in
theorem d_Md_why_1 : decode b_Md_why 1 = .ok (.iload_n 1, 1) := by decide +kernel
set_option maxRecDepth 100000 in
theorem d_Md_why_2 : decode b_Md_why 2 = .ok (.iload_n 2, 1) := by decide +kernel
set_option maxRecDepth 100000 in
theorem d_Md_why_3 : decode b_Md_why 3 = .ok (.iload_n 3, 1) := by decide +kernel
set_option maxRecDepth 100000 in
theorem d_Md_why_4 : decode b_Md_why 4 = .ok (.invokevirtual 306, 3) := by decide +kernel
set_option maxRecDepth 100000 in
theorem d_Md_why_7 : decode b_Md_why 7 = .ok (.ifCond .eq 13, 3) := by decide +kernel
set_option maxRecDepth 100000 in
theorem d_Md_why_10 : decode b_Md_why 10 = .ok (.aload_n 0, 1) := by decide +kernel
set_option maxRecDepth 100000 in
theorem d_Md_why_11 : decode b_Md_why 11 = .ok (.iload_n 1, 1) := by decide +kernel
set_option maxRecDepth 100000 in
theorem d_Md_why_12 : decode b_Md_why 12 = .ok (.iload_n 2, 1) := by decide +kernel
set_option maxRecDepth 100000 in
theorem d_Md_why_13 : decode b_Md_why 13 = .ok (.iload_n 3, 1) := by decide +kernel
set_option maxRecDepth 100000 in
theorem d_Md_why_14 : decode b_Md_why 14 = .ok (.invokevirtual 309, 3) := by decide +kernel
set_option maxRecDepth 100000 in
theorem d_Md_why_17 : decode b_Md_why 17 = .ok (.goto 4, 3) := by decide +kernel
set_option maxRecDepth 100000 in
theorem d_Md_why_20 : decode b_Md_why 20 = .ok (.iconst (-1), 1) := by decide +kernel
set_option maxRecDepth 100000 in
theorem d_Md_why_21 : decode b_Md_why 21 = .ok (.ireturn, 1) := by decide +kernel
set_option maxRecDepth 100000 in
theorem d_Md_wordOf_0 : decode b_Md_wordOf 0 = .ok (.lload_n 0, 1) := by decide +kernel
set_option maxRecDepth 100000 in
theorem d_Md_wordOf_1 : decode b_Md_wordOf 1 = .ok (.ldc2_w 244, 3) := by decide +kernel
set_option maxRecDepth 100000 in
theorem d_Md_wordOf_4 : decode b_Md_wordOf 4 = .ok (.lcmp, 1) := by decide +kernel
set_option maxRecDepth 100000 in
theorem d_Md_wordOf_5 : decode b_Md_wordOf 5 = .ok (.ifCond .ne 5, 3) := by decide +kernel
set_option maxRecDepth 100000 in
theorem d_Md_wordOf_8 : decode b_Md_wordOf 8 = .ok (.iconst 4, 1) := by decide +kernel
set_option maxRecDepth 100000 in
theorem d_Md_wordOf_9 : decode b_Md_wordOf 9 = .ok (.ireturn, 1) := by decide +kernel
set_option maxRecDepth 100000 in
theorem d_Md_wordOf_10 : decode b_Md_wordOf 10 = .ok (.lload_n 0, 1) := by decide +kernel
set_option maxRecDepth 100000 in
theorem d_Md_wordOf_11 : decode b_Md_wordOf 11 = .ok (.ldc2_w 246, 3) := by decide +kernel
set_option maxRecDepth 100000 in
theorem d_Md_wordOf_14 : decode b_Md_wordOf 14 = .ok (.lcmp, 1) := by decide +kernel
set_option maxRecDepth 100000 in
theorem d_Md_wordOf_15 : decode b_Md_wordOf 15 = .ok (.ifCond .ne 5, 3) := by decide +kernel
set_option maxRecDepth 100000 in
theorem d_Md_wordOf_18 : decode b_Md_wordOf 18 = .ok (.iconst 5, 1) := by decide +kernel
set_option maxRecDepth 100000 in
theorem d_Md_wordOf_19 : decode b_Md_wordOf 19 = .ok (.ireturn, 1) := by decide +kernel
set_option maxRecDepth 100000 in
theorem d_Md_wordOf_20 : decode b_Md_wordOf 20 = .ok (.lload_n 0, 1) := by decide +kernel
set_option maxRecDepth 100000 in
theorem d_Md_wordOf_21 : decode b_Md_wordOf 21 = .ok (.ldc2_w 248, 3) := by decide +kernel
set_option maxRecDepth 100000 in
theorem d_Md_wordOf_24 : decode b_Md_wordOf 24 = .ok (.lcmp, 1) := by decide +kernel
set_option maxRecDepth 100000 in
theorem d_Md_wordOf_25 : decode b_Md_wordOf 25 = .ok (.ifCond .ne 6, 3) := by decide +kernel
set_option maxRecDepth 100000 in
theorem d_Md_wordOf_28 : decode b_Md_wordOf 28 = .ok (.bipush 10, 2) := by decide +kernel
set_option maxRecDepth 100000 in
theorem d_Md_wordOf_30 : decode b_Md_wordOf 30 = .ok (.ireturn, 1) := by decide +kernel
set_option maxRecDepth 100000 in
theorem d_Md_wordOf_31 : decode b_Md_wordOf 31 = .ok (.lload_n 0, 1) := by decide +kernel
set_option maxRecDepth 100000 in
theorem d_Md_wordOf_32 : decode b_Md_wordOf 32 = .ok (.ldc2_w 250, 3) := by decide +kernel
set_option maxRecDepth 100000 in
theorem d_Md_wordOf_35 : decode b_Md_wordOf 35 = .ok (.lcmp, 1) := by decide +kernel
set_option maxRecDepth 100000 in
theorem d_Md_wordOf_36 : decode b_Md_wordOf 36 = .ok (.ifCond .ne 6, 3) := by decide +kernel
set_option maxRecDepth 100000 in
theorem d_Md_wordOf_39 : decode b_Md_wordOf 39 = .ok (.bipush 11, 2) := by decide +kernel
set_option maxRecDepth 100000 in
theorem d_Md_wordOf_41 : decode b_Md_wordOf 41 = .ok (.ireturn, 1) := by decide +kernel
set_option maxRecDepth 100000 in
theorem d_Md_wordOf_42 : decode b_Md_wordOf 42 = .ok (.lload_n 0, 1) := by decide +kernel
set_option maxRecDepth 100000 in
theorem d_Md_wordOf_43 : decode b_Md_wordOf 43 = .ok (.ldc2_w 252, 3) := by decide +kernel
set_option maxRecDepth 100000 in
theorem d_Md_wordOf_46 : decode b_Md_wordOf 46 = .ok (.lcmp, 1) := by decide +kernel
set_option maxRecDepth 100000 in
theorem d_Md_wordOf_47 : decode b_Md_wordOf 47 = .ok (.ifCond .ne 6, 3) := by decide +kernel
set_option maxRecDepth 100000 in
theorem d_Md_wordOf_50 : decode b_Md_wordOf 50 = .ok (.bipush 12, 2) := by decide +kernel
set_option maxRecDepth 100000 in
theorem d_Md_wordOf_52 : decode b_Md_wordOf 52 = .ok (.ireturn, 1) := by decide +kernel
set_option maxRecDepth 100000 in
theorem d_Md_wordOf_53 : decode b_Md_wordOf 53 = .ok (.lload_n 0, 1) := by decide +kernel
set_option maxRecDepth 100000 in
theorem d_Md_wordOf_54 : decode b_Md_wordOf 54 = .ok (.ldc2_w 254, 3) := by decide +kernel
set_option maxRecDepth 100000 in
theorem d_Md_wordOf_57 : decode b_Md_wordOf 57 = .ok (.lcmp, 1) := by decide +kernel
set_option maxRecDepth 100000 in
theorem d_Md_wordOf_58 : decode b_Md_wordOf 58 = .ok (.ifCond .ne 6, 3) := by decide +kernel
set_option maxRecDepth 100000 in
theorem d_Md_wordOf_61 : decode b_Md_wordOf 61 = .ok (.bipush 13, 2) := by decide +kernel
set_option maxRecDepth 100000 in
theorem d_Md_wordOf_63 : decode b_Md_wordOf 63 = .ok (.ireturn, 1) := by decide +kernel
set_option maxRecDepth 100000 in
theorem d_Md_wordOf_64 : decode b_Md_wordOf 64 = .ok (.lload_n 0, 1) := by decide +kernel
set_option maxRecDepth 100000 in
theorem d_Md_wordOf_65 : decode b_Md_wordOf 65 = .ok (.ldc2_w 256, 3) := by decide +kernel
set_option maxRecDepth 100000 in
theorem d_Md_wordOf_68 : decode b_Md_wordOf 68 = .ok (.lcmp, 1) := by decide +kernel
set_option maxRecDepth 100000 in
theorem d_Md_wordOf_69 : decode b_Md_wordOf 69 = .ok (.ifCond .ne 6, 3) := by decide +kernel
set_option maxRecDepth 100000 in
theorem d_Md_wordOf_72 : decode b_Md_wordOf 72 = .ok (.bipush 14, 2) := by decide +kernel
set_option maxRecDepth 100000 in
theorem d_Md_wordOf_74 : decode b_Md_wordOf 74 = .ok (.ireturn, 1) := by decide +kernel
set_option maxRecDepth 100000 in
theorem d_Md_wordOf_75 : decode b_Md_wordOf 75 = .ok (.lload_n 0, 1) := by decide +kernel
set_option maxRecDepth 100000 in
theorem d_Md_wordOf_76 : decode b_Md_wordOf 76 = .ok (.ldc2_w 258, 3) := by decide +kernel
set_option maxRecDepth 100000 in
theorem d_Md_wordOf_79 : decode b_Md_wordOf 79 = .ok (.lcmp, 1) := by decide +kernel
set_option maxRecDepth 100000 in
theorem d_Md_wordOf_80 : decode b_Md_wordOf 80 = .ok (.ifCond .ne 6, 3) := by decide +kernel
set_option maxRecDepth 100000 in
theorem d_Md_wordOf_83 : decode b_Md_wordOf 83 = .ok (.bipush 15, 2) := by decide +kernel
set_option maxRecDepth 100000 in
theorem d_Md_wordOf_85 : decode b_Md_wordOf 85 = .ok (.ireturn, 1) := by decide +kernel
set_option maxRecDepth 100000 in
theorem d_Md_wordOf_86 : decode b_Md_wordOf 86 = .ok (.lload_n 0, 1) := by decide +kernel
set_option maxRecDepth 100000 in
theorem d_Md_wordOf_87 : decode b_Md_wordOf 87 = .ok (.ldc2_w 260, 3) := by decide +kernel
set_option maxRecDepth 100000 in
theorem d_Md_wordOf_90 : decode b_Md_wordOf 90 = .ok (.lcmp, 1) := by decide +kernel
set_option maxRecDepth 100000 in
theorem d_Md_wordOf_91 : decode b_Md_wordOf 91 = .ok (.ifCond .ne 6, 3) := by decide +kernel
set_option maxRecDepth 100000 in
theorem d_Md_wordOf_94 : decode b_Md_wordOf 94 = .ok (.bipush 16, 2) := by decide +kernel
set_option maxRecDepth 100000 in
theorem d_Md_wordOf_96 : decode b_Md_wordOf 96 = .ok (.ireturn, 1) := by decide +kernel
set_option maxRecDepth 100000 in
theorem d_Md_wordOf_97 : decode b_Md_wordOf 97 = .ok (.lload_n 0, 1) := by decide +kernel
set_option maxRecDepth 100000 in
theorem d_Md_wordOf_98 : decode b_Md_wordOf 98 = .ok (.ldc2_w 262, 3) := by decide +kernel
set_option maxRecDepth 100000 in
theorem d_Md_wordOf_101 : decode b_Md_wordOf 101 = .ok (.lcmp, 1) := by decide +kernel
set_option maxRecDepth 100000 in
theorem d_Md_wordOf_102 : decode b_Md_wordOf 102 = .ok (.ifCond .ne 6, 3) := by decide +kernel
set_option maxRecDepth 100000 in
theorem d_Md_wordOf_105 : decode b_Md_wordOf 105 = .ok (.bipush 17, 2) := by decide +kernel
set_option maxRecDepth 100000 in
theorem d_Md_wordOf_107 : decode b_Md_wordOf 107 = .ok (.ireturn, 1) := by decide +kernel
set_option maxRecDepth 100000 in
theorem d_Md_wordOf_108 : decode b_Md_wordOf 108 = .ok (.lload_n 0, 1) := by decide +kernel
set_option maxRecDepth 100000 in
theorem d_Md_wordOf_109 : decode b_Md_wordOf 109 = .ok (.ldc2_w 264, 3) := by decide +kernel
set_option maxRecDepth 100000 in
theorem d_Md_wordOf_112 : decode b_Md_wordOf 112 = .ok (.lcmp, 1) := by decide +kernel
set_option maxRecDepth 100000 in
theorem d_Md_wordOf_113 : decode b_Md_wordOf 113 = .ok (.ifCond .ne 8, 3) := by decide +kernel
set_option maxRecDepth 100000 in
theorem d_Md_wordOf_116 : decode b_Md_wordOf 116 = .ok (.bipush 18, 2) := by decide +kernel
set_option maxRecDepth 100000 in
theorem d_Md_wordOf_118 : decode b_Md_wordOf 118 = .ok (.goto 4, 3) := by decide +kernel
set_option maxRecDepth 100000 in
theorem d_Md_wordOf_121 : decode b_Md_wordOf 121 = .ok (.iconst 3, 1) := by decide +kernel
set_option maxRecDepth 100000 in
theorem d_Md_wordOf_122 : decode b_Md_wordOf 122 = .ok (.ireturn, 1) := by decide +kernel
set_option maxRecDepth 100000 in
theorem d_Mn_setOut_0 : decode b_Mn_setOut 0 = .ok (.aload_n 0, 1) := by decide +kernel
set_option maxRecDepth 100000 in
theorem d_Mn_setOut_1 : decode b_Mn_setOut 1 = .ok (.iload_n 1, 1) := by decide +kernel
set_option maxRecDepth 100000 in
theorem d_Mn_setOut_2 : decode b_Mn_setOut 2 = .ok (.putfield 21, 3) := by decide +kernel
set_option maxRecDepth 100000 in
theorem d_Mn_setOut_5 : decode b_Mn_setOut 5 = .ok (.aload_n 0, 1) := by decide +kernel
set_option maxRecDepth 100000 in
theorem d_Mn_setOut_6 : decode b_Mn_setOut 6 = .ok (.iconst (-1), 1) := by decide +kernel
set_option maxRecDepth 100000 in
theorem d_Mn_setOut_7 : decode b_Mn_setOut 7 = .ok (.putfield 15, 3) := by decide +kernel
set_option maxRecDepth 100000 in
theorem d_Mn_setOut_10 : decode b_Mn_setOut 10 = .ok (.aload_n 0, 1) := by decide +kernel
set_option maxRecDepth 100000 in
theorem d_Mn_setOut_11 : decode b_Mn_setOut 11 = .ok (.dup, 1) := by decide +kernel
set_option maxRecDepth 100000 in
theorem d_Mn_setOut_12 : decode b_Mn_setOut 12 = .ok (.getfield 24, 3) := by decide +kernel
set_option maxRecDepth 100000 in
theorem d_Mn_setOut_15 : decode b_Mn_setOut 15 = .ok (.iconst 1, 1) := by decide +kernel
set_option maxRecDepth 100000 in
theorem d_Mn_setOut_16 : decode b_Mn_setOut 16 = .ok (.iadd, 1) := by decide +kernel
set_option maxRecDepth 100000 in
theorem d_Mn_setOut_17 : decode b_Mn_setOut 17 = .ok (.putfield 24, 3) := by decide +kernel
set_option maxRecDepth 100000 in
theorem d_Mn_setOut_20 : decode b_Mn_setOut 20 = .ok (.return_, 1) := by decide +kernel
set_option maxRecDepth 100000 in
theorem d_Or_addLine_0 : decode b_Or_addLine 0 = .ok (.iload_n 1, 1) := by decide +kernel
set_option maxRecDepth 100000 in
theorem d_Or_addLine_1 : decode b_Or_addLine 1 = .ok (.ifCond .ne 31, 3) := by decide +kernel
set_option maxRecDepth 100000 in
theorem d_Or_addLine_4 : decode b_Or_addLine 4 = .ok (.aload_n 0, 1) := by decide +kernel
set_option maxRecDepth 100000 in
theorem d_Or_addLine_5 : decode b_Or_addLine 5 = .ok (.getfield 9, 3) := by decide +kernel
set_option maxRecDepth 100000 in
theorem d_Or_addLine_8 : decode b_Or_addLine 8 = .ok (.aload_n 0, 1) := by decide +kernel
set_option maxRecDepth 100000 in
theorem d_Or_addLine_9 : decode b_Or_addLine 9 = .ok (.getfield 23, 3) := by decide +kernel
set_option maxRecDepth 100000 in
theorem d_Or_addLine_12 : decode b_Or_addLine 12 = .ok (.iload_n 2, 1) := by decide +kernel
set_option maxRecDepth 100000 in
theorem d_Or_addLine_13 : decode b_Or_addLine 13 = .ok (.iload_n 3, 1) := by decide +kernel
set_option maxRecDepth 100000 in
theorem d_Or_addLine_14 : decode b_Or_addLine 14 = .ok (.iload 4, 2) := by decide +kernel
set_option maxRecDepth 100000 in
theorem d_Or_addLine_16 : decode b_Or_addLine 16 = .ok (.invokestatic 30, 3) := by decide +kernel
set_option maxRecDepth 100000 in
theorem d_Or_addLine_19 : decode b_Or_addLine 19 = .ok (.aload_n 0, 1) := by decide +kernel
set_option maxRecDepth 100000 in
theorem d_Or_addLine_20 : decode b_Or_addLine 20 = .ok (.dup, 1) := by decide +kernel
set_option maxRecDepth 100000 in
theorem d_Or_addLine_21 : decode b_Or_addLine 21 = .ok (.getfield 23, 3) := by decide +kernel
set_option maxRecDepth 100000 in
theorem d_Or_addLine_24 : decode b_Or_addLine 24 = .ok (.iconst 1, 1) := by decide +kernel
set_option maxRecDepth 100000 in
theorem d_Or_addLine_25 : decode b_Or_addLine 25 = .ok (.iadd, 1) := by decide +kernel
set_option maxRecDepth 100000 in
theorem d_Or_addLine_26 : decode b_Or_addLine 26 = .ok (.putfield 23, 3) := by decide +kernel
set_option maxRecDepth 100000 in
theorem d_Or_addLine_29 : decode b_Or_addLine 29 = .ok (.goto 59, 3) := by decide +kernel
set_option maxRecDepth 100000 in
theorem d_Or_addLine_32 : decode b_Or_addLine 32 = .ok (.iload_n 1, 1) := by decide +kernel
set_option maxRecDepth 100000 in
theorem d_Or_addLine_33 : decode b_Or_addLine 33 = .ok (.iconst 1, 1) := by decide +kernel
set_option maxRecDepth 100000 in
theorem d_Or_addLine_34 : decode b_Or_addLine 34 = .ok (.if_icmp .ne 31, 3) := by decide +kernel
set_option maxRecDepth 100000 in
theorem d_Or_addLine_37 : decode b_Or_addLine 37 = .ok (.aload_n 0, 1) := by decide +kernel
set_option maxRecDepth 100000 in
theorem d_Or_addLine_38 : decode b_Or_addLine 38 = .ok (.getfield 15, 3) := by decide +kernel
set_option maxRecDepth 100000 in
theorem d_Or_addLine_41 : decode b_Or_addLine 41 = .ok (.aload_n 0, 1) := by decide +kernel
set_option maxRecDepth 100000 in
theorem d_Or_addLine_42 : decode b_Or_addLine 42 = .ok (.getfield 27, 3) := by decide +kernel
set_option maxRecDepth 100000 in
theorem d_Or_addLine_45 : decode b_Or_addLine 45 = .ok (.iload_n 2, 1) := by decide +kernel
set_option maxRecDepth 100000 in
theorem d_Or_addLine_46 : decode b_Or_addLine 46 = .ok (.iload_n 3, 1) := by decide +kernel
set_option maxRecDepth 100000 in
theorem d_Or_addLine_47 : decode b_Or_addLine 47 = .ok (.iload 4, 2) := by decide +kernel
set_option maxRecDepth 100000 in
theorem d_Or_addLine_49 : decode b_Or_addLine 49 = .ok (.invokestatic 30, 3) := by decide +kernel
set_option maxRecDepth 100000 in
theorem d_Or_addLine_52 : decode b_Or_addLine 52 = .ok (.aload_n 0, 1) := by decide +kernel
set_option maxRecDepth 100000 in
theorem d_Or_addLine_53 : decode b_Or_addLine 53 = .ok (.dup, 1) := by decide +kernel
set_option maxRecDepth 100000 in
theorem d_Or_addLine_54 : decode b_Or_addLine 54 = .ok (.getfield 27, 3) := by decide +kernel
set_option maxRecDepth 100000 in
theorem d_Or_addLine_57 : decode b_Or_addLine 57 = .ok (.iconst 1, 1) := by decide +kernel
set_option maxRecDepth 100000 in
theorem d_Or_addLine_58 : decode b_Or_addLine 58 = .ok (.iadd, 1) := by decide +kernel
set_option maxRecDepth 100000 in
theorem d_Or_addLine_59 : decode b_Or_addLine 59 = .ok (.putfield 27, 3) := by decide +kernel
set_option maxRecDepth 100000 in
theorem d_Or_addLine_62 : decode b_Or_addLine 62 = .ok (.goto 26, 3) := by decide +kernel
set_option maxRecDepth 100000 in
theorem d_Or_addLine_65 : decode b_Or_addLine 65 = .ok (.aload_n 0, 1) := by decide +kernel
set_option maxRecDepth 100000 in
theorem d_Or_addLine_66 : decode b_Or_addLine 66 = .ok (.getfield 20, 3) := by decide +kernel
set_option maxRecDepth 100000 in
theorem d_Or_addLine_69 : decode b_Or_addLine 69 = .ok (.iload_n 1, 1) := by decide +kernel
set_option maxRecDepth 100000 in
theorem d_Or_addLine_70 : decode b_Or_addLine 70 = .ok (.iload_n 2, 1) := by decide +kernel
set_option maxRecDepth 100000 in
theorem d_Or_addLine_71 : decode b_Or_addLine 71 = .ok (.iastore, 1) := by decide +kernel
set_option maxRecDepth 100000 in
theorem d_Or_addLine_72 : decode b_Or_addLine 72 = .ok (.iload_n 1, 1) := by decide +kernel
set_option maxRecDepth 100000 in
theorem d_Or_addLine_73 : decode b_Or_addLine 73 = .ok (.bipush 6, 2) := by decide +kernel
set_option maxRecDepth 100000 in
theorem d_Or_addLine_75 : decode b_Or_addLine 75 = .ok (.if_icmp .ne 13, 3) := by decide +kernel
set_option maxRecDepth 100000 in
theorem d_Or_addLine_78 : decode b_Or_addLine 78 = .ok (.aload_n 0, 1) := by decide +kernel
set_option maxRecDepth 100000 in
theorem d_Or_addLine_79 : decode b_Or_addLine 79 = .ok (.iload_n 2, 1) := by decide +kernel
set_option maxRecDepth 100000 in
theorem d_Or_addLine_80 : decode b_Or_addLine 80 = .ok (.putfield 34, 3) := by decide +kernel
set_option maxRecDepth 100000 in
theorem d_Or_addLine_83 : decode b_Or_addLine 83 = .ok (.aload_n 0, 1) := by decide +kernel
set_option maxRecDepth 100000 in
theorem d_Or_addLine_84 : decode b_Or_addLine 84 = .ok (.iload_n 3, 1) := by decide +kernel
set_option maxRecDepth 100000 in
theorem d_Or_addLine_85 : decode b_Or_addLine 85 = .ok (.putfield 37, 3) := by decide +kernel
set_option maxRecDepth 100000 in
theorem d_Or_addLine_88 : decode b_Or_addLine 88 = .ok (.return_, 1) := by decide +kernel
set_option maxRecDepth 100000 in
theorem d_Or_basePrice_0 : decode b_Or_basePrice 0 = .ok (.iconst 0, 1) := by decide +kernel
set_option maxRecDepth 100000 in
theorem d_Or_basePrice_1 : decode b_Or_basePrice 1 = .ok (.istore_n 2, 1) := by decide +kernel
set_option maxRecDepth 100000 in
theorem d_Or_basePrice_2 : decode b_Or_basePrice 2 = .ok (.iload_n 2, 1) := by decide +kernel
set_option maxRecDepth 100000 in
theorem d_Or_basePrice_3 : decode b_Or_basePrice 3 = .ok (.aload_n 0, 1) := by decide +kernel
set_option maxRecDepth 100000 in
theorem d_Or_basePrice_4 : decode b_Or_basePrice 4 = .ok (.getfield 23, 3) := by decide +kernel
set_option maxRecDepth 100000 in
theorem d_Or_basePrice_7 : decode b_Or_basePrice 7 = .ok (.if_icmp .ge 32, 3) := by decide +kernel
set_option maxRecDepth 100000 in
theorem d_Or_basePrice_10 : decode b_Or_basePrice 10 = .ok (.aload_n 0, 1) := by decide +kernel
set_option maxRecDepth 100000 in
theorem d_Or_basePrice_11 : decode b_Or_basePrice 11 = .ok (.getfield 9, 3) := by decide +kernel
set_option maxRecDepth 100000 in
theorem d_Or_basePrice_14 : decode b_Or_basePrice 14 = .ok (.iload_n 2, 1) := by decide +kernel
set_option maxRecDepth 100000 in
theorem d_Or_basePrice_15 : decode b_Or_basePrice 15 = .ok (.iload_n 1, 1) := by decide +kernel
set_option maxRecDepth 100000 in
theorem d_Or_basePrice_16 : decode b_Or_basePrice 16 = .ok (.invokestatic 48, 3) := by decide +kernel
set_option maxRecDepth 100000 in
theorem d_Or_basePrice_19 : decode b_Or_basePrice 19 = .ok (.ifCond .eq 14, 3) := by decide +kernel
set_option maxRecDepth 100000 in
theorem d_Or_basePrice_22 : decode b_Or_basePrice 22 = .ok (.aload_n 0, 1) := by decide +kernel
set_option maxRecDepth 100000 in
theorem d_Or_basePrice_23 : decode b_Or_basePrice 23 = .ok (.getfield 9, 3) := by decide +kernel
set_option maxRecDepth 100000 in
theorem d_Or_basePrice_26 : decode b_Or_basePrice 26 = .ok (.iload_n 2, 1) := by decide +kernel
set_option maxRecDepth 100000 in
theorem d_Or_basePrice_27 : decode b_Or_basePrice 27 = .ok (.iconst 3, 1) := by decide +kernel
set_option maxRecDepth 100000 in
theorem d_Or_basePrice_28 : decode b_Or_basePrice 28 = .ok (.imul, 1) := by decide +kernel
set_option maxRecDepth 100000 in
theorem d_Or_basePrice_29 : decode b_Or_basePrice 29 = .ok (.iconst 2, 1) := by decide +kernel
set_option maxRecDepth 100000 in
theorem d_Or_basePrice_30 : decode b_Or_basePrice 30 = .ok (.iadd, 1) := by decide +kernel
set_option maxRecDepth 100000 in
theorem d_Or_basePrice_31 : decode b_Or_basePrice 31 = .ok (.iaload, 1) := by decide +kernel
set_option maxRecDepth 100000 in
theorem d_Or_basePrice_32 : decode b_Or_basePrice 32 = .ok (.ireturn, 1) := by decide +kernel
set_option maxRecDepth 100000 in
theorem d_Or_basePrice_33 : decode b_Or_basePrice 33 = .ok (.iinc 2 1, 3) := by decide +kernel
set_option maxRecDepth 100000 in
theorem d_Or_basePrice_36 : decode b_Or_basePrice 36 = .ok (.goto (-34), 3) := by decide +kernel
set_option maxRecDepth 100000 in
theorem d_Or_basePrice_39 : decode b_Or_basePrice 39 = .ok (.iconst (-1), 1) := by decide +kernel
set_option maxRecDepth 100000 in
theorem d_Or_basePrice_40 : decode b_Or_basePrice 40 = .ok (.ireturn, 1) := by decide +kernel
set_option maxRecDepth 100000 in
theorem d_Or_clear_0 : decode b_Or_clear 0 = .ok (.iconst 0, 1) := by decide +kernel
set_option maxRecDepth 100000 in
theorem d_Or_clear_1 : decode b_Or_clear 1 = .ok (.istore_n 1, 1) := by decide +kernel
set_option maxRecDepth 100000 in
theorem d_Or_clear_2 : decode b_Or_clear 2 = .ok (.iload_n 1, 1) := by decide +kernel
set_option maxRecDepth 100000 in
theorem d_Or_clear_3 : decode b_Or_clear 3 = .ok (.bipush 9, 2) := by decide +kernel
set_option maxRecDepth 100000 in
theorem d_Or_clear_5 : decode b_Or_clear 5 = .ok (.if_icmp .ge 16, 3) := by decide +kernel
set_option maxRecDepth 100000 in
theorem d_Or_clear_8 : decode b_Or_clear 8 = .ok (.aload_n 0, 1) := by decide +kernel
set_option maxRecDepth 100000 in
theorem d_Or_clear_9 : decode b_Or_clear 9 = .ok (.getfield 20, 3) := by decide +kernel
set_option maxRecDepth 100000 in
theorem d_Or_clear_12 : decode b_Or_clear 12 = .ok (.iload_n 1, 1) := by decide +kernel
set_option maxRecDepth 100000 in
theorem d_Or_clear_13 : decode b_Or_clear 13 = .ok (.iconst (-1), 1) := by decide +kernel
set_option maxRecDepth 100000 in
theorem d_Or_clear_14 : decode b_Or_clear 14 = .ok (.iastore, 1) := by decide +kernel
set_option maxRecDepth 100000 in
theorem d_Or_clear_15 : decode b_Or_clear 15 = .ok (.iinc 1 1, 3) := by decide +kernel
set_option maxRecDepth 100000 in
theorem d_Or_clear_18 : decode b_Or_clear 18 = .ok (.goto (-16), 3) := by decide +kernel
set_option maxRecDepth 100000 in
theorem d_Or_clear_21 : decode b_Or_clear 21 = .ok (.aload_n 0, 1) := by decide +kernel
set_option maxRecDepth 100000 in
theorem d_Or_clear_22 : decode b_Or_clear 22 = .ok (.iconst 0, 1) := by decide +kernel
set_option maxRecDepth 100000 in
theorem d_Or_clear_23 : decode b_Or_clear 23 = .ok (.putfield 23, 3) := by decide +kernel
set_option maxRecDepth 100000 in
theorem d_Or_clear_26 : decode b_Or_clear 26 = .ok (.aload_n 0, 1) := by decide +kernel
set_option maxRecDepth 100000 in
theorem d_Or_clear_27 : decode b_Or_clear 27 = .ok (.iconst 0, 1) := by decide +kernel
set_option maxRecDepth 100000 in
theorem d_Or_clear_28 : decode b_Or_clear 28 = .ok (.putfield 27, 3) := by decide +kernel
set_option maxRecDepth 100000 in
theorem d_Or_clear_31 : decode b_Or_clear 31 = .ok (.return_, 1) := by decide +kernel
set_option maxRecDepth 100000 in
theorem d_Or_init_0 : decode b_Or_init 0 = .ok (.aload_n 0, 1) := by decide +kernel
set_option maxRecDepth 100000 in
theorem d_Or_init_1 : decode b_Or_init 1 = .ok (.invokespecial 3, 3) := by decide +kernel
set_option maxRecDepth 100000 in
theorem d_Or_init_4 : decode b_Or_init 4 = .ok (.aload_n 0, 1) := by decide +kernel
set_option maxRecDepth 100000 in
theorem d_Or_init_5 : decode b_Or_init 5 = .ok (.bipush 36, 2) := by decide +kernel
set_option maxRecDepth 100000 in
theorem d_Or_init_7 : decode b_Or_init 7 = .ok (.newarray .int, 2) := by decide +kernel
set_option maxRecDepth 100000 in
theorem d_Or_init_9 : decode b_Or_init 9 = .ok (.putfield 9, 3) := by decide +kernel
set_option maxRecDepth 100000 in
theorem d_Or_init_12 : decode b_Or_init 12 = .ok (.aload_n 0, 1) := by decide +kernel
set_option maxRecDepth 100000 in
theorem d_Or_init_13 : decode b_Or_init 13 = .ok (.bipush 36, 2) := by decide +kernel
set_option maxRecDepth 100000 in
theorem d_Or_init_15 : decode b_Or_init 15 = .ok (.newarray .int, 2) := by decide +kernel
set_option maxRecDepth 100000 in
theorem d_Or_init_17 : decode b_Or_init 17 = .ok (.putfield 15, 3) := by decide +kernel
set_option maxRecDepth 100000 in
theorem d_Or_init_20 : decode b_Or_init 20 = .ok (.aload_n 0, 1) := by decide +kernel
set_option maxRecDepth 100000 in
theorem d_Or_init_21 : decode b_Or_init 21 = .ok (.bipush 9, 2) := by decide +kernel
set_option maxRecDepth 100000 in
theorem d_Or_init_23 : decode b_Or_init 23 = .ok (.newarray .int, 2) := by decide +kernel
set_option maxRecDepth 100000 in
theorem d_Or_init_25 : decode b_Or_init 25 = .ok (.putfield 20, 3) := by decide +kernel
set_option maxRecDepth 100000 in
theorem d_Or_init_28 : decode b_Or_init 28 = .ok (.return_, 1) := by decide +kernel
set_option maxRecDepth 100000 in
theorem d_Or_lineHolds_0 : decode b_Or_lineHolds 0 = .ok (.aload_n 0, 1) := by decide +kernel
set_option maxRecDepth 100000 in
theorem d_Or_lineHolds_1 : decode b_Or_lineHolds 1 = .ok (.iload_n 1, 1) := by decide +kernel
set_option maxRecDepth 100000 in
theorem d_Or_lineHolds_2 : decode b_Or_lineHolds 2 = .ok (.iconst 3, 1) := by decide +kernel
set_option maxRecDepth 100000 in
theorem d_Or_lineHolds_3 : decode b_Or_lineHolds 3 = .ok (.imul, 1) := by decide +kernel
set_option maxRecDepth 100000 in
theorem d_Or_lineHolds_4 : decode b_Or_lineHolds 4 = .ok (.iaload, 1) := by decide +kernel
set_option maxRecDepth 100000 in
theorem d_Or_lineHolds_5 : decode b_Or_lineHolds 5 = .ok (.iload_n 2, 1) := by decide +kernel
set_option maxRecDepth 100000 in
theorem d_Or_lineHolds_6 : decode b_Or_lineHolds 6 = .ok (.if_icmp .gt 18, 3) := by decide +kernel
set_option maxRecDepth 100000 in
theorem d_Or_lineHolds_9 : decode b_Or_lineHolds 9 = .ok (.iload_n 2, 1) := by decide +kernel
set_option maxRecDepth 100000 in
theorem d_Or_lineHolds_10 : decode b_Or_lineHolds 10 = .ok (.aload_n 0, 1) := by decide +kernel
set_option maxRecDepth 100000 in
theorem d_Or_lineHolds_11 : decode b_Or_lineHolds 11 = .ok (.iload_n 1, 1) := by decide +kernel
set_option maxRecDepth 100000 in
theorem d_Or_lineHolds_12 : decode b_Or_lineHolds 12 = .ok (.iconst 3, 1) := by decide +kernel
set_option maxRecDepth 100000 in
theorem d_Or_lineHolds_13 : decode b_Or_lineHolds 13 = .ok (.imul, 1) := by decide +kernel
set_option maxRecDepth 100000 in
theorem d_Or_lineHolds_14 : decode b_Or_lineHolds 14 = .ok (.iconst 1, 1) := by decide +kernel
set_option maxRecDepth 100000 in
theorem d_Or_lineHolds_15 : decode b_Or_lineHolds 15 = .ok (.iadd, 1) := by decide +kernel
set_option maxRecDepth 100000 in
theorem d_Or_lineHolds_16 : decode b_Or_lineHolds 16 = .ok (.iaload, 1) := by decide +kernel
set_option maxRecDepth 100000 in
theorem d_Or_lineHolds_17 : decode b_Or_lineHolds 17 = .ok (.if_icmp .gt 7, 3) := by decide +kernel
set_option maxRecDepth 100000 in
theorem d_Or_lineHolds_20 : decode b_Or_lineHolds 20 = .ok (.iconst 1, 1) := by decide +kernel
set_option maxRecDepth 100000 in
theorem d_Or_lineHolds_21 : decode b_Or_lineHolds 21 = .ok (.goto 4, 3) := by decide +kernel
set_option maxRecDepth 100000 in
theorem d_Or_lineHolds_24 : decode b_Or_lineHolds 24 = .ok (.iconst 0, 1) := by decide +kernel
set_option maxRecDepth 100000 in
theorem d_Or_lineHolds_25 : decode b_Or_lineHolds 25 = .ok (.ireturn, 1) := by decide +kernel
set_option maxRecDepth 100000 in
theorem d_Or_price_0 : decode b_Or_price 0 = .ok (.aload_n 0, 1) := by decide +kernel
set_option maxRecDepth 100000 in
theorem d_Or_price_1 : decode b_Or_price 1 = .ok (.iload_n 1, 1) := by decide +kernel
set_option maxRecDepth 100000 in
theorem d_Or_price_2 : decode b_Or_price 2 = .ok (.invokevirtual 40, 3) := by decide +kernel
set_option maxRecDepth 100000 in
theorem d_Or_price_5 : decode b_Or_price 5 = .ok (.istore 6, 2) := by decide +kernel
set_option maxRecDepth 100000 in
theorem d_Or_price_7 : decode b_Or_price 7 = .ok (.iload 6, 2) := by decide +kernel
set_option maxRecDepth 100000 in
theorem d_Or_price_9 : decode b_Or_price 9 = .ok (.iconst (-1), 1) := by decide +kernel
set_option maxRecDepth 100000 in
theorem d_Or_price_10 : decode b_Or_price 10 = .ok (.if_icmp .ne 5, 3) := by decide +kernel
set_option maxRecDepth 100000 in
theorem d_Or_price_13 : decode b_Or_price 13 = .ok (.iconst (-1), 1) := by decide +kernel
set_option maxRecDepth 100000 in
theorem d_Or_price_14 : decode b_Or_price 14 = .ok (.ireturn, 1) := by decide +kernel
set_option maxRecDepth 100000 in
theorem d_Or_price_15 : decode b_Or_price 15 = .ok (.iload_n 2, 1) := by decide +kernel
set_option maxRecDepth 100000 in
theorem d_Or_price_16 : decode b_Or_price 16 = .ok (.ifCond .le 19, 3) := by decide +kernel
set_option maxRecDepth 100000 in
theorem d_Or_price_19 : decode b_Or_price 19 = .ok (.iload 6, 2) := by decide +kernel
set_option maxRecDepth 100000 in
theorem d_Or_price_21 : decode b_Or_price 21 = .ok (.aload_n 0, 1) := by decide +kernel
set_option maxRecDepth 100000 in
theorem d_Or_price_22 : decode b_Or_price 22 = .ok (.getfield 20, 3) := by decide +kernel
set_option maxRecDepth 100000 in
theorem d_Or_price_25 : decode b_Or_price 25 = .ok (.iconst 2, 1) := by decide +kernel
set_option maxRecDepth 100000 in
theorem d_Or_price_26 : decode b_Or_price 26 = .ok (.iaload, 1) := by decide +kernel
set_option maxRecDepth 100000 in
theorem d_Or_price_27 : decode b_Or_price 27 = .ok (.invokestatic 44, 3) := by decide +kernel
set_option maxRecDepth 100000 in
theorem d_Or_price_30 : decode b_Or_price 30 = .ok (.istore 6, 2) := by decide +kernel
set_option maxRecDepth 100000 in
theorem d_Or_price_32 : decode b_Or_price 32 = .ok (.goto 20, 3) := by decide +kernel
set_option maxRecDepth 100000 in
theorem d_Or_price_35 : decode b_Or_price 35 = .ok (.iload_n 2, 1) := by decide +kernel
set_option maxRecDepth 100000 in
theorem d_Or_price_36 : decode b_Or_price 36 = .ok (.ifCond .ge 16, 3) := by decide +kernel
set_option maxRecDepth 100000 in
theorem d_Or_price_39 : decode b_Or_price 39 = .ok (.iload 6, 2) := by decide +kernel
set_option maxRecDepth 100000 in
theorem d_Or_price_41 : decode b_Or_price 41 = .ok (.aload_n 0, 1) := by decide +kernel
set_option maxRecDepth 100000 in
theorem d_Or_price_42 : decode b_Or_price 42 = .ok (.getfield 20, 3) := by decide +kernel
set_option maxRecDepth 100000 in
theorem d_Or_price_45 : decode b_Or_price 45 = .ok (.iconst 3, 1) := by decide +kernel
set_option maxRecDepth 100000 in
theorem d_Or_price_46 : decode b_Or_price 46 = .ok (.iaload, 1) := by decide +kernel
set_option maxRecDepth 100000 in
theorem d_Or_price_47 : decode b_Or_price 47 = .ok (.invokestatic 44, 3) := by decide +kernel
set_option maxRecDepth 100000 in
theorem d_Or_price_50 : decode b_Or_price 50 = .ok (.istore 6, 2) := by decide +kernel
set_option maxRecDepth 100000 in
theorem d_Or_price_52 : decode b_Or_price 52 = .ok (.iconst 0, 1) := by decide +kernel
set_option maxRecDepth 100000 in
theorem d_Or_price_53 : decode b_Or_price 53 = .ok (.istore 7, 2) := by decide +kernel
set_option maxRecDepth 100000 in
theorem d_Or_price_55 : decode b_Or_price 55 = .ok (.iload 7, 2) := by decide +kernel
set_option maxRecDepth 100000 in
theorem d_Or_price_57 : decode b_Or_price 57 = .ok (.aload_n 0, 1) := by decide +kernel
set_option maxRecDepth 100000 in
theorem d_Or_price_58 : decode b_Or_price 58 = .ok (.getfield 27, 3) := by decide +kernel
set_option maxRecDepth 100000 in
theorem d_Or_price_61 : decode b_Or_price 61 = .ok (.if_icmp .ge 41, 3) := by decide +kernel
set_option maxRecDepth 100000 in
theorem d_Or_price_64 : decode b_Or_price 64 = .ok (.aload_n 0, 1) := by decide +kernel
set_option maxRecDepth 100000 in
theorem d_Or_price_65 : decode b_Or_price 65 = .ok (.getfield 15, 3) := by decide +kernel
set_option maxRecDepth 100000 in
theorem d_Or_price_68 : decode b_Or_price 68 = .ok (.iload 7, 2) := by decide +kernel
set_option maxRecDepth 100000 in
theorem d_Or_price_70 : decode b_Or_price 70 = .ok (.iload 4, 2) := by decide +kernel
set_option maxRecDepth 100000 in
theorem d_Or_price_72 : decode b_Or_price 72 = .ok (.invokestatic 48, 3) := by decide +kernel
set_option maxRecDepth 100000 in
theorem d_Or_price_75 : decode b_Or_price 75 = .ok (.ifCond .eq 21, 3) := by decide +kernel
set_option maxRecDepth 100000 in
theorem d_Or_price_78 : decode b_Or_price 78 = .ok (.iload 6, 2) := by decide +kernel
set_option maxRecDepth 100000 in
theorem d_Or_price_80 : decode b_Or_price 80 = .ok (.aload_n 0, 1) := by decide +kernel
set_option maxRecDepth 100000 in
theorem d_Or_price_81 : decode b_Or_price 81 = .ok (.getfield 15, 3) := by decide +kernel
set_option maxRecDepth 100000 in
theorem d_Or_price_84 : decode b_Or_price 84 = .ok (.iload 7, 2) := by decide +kernel
set_option maxRecDepth 100000 in
theorem d_Or_price_86 : decode b_Or_price 86 = .ok (.iconst 3, 1) := by decide +kernel
set_option maxRecDepth 100000 in
theorem d_Or_price_87 : decode b_Or_price 87 = .ok (.imul, 1) := by decide +kernel
set_option maxRecDepth 100000 in
theorem d_Or_price_88 : decode b_Or_price 88 = .ok (.iconst 2, 1) := by decide +kernel
set_option maxRecDepth 100000 in
theorem d_Or_price_89 : decode b_Or_price 89 = .ok (.iadd, 1) := by decide +kernel
set_option maxRecDepth 100000 in
theorem d_Or_price_90 : decode b_Or_price 90 = .ok (.iaload, 1) := by decide +kernel
set_option maxRecDepth 100000 in
theorem d_Or_price_91 : decode b_Or_price 91 = .ok (.invokestatic 44, 3) := by decide +kernel
set_option maxRecDepth 100000 in
theorem d_Or_price_94 : decode b_Or_price 94 = .ok (.istore 6, 2) := by decide +kernel
set_option maxRecDepth 100000 in
theorem d_Or_price_96 : decode b_Or_price 96 = .ok (.iinc 7 1, 3) := by decide +kernel
set_option maxRecDepth 100000 in
theorem d_Or_price_99 : decode b_Or_price 99 = .ok (.goto (-44), 3) := by decide +kernel
set_option maxRecDepth 100000 in
theorem d_Or_price_102 : decode b_Or_price 102 = .ok (.iload_n 3, 1) := by decide +kernel
set_option maxRecDepth 100000 in
theorem d_Or_price_103 : decode b_Or_price 103 = .ok (.invokestatic 52, 3) := by decide +kernel
set_option maxRecDepth 100000 in
theorem d_Or_price_106 : decode b_Or_price 106 = .ok (.ifCond .eq 16, 3) := by decide +kernel
set_option maxRecDepth 100000 in
theorem d_Or_price_109 : decode b_Or_price 109 = .ok (.iload 6, 2) := by decide +kernel
set_option maxRecDepth 100000 in
theorem d_Or_price_111 : decode b_Or_price 111 = .ok (.aload_n 0, 1) := by decide +kernel
set_option maxRecDepth 100000 in
theorem d_Or_price_112 : decode b_Or_price 112 = .ok (.getfield 20, 3) := by decide +kernel
set_option maxRecDepth 100000 in
theorem d_Or_price_115 : decode b_Or_price 115 = .ok (.iconst 4, 1) := by decide +kernel
set_option maxRecDepth 100000 in
theorem d_Or_price_116 : decode b_Or_price 116 = .ok (.iaload, 1) := by decide +kernel
set_option maxRecDepth 100000 in
theorem d_Or_price_117 : decode b_Or_price 117 = .ok (.invokestatic 44, 3) := by decide +kernel
set_option maxRecDepth 100000 in
theorem d_Or_price_120 : decode b_Or_price 120 = .ok (.istore 6, 2) := by decide +kernel
set_option maxRecDepth 100000 in
theorem d_Or_price_122 : decode b_Or_price 122 = .ok (.iload 5, 2) := by decide +kernel
set_option maxRecDepth 100000 in
theorem d_Or_price_124 : decode b_Or_price 124 = .ok (.iconst 2, 1) := by decide +kernel
set_option maxRecDepth 100000 in
theorem d_Or_price_125 : decode b_Or_price 125 = .ok (.if_icmp .ne 17, 3) := by decide +kernel
set_option maxRecDepth 100000 in
theorem d_Or_price_128 : decode b_Or_price 128 = .ok (.iload 6, 2) := by decide +kernel
set_option maxRecDepth 100000 in
theorem d_Or_price_130 : decode b_Or_price 130 = .ok (.aload_n 0, 1) := by decide +kernel
set_option maxRecDepth 100000 in
theorem d_Or_price_131 : decode b_Or_price 131 = .ok (.getfield 20, 3) := by decide +kernel
set_option maxRecDepth 100000 in
theorem d_Or_price_134 : decode b_Or_price 134 = .ok (.bipush 8, 2) := by decide +kernel
set_option maxRecDepth 100000 in
theorem d_Or_price_136 : decode b_Or_price 136 = .ok (.iaload, 1) := by decide +kernel
set_option maxRecDepth 100000 in
theorem d_Or_price_137 : decode b_Or_price 137 = .ok (.invokestatic 44, 3) := by decide +kernel
set_option maxRecDepth 100000 in
theorem d_Or_price_140 : decode b_Or_price 140 = .ok (.istore 6, 2) := by decide +kernel
set_option maxRecDepth 100000 in
theorem d_Or_price_142 : decode b_Or_price 142 = .ok (.iload 6, 2) := by decide +kernel
set_option maxRecDepth 100000 in
theorem d_Or_price_144 : decode b_Or_price 144 = .ok (.aload_n 0, 1) := by decide +kernel
set_option maxRecDepth 100000 in
theorem d_Or_price_145 : decode b_Or_price 145 = .ok (.getfield 20, 3) := by decide +kernel
set_option maxRecDepth 100000 in
theorem d_Or_price_148 : decode b_Or_price 148 = .ok (.iconst 5, 1) := by decide +kernel
set_option maxRecDepth 100000 in
theorem d_Or_price_149 : decode b_Or_price 149 = .ok (.iaload, 1) := by decide +kernel
set_option maxRecDepth 100000 in
theorem d_Or_price_150 : decode b_Or_price 150 = .ok (.invokestatic 56, 3) := by decide +kernel
set_option maxRecDepth 100000 in
theorem d_Or_price_153 : decode b_Or_price 153 = .ok (.ireturn, 1) := by decide +kernel
set_option maxRecDepth 100000 in
theorem d_Or_scaled_0 : decode b_Or_scaled 0 = .ok (.iload_n 1, 1) := by decide +kernel
set_option maxRecDepth 100000 in
theorem d_Or_scaled_1 : decode b_Or_scaled 1 = .ok (.iconst (-1), 1) := by decide +kernel
set_option maxRecDepth 100000 in
theorem d_Or_scaled_2 : decode b_Or_scaled 2 = .ok (.if_icmp .ne 5, 3) := by decide +kernel
set_option maxRecDepth 100000 in
theorem d_Or_scaled_5 : decode b_Or_scaled 5 = .ok (.iload_n 0, 1) := by decide +kernel
set_option maxRecDepth 100000 in
theorem d_Or_scaled_6 : decode b_Or_scaled 6 = .ok (.ireturn, 1) := by decide +kernel
set_option maxRecDepth 100000 in
theorem d_Or_scaled_7 : decode b_Or_scaled 7 = .ok (.iload_n 0, 1) := by decide +kernel
set_option maxRecDepth 100000 in
theorem d_Or_scaled_8 : decode b_Or_scaled 8 = .ok (.i2l, 1) := by decide +kernel
set_option maxRecDepth 100000 in
theorem d_Or_scaled_9 : decode b_Or_scaled 9 = .ok (.iload_n 1, 1) := by decide +kernel
set_option maxRecDepth 100000 in
theorem d_Or_scaled_10 : decode b_Or_scaled 10 = .ok (.i2l, 1) := by decide +kernel
set_option maxRecDepth 100000 in
theorem d_Or_scaled_11 : decode b_Or_scaled 11 = .ok (.lmul, 1) := by decide +kernel
set_option maxRecDepth 100000 in
theorem d_Or_scaled_12 : decode b_Or_scaled 12 = .ok (.ldc2_w 61, 3) := by decide +kernel
set_option maxRecDepth 100000 in
theorem d_Or_scaled_15 : decode b_Or_scaled 15 = .ok (.ldiv, 1) := by decide +kernel
set_option maxRecDepth 100000 in
theorem d_Or_scaled_16 : decode b_Or_scaled 16 = .ok (.lstore_n 2, 1) := by decide +kernel
set_option maxRecDepth 100000 in
theorem d_Or_scaled_17 : decode b_Or_scaled 17 = .ok (.lload_n 2, 1) := by decide +kernel
set_option maxRecDepth 100000 in
theorem d_Or_scaled_18 : decode b_Or_scaled 18 = .ok (.ldc2_w 63, 3) := by decide +kernel
set_option maxRecDepth 100000 in
theorem d_Or_scaled_21 : decode b_Or_scaled 21 = .ok (.lcmp, 1) := by decide +kernel
set_option maxRecDepth 100000 in
theorem d_Or_scaled_22 : decode b_Or_scaled 22 = .ok (.ifCond .le 8, 3) := by decide +kernel
set_option maxRecDepth 100000 in
theorem d_Or_scaled_25 : decode b_Or_scaled 25 = .ok (.ldc 65, 2) := by decide +kernel
set_option maxRecDepth 100000 in
theorem d_Or_scaled_27 : decode b_Or_scaled 27 = .ok (.goto 5, 3) := by decide +kernel
set_option maxRecDepth 100000 in
theorem d_Or_scaled_30 : decode b_Or_scaled 30 = .ok (.lload_n 2, 1) := by decide +kernel
set_option maxRecDepth 100000 in
theorem d_Or_scaled_31 : decode b_Or_scaled 31 = .ok (.l2i, 1) := by decide +kernel
set_option maxRecDepth 100000 in
theorem d_Or_scaled_32 : decode b_Or_scaled 32 = .ok (.ireturn, 1) := by decide +kernel
set_option maxRecDepth 100000 in
theorem d_Or_setLine_0 : decode b_Or_setLine 0 = .ok (.aload_n 0, 1) := by decide +kernel
set_option maxRecDepth 100000 in
theorem d_Or_setLine_1 : decode b_Or_setLine 1 = .ok (.iload_n 1, 1) := by decide +kernel
set_option maxRecDepth 100000 in
theorem d_Or_setLine_2 : decode b_Or_setLine 2 = .ok (.iconst 3, 1) := by decide +kernel
set_option maxRecDepth 100000 in
theorem d_Or_setLine_3 : decode b_Or_setLine 3 = .ok (.imul, 1) := by decide +kernel
set_option maxRecDepth 100000 in
theorem d_Or_setLine_4 : decode b_Or_setLine 4 = .ok (.iload_n 2, 1) := by decide +kernel
set_option maxRecDepth 100000 in
theorem d_Or_setLine_5 : decode b_Or_setLine 5 = .ok (.iastore, 1) := by decide +kernel
set_option maxRecDepth 100000 in
theorem d_Or_setLine_6 : decode b_Or_setLine 6 = .ok (.aload_n 0, 1) := by decide +kernel
set_option maxRecDepth 100000 in
theorem d_Or_setLine_7 : decode b_Or_setLine 7 = .ok (.iload_n 1, 1) := by decide +kernel
set_option maxRecDepth 100000 in
theorem d_Or_setLine_8 : decode b_Or_setLine 8 = .ok (.iconst 3, 1) := by decide +kernel
set_option maxRecDepth 100000 in
theorem d_Or_setLine_9 : decode b_Or_setLine 9 = .ok (.imul, 1) := by decide +kernel
set_option maxRecDepth 100000 in
theorem d_Or_setLine_10 : decode b_Or_setLine 10 = .ok (.iconst 1, 1) := by decide +kernel
set_option maxRecDepth 100000 in
theorem d_Or_setLine_11 : decode b_Or_setLine 11 = .ok (.iadd, 1) := by decide +kernel
set_option maxRecDepth 100000 in
theorem d_Or_setLine_12 : decode b_Or_setLine 12 = .ok (.iload_n 3, 1) := by decide +kernel
set_option maxRecDepth 100000 in
theorem d_Or_setLine_13 : decode b_Or_setLine 13 = .ok (.iastore, 1) := by decide +kernel
set_option maxRecDepth 100000 in
theorem d_Or_setLine_14 : decode b_Or_setLine 14 = .ok (.aload_n 0, 1) := by decide +kernel
set_option maxRecDepth 100000 in
theorem d_Or_setLine_15 : decode b_Or_setLine 15 = .ok (.iload_n 1, 1) := by decide +kernel
set_option maxRecDepth 100000 in
theorem d_Or_setLine_16 : decode b_Or_setLine 16 = .ok (.iconst 3, 1) := by decide +kernel
set_option maxRecDepth 100000 in
theorem d_Or_setLine_17 : decode b_Or_setLine 17 = .ok (.imul, 1) := by decide +kernel
set_option maxRecDepth 100000 in
theorem d_Or_setLine_18 : decode b_Or_setLine 18 = .ok (.iconst 2, 1) := by decide +kernel
set_option maxRecDepth 100000 in
theorem d_Or_setLine_19 : decode b_Or_setLine 19 = .ok (.iadd, 1) := by decide +kernel
set_option maxRecDepth 100000 in
theorem d_Or_setLine_20 : decode b_Or_setLine 20 = .ok (.iload 4, 2) := by decide +kernel
set_option maxRecDepth 100000 in
theorem d_Or_setLine_22 : decode b_Or_setLine 22 = .ok (.iastore, 1) := by decide +kernel
set_option maxRecDepth 100000 in
theorem d_Or_setLine_23 : decode b_Or_setLine 23 = .ok (.return_, 1) := by decide +kernel
set_option maxRecDepth 100000 in
theorem d_Or_shutsBridge_0 : decode b_Or_shutsBridge 0 = .ok (.aload_n 0, 1) := by decide +kernel
set_option maxRecDepth 100000 in
theorem d_Or_shutsBridge_1 : decode b_Or_shutsBridge 1 = .ok (.getfield 20, 3) := by decide +kernel
set_option maxRecDepth 100000 in
theorem d_Or_shutsBridge_4 : decode b_Or_shutsBridge 4 = .ok (.bipush 6, 2) := by decide +kernel
set_option maxRecDepth 100000 in
theorem d_Or_shutsBridge_6 : decode b_Or_shutsBridge 6 = .ok (.iaload, 1) := by decide +kernel
set_option maxRecDepth 100000 in
theorem d_Or_shutsBridge_7 : decode b_Or_shutsBridge 7 = .ok (.iconst (-1), 1) := by decide +kernel
set_option maxRecDepth 100000 in
theorem d_Or_shutsBridge_8 : decode b_Or_shutsBridge 8 = .ok (.if_icmp .eq 21, 3) := by decide +kernel
set_option maxRecDepth 100000 in
theorem d_Or_shutsBridge_11 : decode b_Or_shutsBridge 11 = .ok (.iload_n 1, 1) := by decide +kernel
set_option maxRecDepth 100000 in
theorem d_Or_shutsBridge_12 : decode b_Or_shutsBridge 12 = .ok (.aload_n 0, 1) := by decide +kernel
set_option maxRecDepth 100000 in
theorem d_Or_shutsBridge_13 : decode b_Or_shutsBridge 13 = .ok (.getfield 34, 3) := by decide +kernel
set_option maxRecDepth 100000 in
theorem d_Or_shutsBridge_16 : decode b_Or_shutsBridge 16 = .ok (.if_icmp .lt 11, 3) := by decide +kernel
set_option maxRecDepth 100000 in
theorem d_Or_shutsBridge_19 : decode b_Or_shutsBridge 19 = .ok (.iload_n 1, 1) := by decide +kernel
set_option maxRecDepth 100000 in
theorem d_Or_shutsBridge_20 : decode b_Or_shutsBridge 20 = .ok (.aload_n 0, 1) := by decide +kernel
set_option maxRecDepth 100000 in
theorem d_Or_shutsBridge_21 : decode b_Or_shutsBridge 21 = .ok (.getfield 37, 3) := by decide +kernel
set_option maxRecDepth 100000 in
theorem d_Or_shutsBridge_24 : decode b_Or_shutsBridge 24 = .ok (.if_icmp .le 5, 3) := by decide +kernel
set_option maxRecDepth 100000 in
theorem d_Or_shutsBridge_27 : decode b_Or_shutsBridge 27 = .ok (.iconst 1, 1) := by decide +kernel
set_option maxRecDepth 100000 in
theorem d_Or_shutsBridge_28 : decode b_Or_shutsBridge 28 = .ok (.ireturn, 1) := by decide +kernel
set_option maxRecDepth 100000 in
theorem d_Or_shutsBridge_29 : decode b_Or_shutsBridge 29 = .ok (.aload_n 0, 1) := by decide +kernel
set_option maxRecDepth 100000 in
theorem d_Or_shutsBridge_30 : decode b_Or_shutsBridge 30 = .ok (.getfield 20, 3) := by decide +kernel
set_option maxRecDepth 100000 in
theorem d_Or_shutsBridge_33 : decode b_Or_shutsBridge 33 = .ok (.bipush 7, 2) := by decide +kernel
set_option maxRecDepth 100000 in
theorem d_Or_shutsBridge_35 : decode b_Or_shutsBridge 35 = .ok (.iaload, 1) := by decide +kernel
set_option maxRecDepth 100000 in
theorem d_Or_shutsBridge_36 : decode b_Or_shutsBridge 36 = .ok (.istore_n 3, 1) := by decide +kernel
set_option maxRecDepth 100000 in
theorem d_Or_shutsBridge_37 : decode b_Or_shutsBridge 37 = .ok (.iload_n 3, 1) := by decide +kernel
set_option maxRecDepth 100000 in
theorem d_Or_shutsBridge_38 : decode b_Or_shutsBridge 38 = .ok (.iconst (-1), 1) := by decide +kernel
set_option maxRecDepth 100000 in
theorem d_Or_shutsBridge_39 : decode b_Or_shutsBridge 39 = .ok (.if_icmp .eq 15, 3) := by decide +kernel
set_option maxRecDepth 100000 in
theorem d_Or_shutsBridge_42 : decode b_Or_shutsBridge 42 = .ok (.iload_n 2, 1) := by decide +kernel
set_option maxRecDepth 100000 in
theorem d_Or_shutsBridge_43 : decode b_Or_shutsBridge 43 = .ok (.invokestatic 66, 3) := by decide +kernel
set_option maxRecDepth 100000 in
theorem d_Or_shutsBridge_46 : decode b_Or_shutsBridge 46 = .ok (.iload_n 3, 1) := by decide +kernel
set_option maxRecDepth 100000 in
theorem d_Or_shutsBridge_47 : decode b_Or_shutsBridge 47 = .ok (.if_icmp .le 7, 3) := by decide +kernel
set_option maxRecDepth 100000 in
theorem d_Or_shutsBridge_50 : decode b_Or_shutsBridge 50 = .ok (.iconst 1, 1) := by decide +kernel
set_option maxRecDepth 100000 in
theorem d_Or_shutsBridge_51 : decode b_Or_shutsBridge 51 = .ok (.goto 4, 3) := by decide +kernel
set_option maxRecDepth 100000 in
theorem d_Or_shutsBridge_54 : decode b_Or_shutsBridge 54 = .ok (.iconst 0, 1) := by decide +kernel
set_option maxRecDepth 100000 in
theorem d_Or_shutsBridge_55 : decode b_Or_shutsBridge 55 = .ok (.ireturn, 1) := by decide +kernel
set_option maxRecDepth 100000 in
theorem d_Or_takesLine_0 : decode b_Or_takesLine 0 = .ok (.iload_n 1, 1) := by decide +kernel
set_option maxRecDepth 100000 in
theorem d_Or_takesLine_1 : decode b_Or_takesLine 1 = .ok (.ifCond .ne 18, 3) := by decide +kernel
set_option maxRecDepth 100000 in
theorem d_Or_takesLine_4 : decode b_Or_takesLine 4 = .ok (.aload_n 0, 1) := by decide +kernel
set_option maxRecDepth 100000 in
theorem d_Or_takesLine_5 : decode b_Or_takesLine 5 = .ok (.getfield 23, 3) := by decide +kernel
set_option maxRecDepth 100000 in
theorem d_Or_takesLine_8 : decode b_Or_takesLine 8 = .ok (.bipush 12, 2) := by decide +kernel
set_option maxRecDepth 100000 in
theorem d_Or_takesLine_10 : decode b_Or_takesLine 10 = .ok (.if_icmp .ge 7, 3) := by decide +kernel
set_option maxRecDepth 100000 in
theorem d_Or_takesLine_13 : decode b_Or_takesLine 13 = .ok (.iconst 1, 1) := by decide +kernel
set_option maxRecDepth 100000 in
theorem d_Or_takesLine_14 : decode b_Or_takesLine 14 = .ok (.goto 4, 3) := by decide +kernel
set_option maxRecDepth 100000 in
theorem d_Or_takesLine_17 : decode b_Or_takesLine 17 = .ok (.iconst 0, 1) := by decide +kernel
set_option maxRecDepth 100000 in
theorem d_Or_takesLine_18 : decode b_Or_takesLine 18 = .ok (.ireturn, 1) := by decide +kernel
set_option maxRecDepth 100000 in
theorem d_Or_takesLine_19 : decode b_Or_takesLine 19 = .ok (.iload_n 1, 1) := by decide +kernel
set_option maxRecDepth 100000 in
theorem d_Or_takesLine_20 : decode b_Or_takesLine 20 = .ok (.iconst 1, 1) := by decide +kernel
set_option maxRecDepth 100000 in
theorem d_Or_takesLine_21 : decode b_Or_takesLine 21 = .ok (.if_icmp .ne 18, 3) := by decide +kernel
set_option maxRecDepth 100000 in
theorem d_Or_takesLine_24 : decode b_Or_takesLine 24 = .ok (.aload_n 0, 1) := by decide +kernel
set_option maxRecDepth 100000 in
theorem d_Or_takesLine_25 : decode b_Or_takesLine 25 = .ok (.getfield 27, 3) := by decide +kernel
set_option maxRecDepth 100000 in
theorem d_Or_takesLine_28 : decode b_Or_takesLine 28 = .ok (.bipush 12, 2) := by decide +kernel
set_option maxRecDepth 100000 in
theorem d_Or_takesLine_30 : decode b_Or_takesLine 30 = .ok (.if_icmp .ge 7, 3) := by decide +kernel
set_option maxRecDepth 100000 in
theorem d_Or_takesLine_33 : decode b_Or_takesLine 33 = .ok (.iconst 1, 1) := by decide +kernel
set_option maxRecDepth 100000 in
theorem d_Or_takesLine_34 : decode b_Or_takesLine 34 = .ok (.goto 4, 3) := by decide +kernel
set_option maxRecDepth 100000 in
theorem d_Or_takesLine_37 : decode b_Or_takesLine 37 = .ok (.iconst 0, 1) := by decide +kernel
set_option maxRecDepth 100000 in
theorem d_Or_takesLine_38 : decode b_Or_takesLine 38 = .ok (.ireturn, 1) := by decide +kernel
set_option maxRecDepth 100000 in
theorem d_Or_takesLine_39 : decode b_Or_takesLine 39 = .ok (.aload_n 0, 1) := by decide +kernel
set_option maxRecDepth 100000 in
theorem d_Or_takesLine_40 : decode b_Or_takesLine 40 = .ok (.getfield 20, 3) := by decide +kernel
set_option maxRecDepth 100000 in
theorem d_Or_takesLine_43 : decode b_Or_takesLine 43 = .ok (.iload_n 1, 1) := by decide +kernel
set_option maxRecDepth 100000 in
theorem d_Or_takesLine_44 : decode b_Or_takesLine 44 = .ok (.iaload, 1) := by decide +kernel
set_option maxRecDepth 100000 in
theorem d_Or_takesLine_45 : decode b_Or_takesLine 45 = .ok (.iconst (-1), 1) := by decide +kernel
set_option maxRecDepth 100000 in
theorem d_Or_takesLine_46 : decode b_Or_takesLine 46 = .ok (.if_icmp .ne 7, 3) := by decide +kernel
set_option maxRecDepth 100000 in
theorem d_Or_takesLine_49 : decode b_Or_takesLine 49 = .ok (.iconst 1, 1) := by decide +kernel
set_option maxRecDepth 100000 in
theorem d_Or_takesLine_50 : decode b_Or_takesLine 50 = .ok (.goto 4, 3) := by decide +kernel
set_option maxRecDepth 100000 in
theorem d_Or_takesLine_53 : decode b_Or_takesLine 53 = .ok (.iconst 0, 1) := by decide +kernel
set_option maxRecDepth 100000 in
theorem d_Or_takesLine_54 : decode b_Or_takesLine 54 = .ok (.ireturn, 1) := by decide +kernel
set_option maxRecDepth 100000 in
theorem d_Pn_init_0 : decode b_Pn_init 0 = .ok (.aload_n 0, 1) := by decide +kernel
set_option maxRecDepth 100000 in
theorem d_Pn_init_1 : decode b_Pn_init 1 = .ok (.invokespecial 1, 3) := by decide +kernel
set_option maxRecDepth 100000 in
theorem d_Pn_init_4 : decode b_Pn_init 4 = .ok (.aload_n 0, 1) := by decide +kernel
set_option maxRecDepth 100000 in
theorem d_Pn_init_5 : decode b_Pn_init 5 = .ok (.iload_n 1, 1) := by decide +kernel
set_option maxRecDepth 100000 in
theorem d_Pn_init_6 : decode b_Pn_init 6 = .ok (.putfield 7, 3) := by decide +kernel
set_option maxRecDepth 100000 in
theorem d_Pn_init_9 : decode b_Pn_init 9 = .ok (.aload_n 0, 1) := by decide +kernel
set_option maxRecDepth 100000 in
theorem d_Pn_init_10 : decode b_Pn_init 10 = .ok (.iload_n 2, 1) := by decide +kernel
set_option maxRecDepth 100000 in
theorem d_Pn_init_11 : decode b_Pn_init 11 = .ok (.putfield 13, 3) := by decide +kernel
set_option maxRecDepth 100000 in
theorem d_Pn_init_14 : decode b_Pn_init 14 = .ok (.return_, 1) := by decide +kernel
set_option maxRecDepth 100000 in
theorem d_Rv_addStairs_0 : decode b_Rv_addStairs 0 = .ok (.aload_n 0, 1) := by decide +kernel
set_option maxRecDepth 100000 in
theorem d_Rv_addStairs_1 : decode b_Rv_addStairs 1 = .ok (.getfield 9, 3) := by decide +kernel
set_option maxRecDepth 100000 in
theorem d_Rv_addStairs_4 : decode b_Rv_addStairs 4 = .ok (.aload_n 0, 1) := by decide +kernel
set_option maxRecDepth 100000 in
theorem d_Rv_addStairs_5 : decode b_Rv_addStairs 5 = .ok (.getfield 35, 3) := by decide +kernel
set_option maxRecDepth 100000 in
theorem d_Rv_addStairs_8 : decode b_Rv_addStairs 8 = .ok (.iload_n 1, 1) := by decide +kernel
set_option maxRecDepth 100000 in
theorem d_Rv_addStairs_9 : decode b_Rv_addStairs 9 = .ok (.iastore, 1) := by decide +kernel
set_option maxRecDepth 100000 in
theorem d_Rv_addStairs_10 : decode b_Rv_addStairs 10 = .ok (.aload_n 0, 1) := by decide +kernel
set_option maxRecDepth 100000 in
theorem d_Rv_addStairs_11 : decode b_Rv_addStairs 11 = .ok (.dup, 1) := by decide +kernel
set_option maxRecDepth 100000 in
theorem d_Rv_addStairs_12 : decode b_Rv_addStairs 12 = .ok (.getfield 35, 3) := by decide +kernel
set_option maxRecDepth 100000 in
theorem d_Rv_addStairs_15 : decode b_Rv_addStairs 15 = .ok (.iconst 1, 1) := by decide +kernel
set_option maxRecDepth 100000 in
theorem d_Rv_addStairs_16 : decode b_Rv_addStairs 16 = .ok (.iadd, 1) := by decide +kernel
set_option maxRecDepth 100000 in
theorem d_Rv_addStairs_17 : decode b_Rv_addStairs 17 = .ok (.putfield 35, 3) := by decide +kernel
set_option maxRecDepth 100000 in
theorem d_Rv_addStairs_20 : decode b_Rv_addStairs 20 = .ok (.aload_n 0, 1) := by decide +kernel
set_option maxRecDepth 100000 in
theorem d_Rv_addStairs_21 : decode b_Rv_addStairs 21 = .ok (.getfield 35, 3) := by decide +kernel
set_option maxRecDepth 100000 in
theorem d_Rv_addStairs_24 : decode b_Rv_addStairs 24 = .ok (.iconst 1, 1) := by decide +kernel
set_option maxRecDepth 100000 in
theorem d_Rv_addStairs_25 : decode b_Rv_addStairs 25 = .ok (.isub, 1) := by decide +kernel
set_option maxRecDepth 100000 in
theorem d_Rv_addStairs_26 : decode b_Rv_addStairs 26 = .ok (.ireturn, 1) := by decide +kernel
set_option maxRecDepth 100000 in
theorem d_Rv_distance_0 : decode b_Rv_distance 0 = .ok (.aload_n 0, 1) := by decide +kernel
set_option maxRecDepth 100000 in
theorem d_Rv_distance_1 : decode b_Rv_distance 1 = .ok (.getfield 9, 3) := by decide +kernel
set_option maxRecDepth 100000 in
theorem d_Rv_distance_4 : decode b_Rv_distance 4 = .ok (.iload_n 2, 1) := by decide +kernel
set_option maxRecDepth 100000 in
theorem d_Rv_distance_5 : decode b_Rv_distance 5 = .ok (.iaload, 1) := by decide +kernel
set_option maxRecDepth 100000 in
theorem d_Rv_distance_6 : decode b_Rv_distance 6 = .ok (.aload_n 0, 1) := by decide +kernel
set_option maxRecDepth 100000 in
theorem d_Rv_distance_7 : decode b_Rv_distance 7 = .ok (.getfield 9, 3) := by decide +kernel
set_option maxRecDepth 100000 in
theorem d_Rv_distance_10 : decode b_Rv_distance 10 = .ok (.iload_n 1, 1) := by decide +kernel
set_option maxRecDepth 100000 in
theorem d_Rv_distance_11 : decode b_Rv_distance 11 = .ok (.iaload, 1) := by decide +kernel
set_option maxRecDepth 100000 in
theorem d_Rv_distance_12 : decode b_Rv_distance 12 = .ok (.isub, 1) := by decide +kernel
set_option maxRecDepth 100000 in
theorem d_Rv_distance_13 : decode b_Rv_distance 13 = .ok (.invokestatic 38, 3) := by decide +kernel
set_option maxRecDepth 100000 in
theorem d_Rv_distance_16 : decode b_Rv_distance 16 = .ok (.ireturn, 1) := by decide +kernel
set_option maxRecDepth 100000 in
theorem d_Rv_drift_0 : decode b_Rv_drift 0 = .ok (.aload_n 0, 1) := by decide +kernel
set_option maxRecDepth 100000 in
theorem d_Rv_drift_1 : decode b_Rv_drift 1 = .ok (.iload_n 3, 1) := by decide +kernel
set_option maxRecDepth 100000 in
theorem d_Rv_drift_2 : decode b_Rv_drift 2 = .ok (.iload 4, 2) := by decide +kernel
set_option maxRecDepth 100000 in
theorem d_Rv_drift_4 : decode b_Rv_drift 4 = .ok (.invokevirtual 54, 3) := by decide +kernel
set_option maxRecDepth 100000 in
theorem d_Rv_drift_7 : decode b_Rv_drift 7 = .ok (.istore 5, 2) := by decide +kernel
set_option maxRecDepth 100000 in
theorem d_Rv_drift_9 : decode b_Rv_drift 9 = .ok (.iload 5, 2) := by decide +kernel
set_option maxRecDepth 100000 in
theorem d_Rv_drift_11 : decode b_Rv_drift 11 = .ok (.ifCond .ne 5, 3) := by decide +kernel
set_option maxRecDepth 100000 in
theorem d_Rv_drift_14 : decode b_Rv_drift 14 = .ok (.iconst 0, 1) := by decide +kernel
set_option maxRecDepth 100000 in
theorem d_Rv_drift_15 : decode b_Rv_drift 15 = .ok (.ireturn, 1) := by decide +kernel
set_option maxRecDepth 100000 in
theorem d_Rv_drift_16 : decode b_Rv_drift 16 = .ok (.iload 5, 2) := by decide +kernel
set_option maxRecDepth 100000 in
theorem d_Rv_drift_18 : decode b_Rv_drift 18 = .ok (.ifCond .le 7, 3) := by decide +kernel
set_option maxRecDepth 100000 in
theorem d_Rv_drift_21 : decode b_Rv_drift 21 = .ok (.iconst 1, 1) := by decide +kernel
set_option maxRecDepth 100000 in
theorem d_Rv_drift_22 : decode b_Rv_drift 22 = .ok (.goto 4, 3) := by decide +kernel
set_option maxRecDepth 100000 in
theorem d_Rv_drift_25 : decode b_Rv_drift 25 = .ok (.iconst 0, 1) := by decide +kernel
set_option maxRecDepth 100000 in
theorem d_Rv_drift_26 : decode b_Rv_drift 26 = .ok (.iload_n 2, 1) := by decide +kernel
set_option maxRecDepth 100000 in
theorem d_Rv_drift_27 : decode b_Rv_drift 27 = .ok (.iload_n 1, 1) := by decide +kernel
set_option maxRecDepth 100000 in
theorem d_Rv_drift_28 : decode b_Rv_drift 28 = .ok (.if_icmp .le 7, 3) := by decide +kernel
set_option maxRecDepth 100000 in
theorem d_Rv_drift_31 : decode b_Rv_drift 31 = .ok (.iconst 1, 1) := by decide +kernel
set_option maxRecDepth 100000 in
theorem d_Rv_drift_32 : decode b_Rv_drift 32 = .ok (.goto 4, 3) := by decide +kernel
set_option maxRecDepth 100000 in
theorem d_Rv_drift_35 : decode b_Rv_drift 35 = .ok (.iconst 0, 1) := by decide +kernel
set_option maxRecDepth 100000 in
theorem d_Rv_drift_36 : decode b_Rv_drift 36 = .ok (.if_icmp .ne 7, 3) := by decide +kernel
set_option maxRecDepth 100000 in
theorem d_Rv_drift_39 : decode b_Rv_drift 39 = .ok (.iconst 1, 1) := by decide +kernel
set_option maxRecDepth 100000 in
theorem d_Rv_drift_40 : decode b_Rv_drift 40 = .ok (.goto 4, 3) := by decide +kernel
set_option maxRecDepth 100000 in
theorem d_Rv_drift_43 : decode b_Rv_drift 43 = .ok (.iconst (-1), 1) := by decide +kernel
set_option maxRecDepth 100000 in
theorem d_Rv_drift_44 : decode b_Rv_drift 44 = .ok (.ireturn, 1) := by decide +kernel
set_option maxRecDepth 100000 in
theorem d_Rv_flowIn_0 : decode b_Rv_flowIn 0 = .ok (.iload_n 2, 1) := by decide +kernel
set_option maxRecDepth 100000 in
theorem d_Rv_flowIn_1 : decode b_Rv_flowIn 1 = .ok (.bipush 11, 2) := by decide +kernel
set_option maxRecDepth 100000 in
theorem d_Rv_flowIn_3 : decode b_Rv_flowIn 3 = .ok (.if_icmp .ne 14, 3) := by decide +kernel
set_option maxRecDepth 100000 in
theorem d_Rv_flowIn_6 : decode b_Rv_flowIn 6 = .ok (.aload_n 0, 1) := by decide +kernel
set_option maxRecDepth 100000 in
theorem d_Rv_flowIn_7 : decode b_Rv_flowIn 7 = .ok (.iload_n 1, 1) := by decide +kernel
set_option maxRecDepth 100000 in
theorem d_Rv_flowIn_8 : decode b_Rv_flowIn 8 = .ok (.iconst 1, 1) := by decide +kernel
set_option maxRecDepth 100000 in
theorem d_Rv_flowIn_9 : decode b_Rv_flowIn 9 = .ok (.iadd, 1) := by decide +kernel
set_option maxRecDepth 100000 in
theorem d_Rv_flowIn_10 : decode b_Rv_flowIn 10 = .ok (.iconst 0, 1) := by decide +kernel
set_option maxRecDepth 100000 in
theorem d_Rv_flowIn_11 : decode b_Rv_flowIn 11 = .ok (.invokevirtual 51, 3) := by decide +kernel
set_option maxRecDepth 100000 in
theorem d_Rv_flowIn_14 : decode b_Rv_flowIn 14 = .ok (.goto 11, 3) := by decide +kernel
set_option maxRecDepth 100000 in
theorem d_Rv_flowIn_17 : decode b_Rv_flowIn 17 = .ok (.aload_n 0, 1) := by decide +kernel
set_option maxRecDepth 100000 in
theorem d_Rv_flowIn_18 : decode b_Rv_flowIn 18 = .ok (.iload_n 1, 1) := by decide +kernel
set_option maxRecDepth 100000 in
theorem d_Rv_flowIn_19 : decode b_Rv_flowIn 19 = .ok (.iload_n 2, 1) := by decide +kernel
set_option maxRecDepth 100000 in
theorem d_Rv_flowIn_20 : decode b_Rv_flowIn 20 = .ok (.iconst 1, 1) := by decide +kernel
set_option maxRecDepth 100000 in
theorem d_Rv_flowIn_21 : decode b_Rv_flowIn 21 = .ok (.iadd, 1) := by decide +kernel
set_option maxRecDepth 100000 in
theorem d_Rv_flowIn_22 : decode b_Rv_flowIn 22 = .ok (.invokevirtual 51, 3) := by decide +kernel
set_option maxRecDepth 100000 in
theorem d_Rv_flowIn_25 : decode b_Rv_flowIn 25 = .ok (.istore_n 3, 1) := by decide +kernel
set_option maxRecDepth 100000 in
theorem d_Rv_flowIn_26 : decode b_Rv_flowIn 26 = .ok (.iload_n 3, 1) := by decide +kernel
set_option maxRecDepth 100000 in
theorem d_Rv_flowIn_27 : decode b_Rv_flowIn 27 = .ok (.aload_n 0, 1) := by decide +kernel
set_option maxRecDepth 100000 in
theorem d_Rv_flowIn_28 : decode b_Rv_flowIn 28 = .ok (.iload_n 1, 1) := by decide +kernel
set_option maxRecDepth 100000 in
theorem d_Rv_flowIn_29 : decode b_Rv_flowIn 29 = .ok (.iload_n 2, 1) := by decide +kernel
set_option maxRecDepth 100000 in
theorem d_Rv_flowIn_30 : decode b_Rv_flowIn 30 = .ok (.invokevirtual 51, 3) := by decide +kernel
set_option maxRecDepth 100000 in
theorem d_Rv_flowIn_33 : decode b_Rv_flowIn 33 = .ok (.isub, 1) := by decide +kernel
set_option maxRecDepth 100000 in
theorem d_Rv_flowIn_34 : decode b_Rv_flowIn 34 = .ok (.ireturn, 1) := by decide +kernel
set_option maxRecDepth 100000 in
theorem d_Rv_hasStairs_0 : decode b_Rv_hasStairs 0 = .ok (.iload_n 1, 1) := by decide +kernel
set_option maxRecDepth 100000 in
theorem d_Rv_hasStairs_1 : decode b_Rv_hasStairs 1 = .ok (.ifCond .lt 15, 3) := by decide +kernel
set_option maxRecDepth 100000 in
theorem d_Rv_hasStairs_4 : decode b_Rv_hasStairs 4 = .ok (.iload_n 1, 1) := by decide +kernel
set_option maxRecDepth 100000 in
theorem d_Rv_hasStairs_5 : decode b_Rv_hasStairs 5 = .ok (.aload_n 0, 1) := by decide +kernel
set_option maxRecDepth 100000 in
theorem d_Rv_hasStairs_6 : decode b_Rv_hasStairs 6 = .ok (.getfield 35, 3) := by decide +kernel
set_option maxRecDepth 100000 in
theorem d_Rv_hasStairs_9 : decode b_Rv_hasStairs 9 = .ok (.if_icmp .ge 7, 3) := by decide +kernel
set_option maxRecDepth 100000 in
theorem d_Rv_hasStairs_12 : decode b_Rv_hasStairs 12 = .ok (.iconst 1, 1) := by decide +kernel
set_option maxRecDepth 100000 in
theorem d_Rv_hasStairs_13 : decode b_Rv_hasStairs 13 = .ok (.goto 4, 3) := by decide +kernel
set_option maxRecDepth 100000 in
theorem d_Rv_hasStairs_16 : decode b_Rv_hasStairs 16 = .ok (.iconst 0, 1) := by decide +kernel
set_option maxRecDepth 100000 in
theorem d_Rv_hasStairs_17 : decode b_Rv_hasStairs 17 = .ok (.ireturn, 1) := by decide +kernel
set_option maxRecDepth 100000 in
theorem d_Rv_height_0 : decode b_Rv_height 0 = .ok (.iload_n 1, 1) := by decide +kernel
set_option maxRecDepth 100000 in
theorem d_Rv_height_1 : decode b_Rv_height 1 = .ok (.sipush 500, 3) := by decide +kernel
set_option maxRecDepth 100000 in
theorem d_Rv_height_4 : decode b_Rv_height 4 = .ok (.if_icmp .ge 12, 3) := by decide +kernel
set_option maxRecDepth 100000 in
theorem d_Rv_height_7 : decode b_Rv_height 7 = .ok (.aload_n 0, 1) := by decide +kernel
set_option maxRecDepth 100000 in
theorem d_Rv_height_8 : decode b_Rv_height 8 = .ok (.getfield 19, 3) := by decide +kernel
set_option maxRecDepth 100000 in
theorem d_Rv_height_11 : decode b_Rv_height 11 = .ok (.iload_n 1, 1) := by decide +kernel
set_option maxRecDepth 100000 in
theorem d_Rv_height_12 : decode b_Rv_height 12 = .ok (.aaload, 1) := by decide +kernel
set_option maxRecDepth 100000 in
theorem d_Rv_height_13 : decode b_Rv_height 13 = .ok (.goto 4, 3) := by decide +kernel
set_option maxRecDepth 100000 in
theorem d_Rv_height_16 : decode b_Rv_height 16 = .ok (.aconst_null, 1) := by decide +kernel
set_option maxRecDepth 100000 in
theorem d_Rv_height_17 : decode b_Rv_height 17 = .ok (.astore_n 3, 1) := by decide +kernel
set_option maxRecDepth 100000 in
theorem d_Rv_height_18 : decode b_Rv_height 18 = .ok (.aload_n 3, 1) := by decide +kernel
set_option maxRecDepth 100000 in
theorem d_Rv_height_19 : decode b_Rv_height 19 = .ok (.ifnonnull 17, 3) := by decide +kernel
set_option maxRecDepth 100000 in
theorem d_Rv_height_22 : decode b_Rv_height 22 = .ok (.aload_n 0, 1) := by decide +kernel
set_option maxRecDepth 100000 in
theorem d_Rv_height_23 : decode b_Rv_height 23 = .ok (.getfield 15, 3) := by decide +kernel
set_option maxRecDepth 100000 in
theorem d_Rv_height_26 : decode b_Rv_height 26 = .ok (.iload_n 2, 1) := by decide +kernel
set_option maxRecDepth 100000 in
theorem d_Rv_height_27 : decode b_Rv_height 27 = .ok (.iload_n 1, 1) := by decide +kernel
set_option maxRecDepth 100000 in
theorem d_Rv_height_28 : decode b_Rv_height 28 = .ok (.iadd, 1) := by decide +kernel
set_option maxRecDepth 100000 in
theorem d_Rv_height_29 : decode b_Rv_height 29 = .ok (.bipush 12, 2) := by decide +kernel
set_option maxRecDepth 100000 in
theorem d_Rv_height_31 : decode b_Rv_height 31 = .ok (.irem, 1) := by decide +kernel
set_option maxRecDepth 100000 in
theorem d_Rv_height_32 : decode b_Rv_height 32 = .ok (.iaload, 1) := by decide +kernel
set_option maxRecDepth 100000 in
theorem d_Rv_height_33 : decode b_Rv_height 33 = .ok (.goto 6, 3) := by decide +kernel
set_option maxRecDepth 100000 in
theorem d_Rv_height_36 : decode b_Rv_height 36 = .ok (.aload_n 3, 1) := by decide +kernel
set_option maxRecDepth 100000 in
theorem d_Rv_height_37 : decode b_Rv_height 37 = .ok (.iload_n 2, 1) := by decide +kernel
set_option maxRecDepth 100000 in
theorem d_Rv_height_38 : decode b_Rv_height 38 = .ok (.iaload, 1) := by decide +kernel
set_option maxRecDepth 100000 in
theorem d_Rv_height_39 : decode b_Rv_height 39 = .ok (.ireturn, 1) := by decide +kernel
set_option maxRecDepth 100000 in
theorem d_Rv_highest_0 : decode b_Rv_highest 0 = .ok (.aload_n 0, 1) := by decide +kernel
set_option maxRecDepth 100000 in
theorem d_Rv_highest_1 : decode b_Rv_highest 1 = .ok (.getfield 35, 3) := by decide +kernel
set_option maxRecDepth 100000 in
theorem d_Rv_highest_4 : decode b_Rv_highest 4 = .ok (.ifCond .ne 7, 3) := by decide +kernel
set_option maxRecDepth 100000 in
theorem d_Rv_highest_7 : decode b_Rv_highest 7 = .ok (.iconst (-1), 1) := by decide +kernel
set_option maxRecDepth 100000 in
theorem d_Rv_highest_8 : decode b_Rv_highest 8 = .ok (.goto 14, 3) := by decide +kernel
set_option maxRecDepth 100000 in
theorem d_Rv_highest_11 : decode b_Rv_highest 11 = .ok (.aload_n 0, 1) := by decide +kernel
set_option maxRecDepth 100000 in
theorem d_Rv_highest_12 : decode b_Rv_highest 12 = .ok (.getfield 9, 3) := by decide +kernel
set_option maxRecDepth 100000 in
theorem d_Rv_highest_15 : decode b_Rv_highest 15 = .ok (.aload_n 0, 1) := by decide +kernel
set_option maxRecDepth 100000 in
theorem d_Rv_highest_16 : decode b_Rv_highest 16 = .ok (.getfield 35, 3) := by decide +kernel
set_option maxRecDepth 100000 in
theorem d_Rv_highest_19 : decode b_Rv_highest 19 = .ok (.iconst 1, 1) := by decide +kernel
set_option maxRecDepth 100000 in
theorem d_Rv_highest_20 : decode b_Rv_highest 20 = .ok (.isub, 1) := by decide +kernel
set_option maxRecDepth 100000 in
theorem d_Rv_highest_21 : decode b_Rv_highest 21 = .ok (.iaload, 1) := by decide +kernel
set_option maxRecDepth 100000 in
theorem d_Rv_highest_22 : decode b_Rv_highest 22 = .ok (.ireturn, 1) := by decide +kernel
set_option maxRecDepth 100000 in
theorem d_Rv_isFrozen_0 : decode b_Rv_isFrozen 0 = .ok (.iload_n 1, 1) := by decide +kernel
set_option maxRecDepth 100000 in
theorem d_Rv_isFrozen_1 : decode b_Rv_isFrozen 1 = .ok (.invokestatic 31, 3) := by decide +kernel
set_option maxRecDepth 100000 in
theorem d_Rv_isFrozen_4 : decode b_Rv_isFrozen 4 = .ok (.ifCond .eq 16, 3) := by decide +kernel
set_option maxRecDepth 100000 in
theorem d_Rv_isFrozen_7 : decode b_Rv_isFrozen 7 = .ok (.aload_n 0, 1) := by decide +kernel
set_option maxRecDepth 100000 in
theorem d_Rv_isFrozen_8 : decode b_Rv_isFrozen 8 = .ok (.getfield 23, 3) := by decide +kernel
set_option maxRecDepth 100000 in
theorem d_Rv_isFrozen_11 : decode b_Rv_isFrozen 11 = .ok (.iload_n 1, 1) := by decide +kernel
set_option maxRecDepth 100000 in
theorem d_Rv_isFrozen_12 : decode b_Rv_isFrozen 12 = .ok (.baload, 1) := by decide +kernel
set_option maxRecDepth 100000 in
theorem d_Rv_isFrozen_13 : decode b_Rv_isFrozen 13 = .ok (.ifCond .eq 7, 3) := by decide +kernel
set_option maxRecDepth 100000 in
theorem d_Rv_isFrozen_16 : decode b_Rv_isFrozen 16 = .ok (.iconst 1, 1) := by decide +kernel
set_option maxRecDepth 100000 in
theorem d_Rv_isFrozen_17 : decode b_Rv_isFrozen 17 = .ok (.goto 4, 3) := by decide +kernel
set_option maxRecDepth 100000 in
theorem d_Rv_isFrozen_20 : decode b_Rv_isFrozen 20 = .ok (.iconst 0, 1) := by decide +kernel
set_option maxRecDepth 100000 in
theorem d_Rv_isFrozen_21 : decode b_Rv_isFrozen 21 = .ok (.ireturn, 1) := by decide +kernel
set_option maxRecDepth 100000 in
theorem d_Rv_passesBridge_0 : decode b_Rv_passesBridge 0 = .ok (.aload_n 0, 1) := by decide +kernel
set_option maxRecDepth 100000 in
theorem d_Rv_passesBridge_1 : decode b_Rv_passesBridge 1 = .ok (.getfield 27, 3) := by decide +kernel
set_option maxRecDepth 100000 in
theorem d_Rv_passesBridge_4 : decode b_Rv_passesBridge 4 = .ok (.iconst (-1), 1) := by decide +kernel
set_option maxRecDepth 100000 in
theorem d_Rv_passesBridge_5 : decode b_Rv_passesBridge 5 = .ok (.if_icmp .eq 31, 3) := by decide +kernel
set_option maxRecDepth 100000 in
theorem d_Rv_passesBridge_8 : decode b_Rv_passesBridge 8 = .ok (.iload_n 1, 1) := by decide +kernel
set_option maxRecDepth 100000 in
theorem d_Rv_passesBridge_9 : decode b_Rv_passesBridge 9 = .ok (.iload_n 2, 1) := by decide +kernel
set_option maxRecDepth 100000 in
theorem d_Rv_passesBridge_10 : decode b_Rv_passesBridge 10 = .ok (.invokestatic 44, 3) := by decide +kernel
set_option maxRecDepth 100000 in
theorem d_Rv_passesBridge_13 : decode b_Rv_passesBridge 13 = .ok (.aload_n 0, 1) := by decide +kernel
set_option maxRecDepth 100000 in
theorem d_Rv_passesBridge_14 : decode b_Rv_passesBridge 14 = .ok (.getfield 27, 3) := by decide +kernel
set_option maxRecDepth 100000 in
theorem d_Rv_passesBridge_17 : decode b_Rv_passesBridge 17 = .ok (.if_icmp .gt 19, 3) := by decide +kernel
set_option maxRecDepth 100000 in
theorem d_Rv_passesBridge_20 : decode b_Rv_passesBridge 20 = .ok (.iload_n 1, 1) := by decide +kernel
set_option maxRecDepth 100000 in
theorem d_Rv_passesBridge_21 : decode b_Rv_passesBridge 21 = .ok (.iload_n 2, 1) := by decide +kernel
set_option maxRecDepth 100000 in
theorem d_Rv_passesBridge_22 : decode b_Rv_passesBridge 22 = .ok (.invokestatic 48, 3) := by decide +kernel
set_option maxRecDepth 100000 in
theorem d_Rv_passesBridge_25 : decode b_Rv_passesBridge 25 = .ok (.aload_n 0, 1) := by decide +kernel
set_option maxRecDepth 100000 in
theorem d_Rv_passesBridge_26 : decode b_Rv_passesBridge 26 = .ok (.getfield 27, 3) := by decide +kernel
set_option maxRecDepth 100000 in
theorem d_Rv_passesBridge_29 : decode b_Rv_passesBridge 29 = .ok (.if_icmp .le 7, 3) := by decide +kernel
set_option maxRecDepth 100000 in
theorem d_Rv_passesBridge_32 : decode b_Rv_passesBridge 32 = .ok (.iconst 1, 1) := by decide +kernel
set_option maxRecDepth 100000 in
theorem d_Rv_passesBridge_33 : decode b_Rv_passesBridge 33 = .ok (.goto 4, 3) := by decide +kernel
set_option maxRecDepth 100000 in
theorem d_Rv_passesBridge_36 : decode b_Rv_passesBridge 36 = .ok (.iconst 0, 1) := by decide +kernel
set_option maxRecDepth 100000 in
theorem d_Rv_passesBridge_37 : decode b_Rv_passesBridge 37 = .ok (.ireturn, 1) := by decide +kernel
set_option maxRecDepth 100000 in
theorem d_Rv_tell_0 : decode b_Rv_tell 0 = .ok (.aload_n 0, 1) := by decide +kernel
set_option maxRecDepth 100000 in
theorem d_Rv_tell_1 : decode b_Rv_tell 1 = .ok (.getfield 19, 3) := by decide +kernel
set_option maxRecDepth 100000 in
theorem d_Rv_tell_4 : decode b_Rv_tell 4 = .ok (.iload_n 1, 1) := by decide +kernel
set_option maxRecDepth 100000 in
theorem d_Rv_tell_5 : decode b_Rv_tell 5 = .ok (.aaload, 1) := by decide +kernel
set_option maxRecDepth 100000 in
theorem d_Rv_tell_6 : decode b_Rv_tell 6 = .ok (.astore 4, 2) := by decide +kernel
set_option maxRecDepth 100000 in
theorem d_Rv_tell_8 : decode b_Rv_tell 8 = .ok (.aload 4, 2) := by decide +kernel
set_option maxRecDepth 100000 in
theorem d_Rv_tell_10 : decode b_Rv_tell 10 = .ok (.ifnonnull 50, 3) := by decide +kernel
set_option maxRecDepth 100000 in
theorem d_Rv_tell_13 : decode b_Rv_tell 13 = .ok (.bipush 12, 2) := by decide +kernel
set_option maxRecDepth 100000 in
theorem d_Rv_tell_15 : decode b_Rv_tell 15 = .ok (.newarray .int, 2) := by decide +kernel
set_option maxRecDepth 100000 in
theorem d_Rv_tell_17 : decode b_Rv_tell 17 = .ok (.astore 4, 2) := by decide +kernel
set_option maxRecDepth 100000 in
theorem d_Rv_tell_19 : decode b_Rv_tell 19 = .ok (.iconst 0, 1) := by decide +kernel
set_option maxRecDepth 100000 in
theorem d_Rv_tell_20 : decode b_Rv_tell 20 = .ok (.istore 5, 2) := by decide +kernel
set_option maxRecDepth 100000 in
theorem d_Rv_tell_22 : decode b_Rv_tell 22 = .ok (.iload 5, 2) := by decide +kernel
set_option maxRecDepth 100000 in
theorem d_Rv_tell_24 : decode b_Rv_tell 24 = .ok (.bipush 12, 2) := by decide +kernel
set_option maxRecDepth 100000 in
theorem d_Rv_tell_26 : decode b_Rv_tell 26 = .ok (.if_icmp .ge 26, 3) := by decide +kernel
set_option maxRecDepth 100000 in
theorem d_Rv_tell_29 : decode b_Rv_tell 29 = .ok (.aload 4, 2) := by decide +kernel
set_option maxRecDepth 100000 in
theorem d_Rv_tell_31 : decode b_Rv_tell 31 = .ok (.iload 5, 2) := by decide +kernel
set_option maxRecDepth 100000 in
theorem d_Rv_tell_33 : decode b_Rv_tell 33 = .ok (.aload_n 0, 1) := by decide +kernel
set_option maxRecDepth 100000 in
theorem d_Rv_tell_34 : decode b_Rv_tell 34 = .ok (.getfield 15, 3) := by decide +kernel
set_option maxRecDepth 100000 in
theorem d_Rv_tell_37 : decode b_Rv_tell 37 = .ok (.iload 5, 2) := by decide +kernel
set_option maxRecDepth 100000 in
theorem d_Rv_tell_39 : decode b_Rv_tell 39 = .ok (.iload_n 1, 1) := by decide +kernel
set_option maxRecDepth 100000 in
theorem d_Rv_tell_40 : decode b_Rv_tell 40 = .ok (.iadd, 1) := by decide +kernel
set_option maxRecDepth 100000 in
theorem d_Rv_tell_41 : decode b_Rv_tell 41 = .ok (.bipush 12, 2) := by decide +kernel
set_option maxRecDepth 100000 in
theorem d_Rv_tell_43 : decode b_Rv_tell 43 = .ok (.irem, 1) := by decide +kernel
set_option maxRecDepth 100000 in
theorem d_Rv_tell_44 : decode b_Rv_tell 44 = .ok (.iaload, 1) := by decide +kernel
set_option maxRecDepth 100000 in
theorem d_Rv_tell_45 : decode b_Rv_tell 45 = .ok (.iastore, 1) := by decide +kernel
set_option maxRecDepth 100000 in
theorem d_Rv_tell_46 : decode b_Rv_tell 46 = .ok (.iinc 5 1, 3) := by decide +kernel
set_option maxRecDepth 100000 in
theorem d_Rv_tell_49 : decode b_Rv_tell 49 = .ok (.goto (-27), 3) := by decide +kernel
set_option maxRecDepth 100000 in
theorem d_Rv_tell_52 : decode b_Rv_tell 52 = .ok (.aload_n 0, 1) := by decide +kernel
set_option maxRecDepth 100000 in
theorem d_Rv_tell_53 : decode b_Rv_tell 53 = .ok (.getfield 19, 3) := by decide +kernel
set_option maxRecDepth 100000 in
theorem d_Rv_tell_56 : decode b_Rv_tell 56 = .ok (.iload_n 1, 1) := by decide +kernel
set_option maxRecDepth 100000 in
theorem d_Rv_tell_57 : decode b_Rv_tell 57 = .ok (.aload 4, 2) := by decide +kernel
set_option maxRecDepth 100000 in
theorem d_Rv_tell_59 : decode b_Rv_tell 59 = .ok (.aastore, 1) := by decide +kernel
set_option maxRecDepth 100000 in
theorem d_Rv_tell_60 : decode b_Rv_tell 60 = .ok (.aload 4, 2) := by decide +kernel
set_option maxRecDepth 100000 in
theorem d_Rv_tell_62 : decode b_Rv_tell 62 = .ok (.iload_n 2, 1) := by decide +kernel
set_option maxRecDepth 100000 in
theorem d_Rv_tell_63 : decode b_Rv_tell 63 = .ok (.iload_n 3, 1) := by decide +kernel
set_option maxRecDepth 100000 in
theorem d_Rv_tell_64 : decode b_Rv_tell 64 = .ok (.iastore, 1) := by decide +kernel
set_option maxRecDepth 100000 in
theorem d_Rv_tell_65 : decode b_Rv_tell 65 = .ok (.return_, 1) := by decide +kernel
set_option maxRecDepth 100000 in
theorem d_Tp_append_0 : decode b_Tp_append 0 = .ok (.aload_n 0, 1) := by decide +kernel
set_option maxRecDepth 100000 in
theorem d_Tp_append_1 : decode b_Tp_append 1 = .ok (.getfield 15, 3) := by decide +kernel
set_option maxRecDepth 100000 in
theorem d_Tp_append_4 : decode b_Tp_append 4 = .ok (.sipush 396, 3) := by decide +kernel
set_option maxRecDepth 100000 in
theorem d_Tp_append_7 : decode b_Tp_append 7 = .ok (.if_icmp .le 4, 3) := by decide +kernel
set_option maxRecDepth 100000 in
theorem d_Tp_append_10 : decode b_Tp_append 10 = .ok (.return_, 1) := by decide +kernel
set_option maxRecDepth 100000 in
theorem d_Tp_append_11 : decode b_Tp_append 11 = .ok (.aload_n 0, 1) := by decide +kernel
set_option maxRecDepth 100000 in
theorem d_Tp_append_12 : decode b_Tp_append 12 = .ok (.getfield 9, 3) := by decide +kernel
set_option maxRecDepth 100000 in
theorem d_Tp_append_15 : decode b_Tp_append 15 = .ok (.aload_n 0, 1) := by decide +kernel
set_option maxRecDepth 100000 in
theorem d_Tp_append_16 : decode b_Tp_append 16 = .ok (.getfield 15, 3) := by decide +kernel
set_option maxRecDepth 100000 in
theorem d_Tp_append_19 : decode b_Tp_append 19 = .ok (.iload_n 1, 1) := by decide +kernel
set_option maxRecDepth 100000 in
theorem d_Tp_append_20 : decode b_Tp_append 20 = .ok (.bipush 24, 2) := by decide +kernel
set_option maxRecDepth 100000 in
theorem d_Tp_append_22 : decode b_Tp_append 22 = .ok (.iushr, 1) := by decide +kernel
set_option maxRecDepth 100000 in
theorem d_Tp_append_23 : decode b_Tp_append 23 = .ok (.i2b, 1) := by decide +kernel
set_option maxRecDepth 100000 in
theorem d_Tp_append_24 : decode b_Tp_append 24 = .ok (.bastore, 1) := by decide +kernel
set_option maxRecDepth 100000 in
theorem d_Tp_append_25 : decode b_Tp_append 25 = .ok (.aload_n 0, 1) := by decide +kernel
set_option maxRecDepth 100000 in
theorem d_Tp_append_26 : decode b_Tp_append 26 = .ok (.getfield 9, 3) := by decide +kernel
set_option maxRecDepth 100000 in
theorem d_Tp_append_29 : decode b_Tp_append 29 = .ok (.aload_n 0, 1) := by decide +kernel
set_option maxRecDepth 100000 in
theorem d_Tp_append_30 : decode b_Tp_append 30 = .ok (.getfield 15, 3) := by decide +kernel
set_option maxRecDepth 100000 in
theorem d_Tp_append_33 : decode b_Tp_append 33 = .ok (.iconst 1, 1) := by decide +kernel
set_option maxRecDepth 100000 in
theorem d_Tp_append_34 : decode b_Tp_append 34 = .ok (.iadd, 1) := by decide +kernel
set_option maxRecDepth 100000 in
theorem d_Tp_append_35 : decode b_Tp_append 35 = .ok (.iload_n 1, 1) := by decide +kernel
set_option maxRecDepth 100000 in
theorem d_Tp_append_36 : decode b_Tp_append 36 = .ok (.bipush 16, 2) := by decide +kernel
set_option maxRecDepth 100000 in
theorem d_Tp_append_38 : decode b_Tp_append 38 = .ok (.iushr, 1) := by decide +kernel
set_option maxRecDepth 100000 in
theorem d_Tp_append_39 : decode b_Tp_append 39 = .ok (.i2b, 1) := by decide +kernel
set_option maxRecDepth 100000 in
theorem d_Tp_append_40 : decode b_Tp_append 40 = .ok (.bastore, 1) := by decide +kernel
set_option maxRecDepth 100000 in
theorem d_Tp_append_41 : decode b_Tp_append 41 = .ok (.aload_n 0, 1) := by decide +kernel
set_option maxRecDepth 100000 in
theorem d_Tp_append_42 : decode b_Tp_append 42 = .ok (.getfield 9, 3) := by decide +kernel
set_option maxRecDepth 100000 in
theorem d_Tp_append_45 : decode b_Tp_append 45 = .ok (.aload_n 0, 1) := by decide +kernel
set_option maxRecDepth 100000 in
theorem d_Tp_append_46 : decode b_Tp_append 46 = .ok (.getfield 15, 3) := by decide +kernel
set_option maxRecDepth 100000 in
theorem d_Tp_append_49 : decode b_Tp_append 49 = .ok (.iconst 2, 1) := by decide +kernel
set_option maxRecDepth 100000 in
theorem d_Tp_append_50 : decode b_Tp_append 50 = .ok (.iadd, 1) := by decide +kernel
set_option maxRecDepth 100000 in
theorem d_Tp_append_51 : decode b_Tp_append 51 = .ok (.iload_n 1, 1) := by decide +kernel
set_option maxRecDepth 100000 in
theorem d_Tp_append_52 : decode b_Tp_append 52 = .ok (.bipush 8, 2) := by decide +kernel
set_option maxRecDepth 100000 in
theorem d_Tp_append_54 : decode b_Tp_append 54 = .ok (.iushr, 1) := by decide +kernel
set_option maxRecDepth 100000 in
theorem d_Tp_append_55 : decode b_Tp_append 55 = .ok (.i2b, 1) := by decide +kernel
set_option maxRecDepth 100000 in
theorem d_Tp_append_56 : decode b_Tp_append 56 = .ok (.bastore, 1) := by decide +kernel
set_option maxRecDepth 100000 in
theorem d_Tp_append_57 : decode b_Tp_append 57 = .ok (.aload_n 0, 1) := by decide +kernel
set_option maxRecDepth 100000 in
theorem d_Tp_append_58 : decode b_Tp_append 58 = .ok (.getfield 9, 3) := by decide +kernel
set_option maxRecDepth 100000 in
theorem d_Tp_append_61 : decode b_Tp_append 61 = .ok (.aload_n 0, 1) := by decide +kernel
set_option maxRecDepth 100000 in
theorem d_Tp_append_62 : decode b_Tp_append 62 = .ok (.getfield 15, 3) := by decide +kernel
set_option maxRecDepth 100000 in
theorem d_Tp_append_65 : decode b_Tp_append 65 = .ok (.iconst 3, 1) := by decide +kernel
set_option maxRecDepth 100000 in
theorem d_Tp_append_66 : decode b_Tp_append 66 = .ok (.iadd, 1) := by decide +kernel
set_option maxRecDepth 100000 in
theorem d_Tp_append_67 : decode b_Tp_append 67 = .ok (.iload_n 1, 1) := by decide +kernel
set_option maxRecDepth 100000 in
theorem d_Tp_append_68 : decode b_Tp_append 68 = .ok (.i2b, 1) := by decide +kernel
set_option maxRecDepth 100000 in
theorem d_Tp_append_69 : decode b_Tp_append 69 = .ok (.bastore, 1) := by decide +kernel
set_option maxRecDepth 100000 in
theorem d_Tp_append_70 : decode b_Tp_append 70 = .ok (.aload_n 0, 1) := by decide +kernel
set_option maxRecDepth 100000 in
theorem d_Tp_append_71 : decode b_Tp_append 71 = .ok (.dup, 1) := by decide +kernel
set_option maxRecDepth 100000 in
theorem d_Tp_append_72 : decode b_Tp_append 72 = .ok (.getfield 15, 3) := by decide +kernel
set_option maxRecDepth 100000 in
theorem d_Tp_append_75 : decode b_Tp_append 75 = .ok (.iconst 4, 1) := by decide +kernel
set_option maxRecDepth 100000 in
theorem d_Tp_append_76 : decode b_Tp_append 76 = .ok (.iadd, 1) := by decide +kernel
set_option maxRecDepth 100000 in
theorem d_Tp_append_77 : decode b_Tp_append 77 = .ok (.putfield 15, 3) := by decide +kernel
set_option maxRecDepth 100000 in
theorem d_Tp_append_80 : decode b_Tp_append 80 = .ok (.return_, 1) := by decide +kernel
set_option maxRecDepth 100000 in
theorem d_Tp_hasRoomForFive_0 : decode b_Tp_hasRoomForFive 0 = .ok (.aload_n 0, 1) := by decide +kernel
set_option maxRecDepth 100000 in
theorem d_Tp_hasRoomForFive_1 : decode b_Tp_hasRoomForFive 1 = .ok (.getfield 15, 3) := by decide +kernel
set_option maxRecDepth 100000 in
theorem d_Tp_hasRoomForFive_4 : decode b_Tp_hasRoomForFive 4 = .ok (.sipush 380, 3) := by decide +kernel
set_option maxRecDepth 100000 in
theorem d_Tp_hasRoomForFive_7 : decode b_Tp_hasRoomForFive 7 = .ok (.if_icmp .gt 7, 3) := by decide +kernel
set_option maxRecDepth 100000 in
theorem d_Tp_hasRoomForFive_10 : decode b_Tp_hasRoomForFive 10 = .ok (.iconst 1, 1) := by decide +kernel
set_option maxRecDepth 100000 in
theorem d_Tp_hasRoomForFive_11 : decode b_Tp_hasRoomForFive 11 = .ok (.goto 4, 3) := by decide +kernel
set_option maxRecDepth 100000 in
theorem d_Tp_hasRoomForFive_14 : decode b_Tp_hasRoomForFive 14 = .ok (.iconst 0, 1) := by decide +kernel
set_option maxRecDepth 100000 in
theorem d_Tp_hasRoomForFive_15 : decode b_Tp_hasRoomForFive 15 = .ok (.ireturn, 1) := by decide +kernel
set_option maxRecDepth 100000 in
theorem d_Tp_isDigit_0 : decode b_Tp_isDigit 0 = .ok (.iload_n 0, 1) := by decide +kernel
set_option maxRecDepth 100000 in
theorem d_Tp_isDigit_1 : decode b_Tp_isDigit 1 = .ok (.bipush 48, 2) := by decide +kernel
set_option maxRecDepth 100000 in
theorem d_Tp_isDigit_3 : decode b_Tp_isDigit 3 = .ok (.if_icmp .lt 13, 3) := by decide +kernel
set_option maxRecDepth 100000 in
theorem d_Tp_isDigit_6 : decode b_Tp_isDigit 6 = .ok (.iload_n 0, 1) := by decide +kernel
set_option maxRecDepth 100000 in
theorem d_Tp_isDigit_7 : decode b_Tp_isDigit 7 = .ok (.bipush 57, 2) := by decide +kernel
set_option maxRecDepth 100000 in
theorem d_Tp_isDigit_9 : decode b_Tp_isDigit 9 = .ok (.if_icmp .gt 7, 3) := by decide +kernel
set_option maxRecDepth 100000 in
theorem d_Tp_isDigit_12 : decode b_Tp_isDigit 12 = .ok (.iconst 1, 1) := by decide +kernel
set_option maxRecDepth 100000 in
theorem d_Tp_isDigit_13 : decode b_Tp_isDigit 13 = .ok (.goto 4, 3) := by decide +kernel
set_option maxRecDepth 100000 in
theorem d_Tp_isDigit_16 : decode b_Tp_isDigit 16 = .ok (.iconst 0, 1) := by decide +kernel
set_option maxRecDepth 100000 in
theorem d_Tp_isDigit_17 : decode b_Tp_isDigit 17 = .ok (.ireturn, 1) := by decide +kernel
set_option maxRecDepth 100000 in
theorem d_Tp_isLetter_0 : decode b_Tp_isLetter 0 = .ok (.iload_n 0, 1) := by decide +kernel
set_option maxRecDepth 100000 in
theorem d_Tp_isLetter_1 : decode b_Tp_isLetter 1 = .ok (.bipush 97, 2) := by decide +kernel
set_option maxRecDepth 100000 in
theorem d_Tp_isLetter_3 : decode b_Tp_isLetter 3 = .ok (.if_icmp .lt 13, 3) := by decide +kernel
set_option maxRecDepth 100000 in
theorem d_Tp_isLetter_6 : decode b_Tp_isLetter 6 = .ok (.iload_n 0, 1) := by decide +kernel
set_option maxRecDepth 100000 in
theorem d_Tp_isLetter_7 : decode b_Tp_isLetter 7 = .ok (.bipush 122, 2) := by decide +kernel
set_option maxRecDepth 100000 in
theorem d_Tp_isLetter_9 : decode b_Tp_isLetter 9 = .ok (.if_icmp .gt 7, 3) := by decide +kernel
set_option maxRecDepth 100000 in
theorem d_Tp_isLetter_12 : decode b_Tp_isLetter 12 = .ok (.iconst 1, 1) := by decide +kernel
set_option maxRecDepth 100000 in
theorem d_Tp_isLetter_13 : decode b_Tp_isLetter 13 = .ok (.goto 4, 3) := by decide +kernel
set_option maxRecDepth 100000 in
theorem d_Tp_isLetter_16 : decode b_Tp_isLetter 16 = .ok (.iconst 0, 1) := by decide +kernel
set_option maxRecDepth 100000 in
theorem d_Tp_isLetter_17 : decode b_Tp_isLetter 17 = .ok (.ireturn, 1) := by decide +kernel
set_option maxRecDepth 100000 in
theorem d_Tp_isWord_0 : decode b_Tp_isWord 0 = .ok (.aload_n 0, 1) := by decide +kernel
set_option maxRecDepth 100000 in
theorem d_Tp_isWord_1 : decode b_Tp_isWord 1 = .ok (.getfield 24, 3) := by decide +kernel
set_option maxRecDepth 100000 in
theorem d_Tp_isWord_4 : decode b_Tp_isWord 4 = .ok (.aload_n 0, 1) := by decide +kernel
set_option maxRecDepth 100000 in
theorem d_Tp_isWord_5 : decode b_Tp_isWord 5 = .ok (.getfield 34, 3) := by decide +kernel
set_option maxRecDepth 100000 in
theorem d_Tp_isWord_8 : decode b_Tp_isWord 8 = .ok (.isub, 1) := by decide +kernel
set_option maxRecDepth 100000 in
theorem d_Tp_isWord_9 : decode b_Tp_isWord 9 = .ok (.aload_n 1, 1) := by decide +kernel
set_option maxRecDepth 100000 in
theorem d_Tp_isWord_10 : decode b_Tp_isWord 10 = .ok (.invokevirtual 88, 3) := by decide +kernel
set_option maxRecDepth 100000 in
theorem d_Tp_isWord_13 : decode b_Tp_isWord 13 = .ok (.if_icmp .eq 5, 3) := by decide +kernel
set_option maxRecDepth 100000 in
theorem d_Tp_isWord_16 : decode b_Tp_isWord 16 = .ok (.iconst 0, 1) := by decide +kernel
set_option maxRecDepth 100000 in
theorem d_Tp_isWord_17 : decode b_Tp_isWord 17 = .ok (.ireturn, 1) := by decide +kernel
set_option maxRecDepth 100000 in
theorem d_Tp_isWord_18 : decode b_Tp_isWord 18 = .ok (.iconst 0, 1) := by decide +kernel
set_option maxRecDepth 100000 in
theorem d_Tp_isWord_19 : decode b_Tp_isWord 19 = .ok (.istore_n 2, 1) := by decide +kernel
set_option maxRecDepth 100000 in
theorem d_Tp_isWord_20 : decode b_Tp_isWord 20 = .ok (.iload_n 2, 1) := by decide +kernel
set_option maxRecDepth 100000 in
theorem d_Tp_isWord_21 : decode b_Tp_isWord 21 = .ok (.aload_n 1, 1) := by decide +kernel
set_option maxRecDepth 100000 in
theorem d_Tp_isWord_22 : decode b_Tp_isWord 22 = .ok (.invokevirtual 88, 3) := by decide +kernel
set_option maxRecDepth 100000 in
theorem d_Tp_isWord_25 : decode b_Tp_isWord 25 = .ok (.if_icmp .ge 30, 3) := by decide +kernel
set_option maxRecDepth 100000 in
theorem d_Tp_isWord_28 : decode b_Tp_isWord 28 = .ok (.aload_n 0, 1) := by decide +kernel
set_option maxRecDepth 100000 in
theorem d_Tp_isWord_29 : decode b_Tp_isWord 29 = .ok (.getfield 9, 3) := by decide +kernel
set_option maxRecDepth 100000 in
theorem d_Tp_isWord_32 : decode b_Tp_isWord 32 = .ok (.aload_n 0, 1) := by decide +kernel
set_option maxRecDepth 100000 in
theorem d_Tp_isWord_33 : decode b_Tp_isWord 33 = .ok (.getfield 34, 3) := by decide +kernel
set_option maxRecDepth 100000 in
theorem d_Tp_isWord_36 : decode b_Tp_isWord 36 = .ok (.iload_n 2, 1) := by decide +kernel
set_option maxRecDepth 100000 in
theorem d_Tp_isWord_37 : decode b_Tp_isWord 37 = .ok (.iadd, 1) := by decide +kernel
set_option maxRecDepth 100000 in
theorem d_Tp_isWord_38 : decode b_Tp_isWord 38 = .ok (.baload, 1) := by decide +kernel
set_option maxRecDepth 100000 in
theorem d_Tp_isWord_39 : decode b_Tp_isWord 39 = .ok (.aload_n 1, 1) := by decide +kernel
set_option maxRecDepth 100000 in
theorem d_Tp_isWord_40 : decode b_Tp_isWord 40 = .ok (.iload_n 2, 1) := by decide +kernel
set_option maxRecDepth 100000 in
theorem d_Tp_isWord_41 : decode b_Tp_isWord 41 = .ok (.invokevirtual 92, 3) := by decide +kernel
set_option maxRecDepth 100000 in
theorem d_Tp_isWord_44 : decode b_Tp_isWord 44 = .ok (.if_icmp .eq 5, 3) := by decide +kernel
set_option maxRecDepth 100000 in
theorem d_Tp_isWord_47 : decode b_Tp_isWord 47 = .ok (.iconst 0, 1) := by decide +kernel
set_option maxRecDepth 100000 in
theorem d_Tp_isWord_48 : decode b_Tp_isWord 48 = .ok (.ireturn, 1) := by decide +kernel
set_option maxRecDepth 100000 in
theorem d_Tp_isWord_49 : decode b_Tp_isWord 49 = .ok (.iinc 2 1, 3) := by decide +kernel
set_option maxRecDepth 100000 in
theorem d_Tp_isWord_52 : decode b_Tp_isWord 52 = .ok (.goto (-32), 3) := by decide +kernel
set_option maxRecDepth 100000 in
theorem d_Tp_isWord_55 : decode b_Tp_isWord 55 = .ok (.iconst 1, 1) := by decide +kernel
set_option maxRecDepth 100000 in
theorem d_Tp_isWord_56 : decode b_Tp_isWord 56 = .ok (.ireturn, 1) := by decide +kernel
set_option maxRecDepth 100000 in
theorem d_Tp_kindOfLine_0 : decode b_Tp_kindOfLine 0 = .ok (.aload_n 0, 1) := by decide +kernel
set_option maxRecDepth 100000 in
theorem d_Tp_kindOfLine_1 : decode b_Tp_kindOfLine 1 = .ok (.ldc 70, 2) := by decide +kernel
set_option maxRecDepth 100000 in
theorem d_Tp_kindOfLine_3 : decode b_Tp_kindOfLine 3 = .ok (.invokevirtual 67, 3) := by decide +kernel
set_option maxRecDepth 100000 in
theorem d_Tp_kindOfLine_6 : decode b_Tp_kindOfLine 6 = .ok (.ifCond .eq 5, 3) := by decide +kernel
set_option maxRecDepth 100000 in
theorem d_Tp_kindOfLine_9 : decode b_Tp_kindOfLine 9 = .ok (.iconst 0, 1) := by decide +kernel
set_option maxRecDepth 100000 in
theorem d_Tp_kindOfLine_10 : decode b_Tp_kindOfLine 10 = .ok (.ireturn, 1) := by decide +kernel
set_option maxRecDepth 100000 in
theorem d_Tp_kindOfLine_11 : decode b_Tp_kindOfLine 11 = .ok (.aload_n 0, 1) := by decide +kernel
set_option maxRecDepth 100000 in
theorem d_Tp_kindOfLine_12 : decode b_Tp_kindOfLine 12 = .ok (.ldc 72, 2) := by decide +kernel
set_option maxRecDepth 100000 in
theorem d_Tp_kindOfLine_14 : decode b_Tp_kindOfLine 14 = .ok (.invokevirtual 67, 3) := by decide +kernel
set_option maxRecDepth 100000 in
theorem d_Tp_kindOfLine_17 : decode b_Tp_kindOfLine 17 = .ok (.ifCond .eq 5, 3) := by decide +kernel
set_option maxRecDepth 100000 in
theorem d_Tp_kindOfLine_20 : decode b_Tp_kindOfLine 20 = .ok (.iconst 1, 1) := by decide +kernel
set_option maxRecDepth 100000 in
theorem d_Tp_kindOfLine_21 : decode b_Tp_kindOfLine 21 = .ok (.ireturn, 1) := by decide +kernel
set_option maxRecDepth 100000 in
theorem d_Tp_kindOfLine_22 : decode b_Tp_kindOfLine 22 = .ok (.aload_n 0, 1) := by decide +kernel
set_option maxRecDepth 100000 in
theorem d_Tp_kindOfLine_23 : decode b_Tp_kindOfLine 23 = .ok (.ldc 74, 2) := by decide +kernel
set_option maxRecDepth 100000 in
theorem d_Tp_kindOfLine_25 : decode b_Tp_kindOfLine 25 = .ok (.invokevirtual 67, 3) := by decide +kernel
set_option maxRecDepth 100000 in
theorem d_Tp_kindOfLine_28 : decode b_Tp_kindOfLine 28 = .ok (.ifCond .eq 5, 3) := by decide +kernel
set_option maxRecDepth 100000 in
theorem d_Tp_kindOfLine_31 : decode b_Tp_kindOfLine 31 = .ok (.iconst 2, 1) := by decide +kernel
set_option maxRecDepth 100000 in
theorem d_Tp_kindOfLine_32 : decode b_Tp_kindOfLine 32 = .ok (.ireturn, 1) := by decide +kernel
set_option maxRecDepth 100000 in
theorem d_Tp_kindOfLine_33 : decode b_Tp_kindOfLine 33 = .ok (.aload_n 0, 1) := by decide +kernel
set_option maxRecDepth 100000 in
theorem d_Tp_kindOfLine_34 : decode b_Tp_kindOfLine 34 = .ok (.ldc 76, 2) := by decide +kernel
set_option maxRecDepth 100000 in
theorem d_Tp_kindOfLine_36 : decode b_Tp_kindOfLine 36 = .ok (.invokevirtual 67, 3) := by decide +kernel
set_option maxRecDepth 100000 in
theorem d_Tp_kindOfLine_39 : decode b_Tp_kindOfLine 39 = .ok (.ifCond .eq 5, 3) := by decide +kernel
set_option maxRecDepth 100000 in
theorem d_Tp_kindOfLine_42 : decode b_Tp_kindOfLine 42 = .ok (.iconst 3, 1) := by decide +kernel
set_option maxRecDepth 100000 in
theorem d_Tp_kindOfLine_43 : decode b_Tp_kindOfLine 43 = .ok (.ireturn, 1) := by decide +kernel
set_option maxRecDepth 100000 in
theorem d_Tp_kindOfLine_44 : decode b_Tp_kindOfLine 44 = .ok (.aload_n 0, 1) := by decide +kernel
set_option maxRecDepth 100000 in
theorem d_Tp_kindOfLine_45 : decode b_Tp_kindOfLine 45 = .ok (.ldc 78, 2) := by decide +kernel
set_option maxRecDepth 100000 in
theorem d_Tp_kindOfLine_47 : decode b_Tp_kindOfLine 47 = .ok (.invokevirtual 67, 3) := by decide +kernel
set_option maxRecDepth 100000 in
theorem d_Tp_kindOfLine_50 : decode b_Tp_kindOfLine 50 = .ok (.ifCond .eq 5, 3) := by decide +kernel
set_option maxRecDepth 100000 in
theorem d_Tp_kindOfLine_53 : decode b_Tp_kindOfLine 53 = .ok (.iconst 4, 1) := by decide +kernel
set_option maxRecDepth 100000 in
theorem d_Tp_kindOfLine_54 : decode b_Tp_kindOfLine 54 = .ok (.ireturn, 1) := by decide +kernel
set_option maxRecDepth 100000 in
theorem d_Tp_kindOfLine_55 : decode b_Tp_kindOfLine 55 = .ok (.aload_n 0, 1) := by decide +kernel
set_option maxRecDepth 100000 in
theorem d_Tp_kindOfLine_56 : decode b_Tp_kindOfLine 56 = .ok (.ldc 80, 2) := by decide +kernel
set_option maxRecDepth 100000 in
theorem d_Tp_kindOfLine_58 : decode b_Tp_kindOfLine 58 = .ok (.invokevirtual 67, 3) := by decide +kernel
set_option maxRecDepth 100000 in
theorem d_Tp_kindOfLine_61 : decode b_Tp_kindOfLine 61 = .ok (.ifCond .eq 5, 3) := by decide +kernel
set_option maxRecDepth 100000 in
theorem d_Tp_kindOfLine_64 : decode b_Tp_kindOfLine 64 = .ok (.iconst 5, 1) := by decide +kernel
set_option maxRecDepth 100000 in
theorem d_Tp_kindOfLine_65 : decode b_Tp_kindOfLine 65 = .ok (.ireturn, 1) := by decide +kernel
set_option maxRecDepth 100000 in
theorem d_Tp_kindOfLine_66 : decode b_Tp_kindOfLine 66 = .ok (.aload_n 0, 1) := by decide +kernel
set_option maxRecDepth 100000 in
theorem d_Tp_kindOfLine_67 : decode b_Tp_kindOfLine 67 = .ok (.ldc 82, 2) := by decide +kernel
set_option maxRecDepth 100000 in
theorem d_Tp_kindOfLine_69 : decode b_Tp_kindOfLine 69 = .ok (.invokevirtual 67, 3) := by decide +kernel
set_option maxRecDepth 100000 in
theorem d_Tp_kindOfLine_72 : decode b_Tp_kindOfLine 72 = .ok (.ifCond .eq 6, 3) := by decide +kernel
set_option maxRecDepth 100000 in
theorem d_Tp_kindOfLine_75 : decode b_Tp_kindOfLine 75 = .ok (.bipush 6, 2) := by decide +kernel
set_option maxRecDepth 100000 in
theorem d_Tp_kindOfLine_77 : decode b_Tp_kindOfLine 77 = .ok (.ireturn, 1) := by decide +kernel
set_option maxRecDepth 100000 in
theorem d_Tp_kindOfLine_78 : decode b_Tp_kindOfLine 78 = .ok (.aload_n 0, 1) := by decide +kernel
set_option maxRecDepth 100000 in
theorem d_Tp_kindOfLine_79 : decode b_Tp_kindOfLine 79 = .ok (.ldc 84, 2) := by decide +kernel
set_option maxRecDepth 100000 in
theorem d_Tp_kindOfLine_81 : decode b_Tp_kindOfLine 81 = .ok (.invokevirtual 67, 3) := by decide +kernel
set_option maxRecDepth 100000 in
theorem d_Tp_kindOfLine_84 : decode b_Tp_kindOfLine 84 = .ok (.ifCond .eq 6, 3) := by decide +kernel
set_option maxRecDepth 100000 in
theorem d_Tp_kindOfLine_87 : decode b_Tp_kindOfLine 87 = .ok (.bipush 7, 2) := by decide +kernel
set_option maxRecDepth 100000 in
theorem d_Tp_kindOfLine_89 : decode b_Tp_kindOfLine 89 = .ok (.ireturn, 1) := by decide +kernel
set_option maxRecDepth 100000 in
theorem d_Tp_kindOfLine_90 : decode b_Tp_kindOfLine 90 = .ok (.aload_n 0, 1) := by decide +kernel
set_option maxRecDepth 100000 in
theorem d_Tp_kindOfLine_91 : decode b_Tp_kindOfLine 91 = .ok (.ldc 86, 2) := by decide +kernel
set_option maxRecDepth 100000 in
theorem d_Tp_kindOfLine_93 : decode b_Tp_kindOfLine 93 = .ok (.invokevirtual 67, 3) := by decide +kernel
set_option maxRecDepth 100000 in
theorem d_Tp_kindOfLine_96 : decode b_Tp_kindOfLine 96 = .ok (.ifCond .eq 8, 3) := by decide +kernel
set_option maxRecDepth 100000 in
theorem d_Tp_kindOfLine_99 : decode b_Tp_kindOfLine 99 = .ok (.bipush 8, 2) := by decide +kernel
set_option maxRecDepth 100000 in
theorem d_Tp_kindOfLine_101 : decode b_Tp_kindOfLine 101 = .ok (.goto 4, 3) := by decide +kernel
set_option maxRecDepth 100000 in
theorem d_Tp_kindOfLine_104 : decode b_Tp_kindOfLine 104 = .ok (.iconst (-1), 1) := by decide +kernel
set_option maxRecDepth 100000 in
theorem d_Tp_kindOfLine_105 : decode b_Tp_kindOfLine 105 = .ok (.ireturn, 1) := by decide +kernel
set_option maxRecDepth 100000 in
theorem d_Tp_passDigits_0 : decode b_Tp_passDigits 0 = .ok (.aload_n 0, 1) := by decide +kernel
set_option maxRecDepth 100000 in
theorem d_Tp_passDigits_1 : decode b_Tp_passDigits 1 = .ok (.getfield 24, 3) := by decide +kernel
set_option maxRecDepth 100000 in
theorem d_Tp_passDigits_4 : decode b_Tp_passDigits 4 = .ok (.aload_n 0, 1) := by decide +kernel
set_option maxRecDepth 100000 in
theorem d_Tp_passDigits_5 : decode b_Tp_passDigits 5 = .ok (.getfield 15, 3) := by decide +kernel
set_option maxRecDepth 100000 in
theorem d_Tp_passDigits_8 : decode b_Tp_passDigits 8 = .ok (.if_icmp .ge 55, 3) := by decide +kernel
set_option maxRecDepth 100000 in
theorem d_Tp_passDigits_11 : decode b_Tp_passDigits 11 = .ok (.aload_n 0, 1) := by decide +kernel
set_option maxRecDepth 100000 in
theorem d_Tp_passDigits_12 : decode b_Tp_passDigits 12 = .ok (.getfield 9, 3) := by decide +kernel
set_option maxRecDepth 100000 in
theorem d_Tp_passDigits_15 : decode b_Tp_passDigits 15 = .ok (.aload_n 0, 1) := by decide +kernel
set_option maxRecDepth 100000 in
theorem d_Tp_passDigits_16 : decode b_Tp_passDigits 16 = .ok (.getfield 24, 3) := by decide +kernel
set_option maxRecDepth 100000 in
theorem d_Tp_passDigits_19 : decode b_Tp_passDigits 19 = .ok (.baload, 1) := by decide +kernel
set_option maxRecDepth 100000 in
theorem d_Tp_passDigits_20 : decode b_Tp_passDigits 20 = .ok (.invokestatic 103, 3) := by decide +kernel
set_option maxRecDepth 100000 in
theorem d_Tp_passDigits_23 : decode b_Tp_passDigits 23 = .ok (.ifCond .eq 40, 3) := by decide +kernel
set_option maxRecDepth 100000 in
theorem d_Tp_passDigits_26 : decode b_Tp_passDigits 26 = .ok (.aload_n 0, 1) := by decide +kernel
set_option maxRecDepth 100000 in
theorem d_Tp_passDigits_27 : decode b_Tp_passDigits 27 = .ok (.aload_n 0, 1) := by decide +kernel
set_option maxRecDepth 100000 in
theorem d_Tp_passDigits_28 : decode b_Tp_passDigits 28 = .ok (.getfield 48, 3) := by decide +kernel
set_option maxRecDepth 100000 in
theorem d_Tp_passDigits_31 : decode b_Tp_passDigits 31 = .ok (.bipush 10, 2) := by decide +kernel
set_option maxRecDepth 100000 in
theorem d_Tp_passDigits_33 : decode b_Tp_passDigits 33 = .ok (.imul, 1) := by decide +kernel
set_option maxRecDepth 100000 in
theorem d_Tp_passDigits_34 : decode b_Tp_passDigits 34 = .ok (.aload_n 0, 1) := by decide +kernel
set_option maxRecDepth 100000 in
theorem d_Tp_passDigits_35 : decode b_Tp_passDigits 35 = .ok (.getfield 9, 3) := by decide +kernel
set_option maxRecDepth 100000 in
theorem d_Tp_passDigits_38 : decode b_Tp_passDigits 38 = .ok (.aload_n 0, 1) := by decide +kernel
set_option maxRecDepth 100000 in
theorem d_Tp_passDigits_39 : decode b_Tp_passDigits 39 = .ok (.getfield 24, 3) := by decide +kernel
set_option maxRecDepth 100000 in
theorem d_Tp_passDigits_42 : decode b_Tp_passDigits 42 = .ok (.baload, 1) := by decide +kernel
set_option maxRecDepth 100000 in
theorem d_Tp_passDigits_43 : decode b_Tp_passDigits 43 = .ok (.bipush 48, 2) := by decide +kernel
set_option maxRecDepth 100000 in
theorem d_Tp_passDigits_45 : decode b_Tp_passDigits 45 = .ok (.isub, 1) := by decide +kernel
set_option maxRecDepth 100000 in
theorem d_Tp_passDigits_46 : decode b_Tp_passDigits 46 = .ok (.iadd, 1) := by decide +kernel
set_option maxRecDepth 100000 in
theorem d_Tp_passDigits_47 : decode b_Tp_passDigits 47 = .ok (.putfield 48, 3) := by decide +kernel
set_option maxRecDepth 100000 in
theorem d_Tp_passDigits_50 : decode b_Tp_passDigits 50 = .ok (.aload_n 0, 1) := by decide +kernel
set_option maxRecDepth 100000 in
theorem d_Tp_passDigits_51 : decode b_Tp_passDigits 51 = .ok (.dup, 1) := by decide +kernel
set_option maxRecDepth 100000 in
theorem d_Tp_passDigits_52 : decode b_Tp_passDigits 52 = .ok (.getfield 24, 3) := by decide +kernel
set_option maxRecDepth 100000 in
theorem d_Tp_passDigits_55 : decode b_Tp_passDigits 55 = .ok (.iconst 1, 1) := by decide +kernel
set_option maxRecDepth 100000 in
theorem d_Tp_passDigits_56 : decode b_Tp_passDigits 56 = .ok (.iadd, 1) := by decide +kernel
set_option maxRecDepth 100000 in
theorem d_Tp_passDigits_57 : decode b_Tp_passDigits 57 = .ok (.putfield 24, 3) := by decide +kernel
set_option maxRecDepth 100000 in
theorem d_Tp_passDigits_60 : decode b_Tp_passDigits 60 = .ok (.goto (-60), 3) := by decide +kernel
set_option maxRecDepth 100000 in
theorem d_Tp_passDigits_63 : decode b_Tp_passDigits 63 = .ok (.return_, 1) := by decide +kernel
set_option maxRecDepth 100000 in
theorem d_Tp_passLetters_0 : decode b_Tp_passLetters 0 = .ok (.aload_n 0, 1) := by decide +kernel
set_option maxRecDepth 100000 in
theorem d_Tp_passLetters_1 : decode b_Tp_passLetters 1 = .ok (.getfield 24, 3) := by decide +kernel
set_option maxRecDepth 100000 in
theorem d_Tp_passLetters_4 : decode b_Tp_passLetters 4 = .ok (.aload_n 0, 1) := by decide +kernel
set_option maxRecDepth 100000 in
theorem d_Tp_passLetters_5 : decode b_Tp_passLetters 5 = .ok (.getfield 15, 3) := by decide +kernel
set_option maxRecDepth 100000 in
theorem d_Tp_passLetters_8 : decode b_Tp_passLetters 8 = .ok (.if_icmp .ge 31, 3) := by decide +kernel
set_option maxRecDepth 100000 in
theorem d_Tp_passLetters_11 : decode b_Tp_passLetters 11 = .ok (.aload_n 0, 1) := by decide +kernel
set_option maxRecDepth 100000 in
theorem d_Tp_passLetters_12 : decode b_Tp_passLetters 12 = .ok (.getfield 9, 3) := by decide +kernel
set_option maxRecDepth 100000 in
theorem d_Tp_passLetters_15 : decode b_Tp_passLetters 15 = .ok (.aload_n 0, 1) := by decide +kernel
set_option maxRecDepth 100000 in
theorem d_Tp_passLetters_16 : decode b_Tp_passLetters 16 = .ok (.getfield 24, 3) := by decide +kernel
set_option maxRecDepth 100000 in
theorem d_Tp_passLetters_19 : decode b_Tp_passLetters 19 = .ok (.baload, 1) := by decide +kernel
set_option maxRecDepth 100000 in
theorem d_Tp_passLetters_20 : decode b_Tp_passLetters 20 = .ok (.invokestatic 96, 3) := by decide +kernel
set_option maxRecDepth 100000 in
theorem d_Tp_passLetters_23 : decode b_Tp_passLetters 23 = .ok (.ifCond .eq 16, 3) := by decide +kernel
set_option maxRecDepth 100000 in
theorem d_Tp_passLetters_26 : decode b_Tp_passLetters 26 = .ok (.aload_n 0, 1) := by decide +kernel
set_option maxRecDepth 100000 in
theorem d_Tp_passLetters_27 : decode b_Tp_passLetters 27 = .ok (.dup, 1) := by decide +kernel
set_option maxRecDepth 100000 in
theorem d_Tp_passLetters_28 : decode b_Tp_passLetters 28 = .ok (.getfield 24, 3) := by decide +kernel
set_option maxRecDepth 100000 in
theorem d_Tp_passLetters_31 : decode b_Tp_passLetters 31 = .ok (.iconst 1, 1) := by decide +kernel
set_option maxRecDepth 100000 in
theorem d_Tp_passLetters_32 : decode b_Tp_passLetters 32 = .ok (.iadd, 1) := by decide +kernel
set_option maxRecDepth 100000 in
theorem d_Tp_passLetters_33 : decode b_Tp_passLetters 33 = .ok (.putfield 24, 3) := by decide +kernel
set_option maxRecDepth 100000 in
theorem d_Tp_passLetters_36 : decode b_Tp_passLetters 36 = .ok (.goto (-36), 3) := by decide +kernel
set_option maxRecDepth 100000 in
theorem d_Tp_passLetters_39 : decode b_Tp_passLetters 39 = .ok (.return_, 1) := by decide +kernel
set_option maxRecDepth 100000 in
theorem d_Tp_readInto_0 : decode b_Tp_readInto 0 = .ok (.aload_n 1, 1) := by decide +kernel
set_option maxRecDepth 100000 in
theorem d_Tp_readInto_1 : decode b_Tp_readInto 1 = .ok (.invokevirtual 19, 3) := by decide +kernel
set_option maxRecDepth 100000 in
theorem d_Tp_readInto_4 : decode b_Tp_readInto 4 = .ok (.aload_n 0, 1) := by decide +kernel
set_option maxRecDepth 100000 in
theorem d_Tp_readInto_5 : decode b_Tp_readInto 5 = .ok (.iconst 0, 1) := by decide +kernel
set_option maxRecDepth 100000 in
theorem d_Tp_readInto_6 : decode b_Tp_readInto 6 = .ok (.putfield 24, 3) := by decide +kernel
set_option maxRecDepth 100000 in
theorem d_Tp_readInto_9 : decode b_Tp_readInto 9 = .ok (.aload_n 0, 1) := by decide +kernel
set_option maxRecDepth 100000 in
theorem d_Tp_readInto_10 : decode b_Tp_readInto 10 = .ok (.invokevirtual 27, 3) := by decide +kernel
set_option maxRecDepth 100000 in
theorem d_Tp_readInto_13 : decode b_Tp_readInto 13 = .ok (.iconst 0, 1) := by decide +kernel
set_option maxRecDepth 100000 in
theorem d_Tp_readInto_14 : decode b_Tp_readInto 14 = .ok (.istore_n 2, 1) := by decide +kernel
set_option maxRecDepth 100000 in
theorem d_Tp_readInto_15 : decode b_Tp_readInto 15 = .ok (.iload_n 2, 1) := by decide +kernel
set_option maxRecDepth 100000 in
theorem d_Tp_readInto_16 : decode b_Tp_readInto 16 = .ok (.sipush 400, 3) := by decide +kernel
set_option maxRecDepth 100000 in
theorem d_Tp_readInto_19 : decode b_Tp_readInto 19 = .ok (.if_icmp .gt 31, 3) := by decide +kernel
set_option maxRecDepth 100000 in
theorem d_Tp_readInto_22 : decode b_Tp_readInto 22 = .ok (.aload_n 0, 1) := by decide +kernel
set_option maxRecDepth 100000 in
theorem d_Tp_readInto_23 : decode b_Tp_readInto 23 = .ok (.aload_n 1, 1) := by decide +kernel
set_option maxRecDepth 100000 in
theorem d_Tp_readInto_24 : decode b_Tp_readInto 24 = .ok (.invokevirtual 30, 3) := by decide +kernel
set_option maxRecDepth 100000 in
theorem d_Tp_readInto_27 : decode b_Tp_readInto 27 = .ok (.ifCond .ne 8, 3) := by decide +kernel
set_option maxRecDepth 100000 in
theorem d_Tp_readInto_30 : decode b_Tp_readInto 30 = .ok (.aload_n 0, 1) := by decide +kernel
set_option maxRecDepth 100000 in
theorem d_Tp_readInto_31 : decode b_Tp_readInto 31 = .ok (.getfield 34, 3) := by decide +kernel
set_option maxRecDepth 100000 in
theorem d_Tp_readInto_34 : decode b_Tp_readInto 34 = .ok (.ireturn, 1) := by decide +kernel
set_option maxRecDepth 100000 in
theorem d_Tp_readInto_35 : decode b_Tp_readInto 35 = .ok (.aload_n 0, 1) := by decide +kernel
set_option maxRecDepth 100000 in
theorem d_Tp_readInto_36 : decode b_Tp_readInto 36 = .ok (.getfield 37, 3) := by decide +kernel
set_option maxRecDepth 100000 in
theorem d_Tp_readInto_39 : decode b_Tp_readInto 39 = .ok (.ifCond .ne 5, 3) := by decide +kernel
set_option maxRecDepth 100000 in
theorem d_Tp_readInto_42 : decode b_Tp_readInto 42 = .ok (.iconst (-1), 1) := by decide +kernel
set_option maxRecDepth 100000 in
theorem d_Tp_readInto_43 : decode b_Tp_readInto 43 = .ok (.ireturn, 1) := by decide +kernel
set_option maxRecDepth 100000 in
theorem d_Tp_readInto_44 : decode b_Tp_readInto 44 = .ok (.iinc 2 1, 3) := by decide +kernel
set_option maxRecDepth 100000 in
theorem d_Tp_readInto_47 : decode b_Tp_readInto 47 = .ok (.goto (-32), 3) := by decide +kernel
set_option maxRecDepth 100000 in
theorem d_Tp_readInto_50 : decode b_Tp_readInto 50 = .ok (.aload_n 0, 1) := by decide +kernel
set_option maxRecDepth 100000 in
theorem d_Tp_readInto_51 : decode b_Tp_readInto 51 = .ok (.getfield 34, 3) := by decide +kernel
set_option maxRecDepth 100000 in
theorem d_Tp_readInto_54 : decode b_Tp_readInto 54 = .ok (.ireturn, 1) := by decide +kernel
set_option maxRecDepth 100000 in
theorem d_Tp_readLine_0 : decode b_Tp_readLine 0 = .ok (.aload_n 0, 1) := by decide +kernel
set_option maxRecDepth 100000 in
theorem d_Tp_readLine_1 : decode b_Tp_readLine 1 = .ok (.getfield 37, 3) := by decide +kernel
set_option maxRecDepth 100000 in
theorem d_Tp_readLine_4 : decode b_Tp_readLine 4 = .ok (.iconst 1, 1) := by decide +kernel
set_option maxRecDepth 100000 in
theorem d_Tp_readLine_5 : decode b_Tp_readLine 5 = .ok (.if_icmp .ne 10, 3) := by decide +kernel
set_option maxRecDepth 100000 in
theorem d_Tp_readLine_8 : decode b_Tp_readLine 8 = .ok (.aload_n 0, 1) := by decide +kernel
set_option maxRecDepth 100000 in
theorem d_Tp_readLine_9 : decode b_Tp_readLine 9 = .ok (.invokevirtual 40, 3) := by decide +kernel
set_option maxRecDepth 100000 in
theorem d_Tp_readLine_12 : decode b_Tp_readLine 12 = .ok (.goto 4, 3) := by decide +kernel
set_option maxRecDepth 100000 in
theorem d_Tp_readLine_15 : decode b_Tp_readLine 15 = .ok (.iconst (-1), 1) := by decide +kernel
set_option maxRecDepth 100000 in
theorem d_Tp_readLine_16 : decode b_Tp_readLine 16 = .ok (.istore_n 2, 1) := by decide +kernel
set_option maxRecDepth 100000 in
theorem d_Tp_readLine_17 : decode b_Tp_readLine 17 = .ok (.iload_n 2, 1) := by decide +kernel
set_option maxRecDepth 100000 in
theorem d_Tp_readLine_18 : decode b_Tp_readLine 18 = .ok (.iconst (-1), 1) := by decide +kernel
set_option maxRecDepth 100000 in
theorem d_Tp_readLine_19 : decode b_Tp_readLine 19 = .ok (.if_icmp .eq 11, 3) := by decide +kernel
set_option maxRecDepth 100000 in
theorem d_Tp_readLine_22 : decode b_Tp_readLine 22 = .ok (.aload_n 1, 1) := by decide +kernel
set_option maxRecDepth 100000 in
theorem d_Tp_readLine_23 : decode b_Tp_readLine 23 = .ok (.iload_n 2, 1) := by decide +kernel
set_option maxRecDepth 100000 in
theorem d_Tp_readLine_24 : decode b_Tp_readLine 24 = .ok (.invokevirtual 44, 3) := by decide +kernel
set_option maxRecDepth 100000 in
theorem d_Tp_readLine_27 : decode b_Tp_readLine 27 = .ok (.ifCond .ne 5, 3) := by decide +kernel
set_option maxRecDepth 100000 in
theorem d_Tp_readLine_30 : decode b_Tp_readLine 30 = .ok (.iconst 0, 1) := by decide +kernel
set_option maxRecDepth 100000 in
theorem d_Tp_readLine_31 : decode b_Tp_readLine 31 = .ok (.ireturn, 1) := by decide +kernel
set_option maxRecDepth 100000 in
theorem d_Tp_readLine_32 : decode b_Tp_readLine 32 = .ok (.iload_n 2, 1) := by decide +kernel
set_option maxRecDepth 100000 in
theorem d_Tp_readLine_33 : decode b_Tp_readLine 33 = .ok (.ifCond .eq 14, 3) := by decide +kernel
set_option maxRecDepth 100000 in
theorem d_Tp_readLine_36 : decode b_Tp_readLine 36 = .ok (.iload_n 2, 1) := by decide +kernel
set_option maxRecDepth 100000 in
theorem d_Tp_readLine_37 : decode b_Tp_readLine 37 = .ok (.iconst 1, 1) := by decide +kernel
set_option maxRecDepth 100000 in
theorem d_Tp_readLine_38 : decode b_Tp_readLine 38 = .ok (.if_icmp .eq 9, 3) := by decide +kernel
set_option maxRecDepth 100000 in
theorem d_Tp_readLine_41 : decode b_Tp_readLine 41 = .ok (.iload_n 2, 1) := by decide +kernel
set_option maxRecDepth 100000 in
theorem d_Tp_readLine_42 : decode b_Tp_readLine 42 = .ok (.bipush 6, 2) := by decide +kernel
set_option maxRecDepth 100000 in
theorem d_Tp_readLine_44 : decode b_Tp_readLine 44 = .ok (.if_icmp .ne 7, 3) := by decide +kernel
set_option maxRecDepth 100000 in
theorem d_Tp_readLine_47 : decode b_Tp_readLine 47 = .ok (.iconst 1, 1) := by decide +kernel
set_option maxRecDepth 100000 in
theorem d_Tp_readLine_48 : decode b_Tp_readLine 48 = .ok (.goto 4, 3) := by decide +kernel
set_option maxRecDepth 100000 in
theorem d_Tp_readLine_51 : decode b_Tp_readLine 51 = .ok (.iconst 0, 1) := by decide +kernel
set_option maxRecDepth 100000 in
theorem d_Tp_readLine_52 : decode b_Tp_readLine 52 = .ok (.istore_n 3, 1) := by decide +kernel
set_option maxRecDepth 100000 in
theorem d_Tp_readLine_53 : decode b_Tp_readLine 53 = .ok (.iload_n 2, 1) := by decide +kernel
set_option maxRecDepth 100000 in
theorem d_Tp_readLine_54 : decode b_Tp_readLine 54 = .ok (.ifCond .eq 8, 3) := by decide +kernel
set_option maxRecDepth 100000 in
theorem d_Tp_readLine_57 : decode b_Tp_readLine 57 = .ok (.iload_n 2, 1) := by decide +kernel
set_option maxRecDepth 100000 in
theorem d_Tp_readLine_58 : decode b_Tp_readLine 58 = .ok (.iconst 1, 1) := by decide +kernel
set_option maxRecDepth 100000 in
theorem d_Tp_readLine_59 : decode b_Tp_readLine 59 = .ok (.if_icmp .ne 7, 3) := by decide +kernel
set_option maxRecDepth 100000 in
theorem d_Tp_readLine_62 : decode b_Tp_readLine 62 = .ok (.iconst 1, 1) := by decide +kernel
set_option maxRecDepth 100000 in
theorem d_Tp_readLine_63 : decode b_Tp_readLine 63 = .ok (.goto 4, 3) := by decide +kernel
set_option maxRecDepth 100000 in
theorem d_Tp_readLine_66 : decode b_Tp_readLine 66 = .ok (.iconst 0, 1) := by decide +kernel
set_option maxRecDepth 100000 in
theorem d_Tp_readLine_67 : decode b_Tp_readLine 67 = .ok (.istore 4, 2) := by decide +kernel
set_option maxRecDepth 100000 in
theorem d_Tp_readLine_69 : decode b_Tp_readLine 69 = .ok (.aload_n 0, 1) := by decide +kernel
set_option maxRecDepth 100000 in
theorem d_Tp_readLine_70 : decode b_Tp_readLine 70 = .ok (.invokevirtual 27, 3) := by decide +kernel
set_option maxRecDepth 100000 in
theorem d_Tp_readLine_73 : decode b_Tp_readLine 73 = .ok (.aload_n 0, 1) := by decide +kernel
set_option maxRecDepth 100000 in
theorem d_Tp_readLine_74 : decode b_Tp_readLine 74 = .ok (.getfield 48, 3) := by decide +kernel
set_option maxRecDepth 100000 in
theorem d_Tp_readLine_77 : decode b_Tp_readLine 77 = .ok (.istore 5, 2) := by decide +kernel
set_option maxRecDepth 100000 in
theorem d_Tp_readLine_79 : decode b_Tp_readLine 79 = .ok (.aload_n 0, 1) := by decide +kernel
set_option maxRecDepth 100000 in
theorem d_Tp_readLine_80 : decode b_Tp_readLine 80 = .ok (.invokevirtual 51, 3) := by decide +kernel
set_option maxRecDepth 100000 in
theorem d_Tp_readLine_83 : decode b_Tp_readLine 83 = .ok (.ifCond .ne 5, 3) := by decide +kernel
set_option maxRecDepth 100000 in
theorem d_Tp_readLine_86 : decode b_Tp_readLine 86 = .ok (.iconst 0, 1) := by decide +kernel
set_option maxRecDepth 100000 in
theorem d_Tp_readLine_87 : decode b_Tp_readLine 87 = .ok (.ireturn, 1) := by decide +kernel
set_option maxRecDepth 100000 in
theorem d_Tp_readLine_88 : decode b_Tp_readLine 88 = .ok (.iconst 0, 1) := by decide +kernel
set_option maxRecDepth 100000 in
theorem d_Tp_readLine_89 : decode b_Tp_readLine 89 = .ok (.istore 6, 2) := by decide +kernel
set_option maxRecDepth 100000 in
theorem d_Tp_readLine_91 : decode b_Tp_readLine 91 = .ok (.iload_n 3, 1) := by decide +kernel
set_option maxRecDepth 100000 in
theorem d_Tp_readLine_92 : decode b_Tp_readLine 92 = .ok (.ifCond .eq 29, 3) := by decide +kernel
set_option maxRecDepth 100000 in
theorem d_Tp_readLine_95 : decode b_Tp_readLine 95 = .ok (.aload_n 0, 1) := by decide +kernel
set_option maxRecDepth 100000 in
theorem d_Tp_readLine_96 : decode b_Tp_readLine 96 = .ok (.ldc 55, 2) := by decide +kernel
set_option maxRecDepth 100000 in
theorem d_Tp_readLine_98 : decode b_Tp_readLine 98 = .ok (.invokevirtual 57, 3) := by decide +kernel
set_option maxRecDepth 100000 in
theorem d_Tp_readLine_101 : decode b_Tp_readLine 101 = .ok (.ifCond .ne 5, 3) := by decide +kernel
set_option maxRecDepth 100000 in
theorem d_Tp_readLine_104 : decode b_Tp_readLine 104 = .ok (.iconst 0, 1) := by decide +kernel
set_option maxRecDepth 100000 in
theorem d_Tp_readLine_105 : decode b_Tp_readLine 105 = .ok (.ireturn, 1) := by decide +kernel
set_option maxRecDepth 100000 in
theorem d_Tp_readLine_106 : decode b_Tp_readLine 106 = .ok (.aload_n 0, 1) := by decide +kernel
set_option maxRecDepth 100000 in
theorem d_Tp_readLine_107 : decode b_Tp_readLine 107 = .ok (.getfield 48, 3) := by decide +kernel
set_option maxRecDepth 100000 in
theorem d_Tp_readLine_110 : decode b_Tp_readLine 110 = .ok (.istore 6, 2) := by decide +kernel
set_option maxRecDepth 100000 in
theorem d_Tp_readLine_112 : decode b_Tp_readLine 112 = .ok (.aload_n 0, 1) := by decide +kernel
set_option maxRecDepth 100000 in
theorem d_Tp_readLine_113 : decode b_Tp_readLine 113 = .ok (.invokevirtual 51, 3) := by decide +kernel
set_option maxRecDepth 100000 in
theorem d_Tp_readLine_116 : decode b_Tp_readLine 116 = .ok (.ifCond .ne 5, 3) := by decide +kernel
set_option maxRecDepth 100000 in
theorem d_Tp_readLine_119 : decode b_Tp_readLine 119 = .ok (.iconst 0, 1) := by decide +kernel
set_option maxRecDepth 100000 in
theorem d_Tp_readLine_120 : decode b_Tp_readLine 120 = .ok (.ireturn, 1) := by decide +kernel
set_option maxRecDepth 100000 in
theorem d_Tp_readLine_121 : decode b_Tp_readLine 121 = .ok (.iconst 0, 1) := by decide +kernel
set_option maxRecDepth 100000 in
theorem d_Tp_readLine_122 : decode b_Tp_readLine 122 = .ok (.istore 7, 2) := by decide +kernel
set_option maxRecDepth 100000 in
theorem d_Tp_readLine_124 : decode b_Tp_readLine 124 = .ok (.iload 4, 2) := by decide +kernel
set_option maxRecDepth 100000 in
theorem d_Tp_readLine_126 : decode b_Tp_readLine 126 = .ok (.ifCond .eq 29, 3) := by decide +kernel
set_option maxRecDepth 100000 in
theorem d_Tp_readLine_129 : decode b_Tp_readLine 129 = .ok (.aload_n 0, 1) := by decide +kernel
set_option maxRecDepth 100000 in
theorem d_Tp_readLine_130 : decode b_Tp_readLine 130 = .ok (.ldc 61, 2) := by decide +kernel
set_option maxRecDepth 100000 in
theorem d_Tp_readLine_132 : decode b_Tp_readLine 132 = .ok (.invokevirtual 57, 3) := by decide +kernel
set_option maxRecDepth 100000 in
theorem d_Tp_readLine_135 : decode b_Tp_readLine 135 = .ok (.ifCond .ne 5, 3) := by decide +kernel
set_option maxRecDepth 100000 in
theorem d_Tp_readLine_138 : decode b_Tp_readLine 138 = .ok (.iconst 0, 1) := by decide +kernel
set_option maxRecDepth 100000 in
theorem d_Tp_readLine_139 : decode b_Tp_readLine 139 = .ok (.ireturn, 1) := by decide +kernel
set_option maxRecDepth 100000 in
theorem d_Tp_readLine_140 : decode b_Tp_readLine 140 = .ok (.aload_n 0, 1) := by decide +kernel
set_option maxRecDepth 100000 in
theorem d_Tp_readLine_141 : decode b_Tp_readLine 141 = .ok (.getfield 48, 3) := by decide +kernel
set_option maxRecDepth 100000 in
theorem d_Tp_readLine_144 : decode b_Tp_readLine 144 = .ok (.istore 7, 2) := by decide +kernel
set_option maxRecDepth 100000 in
theorem d_Tp_readLine_146 : decode b_Tp_readLine 146 = .ok (.aload_n 0, 1) := by decide +kernel
set_option maxRecDepth 100000 in
theorem d_Tp_readLine_147 : decode b_Tp_readLine 147 = .ok (.invokevirtual 51, 3) := by decide +kernel
set_option maxRecDepth 100000 in
theorem d_Tp_readLine_150 : decode b_Tp_readLine 150 = .ok (.ifCond .ne 5, 3) := by decide +kernel
set_option maxRecDepth 100000 in
theorem d_Tp_readLine_153 : decode b_Tp_readLine 153 = .ok (.iconst 0, 1) := by decide +kernel
set_option maxRecDepth 100000 in
theorem d_Tp_readLine_154 : decode b_Tp_readLine 154 = .ok (.ireturn, 1) := by decide +kernel
set_option maxRecDepth 100000 in
theorem d_Tp_readLine_155 : decode b_Tp_readLine 155 = .ok (.aload_n 0, 1) := by decide +kernel
set_option maxRecDepth 100000 in
theorem d_Tp_readLine_156 : decode b_Tp_readLine 156 = .ok (.getfield 37, 3) := by decide +kernel
set_option maxRecDepth 100000 in
theorem d_Tp_readLine_159 : decode b_Tp_readLine 159 = .ok (.iconst 3, 1) := by decide +kernel
set_option maxRecDepth 100000 in
theorem d_Tp_readLine_160 : decode b_Tp_readLine 160 = .ok (.if_icmp .eq 5, 3) := by decide +kernel
set_option maxRecDepth 100000 in
theorem d_Tp_readLine_163 : decode b_Tp_readLine 163 = .ok (.iconst 0, 1) := by decide +kernel
set_option maxRecDepth 100000 in
theorem d_Tp_readLine_164 : decode b_Tp_readLine 164 = .ok (.ireturn, 1) := by decide +kernel
set_option maxRecDepth 100000 in
theorem d_Tp_readLine_165 : decode b_Tp_readLine 165 = .ok (.aload_n 1, 1) := by decide +kernel
set_option maxRecDepth 100000 in
theorem d_Tp_readLine_166 : decode b_Tp_readLine 166 = .ok (.iload_n 2, 1) := by decide +kernel
set_option maxRecDepth 100000 in
theorem d_Tp_readLine_167 : decode b_Tp_readLine 167 = .ok (.iload 5, 2) := by decide +kernel
set_option maxRecDepth 100000 in
theorem d_Tp_readLine_169 : decode b_Tp_readLine 169 = .ok (.iload 6, 2) := by decide +kernel
set_option maxRecDepth 100000 in
theorem d_Tp_readLine_171 : decode b_Tp_readLine 171 = .ok (.iload 7, 2) := by decide +kernel
set_option maxRecDepth 100000 in
theorem d_Tp_readLine_173 : decode b_Tp_readLine 173 = .ok (.invokevirtual 63, 3) := by decide +kernel
set_option maxRecDepth 100000 in
theorem d_Tp_readLine_176 : decode b_Tp_readLine 176 = .ok (.aload_n 0, 1) := by decide +kernel
set_option maxRecDepth 100000 in
theorem d_Tp_readLine_177 : decode b_Tp_readLine 177 = .ok (.invokevirtual 27, 3) := by decide +kernel
set_option maxRecDepth 100000 in
theorem d_Tp_readLine_180 : decode b_Tp_readLine 180 = .ok (.iconst 1, 1) := by decide +kernel
set_option maxRecDepth 100000 in
theorem d_Tp_readLine_181 : decode b_Tp_readLine 181 = .ok (.ireturn, 1) := by decide +kernel
set_option maxRecDepth 100000 in
theorem d_Tp_step_0 : decode b_Tp_step 0 = .ok (.aload_n 0, 1) := by decide +kernel
set_option maxRecDepth 100000 in
theorem d_Tp_step_1 : decode b_Tp_step 1 = .ok (.aload_n 0, 1) := by decide +kernel
set_option maxRecDepth 100000 in
theorem d_Tp_step_2 : decode b_Tp_step 2 = .ok (.getfield 24, 3) := by decide +kernel
set_option maxRecDepth 100000 in
theorem d_Tp_step_5 : decode b_Tp_step 5 = .ok (.putfield 34, 3) := by decide +kernel
set_option maxRecDepth 100000 in
theorem d_Tp_step_8 : decode b_Tp_step 8 = .ok (.aload_n 0, 1) := by decide +kernel
set_option maxRecDepth 100000 in
theorem d_Tp_step_9 : decode b_Tp_step 9 = .ok (.getfield 34, 3) := by decide +kernel
set_option maxRecDepth 100000 in
theorem d_Tp_step_12 : decode b_Tp_step 12 = .ok (.aload_n 0, 1) := by decide +kernel
set_option maxRecDepth 100000 in
theorem d_Tp_step_13 : decode b_Tp_step 13 = .ok (.getfield 15, 3) := by decide +kernel
set_option maxRecDepth 100000 in
theorem d_Tp_step_16 : decode b_Tp_step 16 = .ok (.if_icmp .ge 30, 3) := by decide +kernel
set_option maxRecDepth 100000 in
theorem d_Tp_step_19 : decode b_Tp_step 19 = .ok (.aload_n 0, 1) := by decide +kernel
set_option maxRecDepth 100000 in
theorem d_Tp_step_20 : decode b_Tp_step 20 = .ok (.getfield 9, 3) := by decide +kernel
set_option maxRecDepth 100000 in
theorem d_Tp_step_23 : decode b_Tp_step 23 = .ok (.aload_n 0, 1) := by decide +kernel
set_option maxRecDepth 100000 in
theorem d_Tp_step_24 : decode b_Tp_step 24 = .ok (.getfield 34, 3) := by decide +kernel
set_option maxRecDepth 100000 in
theorem d_Tp_step_27 : decode b_Tp_step 27 = .ok (.baload, 1) := by decide +kernel
set_option maxRecDepth 100000 in
theorem d_Tp_step_28 : decode b_Tp_step 28 = .ok (.bipush 32, 2) := by decide +kernel
set_option maxRecDepth 100000 in
theorem d_Tp_step_30 : decode b_Tp_step 30 = .ok (.if_icmp .ne 16, 3) := by decide +kernel
set_option maxRecDepth 100000 in
theorem d_Tp_step_33 : decode b_Tp_step 33 = .ok (.aload_n 0, 1) := by decide +kernel
set_option maxRecDepth 100000 in
theorem d_Tp_step_34 : decode b_Tp_step 34 = .ok (.dup, 1) := by decide +kernel
set_option maxRecDepth 100000 in
theorem d_Tp_step_35 : decode b_Tp_step 35 = .ok (.getfield 34, 3) := by decide +kernel
set_option maxRecDepth 100000 in
theorem d_Tp_step_38 : decode b_Tp_step 38 = .ok (.iconst 1, 1) := by decide +kernel
set_option maxRecDepth 100000 in
theorem d_Tp_step_39 : decode b_Tp_step 39 = .ok (.iadd, 1) := by decide +kernel
set_option maxRecDepth 100000 in
theorem d_Tp_step_40 : decode b_Tp_step 40 = .ok (.putfield 34, 3) := by decide +kernel
set_option maxRecDepth 100000 in
theorem d_Tp_step_43 : decode b_Tp_step 43 = .ok (.goto (-35), 3) := by decide +kernel
set_option maxRecDepth 100000 in
theorem d_Tp_step_46 : decode b_Tp_step 46 = .ok (.aload_n 0, 1) := by decide +kernel
set_option maxRecDepth 100000 in
theorem d_Tp_step_47 : decode b_Tp_step 47 = .ok (.aload_n 0, 1) := by decide +kernel
set_option maxRecDepth 100000 in
theorem d_Tp_step_48 : decode b_Tp_step 48 = .ok (.getfield 34, 3) := by decide +kernel
set_option maxRecDepth 100000 in
theorem d_Tp_step_51 : decode b_Tp_step 51 = .ok (.putfield 24, 3) := by decide +kernel
set_option maxRecDepth 100000 in
theorem d_Tp_step_54 : decode b_Tp_step 54 = .ok (.aload_n 0, 1) := by decide +kernel
set_option maxRecDepth 100000 in
theorem d_Tp_step_55 : decode b_Tp_step 55 = .ok (.iconst 0, 1) := by decide +kernel
set_option maxRecDepth 100000 in
theorem d_Tp_step_56 : decode b_Tp_step 56 = .ok (.putfield 48, 3) := by decide +kernel
set_option maxRecDepth 100000 in
theorem d_Tp_step_59 : decode b_Tp_step 59 = .ok (.aload_n 0, 1) := by decide +kernel
set_option maxRecDepth 100000 in
theorem d_Tp_step_60 : decode b_Tp_step 60 = .ok (.getfield 34, 3) := by decide +kernel
set_option maxRecDepth 100000 in
theorem d_Tp_step_63 : decode b_Tp_step 63 = .ok (.aload_n 0, 1) := by decide +kernel
set_option maxRecDepth 100000 in
theorem d_Tp_step_64 : decode b_Tp_step 64 = .ok (.getfield 15, 3) := by decide +kernel
set_option maxRecDepth 100000 in
theorem d_Tp_step_67 : decode b_Tp_step 67 = .ok (.if_icmp .lt 11, 3) := by decide +kernel
set_option maxRecDepth 100000 in
theorem d_Tp_step_70 : decode b_Tp_step 70 = .ok (.aload_n 0, 1) := by decide +kernel
set_option maxRecDepth 100000 in
theorem d_Tp_step_71 : decode b_Tp_step 71 = .ok (.iconst 0, 1) := by decide +kernel
set_option maxRecDepth 100000 in
theorem d_Tp_step_72 : decode b_Tp_step 72 = .ok (.putfield 37, 3) := by decide +kernel
set_option maxRecDepth 100000 in
theorem d_Tp_step_75 : decode b_Tp_step 75 = .ok (.goto 107, 3) := by decide +kernel
set_option maxRecDepth 100000 in
theorem d_Tp_step_78 : decode b_Tp_step 78 = .ok (.aload_n 0, 1) := by decide +kernel
set_option maxRecDepth 100000 in
theorem d_Tp_step_79 : decode b_Tp_step 79 = .ok (.getfield 9, 3) := by decide +kernel
set_option maxRecDepth 100000 in
theorem d_Tp_step_82 : decode b_Tp_step 82 = .ok (.aload_n 0, 1) := by decide +kernel
set_option maxRecDepth 100000 in
theorem d_Tp_step_83 : decode b_Tp_step 83 = .ok (.getfield 34, 3) := by decide +kernel
set_option maxRecDepth 100000 in
theorem d_Tp_step_86 : decode b_Tp_step 86 = .ok (.baload, 1) := by decide +kernel
set_option maxRecDepth 100000 in
theorem d_Tp_step_87 : decode b_Tp_step 87 = .ok (.invokestatic 96, 3) := by decide +kernel
set_option maxRecDepth 100000 in
theorem d_Tp_step_90 : decode b_Tp_step 90 = .ok (.ifCond .eq 15, 3) := by decide +kernel
set_option maxRecDepth 100000 in
theorem d_Tp_step_93 : decode b_Tp_step 93 = .ok (.aload_n 0, 1) := by decide +kernel
set_option maxRecDepth 100000 in
theorem d_Tp_step_94 : decode b_Tp_step 94 = .ok (.iconst 1, 1) := by decide +kernel
set_option maxRecDepth 100000 in
theorem d_Tp_step_95 : decode b_Tp_step 95 = .ok (.putfield 37, 3) := by decide +kernel
set_option maxRecDepth 100000 in
theorem d_Tp_step_98 : decode b_Tp_step 98 = .ok (.aload_n 0, 1) := by decide +kernel
set_option maxRecDepth 100000 in
theorem d_Tp_step_99 : decode b_Tp_step 99 = .ok (.invokevirtual 100, 3) := by decide +kernel
set_option maxRecDepth 100000 in
theorem d_Tp_step_102 : decode b_Tp_step 102 = .ok (.goto 80, 3) := by decide +kernel
set_option maxRecDepth 100000 in
theorem d_Tp_step_105 : decode b_Tp_step 105 = .ok (.aload_n 0, 1) := by decide +kernel
set_option maxRecDepth 100000 in
theorem d_Tp_step_106 : decode b_Tp_step 106 = .ok (.getfield 9, 3) := by decide +kernel
set_option maxRecDepth 100000 in
theorem d_Tp_step_109 : decode b_Tp_step 109 = .ok (.aload_n 0, 1) := by decide +kernel
set_option maxRecDepth 100000 in
theorem d_Tp_step_110 : decode b_Tp_step 110 = .ok (.getfield 34, 3) := by decide +kernel
set_option maxRecDepth 100000 in
theorem d_Tp_step_113 : decode b_Tp_step 113 = .ok (.baload, 1) := by decide +kernel
set_option maxRecDepth 100000 in
theorem d_Tp_step_114 : decode b_Tp_step 114 = .ok (.invokestatic 103, 3) := by decide +kernel
set_option maxRecDepth 100000 in
theorem d_Tp_step_117 : decode b_Tp_step 117 = .ok (.ifCond .eq 32, 3) := by decide +kernel
set_option maxRecDepth 100000 in
theorem d_Tp_step_120 : decode b_Tp_step 120 = .ok (.aload_n 0, 1) := by decide +kernel
set_option maxRecDepth 100000 in
theorem d_Tp_step_121 : decode b_Tp_step 121 = .ok (.invokevirtual 106, 3) := by decide +kernel
set_option maxRecDepth 100000 in
theorem d_Tp_step_124 : decode b_Tp_step 124 = .ok (.aload_n 0, 1) := by decide +kernel
set_option maxRecDepth 100000 in
theorem d_Tp_step_125 : decode b_Tp_step 125 = .ok (.aload_n 0, 1) := by decide +kernel
set_option maxRecDepth 100000 in
theorem d_Tp_step_126 : decode b_Tp_step 126 = .ok (.getfield 24, 3) := by decide +kernel
set_option maxRecDepth 100000 in
theorem d_Tp_step_129 : decode b_Tp_step 129 = .ok (.aload_n 0, 1) := by decide +kernel
set_option maxRecDepth 100000 in
theorem d_Tp_step_130 : decode b_Tp_step 130 = .ok (.getfield 34, 3) := by decide +kernel
set_option maxRecDepth 100000 in
theorem d_Tp_step_133 : decode b_Tp_step 133 = .ok (.isub, 1) := by decide +kernel
set_option maxRecDepth 100000 in
theorem d_Tp_step_134 : decode b_Tp_step 134 = .ok (.iconst 5, 1) := by decide +kernel
set_option maxRecDepth 100000 in
theorem d_Tp_step_135 : decode b_Tp_step 135 = .ok (.if_icmp .le 7, 3) := by decide +kernel
set_option maxRecDepth 100000 in
theorem d_Tp_step_138 : decode b_Tp_step 138 = .ok (.iconst 4, 1) := by decide +kernel
set_option maxRecDepth 100000 in
theorem d_Tp_step_139 : decode b_Tp_step 139 = .ok (.goto 4, 3) := by decide +kernel
set_option maxRecDepth 100000 in
theorem d_Tp_step_142 : decode b_Tp_step 142 = .ok (.iconst 2, 1) := by decide +kernel
set_option maxRecDepth 100000 in
theorem d_Tp_step_143 : decode b_Tp_step 143 = .ok (.putfield 37, 3) := by decide +kernel
set_option maxRecDepth 100000 in
theorem d_Tp_step_146 : decode b_Tp_step 146 = .ok (.goto 36, 3) := by decide +kernel
set_option maxRecDepth 100000 in
theorem d_Tp_step_149 : decode b_Tp_step 149 = .ok (.aload_n 0, 1) := by decide +kernel
set_option maxRecDepth 100000 in
theorem d_Tp_step_150 : decode b_Tp_step 150 = .ok (.aload_n 0, 1) := by decide +kernel
set_option maxRecDepth 100000 in
theorem d_Tp_step_151 : decode b_Tp_step 151 = .ok (.getfield 9, 3) := by decide +kernel
set_option maxRecDepth 100000 in
theorem d_Tp_step_154 : decode b_Tp_step 154 = .ok (.aload_n 0, 1) := by decide +kernel
set_option maxRecDepth 100000 in
theorem d_Tp_step_155 : decode b_Tp_step 155 = .ok (.getfield 34, 3) := by decide +kernel
set_option maxRecDepth 100000 in
theorem d_Tp_step_158 : decode b_Tp_step 158 = .ok (.baload, 1) := by decide +kernel
set_option maxRecDepth 100000 in
theorem d_Tp_step_159 : decode b_Tp_step 159 = .ok (.bipush 59, 2) := by decide +kernel
set_option maxRecDepth 100000 in
theorem d_Tp_step_161 : decode b_Tp_step 161 = .ok (.if_icmp .ne 7, 3) := by decide +kernel
set_option maxRecDepth 100000 in
theorem d_Tp_step_164 : decode b_Tp_step 164 = .ok (.iconst 3, 1) := by decide +kernel
set_option maxRecDepth 100000 in
theorem d_Tp_step_165 : decode b_Tp_step 165 = .ok (.goto 4, 3) := by decide +kernel
set_option maxRecDepth 100000 in
theorem d_Tp_step_168 : decode b_Tp_step 168 = .ok (.iconst 4, 1) := by decide +kernel
set_option maxRecDepth 100000 in
theorem d_Tp_step_169 : decode b_Tp_step 169 = .ok (.putfield 37, 3) := by decide +kernel
set_option maxRecDepth 100000 in
theorem d_Tp_step_172 : decode b_Tp_step 172 = .ok (.aload_n 0, 1) := by decide +kernel
set_option maxRecDepth 100000 in
theorem d_Tp_step_173 : decode b_Tp_step 173 = .ok (.dup, 1) := by decide +kernel
set_option maxRecDepth 100000 in
theorem d_Tp_step_174 : decode b_Tp_step 174 = .ok (.getfield 24, 3) := by decide +kernel
set_option maxRecDepth 100000 in
theorem d_Tp_step_177 : decode b_Tp_step 177 = .ok (.iconst 1, 1) := by decide +kernel
set_option maxRecDepth 100000 in
theorem d_Tp_step_178 : decode b_Tp_step 178 = .ok (.iadd, 1) := by decide +kernel
set_option maxRecDepth 100000 in
theorem d_Tp_step_179 : decode b_Tp_step 179 = .ok (.putfield 24, 3) := by decide +kernel
set_option maxRecDepth 100000 in
theorem d_Tp_step_182 : decode b_Tp_step 182 = .ok (.return_, 1) := by decide +kernel
set_option maxRecDepth 100000 in
theorem d_Tp_stepOverNumber_0 : decode b_Tp_stepOverNumber 0 = .ok (.aload_n 0, 1) := by decide +kernel
set_option maxRecDepth 100000 in
theorem d_Tp_stepOverNumber_1 : decode b_Tp_stepOverNumber 1 = .ok (.getfield 37, 3) := by decide +kernel
set_option maxRecDepth 100000 in
theorem d_Tp_stepOverNumber_4 : decode b_Tp_stepOverNumber 4 = .ok (.iconst 2, 1) := by decide +kernel
set_option maxRecDepth 100000 in
theorem d_Tp_stepOverNumber_5 : decode b_Tp_stepOverNumber 5 = .ok (.if_icmp .eq 5, 3) := by decide +kernel
set_option maxRecDepth 100000 in
theorem d_Tp_stepOverNumber_8 : decode b_Tp_stepOverNumber 8 = .ok (.iconst 0, 1) := by decide +kernel
set_option maxRecDepth 100000 in
theorem d_Tp_stepOverNumber_9 : decode b_Tp_stepOverNumber 9 = .ok (.ireturn, 1) := by decide +kernel
set_option maxRecDepth 100000 in
theorem d_Tp_stepOverNumber_10 : decode b_Tp_stepOverNumber 10 = .ok (.aload_n 0, 1) := by decide +kernel
set_option maxRecDepth 100000 in
theorem d_Tp_stepOverNumber_11 : decode b_Tp_stepOverNumber 11 = .ok (.invokevirtual 27, 3) := by decide +kernel
set_option maxRecDepth 100000 in
theorem d_Tp_stepOverNumber_14 : decode b_Tp_stepOverNumber 14 = .ok (.iconst 1, 1) := by decide +kernel
set_option maxRecDepth 100000 in
theorem d_Tp_stepOverNumber_15 : decode b_Tp_stepOverNumber 15 = .ok (.ireturn, 1) := by decide +kernel
set_option maxRecDepth 100000 in
theorem d_Tp_stepOverWord_0 : decode b_Tp_stepOverWord 0 = .ok (.aload_n 0, 1) := by decide +kernel
set_option maxRecDepth 100000 in
theorem d_Tp_stepOverWord_1 : decode b_Tp_stepOverWord 1 = .ok (.getfield 37, 3) := by decide +kernel
set_option maxRecDepth 100000 in
theorem d_Tp_stepOverWord_4 : decode b_Tp_stepOverWord 4 = .ok (.iconst 1, 1) := by decide +kernel
set_option maxRecDepth 100000 in
theorem d_Tp_stepOverWord_5 : decode b_Tp_stepOverWord 5 = .ok (.if_icmp .ne 11, 3) := by decide +kernel
set_option maxRecDepth 100000 in
theorem d_Tp_stepOverWord_8 : decode b_Tp_stepOverWord 8 = .ok (.aload_n 0, 1) := by decide +kernel
set_option maxRecDepth 100000 in
theorem d_Tp_stepOverWord_9 : decode b_Tp_stepOverWord 9 = .ok (.aload_n 1, 1) := by decide +kernel
set_option maxRecDepth 100000 in
theorem d_Tp_stepOverWord_10 : decode b_Tp_stepOverWord 10 = .ok (.invokevirtual 67, 3) := by decide +kernel
set_option maxRecDepth 100000 in
theorem d_Tp_stepOverWord_13 : decode b_Tp_stepOverWord 13 = .ok (.ifCond .ne 5, 3) := by decide +kernel
set_option maxRecDepth 100000 in
theorem d_Tp_stepOverWord_16 : decode b_Tp_stepOverWord 16 = .ok (.iconst 0, 1) := by decide +kernel
set_option maxRecDepth 100000 in
theorem d_Tp_stepOverWord_17 : decode b_Tp_stepOverWord 17 = .ok (.ireturn, 1) := by decide +kernel
set_option maxRecDepth 100000 in
theorem d_Tp_stepOverWord_18 : decode b_Tp_stepOverWord 18 = .ok (.aload_n 0, 1) := by decide +kernel
set_option maxRecDepth 100000 in
theorem d_Tp_stepOverWord_19 : decode b_Tp_stepOverWord 19 = .ok (.invokevirtual 27, 3) := by decide +kernel
set_option maxRecDepth 100000 in
theorem d_Tp_stepOverWord_22 : decode b_Tp_stepOverWord 22 = .ok (.iconst 1, 1) := by decide +kernel
set_option maxRecDepth 100000 in
theorem d_Tp_stepOverWord_23 : decode b_Tp_stepOverWord 23 = .ok (.ireturn, 1) := by decide +kernel
set_option maxRecDepth 100000 in
theorem d_Tr_init_0 : decode b_Tr_init 0 = .ok (.aload_n 0, 1) := by decide +kernel
set_option maxRecDepth 100000 in
theorem d_Tr_init_1 : decode b_Tr_init 1 = .ok (.invokespecial 1, 3) := by decide +kernel
set_option maxRecDepth 100000 in
theorem d_Tr_init_4 : decode b_Tr_init 4 = .ok (.aload_n 0, 1) := by decide +kernel
set_option maxRecDepth 100000 in
theorem d_Tr_init_5 : decode b_Tr_init 5 = .ok (.iload_n 1, 1) := by decide +kernel
set_option maxRecDepth 100000 in
theorem d_Tr_init_6 : decode b_Tr_init 6 = .ok (.putfield 7, 3) := by decide +kernel
set_option maxRecDepth 100000 in
theorem d_Tr_init_9 : decode b_Tr_init 9 = .ok (.aload_n 0, 1) := by decide +kernel
set_option maxRecDepth 100000 in
theorem d_Tr_init_10 : decode b_Tr_init 10 = .ok (.iload_n 2, 1) := by decide +kernel
set_option maxRecDepth 100000 in
theorem d_Tr_init_11 : decode b_Tr_init 11 = .ok (.putfield 13, 3) := by decide +kernel
set_option maxRecDepth 100000 in
theorem d_Tr_init_14 : decode b_Tr_init 14 = .ok (.aload_n 0, 1) := by decide +kernel
set_option maxRecDepth 100000 in
theorem d_Tr_init_15 : decode b_Tr_init 15 = .ok (.iload_n 3, 1) := by decide +kernel
set_option maxRecDepth 100000 in
theorem d_Tr_init_16 : decode b_Tr_init 16 = .ok (.putfield 16, 3) := by decide +kernel
set_option maxRecDepth 100000 in
theorem d_Tr_init_19 : decode b_Tr_init 19 = .ok (.aload_n 0, 1) := by decide +kernel
set_option maxRecDepth 100000 in
theorem d_Tr_init_20 : decode b_Tr_init 20 = .ok (.iload 4, 2) := by decide +kernel
set_option maxRecDepth 100000 in
theorem d_Tr_init_22 : decode b_Tr_init 22 = .ok (.putfield 19, 3) := by decide +kernel
set_option maxRecDepth 100000 in
theorem d_Tr_init_25 : decode b_Tr_init 25 = .ok (.return_, 1) := by decide +kernel
set_option maxRecDepth 100000 in
theorem d_WM_absent_0 : decode b_WM_absent 0 = .ok (.aload_n 0, 1) := by decide +kernel
set_option maxRecDepth 100000 in
theorem d_WM_absent_1 : decode b_WM_absent 1 = .ok (.iload_n 1, 1) := by decide +kernel
set_option maxRecDepth 100000 in
theorem d_WM_absent_2 : decode b_WM_absent 2 = .ok (.invokevirtual 107, 3) := by decide +kernel
set_option maxRecDepth 100000 in
theorem d_WM_absent_5 : decode b_WM_absent 5 = .ok (.astore 4, 2) := by decide +kernel
set_option maxRecDepth 100000 in
theorem d_WM_absent_7 : decode b_WM_absent 7 = .ok (.aload 4, 2) := by decide +kernel
set_option maxRecDepth 100000 in
theorem d_WM_absent_9 : decode b_WM_absent 9 = .ok (.ifnull 20, 3) := by decide +kernel
set_option maxRecDepth 100000 in
theorem d_WM_absent_12 : decode b_WM_absent 12 = .ok (.iload_n 2, 1) := by decide +kernel
set_option maxRecDepth 100000 in
theorem d_WM_absent_13 : decode b_WM_absent 13 = .ok (.ifCond .lt 16, 3) := by decide +kernel
set_option maxRecDepth 100000 in
theorem d_WM_absent_16 : decode b_WM_absent 16 = .ok (.iload_n 2, 1) := by decide +kernel
set_option maxRecDepth 100000 in
theorem d_WM_absent_17 : decode b_WM_absent 17 = .ok (.iload_n 3, 1) := by decide +kernel
set_option maxRecDepth 100000 in
theorem d_WM_absent_18 : decode b_WM_absent 18 = .ok (.if_icmp .gt 11, 3) := by decide +kernel
set_option maxRecDepth 100000 in
theorem d_WM_absent_21 : decode b_WM_absent 21 = .ok (.iload_n 3, 1) := by decide +kernel
set_option maxRecDepth 100000 in
theorem d_WM_absent_22 : decode b_WM_absent 22 = .ok (.aload_n 0, 1) := by decide +kernel
set_option maxRecDepth 100000 in
theorem d_WM_absent_23 : decode b_WM_absent 23 = .ok (.invokevirtual 97, 3) := by decide +kernel
set_option maxRecDepth 100000 in
theorem d_WM_absent_26 : decode b_WM_absent 26 = .ok (.if_icmp .le 5, 3) := by decide +kernel
set_option maxRecDepth 100000 in
theorem d_WM_absent_29 : decode b_WM_absent 29 = .ok (.iconst (-1), 1) := by decide +kernel
set_option maxRecDepth 100000 in
theorem d_WM_absent_30 : decode b_WM_absent 30 = .ok (.ireturn, 1) := by decide +kernel
set_option maxRecDepth 100000 in
theorem d_WM_absent_31 : decode b_WM_absent 31 = .ok (.aload 4, 2) := by decide +kernel
set_option maxRecDepth 100000 in
theorem d_WM_absent_33 : decode b_WM_absent 33 = .ok (.getfield 119, 3) := by decide +kernel
set_option maxRecDepth 100000 in
theorem d_WM_absent_36 : decode b_WM_absent 36 = .ok (.astore 5, 2) := by decide +kernel
set_option maxRecDepth 100000 in
theorem d_WM_absent_38 : decode b_WM_absent 38 = .ok (.aload 5, 2) := by decide +kernel
set_option maxRecDepth 100000 in
theorem d_WM_absent_40 : decode b_WM_absent 40 = .ok (.ifnull 14, 3) := by decide +kernel
set_option maxRecDepth 100000 in
theorem d_WM_absent_43 : decode b_WM_absent 43 = .ok (.iload_n 2, 1) := by decide +kernel
set_option maxRecDepth 100000 in
theorem d_WM_absent_44 : decode b_WM_absent 44 = .ok (.aload 5, 2) := by decide +kernel
set_option maxRecDepth 100000 in
theorem d_WM_absent_46 : decode b_WM_absent 46 = .ok (.getfield 123, 3) := by decide +kernel
set_option maxRecDepth 100000 in
theorem d_WM_absent_49 : decode b_WM_absent 49 = .ok (.if_icmp .ge 5, 3) := by decide +kernel
set_option maxRecDepth 100000 in
theorem d_WM_absent_52 : decode b_WM_absent 52 = .ok (.iconst (-1), 1) := by decide +kernel
set_option maxRecDepth 100000 in
theorem d_WM_absent_53 : decode b_WM_absent 53 = .ok (.ireturn, 1) := by decide +kernel
set_option maxRecDepth 100000 in
theorem d_WM_absent_54 : decode b_WM_absent 54 = .ok (.aload 5, 2) := by decide +kernel
set_option maxRecDepth 100000 in
theorem d_WM_absent_56 : decode b_WM_absent 56 = .ok (.ifnull 22, 3) := by decide +kernel
set_option maxRecDepth 100000 in
theorem d_WM_absent_59 : decode b_WM_absent 59 = .ok (.aload 4, 2) := by decide +kernel
set_option maxRecDepth 100000 in
theorem d_WM_absent_61 : decode b_WM_absent 61 = .ok (.getfield 111, 3) := by decide +kernel
set_option maxRecDepth 100000 in
theorem d_WM_absent_64 : decode b_WM_absent 64 = .ok (.iconst 1, 1) := by decide +kernel
set_option maxRecDepth 100000 in
theorem d_WM_absent_65 : decode b_WM_absent 65 = .ok (.if_icmp .ne 13, 3) := by decide +kernel
set_option maxRecDepth 100000 in
theorem d_WM_absent_68 : decode b_WM_absent 68 = .ok (.aload 5, 2) := by decide +kernel
set_option maxRecDepth 100000 in
theorem d_WM_absent_70 : decode b_WM_absent 70 = .ok (.iload_n 2, 1) := by decide +kernel
set_option maxRecDepth 100000 in
theorem d_WM_absent_71 : decode b_WM_absent 71 = .ok (.iload_n 3, 1) := by decide +kernel
set_option maxRecDepth 100000 in
theorem d_WM_absent_72 : decode b_WM_absent 72 = .ok (.invokevirtual 126, 3) := by decide +kernel
set_option maxRecDepth 100000 in
theorem d_WM_absent_75 : decode b_WM_absent 75 = .ok (.ifCond .eq 6, 3) := by decide +kernel
set_option maxRecDepth 100000 in
theorem d_WM_absent_78 : decode b_WM_absent 78 = .ok (.bipush (-2), 2) := by decide +kernel
set_option maxRecDepth 100000 in
theorem d_WM_absent_80 : decode b_WM_absent 80 = .ok (.ireturn, 1) := by decide +kernel
set_option maxRecDepth 100000 in
theorem d_WM_absent_81 : decode b_WM_absent 81 = .ok (.aload 5, 2) := by decide +kernel
set_option maxRecDepth 100000 in
theorem d_WM_absent_83 : decode b_WM_absent 83 = .ok (.getfield 130, 3) := by decide +kernel
set_option maxRecDepth 100000 in
theorem d_WM_absent_86 : decode b_WM_absent 86 = .ok (.bipush 6, 2) := by decide +kernel
set_option maxRecDepth 100000 in
theorem d_WM_absent_88 : decode b_WM_absent 88 = .ok (.if_icmp .lt 8, 3) := by decide +kernel
set_option maxRecDepth 100000 in
theorem d_WM_absent_91 : decode b_WM_absent 91 = .ok (.bipush (-3), 2) := by decide +kernel
set_option maxRecDepth 100000 in
theorem d_WM_absent_93 : decode b_WM_absent 93 = .ok (.goto 10, 3) := by decide +kernel
set_option maxRecDepth 100000 in
theorem d_WM_absent_96 : decode b_WM_absent 96 = .ok (.aload 5, 2) := by decide +kernel
set_option maxRecDepth 100000 in
theorem d_WM_absent_98 : decode b_WM_absent 98 = .ok (.iload_n 2, 1) := by decide +kernel
set_option maxRecDepth 100000 in
theorem d_WM_absent_99 : decode b_WM_absent 99 = .ok (.iload_n 3, 1) := by decide +kernel
set_option maxRecDepth 100000 in
theorem d_WM_absent_100 : decode b_WM_absent 100 = .ok (.invokevirtual 133, 3) := by decide +kernel
set_option maxRecDepth 100000 in
theorem d_WM_absent_103 : decode b_WM_absent 103 = .ok (.ireturn, 1) := by decide +kernel
set_option maxRecDepth 100000 in
theorem d_WM_bind_0 : decode b_WM_bind 0 = .ok (.aload_n 0, 1) := by decide +kernel
set_option maxRecDepth 100000 in
theorem d_WM_bind_1 : decode b_WM_bind 1 = .ok (.iload_n 1, 1) := by decide +kernel
set_option maxRecDepth 100000 in
theorem d_WM_bind_2 : decode b_WM_bind 2 = .ok (.invokevirtual 107, 3) := by decide +kernel
set_option maxRecDepth 100000 in
theorem d_WM_bind_5 : decode b_WM_bind 5 = .ok (.astore_n 3, 1) := by decide +kernel
set_option maxRecDepth 100000 in
theorem d_WM_bind_6 : decode b_WM_bind 6 = .ok (.aload_n 0, 1) := by decide +kernel
set_option maxRecDepth 100000 in
theorem d_WM_bind_7 : decode b_WM_bind 7 = .ok (.iload_n 2, 1) := by decide +kernel
set_option maxRecDepth 100000 in
theorem d_WM_bind_8 : decode b_WM_bind 8 = .ok (.invokevirtual 107, 3) := by decide +kernel
set_option maxRecDepth 100000 in
theorem d_WM_bind_11 : decode b_WM_bind 11 = .ok (.astore 4, 2) := by decide +kernel
set_option maxRecDepth 100000 in
theorem d_WM_bind_13 : decode b_WM_bind 13 = .ok (.aload_n 3, 1) := by decide +kernel
set_option maxRecDepth 100000 in
theorem d_WM_bind_14 : decode b_WM_bind 14 = .ok (.ifnull 8, 3) := by decide +kernel
set_option maxRecDepth 100000 in
theorem d_WM_bind_17 : decode b_WM_bind 17 = .ok (.aload 4, 2) := by decide +kernel
set_option maxRecDepth 100000 in
theorem d_WM_bind_19 : decode b_WM_bind 19 = .ok (.ifnonnull 5, 3) := by decide +kernel
set_option maxRecDepth 100000 in
theorem d_WM_bind_22 : decode b_WM_bind 22 = .ok (.iconst (-1), 1) := by decide +kernel
set_option maxRecDepth 100000 in
theorem d_WM_bind_23 : decode b_WM_bind 23 = .ok (.ireturn, 1) := by decide +kernel
set_option maxRecDepth 100000 in
theorem d_WM_bind_24 : decode b_WM_bind 24 = .ok (.aload_n 3, 1) := by decide +kernel
set_option maxRecDepth 100000 in
theorem d_WM_bind_25 : decode b_WM_bind 25 = .ok (.getfield 111, 3) := by decide +kernel
set_option maxRecDepth 100000 in
theorem d_WM_bind_28 : decode b_WM_bind 28 = .ok (.ifCond .ne 12, 3) := by decide +kernel
set_option maxRecDepth 100000 in
theorem d_WM_bind_31 : decode b_WM_bind 31 = .ok (.aload 4, 2) := by decide +kernel
set_option maxRecDepth 100000 in
theorem d_WM_bind_33 : decode b_WM_bind 33 = .ok (.getfield 111, 3) := by decide +kernel
set_option maxRecDepth 100000 in
theorem d_WM_bind_36 : decode b_WM_bind 36 = .ok (.iconst 2, 1) := by decide +kernel
set_option maxRecDepth 100000 in
theorem d_WM_bind_37 : decode b_WM_bind 37 = .ok (.if_icmp .eq 6, 3) := by decide +kernel
set_option maxRecDepth 100000 in
theorem d_WM_bind_40 : decode b_WM_bind 40 = .ok (.bipush (-2), 2) := by decide +kernel
set_option maxRecDepth 100000 in
theorem d_WM_bind_42 : decode b_WM_bind 42 = .ok (.ireturn, 1) := by decide +kernel
set_option maxRecDepth 100000 in
theorem d_WM_bind_43 : decode b_WM_bind 43 = .ok (.aload_n 3, 1) := by decide +kernel
set_option maxRecDepth 100000 in
theorem d_WM_bind_44 : decode b_WM_bind 44 = .ok (.iconst 1, 1) := by decide +kernel
set_option maxRecDepth 100000 in
theorem d_WM_bind_45 : decode b_WM_bind 45 = .ok (.putfield 111, 3) := by decide +kernel
set_option maxRecDepth 100000 in
theorem d_WM_bind_48 : decode b_WM_bind 48 = .ok (.aload_n 3, 1) := by decide +kernel
set_option maxRecDepth 100000 in
theorem d_WM_bind_49 : decode b_WM_bind 49 = .ok (.new 114, 3) := by decide +kernel
set_option maxRecDepth 100000 in
theorem d_WM_bind_52 : decode b_WM_bind 52 = .ok (.dup, 1) := by decide +kernel
set_option maxRecDepth 100000 in
theorem d_WM_bind_53 : decode b_WM_bind 53 = .ok (.iload_n 2, 1) := by decide +kernel
set_option maxRecDepth 100000 in
theorem d_WM_bind_54 : decode b_WM_bind 54 = .ok (.aload_n 0, 1) := by decide +kernel
set_option maxRecDepth 100000 in
theorem d_WM_bind_55 : decode b_WM_bind 55 = .ok (.invokevirtual 97, 3) := by decide +kernel
set_option maxRecDepth 100000 in
theorem d_WM_bind_58 : decode b_WM_bind 58 = .ok (.invokespecial 116, 3) := by decide +kernel
set_option maxRecDepth 100000 in
theorem d_WM_bind_61 : decode b_WM_bind 61 = .ok (.putfield 119, 3) := by decide +kernel
set_option maxRecDepth 100000 in
theorem d_WM_bind_64 : decode b_WM_bind 64 = .ok (.iconst 1, 1) := by decide +kernel
set_option maxRecDepth 100000 in
theorem d_WM_bind_65 : decode b_WM_bind 65 = .ok (.ireturn, 1) := by decide +kernel
set_option maxRecDepth 100000 in
theorem d_WM_boat_0 : decode b_WM_boat 0 = .ok (.iload_n 1, 1) := by decide +kernel
set_option maxRecDepth 100000 in
theorem d_WM_boat_1 : decode b_WM_boat 1 = .ok (.invokestatic 164, 3) := by decide +kernel
set_option maxRecDepth 100000 in
theorem d_WM_boat_4 : decode b_WM_boat 4 = .ok (.ifCond .eq 14, 3) := by decide +kernel
set_option maxRecDepth 100000 in
theorem d_WM_boat_7 : decode b_WM_boat 7 = .ok (.aload_n 0, 1) := by decide +kernel
set_option maxRecDepth 100000 in
theorem d_WM_boat_8 : decode b_WM_boat 8 = .ok (.getfield 12, 3) := by decide +kernel
set_option maxRecDepth 100000 in
theorem d_WM_boat_11 : decode b_WM_boat 11 = .ok (.iload_n 2, 1) := by decide +kernel
set_option maxRecDepth 100000 in
theorem d_WM_boat_12 : decode b_WM_boat 12 = .ok (.invokevirtual 167, 3) := by decide +kernel
set_option maxRecDepth 100000 in
theorem d_WM_boat_15 : decode b_WM_boat 15 = .ok (.ifCond .ne 5, 3) := by decide +kernel
set_option maxRecDepth 100000 in
theorem d_WM_boat_18 : decode b_WM_boat 18 = .ok (.iconst (-1), 1) := by decide +kernel
set_option maxRecDepth 100000 in
theorem d_WM_boat_19 : decode b_WM_boat 19 = .ok (.ireturn, 1) := by decide +kernel
set_option maxRecDepth 100000 in
theorem d_WM_boat_20 : decode b_WM_boat 20 = .ok (.aload_n 0, 1) := by decide +kernel
set_option maxRecDepth 100000 in
theorem d_WM_boat_21 : decode b_WM_boat 21 = .ok (.getfield 170, 3) := by decide +kernel
set_option maxRecDepth 100000 in
theorem d_WM_boat_24 : decode b_WM_boat 24 = .ok (.bipush 20, 2) := by decide +kernel
set_option maxRecDepth 100000 in
theorem d_WM_boat_26 : decode b_WM_boat 26 = .ok (.if_icmp .lt 6, 3) := by decide +kernel
set_option maxRecDepth 100000 in
theorem d_WM_boat_29 : decode b_WM_boat 29 = .ok (.bipush (-3), 2) := by decide +kernel
set_option maxRecDepth 100000 in
theorem d_WM_boat_31 : decode b_WM_boat 31 = .ok (.ireturn, 1) := by decide +kernel
set_option maxRecDepth 100000 in
theorem d_WM_boat_32 : decode b_WM_boat 32 = .ok (.aload_n 0, 1) := by decide +kernel
set_option maxRecDepth 100000 in
theorem d_WM_boat_33 : decode b_WM_boat 33 = .ok (.getfield 24, 3) := by decide +kernel
set_option maxRecDepth 100000 in
theorem d_WM_boat_36 : decode b_WM_boat 36 = .ok (.aload_n 0, 1) := by decide +kernel
set_option maxRecDepth 100000 in
theorem d_WM_boat_37 : decode b_WM_boat 37 = .ok (.getfield 170, 3) := by decide +kernel
set_option maxRecDepth 100000 in
theorem d_WM_boat_40 : decode b_WM_boat 40 = .ok (.new 22, 3) := by decide +kernel
set_option maxRecDepth 100000 in
theorem d_WM_boat_43 : decode b_WM_boat 43 = .ok (.dup, 1) := by decide +kernel
set_option maxRecDepth 100000 in
theorem d_WM_boat_44 : decode b_WM_boat 44 = .ok (.iload_n 1, 1) := by decide +kernel
set_option maxRecDepth 100000 in
theorem d_WM_boat_45 : decode b_WM_boat 45 = .ok (.iload_n 2, 1) := by decide +kernel
set_option maxRecDepth 100000 in
theorem d_WM_boat_46 : decode b_WM_boat 46 = .ok (.invokespecial 173, 3) := by decide +kernel
set_option maxRecDepth 100000 in
theorem d_WM_boat_49 : decode b_WM_boat 49 = .ok (.aastore, 1) := by decide +kernel
set_option maxRecDepth 100000 in
theorem d_WM_boat_50 : decode b_WM_boat 50 = .ok (.aload_n 0, 1) := by decide +kernel
set_option maxRecDepth 100000 in
theorem d_WM_boat_51 : decode b_WM_boat 51 = .ok (.dup, 1) := by decide +kernel
set_option maxRecDepth 100000 in
theorem d_WM_boat_52 : decode b_WM_boat 52 = .ok (.getfield 170, 3) := by decide +kernel
set_option maxRecDepth 100000 in
theorem d_WM_boat_55 : decode b_WM_boat 55 = .ok (.iconst 1, 1) := by decide +kernel
set_option maxRecDepth 100000 in
theorem d_WM_boat_56 : decode b_WM_boat 56 = .ok (.iadd, 1) := by decide +kernel
set_option maxRecDepth 100000 in
theorem d_WM_boat_57 : decode b_WM_boat 57 = .ok (.putfield 170, 3) := by decide +kernel
set_option maxRecDepth 100000 in
theorem d_WM_boat_60 : decode b_WM_boat 60 = .ok (.aload_n 0, 1) := by decide +kernel
set_option maxRecDepth 100000 in
theorem d_WM_boat_61 : decode b_WM_boat 61 = .ok (.getfield 170, 3) := by decide +kernel
set_option maxRecDepth 100000 in
theorem d_WM_boat_64 : decode b_WM_boat 64 = .ok (.iconst 1, 1) := by decide +kernel
set_option maxRecDepth 100000 in
theorem d_WM_boat_65 : decode b_WM_boat 65 = .ok (.isub, 1) := by decide +kernel
set_option maxRecDepth 100000 in
theorem d_WM_boat_66 : decode b_WM_boat 66 = .ok (.ireturn, 1) := by decide +kernel
set_option maxRecDepth 100000 in
theorem d_WM_boatAt_0 : decode b_WM_boatAt 0 = .ok (.iload_n 1, 1) := by decide +kernel
set_option maxRecDepth 100000 in
theorem d_WM_boatAt_1 : decode b_WM_boatAt 1 = .ok (.ifCond .lt 20, 3) := by decide +kernel
set_option maxRecDepth 100000 in
theorem d_WM_boatAt_4 : decode b_WM_boatAt 4 = .ok (.iload_n 1, 1) := by decide +kernel
set_option maxRecDepth 100000 in
theorem d_WM_boatAt_5 : decode b_WM_boatAt 5 = .ok (.aload_n 0, 1) := by decide +kernel
set_option maxRecDepth 100000 in
theorem d_WM_boatAt_6 : decode b_WM_boatAt 6 = .ok (.getfield 170, 3) := by decide +kernel
set_option maxRecDepth 100000 in
theorem d_WM_boatAt_9 : decode b_WM_boatAt 9 = .ok (.if_icmp .ge 12, 3) := by decide +kernel
set_option maxRecDepth 100000 in
theorem d_WM_boatAt_12 : decode b_WM_boatAt 12 = .ok (.aload_n 0, 1) := by decide +kernel
set_option maxRecDepth 100000 in
theorem d_WM_boatAt_13 : decode b_WM_boatAt 13 = .ok (.getfield 24, 3) := by decide +kernel
set_option maxRecDepth 100000 in
theorem d_WM_boatAt_16 : decode b_WM_boatAt 16 = .ok (.iload_n 1, 1) := by decide +kernel
set_option maxRecDepth 100000 in
theorem d_WM_boatAt_17 : decode b_WM_boatAt 17 = .ok (.aaload, 1) := by decide +kernel
set_option maxRecDepth 100000 in
theorem d_WM_boatAt_18 : decode b_WM_boatAt 18 = .ok (.goto 4, 3) := by decide +kernel
set_option maxRecDepth 100000 in
theorem d_WM_boatAt_21 : decode b_WM_boatAt 21 = .ok (.aconst_null, 1) := by decide +kernel
set_option maxRecDepth 100000 in
theorem d_WM_boatAt_22 : decode b_WM_boatAt 22 = .ok (.areturn, 1) := by decide +kernel
set_option maxRecDepth 100000 in
theorem d_WM_bridge_0 : decode b_WM_bridge 0 = .ok (.iload_n 1, 1) := by decide +kernel
set_option maxRecDepth 100000 in
theorem d_WM_bridge_1 : decode b_WM_bridge 1 = .ok (.iconst (-1), 1) := by decide +kernel
set_option maxRecDepth 100000 in
theorem d_WM_bridge_2 : decode b_WM_bridge 2 = .ok (.if_icmp .eq 22, 3) := by decide +kernel
set_option maxRecDepth 100000 in
theorem d_WM_bridge_5 : decode b_WM_bridge 5 = .ok (.iload_n 1, 1) := by decide +kernel
set_option maxRecDepth 100000 in
theorem d_WM_bridge_6 : decode b_WM_bridge 6 = .ok (.ifCond .lt 16, 3) := by decide +kernel
set_option maxRecDepth 100000 in
theorem d_WM_bridge_9 : decode b_WM_bridge 9 = .ok (.iload_n 1, 1) := by decide +kernel
set_option maxRecDepth 100000 in
theorem d_WM_bridge_10 : decode b_WM_bridge 10 = .ok (.aload_n 0, 1) := by decide +kernel
set_option maxRecDepth 100000 in
theorem d_WM_bridge_11 : decode b_WM_bridge 11 = .ok (.getfield 12, 3) := by decide +kernel
set_option maxRecDepth 100000 in
theorem d_WM_bridge_14 : decode b_WM_bridge 14 = .ok (.getfield 64, 3) := by decide +kernel
set_option maxRecDepth 100000 in
theorem d_WM_bridge_17 : decode b_WM_bridge 17 = .ok (.iconst 1, 1) := by decide +kernel
set_option maxRecDepth 100000 in
theorem d_WM_bridge_18 : decode b_WM_bridge 18 = .ok (.isub, 1) := by decide +kernel
set_option maxRecDepth 100000 in
theorem d_WM_bridge_19 : decode b_WM_bridge 19 = .ok (.if_icmp .lt 5, 3) := by decide +kernel
set_option maxRecDepth 100000 in
theorem d_WM_bridge_22 : decode b_WM_bridge 22 = .ok (.iconst (-1), 1) := by decide +kernel
set_option maxRecDepth 100000 in
theorem d_WM_bridge_23 : decode b_WM_bridge 23 = .ok (.ireturn, 1) := by decide +kernel
set_option maxRecDepth 100000 in
theorem d_WM_bridge_24 : decode b_WM_bridge 24 = .ok (.aload_n 0, 1) := by decide +kernel
set_option maxRecDepth 100000 in
theorem d_WM_bridge_25 : decode b_WM_bridge 25 = .ok (.getfield 12, 3) := by decide +kernel
set_option maxRecDepth 100000 in
theorem d_WM_bridge_28 : decode b_WM_bridge 28 = .ok (.iload_n 1, 1) := by decide +kernel
set_option maxRecDepth 100000 in
theorem d_WM_bridge_29 : decode b_WM_bridge 29 = .ok (.putfield 72, 3) := by decide +kernel
set_option maxRecDepth 100000 in
theorem d_WM_bridge_32 : decode b_WM_bridge 32 = .ok (.iconst 1, 1) := by decide +kernel
set_option maxRecDepth 100000 in
theorem d_WM_bridge_33 : decode b_WM_bridge 33 = .ok (.ireturn, 1) := by decide +kernel
set_option maxRecDepth 100000 in
theorem d_WM_count_0 : decode b_WM_count 0 = .ok (.iload_n 1, 1) := by decide +kernel
set_option maxRecDepth 100000 in
theorem d_WM_count_1 : decode b_WM_count 1 = .ok (.tableswitch 117 0 9 #[55, 63, 68, 73, 78, 83, 89, 95, 101, 109], 55) := by decide +kernel
set_option maxRecDepth 100000 in
theorem d_WM_count_56 : decode b_WM_count 56 = .ok (.aload_n 0, 1) := by decide +kernel
set_option maxRecDepth 100000 in
theorem d_WM_count_57 : decode b_WM_count 57 = .ok (.getfield 12, 3) := by decide +kernel
set_option maxRecDepth 100000 in
theorem d_WM_count_60 : decode b_WM_count 60 = .ok (.getfield 64, 3) := by decide +kernel
set_option maxRecDepth 100000 in
theorem d_WM_count_63 : decode b_WM_count 63 = .ok (.ireturn, 1) := by decide +kernel
set_option maxRecDepth 100000 in
theorem d_WM_count_64 : decode b_WM_count 64 = .ok (.aload_n 0, 1) := by decide +kernel
set_option maxRecDepth 100000 in
theorem d_WM_count_65 : decode b_WM_count 65 = .ok (.getfield 170, 3) := by decide +kernel
set_option maxRecDepth 100000 in
theorem d_WM_count_68 : decode b_WM_count 68 = .ok (.ireturn, 1) := by decide +kernel
set_option maxRecDepth 100000 in
theorem d_WM_count_69 : decode b_WM_count 69 = .ok (.aload_n 0, 1) := by decide +kernel
set_option maxRecDepth 100000 in
theorem d_WM_count_70 : decode b_WM_count 70 = .ok (.getfield 243, 3) := by decide +kernel
set_option maxRecDepth 100000 in
theorem d_WM_count_73 : decode b_WM_count 73 = .ok (.ireturn, 1) := by decide +kernel
set_option maxRecDepth 100000 in
theorem d_WM_count_74 : decode b_WM_count 74 = .ok (.aload_n 0, 1) := by decide +kernel
set_option maxRecDepth 100000 in
theorem d_WM_count_75 : decode b_WM_count 75 = .ok (.getfield 210, 3) := by decide +kernel
set_option maxRecDepth 100000 in
theorem d_WM_count_78 : decode b_WM_count 78 = .ok (.ireturn, 1) := by decide +kernel
set_option maxRecDepth 100000 in
theorem d_WM_count_79 : decode b_WM_count 79 = .ok (.aload_n 0, 1) := by decide +kernel
set_option maxRecDepth 100000 in
theorem d_WM_count_80 : decode b_WM_count 80 = .ok (.getfield 155, 3) := by decide +kernel
set_option maxRecDepth 100000 in
theorem d_WM_count_83 : decode b_WM_count 83 = .ok (.ireturn, 1) := by decide +kernel
set_option maxRecDepth 100000 in
theorem d_WM_count_84 : decode b_WM_count 84 = .ok (.aload_n 0, 1) := by decide +kernel
set_option maxRecDepth 100000 in
theorem d_WM_count_85 : decode b_WM_count 85 = .ok (.iconst 2, 1) := by decide +kernel
set_option maxRecDepth 100000 in
theorem d_WM_count_86 : decode b_WM_count 86 = .ok (.invokevirtual 340, 3) := by decide +kernel
set_option maxRecDepth 100000 in
theorem d_WM_count_89 : decode b_WM_count 89 = .ok (.ireturn, 1) := by decide +kernel
set_option maxRecDepth 100000 in
theorem d_WM_count_90 : decode b_WM_count 90 = .ok (.aload_n 0, 1) := by decide +kernel
set_option maxRecDepth 100000 in
theorem d_WM_count_91 : decode b_WM_count 91 = .ok (.iconst 1, 1) := by decide +kernel
set_option maxRecDepth 100000 in
theorem d_WM_count_92 : decode b_WM_count 92 = .ok (.invokevirtual 340, 3) := by decide +kernel
set_option maxRecDepth 100000 in
theorem d_WM_count_95 : decode b_WM_count 95 = .ok (.ireturn, 1) := by decide +kernel
set_option maxRecDepth 100000 in
theorem d_WM_count_96 : decode b_WM_count 96 = .ok (.aload_n 0, 1) := by decide +kernel
set_option maxRecDepth 100000 in
theorem d_WM_count_97 : decode b_WM_count 97 = .ok (.iconst 3, 1) := by decide +kernel
set_option maxRecDepth 100000 in
theorem d_WM_count_98 : decode b_WM_count 98 = .ok (.invokevirtual 340, 3) := by decide +kernel
set_option maxRecDepth 100000 in
theorem d_WM_count_101 : decode b_WM_count 101 = .ok (.ireturn, 1) := by decide +kernel
set_option maxRecDepth 100000 in
theorem d_WM_count_102 : decode b_WM_count 102 = .ok (.aload_n 0, 1) := by decide +kernel
set_option maxRecDepth 100000 in
theorem d_WM_count_103 : decode b_WM_count 103 = .ok (.getfield 50, 3) := by decide +kernel
set_option maxRecDepth 100000 in
theorem d_WM_count_106 : decode b_WM_count 106 = .ok (.getfield 280, 3) := by decide +kernel
set_option maxRecDepth 100000 in
theorem d_WM_count_109 : decode b_WM_count 109 = .ok (.ireturn, 1) := by decide +kernel
set_option maxRecDepth 100000 in
theorem d_WM_count_110 : decode b_WM_count 110 = .ok (.aload_n 0, 1) := by decide +kernel
set_option maxRecDepth 100000 in
theorem d_WM_count_111 : decode b_WM_count 111 = .ok (.getfield 43, 3) := by decide +kernel
set_option maxRecDepth 100000 in
theorem d_WM_count_114 : decode b_WM_count 114 = .ok (.getfield 207, 3) := by decide +kernel
set_option maxRecDepth 100000 in
theorem d_WM_count_117 : decode b_WM_count 117 = .ok (.ireturn, 1) := by decide +kernel
set_option maxRecDepth 100000 in
theorem d_WM_count_118 : decode b_WM_count 118 = .ok (.iconst (-1), 1) := by decide +kernel
set_option maxRecDepth 100000 in
theorem d_WM_count_119 : decode b_WM_count 119 = .ok (.ireturn, 1) := by decide +kernel
set_option maxRecDepth 100000 in
theorem d_WM_craft_0 : decode b_WM_craft 0 = .ok (.aload_n 0, 1) := by decide +kernel
set_option maxRecDepth 100000 in
theorem d_WM_craft_1 : decode b_WM_craft 1 = .ok (.iload_n 1, 1) := by decide +kernel
set_option maxRecDepth 100000 in
theorem d_WM_craft_2 : decode b_WM_craft 2 = .ok (.invokevirtual 174, 3) := by decide +kernel
set_option maxRecDepth 100000 in
theorem d_WM_craft_5 : decode b_WM_craft 5 = .ok (.astore_n 3, 1) := by decide +kernel
set_option maxRecDepth 100000 in
theorem d_WM_craft_6 : decode b_WM_craft 6 = .ok (.aload_n 3, 1) := by decide +kernel
set_option maxRecDepth 100000 in
theorem d_WM_craft_7 : decode b_WM_craft 7 = .ok (.ifnonnull 5, 3) := by decide +kernel
set_option maxRecDepth 100000 in
theorem d_WM_craft_10 : decode b_WM_craft 10 = .ok (.iconst (-1), 1) := by decide +kernel
set_option maxRecDepth 100000 in
theorem d_WM_craft_11 : decode b_WM_craft 11 = .ok (.ireturn, 1) := by decide +kernel
set_option maxRecDepth 100000 in
theorem d_WM_craft_12 : decode b_WM_craft 12 = .ok (.iload_n 2, 1) := by decide +kernel
set_option maxRecDepth 100000 in
theorem d_WM_craft_13 : decode b_WM_craft 13 = .ok (.tableswitch 80 0 4 #[35, 40, 45, 50, 71], 35) := by decide +kernel
set_option maxRecDepth 100000 in
theorem d_WM_craft_48 : decode b_WM_craft 48 = .ok (.aload_n 3, 1) := by decide +kernel
set_option maxRecDepth 100000 in
theorem d_WM_craft_49 : decode b_WM_craft 49 = .ok (.getfield 178, 3) := by decide +kernel
set_option maxRecDepth 100000 in
theorem d_WM_craft_52 : decode b_WM_craft 52 = .ok (.ireturn, 1) := by decide +kernel
set_option maxRecDepth 100000 in
theorem d_WM_craft_53 : decode b_WM_craft 53 = .ok (.aload_n 3, 1) := by decide +kernel
set_option maxRecDepth 100000 in
theorem d_WM_craft_54 : decode b_WM_craft 54 = .ok (.getfield 181, 3) := by decide +kernel
set_option maxRecDepth 100000 in
theorem d_WM_craft_57 : decode b_WM_craft 57 = .ok (.ireturn, 1) := by decide +kernel
set_option maxRecDepth 100000 in
theorem d_WM_craft_58 : decode b_WM_craft 58 = .ok (.aload_n 3, 1) := by decide +kernel
set_option maxRecDepth 100000 in
theorem d_WM_craft_59 : decode b_WM_craft 59 = .ok (.getfield 184, 3) := by decide +kernel
set_option maxRecDepth 100000 in
theorem d_WM_craft_62 : decode b_WM_craft 62 = .ok (.ireturn, 1) := by decide +kernel
set_option maxRecDepth 100000 in
theorem d_WM_craft_63 : decode b_WM_craft 63 = .ok (.aload_n 3, 1) := by decide +kernel
set_option maxRecDepth 100000 in
theorem d_WM_craft_64 : decode b_WM_craft 64 = .ok (.aload_n 0, 1) := by decide +kernel
set_option maxRecDepth 100000 in
theorem d_WM_craft_65 : decode b_WM_craft 65 = .ok (.getfield 155, 3) := by decide +kernel
set_option maxRecDepth 100000 in
theorem d_WM_craft_68 : decode b_WM_craft 68 = .ok (.invokevirtual 187, 3) := by decide +kernel
set_option maxRecDepth 100000 in
theorem d_WM_craft_71 : decode b_WM_craft 71 = .ok (.iconst 1, 1) := by decide +kernel
set_option maxRecDepth 100000 in
theorem d_WM_craft_72 : decode b_WM_craft 72 = .ok (.if_icmp .ne 10, 3) := by decide +kernel
set_option maxRecDepth 100000 in
theorem d_WM_craft_75 : decode b_WM_craft 75 = .ok (.aload_n 3, 1) := by decide +kernel
set_option maxRecDepth 100000 in
theorem d_WM_craft_76 : decode b_WM_craft 76 = .ok (.getfield 190, 3) := by decide +kernel
set_option maxRecDepth 100000 in
theorem d_WM_craft_79 : decode b_WM_craft 79 = .ok (.goto 4, 3) := by decide +kernel
set_option maxRecDepth 100000 in
theorem d_WM_craft_82 : decode b_WM_craft 82 = .ok (.iconst (-1), 1) := by decide +kernel
set_option maxRecDepth 100000 in
theorem d_WM_craft_83 : decode b_WM_craft 83 = .ok (.ireturn, 1) := by decide +kernel
set_option maxRecDepth 100000 in
theorem d_WM_craft_84 : decode b_WM_craft 84 = .ok (.aload_n 3, 1) := by decide +kernel
set_option maxRecDepth 100000 in
theorem d_WM_craft_85 : decode b_WM_craft 85 = .ok (.aload_n 0, 1) := by decide +kernel
set_option maxRecDepth 100000 in
theorem d_WM_craft_86 : decode b_WM_craft 86 = .ok (.getfield 155, 3) := by decide +kernel
set_option maxRecDepth 100000 in
theorem d_WM_craft_89 : decode b_WM_craft 89 = .ok (.invokevirtual 187, 3) := by decide +kernel
set_option maxRecDepth 100000 in
theorem d_WM_craft_92 : decode b_WM_craft 92 = .ok (.ireturn, 1) := by decide +kernel
set_option maxRecDepth 100000 in
theorem d_WM_craft_93 : decode b_WM_craft 93 = .ok (.iconst (-1), 1) := by decide +kernel
set_option maxRecDepth 100000 in
theorem d_WM_craft_94 : decode b_WM_craft 94 = .ok (.ireturn, 1) := by decide +kernel
set_option maxRecDepth 100000 in
theorem d_WM_due_0 : decode b_WM_due 0 = .ok (.aload_n 0, 1) := by decide +kernel
set_option maxRecDepth 100000 in
theorem d_WM_due_1 : decode b_WM_due 1 = .ok (.iload_n 1, 1) := by decide +kernel
set_option maxRecDepth 100000 in
theorem d_WM_due_2 : decode b_WM_due 2 = .ok (.invokevirtual 293, 3) := by decide +kernel
set_option maxRecDepth 100000 in
theorem d_WM_due_5 : decode b_WM_due 5 = .ok (.astore_n 3, 1) := by decide +kernel
set_option maxRecDepth 100000 in
theorem d_WM_due_6 : decode b_WM_due 6 = .ok (.aload_n 3, 1) := by decide +kernel
set_option maxRecDepth 100000 in
theorem d_WM_due_7 : decode b_WM_due 7 = .ok (.ifnull 10, 3) := by decide +kernel
set_option maxRecDepth 100000 in
theorem d_WM_due_10 : decode b_WM_due 10 = .ok (.iload_n 2, 1) := by decide +kernel
set_option maxRecDepth 100000 in
theorem d_WM_due_11 : decode b_WM_due 11 = .ok (.invokestatic 75, 3) := by decide +kernel
set_option maxRecDepth 100000 in
theorem d_WM_due_14 : decode b_WM_due 14 = .ok (.ifCond .ne 8, 3) := by decide +kernel
set_option maxRecDepth 100000 in
theorem d_WM_due_17 : decode b_WM_due 17 = .ok (.bipush (-2), 2) := by decide +kernel
set_option maxRecDepth 100000 in
theorem d_WM_due_19 : decode b_WM_due 19 = .ok (.goto 9, 3) := by decide +kernel
set_option maxRecDepth 100000 in
theorem d_WM_due_22 : decode b_WM_due 22 = .ok (.aload_n 0, 1) := by decide +kernel
set_option maxRecDepth 100000 in
theorem d_WM_due_23 : decode b_WM_due 23 = .ok (.aload_n 3, 1) := by decide +kernel
set_option maxRecDepth 100000 in
theorem d_WM_due_24 : decode b_WM_due 24 = .ok (.iload_n 2, 1) := by decide +kernel
set_option maxRecDepth 100000 in
theorem d_WM_due_25 : decode b_WM_due 25 = .ok (.invokevirtual 315, 3) := by decide +kernel
set_option maxRecDepth 100000 in
theorem d_WM_due_28 : decode b_WM_due 28 = .ok (.ireturn, 1) := by decide +kernel
set_option maxRecDepth 100000 in
theorem d_WM_dueOf_0 : decode b_WM_dueOf 0 = .ok (.aload_n 0, 1) := by decide +kernel
set_option maxRecDepth 100000 in
theorem d_WM_dueOf_1 : decode b_WM_dueOf 1 = .ok (.aload_n 0, 1) := by decide +kernel
set_option maxRecDepth 100000 in
theorem d_WM_dueOf_2 : decode b_WM_dueOf 2 = .ok (.aload_n 1, 1) := by decide +kernel
set_option maxRecDepth 100000 in
theorem d_WM_dueOf_3 : decode b_WM_dueOf 3 = .ok (.getfield 309, 3) := by decide +kernel
set_option maxRecDepth 100000 in
theorem d_WM_dueOf_6 : decode b_WM_dueOf 6 = .ok (.sipush 720, 3) := by decide +kernel
set_option maxRecDepth 100000 in
theorem d_WM_dueOf_9 : decode b_WM_dueOf 9 = .ok (.idiv, 1) := by decide +kernel
set_option maxRecDepth 100000 in
theorem d_WM_dueOf_10 : decode b_WM_dueOf 10 = .ok (.iload_n 2, 1) := by decide +kernel
set_option maxRecDepth 100000 in
theorem d_WM_dueOf_11 : decode b_WM_dueOf 11 = .ok (.invokevirtual 223, 3) := by decide +kernel
set_option maxRecDepth 100000 in
theorem d_WM_dueOf_14 : decode b_WM_dueOf 14 = .ok (.invokevirtual 226, 3) := by decide +kernel
set_option maxRecDepth 100000 in
theorem d_WM_dueOf_17 : decode b_WM_dueOf 17 = .ok (.astore_n 3, 1) := by decide +kernel
set_option maxRecDepth 100000 in
theorem d_WM_dueOf_18 : decode b_WM_dueOf 18 = .ok (.aload_n 0, 1) := by decide +kernel
set_option maxRecDepth 100000 in
theorem d_WM_dueOf_19 : decode b_WM_dueOf 19 = .ok (.aload_n 1, 1) := by decide +kernel
set_option maxRecDepth 100000 in
theorem d_WM_dueOf_20 : decode b_WM_dueOf 20 = .ok (.getfield 303, 3) := by decide +kernel
set_option maxRecDepth 100000 in
theorem d_WM_dueOf_23 : decode b_WM_dueOf 23 = .ok (.invokevirtual 174, 3) := by decide +kernel
set_option maxRecDepth 100000 in
theorem d_WM_dueOf_26 : decode b_WM_dueOf 26 = .ok (.astore 4, 2) := by decide +kernel
set_option maxRecDepth 100000 in
theorem d_WM_dueOf_28 : decode b_WM_dueOf 28 = .ok (.aload_n 3, 1) := by decide +kernel
set_option maxRecDepth 100000 in
theorem d_WM_dueOf_29 : decode b_WM_dueOf 29 = .ok (.ifnull 8, 3) := by decide +kernel
set_option maxRecDepth 100000 in
theorem d_WM_dueOf_32 : decode b_WM_dueOf 32 = .ok (.aload 4, 2) := by decide +kernel
set_option maxRecDepth 100000 in
theorem d_WM_dueOf_34 : decode b_WM_dueOf 34 = .ok (.ifnonnull 5, 3) := by decide +kernel
set_option maxRecDepth 100000 in
theorem d_WM_dueOf_37 : decode b_WM_dueOf 37 = .ok (.iconst (-1), 1) := by decide +kernel
set_option maxRecDepth 100000 in
theorem d_WM_dueOf_38 : decode b_WM_dueOf 38 = .ok (.ireturn, 1) := by decide +kernel
set_option maxRecDepth 100000 in
theorem d_WM_dueOf_39 : decode b_WM_dueOf 39 = .ok (.aload_n 0, 1) := by decide +kernel
set_option maxRecDepth 100000 in
theorem d_WM_dueOf_40 : decode b_WM_dueOf 40 = .ok (.aload_n 3, 1) := by decide +kernel
set_option maxRecDepth 100000 in
theorem d_WM_dueOf_41 : decode b_WM_dueOf 41 = .ok (.aload_n 1, 1) := by decide +kernel
set_option maxRecDepth 100000 in
theorem d_WM_dueOf_42 : decode b_WM_dueOf 42 = .ok (.getfield 247, 3) := by decide +kernel
set_option maxRecDepth 100000 in
theorem d_WM_dueOf_45 : decode b_WM_dueOf 45 = .ok (.aload_n 1, 1) := by decide +kernel
set_option maxRecDepth 100000 in
theorem d_WM_dueOf_46 : decode b_WM_dueOf 46 = .ok (.getfield 250, 3) := by decide +kernel
set_option maxRecDepth 100000 in
theorem d_WM_dueOf_49 : decode b_WM_dueOf 49 = .ok (.aload_n 1, 1) := by decide +kernel
set_option maxRecDepth 100000 in
theorem d_WM_dueOf_50 : decode b_WM_dueOf 50 = .ok (.getfield 309, 3) := by decide +kernel
set_option maxRecDepth 100000 in
theorem d_WM_dueOf_53 : decode b_WM_dueOf 53 = .ok (.bipush 60, 2) := by decide +kernel
set_option maxRecDepth 100000 in
theorem d_WM_dueOf_55 : decode b_WM_dueOf 55 = .ok (.idiv, 1) := by decide +kernel
set_option maxRecDepth 100000 in
theorem d_WM_dueOf_56 : decode b_WM_dueOf 56 = .ok (.aload 4, 2) := by decide +kernel
set_option maxRecDepth 100000 in
theorem d_WM_dueOf_58 : decode b_WM_dueOf 58 = .ok (.getfield 181, 3) := by decide +kernel
set_option maxRecDepth 100000 in
theorem d_WM_dueOf_61 : decode b_WM_dueOf 61 = .ok (.invokevirtual 230, 3) := by decide +kernel
set_option maxRecDepth 100000 in
theorem d_WM_dueOf_64 : decode b_WM_dueOf 64 = .ok (.ireturn, 1) := by decide +kernel
set_option maxRecDepth 100000 in
theorem d_WM_end_0 : decode b_WM_end 0 = .ok (.iload_n 1, 1) := by decide +kernel
set_option maxRecDepth 100000 in
theorem d_WM_end_1 : decode b_WM_end 1 = .ok (.ifCond .lt 14, 3) := by decide +kernel
set_option maxRecDepth 100000 in
theorem d_WM_end_4 : decode b_WM_end 4 = .ok (.iload_n 1, 1) := by decide +kernel
set_option maxRecDepth 100000 in
theorem d_WM_end_5 : decode b_WM_end 5 = .ok (.aload_n 0, 1) := by decide +kernel
set_option maxRecDepth 100000 in
theorem d_WM_end_6 : decode b_WM_end 6 = .ok (.getfield 43, 3) := by decide +kernel
set_option maxRecDepth 100000 in
theorem d_WM_end_9 : decode b_WM_end 9 = .ok (.getfield 207, 3) := by decide +kernel
set_option maxRecDepth 100000 in
theorem d_WM_end_12 : decode b_WM_end 12 = .ok (.if_icmp .le 5, 3) := by decide +kernel
set_option maxRecDepth 100000 in
theorem d_WM_end_15 : decode b_WM_end 15 = .ok (.iconst (-1), 1) := by decide +kernel
set_option maxRecDepth 100000 in
theorem d_WM_end_16 : decode b_WM_end 16 = .ok (.ireturn, 1) := by decide +kernel
set_option maxRecDepth 100000 in
theorem d_WM_end_17 : decode b_WM_end 17 = .ok (.aload_n 0, 1) := by decide +kernel
set_option maxRecDepth 100000 in
theorem d_WM_end_18 : decode b_WM_end 18 = .ok (.getfield 43, 3) := by decide +kernel
set_option maxRecDepth 100000 in
theorem d_WM_end_21 : decode b_WM_end 21 = .ok (.iload_n 1, 1) := by decide +kernel
set_option maxRecDepth 100000 in
theorem d_WM_end_22 : decode b_WM_end 22 = .ok (.putfield 207, 3) := by decide +kernel
set_option maxRecDepth 100000 in
theorem d_WM_end_25 : decode b_WM_end 25 = .ok (.iload_n 1, 1) := by decide +kernel
set_option maxRecDepth 100000 in
theorem d_WM_end_26 : decode b_WM_end 26 = .ok (.ireturn, 1) := by decide +kernel
set_option maxRecDepth 100000 in
theorem d_WM_fare_0 : decode b_WM_fare 0 = .ok (.aload_n 0, 1) := by decide +kernel
set_option maxRecDepth 100000 in
theorem d_WM_fare_1 : decode b_WM_fare 1 = .ok (.iload_n 1, 1) := by decide +kernel
set_option maxRecDepth 100000 in
theorem d_WM_fare_2 : decode b_WM_fare 2 = .ok (.invokevirtual 226, 3) := by decide +kernel
set_option maxRecDepth 100000 in
theorem d_WM_fare_5 : decode b_WM_fare 5 = .ok (.astore 6, 2) := by decide +kernel
set_option maxRecDepth 100000 in
theorem d_WM_fare_7 : decode b_WM_fare 7 = .ok (.aload 6, 2) := by decide +kernel
set_option maxRecDepth 100000 in
theorem d_WM_fare_9 : decode b_WM_fare 9 = .ok (.ifnull 30, 3) := by decide +kernel
set_option maxRecDepth 100000 in
theorem d_WM_fare_12 : decode b_WM_fare 12 = .ok (.aload_n 0, 1) := by decide +kernel
set_option maxRecDepth 100000 in
theorem d_WM_fare_13 : decode b_WM_fare 13 = .ok (.getfield 12, 3) := by decide +kernel
set_option maxRecDepth 100000 in
theorem d_WM_fare_16 : decode b_WM_fare 16 = .ok (.iload_n 2, 1) := by decide +kernel
set_option maxRecDepth 100000 in
theorem d_WM_fare_17 : decode b_WM_fare 17 = .ok (.invokevirtual 167, 3) := by decide +kernel
set_option maxRecDepth 100000 in
theorem d_WM_fare_20 : decode b_WM_fare 20 = .ok (.ifCond .eq 19, 3) := by decide +kernel
set_option maxRecDepth 100000 in
theorem d_WM_fare_23 : decode b_WM_fare 23 = .ok (.aload_n 0, 1) := by decide +kernel
set_option maxRecDepth 100000 in
theorem d_WM_fare_24 : decode b_WM_fare 24 = .ok (.getfield 12, 3) := by decide +kernel
set_option maxRecDepth 100000 in
theorem d_WM_fare_27 : decode b_WM_fare 27 = .ok (.iload_n 3, 1) := by decide +kernel
set_option maxRecDepth 100000 in
theorem d_WM_fare_28 : decode b_WM_fare 28 = .ok (.invokevirtual 167, 3) := by decide +kernel
set_option maxRecDepth 100000 in
theorem d_WM_fare_31 : decode b_WM_fare 31 = .ok (.ifCond .eq 8, 3) := by decide +kernel
set_option maxRecDepth 100000 in
theorem d_WM_fare_34 : decode b_WM_fare 34 = .ok (.iload_n 2, 1) := by decide +kernel
set_option maxRecDepth 100000 in
theorem d_WM_fare_35 : decode b_WM_fare 35 = .ok (.iload_n 3, 1) := by decide +kernel
set_option maxRecDepth 100000 in
theorem d_WM_fare_36 : decode b_WM_fare 36 = .ok (.if_icmp .ne 5, 3) := by decide +kernel
set_option maxRecDepth 100000 in
theorem d_WM_fare_39 : decode b_WM_fare 39 = .ok (.iconst (-1), 1) := by decide +kernel
set_option maxRecDepth 100000 in
theorem d_WM_fare_40 : decode b_WM_fare 40 = .ok (.ireturn, 1) := by decide +kernel
set_option maxRecDepth 100000 in
theorem d_WM_fare_41 : decode b_WM_fare 41 = .ok (.iload 4, 2) := by decide +kernel
set_option maxRecDepth 100000 in
theorem d_WM_fare_43 : decode b_WM_fare 43 = .ok (.ifCond .lt 19, 3) := by decide +kernel
set_option maxRecDepth 100000 in
theorem d_WM_fare_46 : decode b_WM_fare 46 = .ok (.iload 4, 2) := by decide +kernel
set_option maxRecDepth 100000 in
theorem d_WM_fare_48 : decode b_WM_fare 48 = .ok (.sipush 6000, 3) := by decide +kernel
set_option maxRecDepth 100000 in
theorem d_WM_fare_51 : decode b_WM_fare 51 = .ok (.if_icmp .ge 11, 3) := by decide +kernel
set_option maxRecDepth 100000 in
theorem d_WM_fare_54 : decode b_WM_fare 54 = .ok (.iload 5, 2) := by decide +kernel
set_option maxRecDepth 100000 in
theorem d_WM_fare_56 : decode b_WM_fare 56 = .ok (.invokestatic 164, 3) := by decide +kernel
set_option maxRecDepth 100000 in
theorem d_WM_fare_59 : decode b_WM_fare 59 = .ok (.ifCond .ne 5, 3) := by decide +kernel
set_option maxRecDepth 100000 in
theorem d_WM_fare_62 : decode b_WM_fare 62 = .ok (.iconst (-1), 1) := by decide +kernel
set_option maxRecDepth 100000 in
theorem d_WM_fare_63 : decode b_WM_fare 63 = .ok (.ireturn, 1) := by decide +kernel
set_option maxRecDepth 100000 in
theorem d_WM_fare_64 : decode b_WM_fare 64 = .ok (.aload_n 0, 1) := by decide +kernel
set_option maxRecDepth 100000 in
theorem d_WM_fare_65 : decode b_WM_fare 65 = .ok (.aload 6, 2) := by decide +kernel
set_option maxRecDepth 100000 in
theorem d_WM_fare_67 : decode b_WM_fare 67 = .ok (.iload_n 2, 1) := by decide +kernel
set_option maxRecDepth 100000 in
theorem d_WM_fare_68 : decode b_WM_fare 68 = .ok (.iload_n 3, 1) := by decide +kernel
set_option maxRecDepth 100000 in
theorem d_WM_fare_69 : decode b_WM_fare 69 = .ok (.iload 4, 2) := by decide +kernel
set_option maxRecDepth 100000 in
theorem d_WM_fare_71 : decode b_WM_fare 71 = .ok (.iload 5, 2) := by decide +kernel
set_option maxRecDepth 100000 in
theorem d_WM_fare_73 : decode b_WM_fare 73 = .ok (.invokevirtual 230, 3) := by decide +kernel
set_option maxRecDepth 100000 in
theorem d_WM_fare_76 : decode b_WM_fare 76 = .ok (.istore 7, 2) := by decide +kernel
set_option maxRecDepth 100000 in
theorem d_WM_fare_78 : decode b_WM_fare 78 = .ok (.iload 7, 2) := by decide +kernel
set_option maxRecDepth 100000 in
theorem d_WM_fare_80 : decode b_WM_fare 80 = .ok (.iconst (-1), 1) := by decide +kernel
set_option maxRecDepth 100000 in
theorem d_WM_fare_81 : decode b_WM_fare 81 = .ok (.if_icmp .ne 8, 3) := by decide +kernel
set_option maxRecDepth 100000 in
theorem d_WM_fare_84 : decode b_WM_fare 84 = .ok (.bipush (-2), 2) := by decide +kernel
set_option maxRecDepth 100000 in
theorem d_WM_fare_86 : decode b_WM_fare 86 = .ok (.goto 5, 3) := by decide +kernel
set_option maxRecDepth 100000 in
theorem d_WM_fare_89 : decode b_WM_fare 89 = .ok (.iload 7, 2) := by decide +kernel
set_option maxRecDepth 100000 in
theorem d_WM_fare_91 : decode b_WM_fare 91 = .ok (.ireturn, 1) := by decide +kernel
set_option maxRecDepth 100000 in
theorem d_WM_feed_0 : decode b_WM_feed 0 = .ok (.aload_n 0, 1) := by decide +kernel
set_option maxRecDepth 100000 in
theorem d_WM_feed_1 : decode b_WM_feed 1 = .ok (.getfield 43, 3) := by decide +kernel
set_option maxRecDepth 100000 in
theorem d_WM_feed_4 : decode b_WM_feed 4 = .ok (.invokevirtual 199, 3) := by decide +kernel
set_option maxRecDepth 100000 in
theorem d_WM_feed_7 : decode b_WM_feed 7 = .ok (.ifCond .ne 6, 3) := by decide +kernel
set_option maxRecDepth 100000 in
theorem d_WM_feed_10 : decode b_WM_feed 10 = .ok (.bipush (-3), 2) := by decide +kernel
set_option maxRecDepth 100000 in
theorem d_WM_feed_12 : decode b_WM_feed 12 = .ok (.ireturn, 1) := by decide +kernel
set_option maxRecDepth 100000 in
theorem d_WM_feed_13 : decode b_WM_feed 13 = .ok (.aload_n 0, 1) := by decide +kernel
set_option maxRecDepth 100000 in
theorem d_WM_feed_14 : decode b_WM_feed 14 = .ok (.getfield 43, 3) := by decide +kernel
set_option maxRecDepth 100000 in
theorem d_WM_feed_17 : decode b_WM_feed 17 = .ok (.iload_n 1, 1) := by decide +kernel
set_option maxRecDepth 100000 in
theorem d_WM_feed_18 : decode b_WM_feed 18 = .ok (.invokevirtual 203, 3) := by decide +kernel
set_option maxRecDepth 100000 in
theorem d_WM_feed_21 : decode b_WM_feed 21 = .ok (.aload_n 0, 1) := by decide +kernel
set_option maxRecDepth 100000 in
theorem d_WM_feed_22 : decode b_WM_feed 22 = .ok (.getfield 43, 3) := by decide +kernel
set_option maxRecDepth 100000 in
theorem d_WM_feed_25 : decode b_WM_feed 25 = .ok (.iload_n 2, 1) := by decide +kernel
set_option maxRecDepth 100000 in
theorem d_WM_feed_26 : decode b_WM_feed 26 = .ok (.invokevirtual 203, 3) := by decide +kernel
set_option maxRecDepth 100000 in
theorem d_WM_feed_29 : decode b_WM_feed 29 = .ok (.aload_n 0, 1) := by decide +kernel
set_option maxRecDepth 100000 in
theorem d_WM_feed_30 : decode b_WM_feed 30 = .ok (.getfield 43, 3) := by decide +kernel
set_option maxRecDepth 100000 in
theorem d_WM_feed_33 : decode b_WM_feed 33 = .ok (.iload_n 3, 1) := by decide +kernel
set_option maxRecDepth 100000 in
theorem d_WM_feed_34 : decode b_WM_feed 34 = .ok (.invokevirtual 203, 3) := by decide +kernel
set_option maxRecDepth 100000 in
theorem d_WM_feed_37 : decode b_WM_feed 37 = .ok (.aload_n 0, 1) := by decide +kernel
set_option maxRecDepth 100000 in
theorem d_WM_feed_38 : decode b_WM_feed 38 = .ok (.getfield 43, 3) := by decide +kernel
set_option maxRecDepth 100000 in
theorem d_WM_feed_41 : decode b_WM_feed 41 = .ok (.iload 4, 2) := by decide +kernel
set_option maxRecDepth 100000 in
theorem d_WM_feed_43 : decode b_WM_feed 43 = .ok (.invokevirtual 203, 3) := by decide +kernel
set_option maxRecDepth 100000 in
theorem d_WM_feed_46 : decode b_WM_feed 46 = .ok (.aload_n 0, 1) := by decide +kernel
set_option maxRecDepth 100000 in
theorem d_WM_feed_47 : decode b_WM_feed 47 = .ok (.getfield 43, 3) := by decide +kernel
set_option maxRecDepth 100000 in
theorem d_WM_feed_50 : decode b_WM_feed 50 = .ok (.iload 5, 2) := by decide +kernel
set_option maxRecDepth 100000 in
theorem d_WM_feed_52 : decode b_WM_feed 52 = .ok (.invokevirtual 203, 3) := by decide +kernel
set_option maxRecDepth 100000 in
theorem d_WM_feed_55 : decode b_WM_feed 55 = .ok (.aload_n 0, 1) := by decide +kernel
set_option maxRecDepth 100000 in
theorem d_WM_feed_56 : decode b_WM_feed 56 = .ok (.getfield 43, 3) := by decide +kernel
set_option maxRecDepth 100000 in
theorem d_WM_feed_59 : decode b_WM_feed 59 = .ok (.getfield 207, 3) := by decide +kernel
set_option maxRecDepth 100000 in
theorem d_WM_feed_62 : decode b_WM_feed 62 = .ok (.ireturn, 1) := by decide +kernel
set_option maxRecDepth 100000 in
theorem d_WM_flow_0 : decode b_WM_flow 0 = .ok (.iload_n 1, 1) := by decide +kernel
set_option maxRecDepth 100000 in
theorem d_WM_flow_1 : decode b_WM_flow 1 = .ok (.invokestatic 75, 3) := by decide +kernel
set_option maxRecDepth 100000 in
theorem d_WM_flow_4 : decode b_WM_flow 4 = .ok (.ifCond .eq 22, 3) := by decide +kernel
set_option maxRecDepth 100000 in
theorem d_WM_flow_7 : decode b_WM_flow 7 = .ok (.iload_n 2, 1) := by decide +kernel
set_option maxRecDepth 100000 in
theorem d_WM_flow_8 : decode b_WM_flow 8 = .ok (.invokestatic 79, 3) := by decide +kernel
set_option maxRecDepth 100000 in
theorem d_WM_flow_11 : decode b_WM_flow 11 = .ok (.ifCond .eq 15, 3) := by decide +kernel
set_option maxRecDepth 100000 in
theorem d_WM_flow_14 : decode b_WM_flow 14 = .ok (.aload_n 0, 1) := by decide +kernel
set_option maxRecDepth 100000 in
theorem d_WM_flow_15 : decode b_WM_flow 15 = .ok (.getfield 12, 3) := by decide +kernel
set_option maxRecDepth 100000 in
theorem d_WM_flow_18 : decode b_WM_flow 18 = .ok (.iload_n 1, 1) := by decide +kernel
set_option maxRecDepth 100000 in
theorem d_WM_flow_19 : decode b_WM_flow 19 = .ok (.iload_n 2, 1) := by decide +kernel
set_option maxRecDepth 100000 in
theorem d_WM_flow_20 : decode b_WM_flow 20 = .ok (.invokevirtual 93, 3) := by decide +kernel
set_option maxRecDepth 100000 in
theorem d_WM_flow_23 : decode b_WM_flow 23 = .ok (.goto 6, 3) := by decide +kernel
set_option maxRecDepth 100000 in
theorem d_WM_flow_26 : decode b_WM_flow 26 = .ok (.sipush (-1000), 3) := by decide +kernel
set_option maxRecDepth 100000 in
theorem d_WM_flow_29 : decode b_WM_flow 29 = .ok (.ireturn, 1) := by decide +kernel
set_option maxRecDepth 100000 in
theorem d_WM_free_0 : decode b_WM_free 0 = .ok (.aload_n 0, 1) := by decide +kernel
set_option maxRecDepth 100000 in
theorem d_WM_free_1 : decode b_WM_free 1 = .ok (.iload_n 1, 1) := by decide +kernel
set_option maxRecDepth 100000 in
theorem d_WM_free_2 : decode b_WM_free 2 = .ok (.invokevirtual 107, 3) := by decide +kernel
set_option maxRecDepth 100000 in
theorem d_WM_free_5 : decode b_WM_free 5 = .ok (.astore_n 2, 1) := by decide +kernel
set_option maxRecDepth 100000 in
theorem d_WM_free_6 : decode b_WM_free 6 = .ok (.aload_n 2, 1) := by decide +kernel
set_option maxRecDepth 100000 in
theorem d_WM_free_7 : decode b_WM_free 7 = .ok (.ifnonnull 5, 3) := by decide +kernel
set_option maxRecDepth 100000 in
theorem d_WM_free_10 : decode b_WM_free 10 = .ok (.iconst (-1), 1) := by decide +kernel
set_option maxRecDepth 100000 in
theorem d_WM_free_11 : decode b_WM_free 11 = .ok (.ireturn, 1) := by decide +kernel
set_option maxRecDepth 100000 in
theorem d_WM_free_12 : decode b_WM_free 12 = .ok (.aload_n 2, 1) := by decide +kernel
set_option maxRecDepth 100000 in
theorem d_WM_free_13 : decode b_WM_free 13 = .ok (.getfield 111, 3) := by decide +kernel
set_option maxRecDepth 100000 in
theorem d_WM_free_16 : decode b_WM_free 16 = .ok (.ifCond .eq 6, 3) := by decide +kernel
set_option maxRecDepth 100000 in
theorem d_WM_free_19 : decode b_WM_free 19 = .ok (.bipush (-2), 2) := by decide +kernel
set_option maxRecDepth 100000 in
theorem d_WM_free_21 : decode b_WM_free 21 = .ok (.ireturn, 1) := by decide +kernel
set_option maxRecDepth 100000 in
theorem d_WM_free_22 : decode b_WM_free 22 = .ok (.aload_n 2, 1) := by decide +kernel
set_option maxRecDepth 100000 in
theorem d_WM_free_23 : decode b_WM_free 23 = .ok (.iconst 2, 1) := by decide +kernel
set_option maxRecDepth 100000 in
theorem d_WM_free_24 : decode b_WM_free 24 = .ok (.putfield 111, 3) := by decide +kernel
set_option maxRecDepth 100000 in
theorem d_WM_free_27 : decode b_WM_free 27 = .ok (.iconst 1, 1) := by decide +kernel
set_option maxRecDepth 100000 in
theorem d_WM_free_28 : decode b_WM_free 28 = .ok (.ireturn, 1) := by decide +kernel
set_option maxRecDepth 100000 in
theorem d_WM_frost_0 : decode b_WM_frost 0 = .ok (.iload_n 1, 1) := by decide +kernel
set_option maxRecDepth 100000 in
theorem d_WM_frost_1 : decode b_WM_frost 1 = .ok (.invokestatic 75, 3) := by decide +kernel
set_option maxRecDepth 100000 in
theorem d_WM_frost_4 : decode b_WM_frost 4 = .ok (.ifCond .eq 20, 3) := by decide +kernel
set_option maxRecDepth 100000 in
theorem d_WM_frost_7 : decode b_WM_frost 7 = .ok (.iload_n 1, 1) := by decide +kernel
set_option maxRecDepth 100000 in
theorem d_WM_frost_8 : decode b_WM_frost 8 = .ok (.aload_n 0, 1) := by decide +kernel
set_option maxRecDepth 100000 in
theorem d_WM_frost_9 : decode b_WM_frost 9 = .ok (.invokevirtual 97, 3) := by decide +kernel
set_option maxRecDepth 100000 in
theorem d_WM_frost_12 : decode b_WM_frost 12 = .ok (.if_icmp .lt 12, 3) := by decide +kernel
set_option maxRecDepth 100000 in
theorem d_WM_frost_15 : decode b_WM_frost 15 = .ok (.iload_n 2, 1) := by decide +kernel
set_option maxRecDepth 100000 in
theorem d_WM_frost_16 : decode b_WM_frost 16 = .ok (.ifCond .lt 8, 3) := by decide +kernel
set_option maxRecDepth 100000 in
theorem d_WM_frost_19 : decode b_WM_frost 19 = .ok (.iload_n 2, 1) := by decide +kernel
set_option maxRecDepth 100000 in
theorem d_WM_frost_20 : decode b_WM_frost 20 = .ok (.iconst 1, 1) := by decide +kernel
set_option maxRecDepth 100000 in
theorem d_WM_frost_21 : decode b_WM_frost 21 = .ok (.if_icmp .le 5, 3) := by decide +kernel
set_option maxRecDepth 100000 in
theorem d_WM_frost_24 : decode b_WM_frost 24 = .ok (.iconst (-1), 1) := by decide +kernel
set_option maxRecDepth 100000 in
theorem d_WM_frost_25 : decode b_WM_frost 25 = .ok (.ireturn, 1) := by decide +kernel
set_option maxRecDepth 100000 in
theorem d_WM_frost_26 : decode b_WM_frost 26 = .ok (.aload_n 0, 1) := by decide +kernel
set_option maxRecDepth 100000 in
theorem d_WM_frost_27 : decode b_WM_frost 27 = .ok (.getfield 12, 3) := by decide +kernel
set_option maxRecDepth 100000 in
theorem d_WM_frost_30 : decode b_WM_frost 30 = .ok (.iload_n 1, 1) := by decide +kernel
set_option maxRecDepth 100000 in
theorem d_WM_frost_31 : decode b_WM_frost 31 = .ok (.invokevirtual 100, 3) := by decide +kernel
set_option maxRecDepth 100000 in
theorem d_WM_frost_34 : decode b_WM_frost 34 = .ok (.ifCond .eq 7, 3) := by decide +kernel
set_option maxRecDepth 100000 in
theorem d_WM_frost_37 : decode b_WM_frost 37 = .ok (.iconst 1, 1) := by decide +kernel
set_option maxRecDepth 100000 in
theorem d_WM_frost_38 : decode b_WM_frost 38 = .ok (.goto 4, 3) := by decide +kernel
set_option maxRecDepth 100000 in
theorem d_WM_frost_41 : decode b_WM_frost 41 = .ok (.iconst 0, 1) := by decide +kernel
set_option maxRecDepth 100000 in
theorem d_WM_frost_42 : decode b_WM_frost 42 = .ok (.istore_n 3, 1) := by decide +kernel
set_option maxRecDepth 100000 in
theorem d_WM_frost_43 : decode b_WM_frost 43 = .ok (.aload_n 0, 1) := by decide +kernel
set_option maxRecDepth 100000 in
theorem d_WM_frost_44 : decode b_WM_frost 44 = .ok (.getfield 12, 3) := by decide +kernel
set_option maxRecDepth 100000 in
theorem d_WM_frost_47 : decode b_WM_frost 47 = .ok (.getfield 103, 3) := by decide +kernel
set_option maxRecDepth 100000 in
theorem d_WM_frost_50 : decode b_WM_frost 50 = .ok (.iload_n 1, 1) := by decide +kernel
set_option maxRecDepth 100000 in
theorem d_WM_frost_51 : decode b_WM_frost 51 = .ok (.iload_n 2, 1) := by decide +kernel
set_option maxRecDepth 100000 in
theorem d_WM_frost_52 : decode b_WM_frost 52 = .ok (.iconst 1, 1) := by decide +kernel
set_option maxRecDepth 100000 in
theorem d_WM_frost_53 : decode b_WM_frost 53 = .ok (.if_icmp .ne 7, 3) := by decide +kernel
set_option maxRecDepth 100000 in
theorem d_WM_frost_56 : decode b_WM_frost 56 = .ok (.iconst 1, 1) := by decide +kernel
set_option maxRecDepth 100000 in
theorem d_WM_frost_57 : decode b_WM_frost 57 = .ok (.goto 4, 3) := by decide +kernel
set_option maxRecDepth 100000 in
theorem d_WM_frost_60 : decode b_WM_frost 60 = .ok (.iconst 0, 1) := by decide +kernel
set_option maxRecDepth 100000 in
theorem d_WM_frost_61 : decode b_WM_frost 61 = .ok (.bastore, 1) := by decide +kernel
set_option maxRecDepth 100000 in
theorem d_WM_frost_62 : decode b_WM_frost 62 = .ok (.iload_n 3, 1) := by decide +kernel
set_option maxRecDepth 100000 in
theorem d_WM_frost_63 : decode b_WM_frost 63 = .ok (.ireturn, 1) := by decide +kernel
set_option maxRecDepth 100000 in
theorem d_WM_hasTurns_0 : decode b_WM_hasTurns 0 = .ok (.iconst 0, 1) := by decide +kernel
set_option maxRecDepth 100000 in
theorem d_WM_hasTurns_1 : decode b_WM_hasTurns 1 = .ok (.istore_n 2, 1) := by decide +kernel
set_option maxRecDepth 100000 in
theorem d_WM_hasTurns_2 : decode b_WM_hasTurns 2 = .ok (.iload_n 2, 1) := by decide +kernel
set_option maxRecDepth 100000 in
theorem d_WM_hasTurns_3 : decode b_WM_hasTurns 3 = .ok (.bipush 40, 2) := by decide +kernel
set_option maxRecDepth 100000 in
theorem d_WM_hasTurns_5 : decode b_WM_hasTurns 5 = .ok (.if_icmp .ge 30, 3) := by decide +kernel
set_option maxRecDepth 100000 in
theorem d_WM_hasTurns_8 : decode b_WM_hasTurns 8 = .ok (.aload_n 0, 1) := by decide +kernel
set_option maxRecDepth 100000 in
theorem d_WM_hasTurns_9 : decode b_WM_hasTurns 9 = .ok (.getfield 18, 3) := by decide +kernel
set_option maxRecDepth 100000 in
theorem d_WM_hasTurns_12 : decode b_WM_hasTurns 12 = .ok (.iload_n 2, 1) := by decide +kernel
set_option maxRecDepth 100000 in
theorem d_WM_hasTurns_13 : decode b_WM_hasTurns 13 = .ok (.aaload, 1) := by decide +kernel
set_option maxRecDepth 100000 in
theorem d_WM_hasTurns_14 : decode b_WM_hasTurns 14 = .ok (.astore_n 3, 1) := by decide +kernel
set_option maxRecDepth 100000 in
theorem d_WM_hasTurns_15 : decode b_WM_hasTurns 15 = .ok (.aload_n 3, 1) := by decide +kernel
set_option maxRecDepth 100000 in
theorem d_WM_hasTurns_16 : decode b_WM_hasTurns 16 = .ok (.ifnull 13, 3) := by decide +kernel
set_option maxRecDepth 100000 in
theorem d_WM_hasTurns_19 : decode b_WM_hasTurns 19 = .ok (.aload_n 3, 1) := by decide +kernel
set_option maxRecDepth 100000 in
theorem d_WM_hasTurns_20 : decode b_WM_hasTurns 20 = .ok (.getfield 145, 3) := by decide +kernel
set_option maxRecDepth 100000 in
theorem d_WM_hasTurns_23 : decode b_WM_hasTurns 23 = .ok (.iload_n 1, 1) := by decide +kernel
set_option maxRecDepth 100000 in
theorem d_WM_hasTurns_24 : decode b_WM_hasTurns 24 = .ok (.if_icmp .ne 5, 3) := by decide +kernel
set_option maxRecDepth 100000 in
theorem d_WM_hasTurns_27 : decode b_WM_hasTurns 27 = .ok (.iconst 1, 1) := by decide +kernel
set_option maxRecDepth 100000 in
theorem d_WM_hasTurns_28 : decode b_WM_hasTurns 28 = .ok (.ireturn, 1) := by decide +kernel
set_option maxRecDepth 100000 in
theorem d_WM_hasTurns_29 : decode b_WM_hasTurns 29 = .ok (.iinc 2 1, 3) := by decide +kernel
set_option maxRecDepth 100000 in
theorem d_WM_hasTurns_32 : decode b_WM_hasTurns 32 = .ok (.goto (-30), 3) := by decide +kernel
set_option maxRecDepth 100000 in
theorem d_WM_hasTurns_35 : decode b_WM_hasTurns 35 = .ok (.iconst 0, 1) := by decide +kernel
set_option maxRecDepth 100000 in
theorem d_WM_hasTurns_36 : decode b_WM_hasTurns 36 = .ok (.ireturn, 1) := by decide +kernel
set_option maxRecDepth 100000 in
theorem d_WM_hindrance_0 : decode b_WM_hindrance 0 = .ok (.aload_n 0, 1) := by decide +kernel
set_option maxRecDepth 100000 in
theorem d_WM_hindrance_1 : decode b_WM_hindrance 1 = .ok (.invokevirtual 97, 3) := by decide +kernel
set_option maxRecDepth 100000 in
theorem d_WM_hindrance_4 : decode b_WM_hindrance 4 = .ok (.istore 4, 2) := by decide +kernel
set_option maxRecDepth 100000 in
theorem d_WM_hindrance_6 : decode b_WM_hindrance 6 = .ok (.aload_n 0, 1) := by decide +kernel
set_option maxRecDepth 100000 in
theorem d_WM_hindrance_7 : decode b_WM_hindrance 7 = .ok (.getfield 12, 3) := by decide +kernel
set_option maxRecDepth 100000 in
theorem d_WM_hindrance_10 : decode b_WM_hindrance 10 = .ok (.iload 4, 2) := by decide +kernel
set_option maxRecDepth 100000 in
theorem d_WM_hindrance_12 : decode b_WM_hindrance 12 = .ok (.invokevirtual 100, 3) := by decide +kernel
set_option maxRecDepth 100000 in
theorem d_WM_hindrance_15 : decode b_WM_hindrance 15 = .ok (.ifCond .eq 5, 3) := by decide +kernel
set_option maxRecDepth 100000 in
theorem d_WM_hindrance_18 : decode b_WM_hindrance 18 = .ok (.iconst 1, 1) := by decide +kernel
set_option maxRecDepth 100000 in
theorem d_WM_hindrance_19 : decode b_WM_hindrance 19 = .ok (.ireturn, 1) := by decide +kernel
set_option maxRecDepth 100000 in
theorem d_WM_hindrance_20 : decode b_WM_hindrance 20 = .ok (.aload_n 1, 1) := by decide +kernel
set_option maxRecDepth 100000 in
theorem d_WM_hindrance_21 : decode b_WM_hindrance 21 = .ok (.aload_n 0, 1) := by decide +kernel
set_option maxRecDepth 100000 in
theorem d_WM_hindrance_22 : decode b_WM_hindrance 22 = .ok (.getfield 155, 3) := by decide +kernel
set_option maxRecDepth 100000 in
theorem d_WM_hindrance_25 : decode b_WM_hindrance 25 = .ok (.invokevirtual 187, 3) := by decide +kernel
set_option maxRecDepth 100000 in
theorem d_WM_hindrance_28 : decode b_WM_hindrance 28 = .ok (.iconst 1, 1) := by decide +kernel
set_option maxRecDepth 100000 in
theorem d_WM_hindrance_29 : decode b_WM_hindrance 29 = .ok (.if_icmp .ne 5, 3) := by decide +kernel
set_option maxRecDepth 100000 in
theorem d_WM_hindrance_32 : decode b_WM_hindrance 32 = .ok (.iconst 2, 1) := by decide +kernel
set_option maxRecDepth 100000 in
theorem d_WM_hindrance_33 : decode b_WM_hindrance 33 = .ok (.ireturn, 1) := by decide +kernel
set_option maxRecDepth 100000 in
theorem d_WM_hindrance_34 : decode b_WM_hindrance 34 = .ok (.aload_n 2, 1) := by decide +kernel
set_option maxRecDepth 100000 in
theorem d_WM_hindrance_35 : decode b_WM_hindrance 35 = .ok (.getfield 111, 3) := by decide +kernel
set_option maxRecDepth 100000 in
theorem d_WM_hindrance_38 : decode b_WM_hindrance 38 = .ok (.iconst 2, 1) := by decide +kernel
set_option maxRecDepth 100000 in
theorem d_WM_hindrance_39 : decode b_WM_hindrance 39 = .ok (.if_icmp .ne 14, 3) := by decide +kernel
set_option maxRecDepth 100000 in
theorem d_WM_hindrance_42 : decode b_WM_hindrance 42 = .ok (.aload_n 2, 1) := by decide +kernel
set_option maxRecDepth 100000 in
theorem d_WM_hindrance_43 : decode b_WM_hindrance 43 = .ok (.aload_n 0, 1) := by decide +kernel
set_option maxRecDepth 100000 in
theorem d_WM_hindrance_44 : decode b_WM_hindrance 44 = .ok (.getfield 155, 3) := by decide +kernel
set_option maxRecDepth 100000 in
theorem d_WM_hindrance_47 : decode b_WM_hindrance 47 = .ok (.invokevirtual 158, 3) := by decide +kernel
set_option maxRecDepth 100000 in
theorem d_WM_hindrance_50 : decode b_WM_hindrance 50 = .ok (.ifCond .eq 5, 3) := by decide +kernel
set_option maxRecDepth 100000 in
theorem d_WM_hindrance_53 : decode b_WM_hindrance 53 = .ok (.iconst 3, 1) := by decide +kernel
set_option maxRecDepth 100000 in
theorem d_WM_hindrance_54 : decode b_WM_hindrance 54 = .ok (.ireturn, 1) := by decide +kernel
set_option maxRecDepth 100000 in
theorem d_WM_hindrance_55 : decode b_WM_hindrance 55 = .ok (.aload_n 0, 1) := by decide +kernel
set_option maxRecDepth 100000 in
theorem d_WM_hindrance_56 : decode b_WM_hindrance 56 = .ok (.aload_n 2, 1) := by decide +kernel
set_option maxRecDepth 100000 in
theorem d_WM_hindrance_57 : decode b_WM_hindrance 57 = .ok (.aload_n 1, 1) := by decide +kernel
set_option maxRecDepth 100000 in
theorem d_WM_hindrance_58 : decode b_WM_hindrance 58 = .ok (.getfield 178, 3) := by decide +kernel
set_option maxRecDepth 100000 in
theorem d_WM_hindrance_61 : decode b_WM_hindrance 61 = .ok (.invokevirtual 375, 3) := by decide +kernel
set_option maxRecDepth 100000 in
theorem d_WM_hindrance_64 : decode b_WM_hindrance 64 = .ok (.ifCond .eq 5, 3) := by decide +kernel
set_option maxRecDepth 100000 in
theorem d_WM_hindrance_67 : decode b_WM_hindrance 67 = .ok (.iconst 4, 1) := by decide +kernel
set_option maxRecDepth 100000 in
theorem d_WM_hindrance_68 : decode b_WM_hindrance 68 = .ok (.ireturn, 1) := by decide +kernel
set_option maxRecDepth 100000 in
theorem d_WM_hindrance_69 : decode b_WM_hindrance 69 = .ok (.aload_n 0, 1) := by decide +kernel
set_option maxRecDepth 100000 in
theorem d_WM_hindrance_70 : decode b_WM_hindrance 70 = .ok (.aload_n 0, 1) := by decide +kernel
set_option maxRecDepth 100000 in
theorem d_WM_hindrance_71 : decode b_WM_hindrance 71 = .ok (.iload 4, 2) := by decide +kernel
set_option maxRecDepth 100000 in
theorem d_WM_hindrance_73 : decode b_WM_hindrance 73 = .ok (.iload 4, 2) := by decide +kernel
set_option maxRecDepth 100000 in
theorem d_WM_hindrance_75 : decode b_WM_hindrance 75 = .ok (.invokevirtual 223, 3) := by decide +kernel
set_option maxRecDepth 100000 in
theorem d_WM_hindrance_78 : decode b_WM_hindrance 78 = .ok (.invokevirtual 226, 3) := by decide +kernel
set_option maxRecDepth 100000 in
theorem d_WM_hindrance_81 : decode b_WM_hindrance 81 = .ok (.astore 5, 2) := by decide +kernel
set_option maxRecDepth 100000 in
theorem d_WM_hindrance_83 : decode b_WM_hindrance 83 = .ok (.aload 5, 2) := by decide +kernel
set_option maxRecDepth 100000 in
theorem d_WM_hindrance_85 : decode b_WM_hindrance 85 = .ok (.ifnull 29, 3) := by decide +kernel
set_option maxRecDepth 100000 in
theorem d_WM_hindrance_88 : decode b_WM_hindrance 88 = .ok (.aload_n 0, 1) := by decide +kernel
set_option maxRecDepth 100000 in
theorem d_WM_hindrance_89 : decode b_WM_hindrance 89 = .ok (.aload 5, 2) := by decide +kernel
set_option maxRecDepth 100000 in
theorem d_WM_hindrance_91 : decode b_WM_hindrance 91 = .ok (.aload_n 1, 1) := by decide +kernel
set_option maxRecDepth 100000 in
theorem d_WM_hindrance_92 : decode b_WM_hindrance 92 = .ok (.getfield 178, 3) := by decide +kernel
set_option maxRecDepth 100000 in
theorem d_WM_hindrance_95 : decode b_WM_hindrance 95 = .ok (.iload_n 3, 1) := by decide +kernel
set_option maxRecDepth 100000 in
theorem d_WM_hindrance_96 : decode b_WM_hindrance 96 = .ok (.aload_n 0, 1) := by decide +kernel
set_option maxRecDepth 100000 in
theorem d_WM_hindrance_97 : decode b_WM_hindrance 97 = .ok (.getfield 155, 3) := by decide +kernel
set_option maxRecDepth 100000 in
theorem d_WM_hindrance_100 : decode b_WM_hindrance 100 = .ok (.bipush 60, 2) := by decide +kernel
set_option maxRecDepth 100000 in
theorem d_WM_hindrance_102 : decode b_WM_hindrance 102 = .ok (.idiv, 1) := by decide +kernel
set_option maxRecDepth 100000 in
theorem d_WM_hindrance_103 : decode b_WM_hindrance 103 = .ok (.aload_n 1, 1) := by decide +kernel
set_option maxRecDepth 100000 in
theorem d_WM_hindrance_104 : decode b_WM_hindrance 104 = .ok (.getfield 181, 3) := by decide +kernel
set_option maxRecDepth 100000 in
theorem d_WM_hindrance_107 : decode b_WM_hindrance 107 = .ok (.invokevirtual 230, 3) := by decide +kernel
set_option maxRecDepth 100000 in
theorem d_WM_hindrance_110 : decode b_WM_hindrance 110 = .ok (.iconst (-1), 1) := by decide +kernel
set_option maxRecDepth 100000 in
theorem d_WM_hindrance_111 : decode b_WM_hindrance 111 = .ok (.if_icmp .ne 5, 3) := by decide +kernel
set_option maxRecDepth 100000 in
theorem d_WM_hindrance_114 : decode b_WM_hindrance 114 = .ok (.iconst 5, 1) := by decide +kernel
set_option maxRecDepth 100000 in
theorem d_WM_hindrance_115 : decode b_WM_hindrance 115 = .ok (.ireturn, 1) := by decide +kernel
set_option maxRecDepth 100000 in
theorem d_WM_hindrance_116 : decode b_WM_hindrance 116 = .ok (.aload_n 0, 1) := by decide +kernel
set_option maxRecDepth 100000 in
theorem d_WM_hindrance_117 : decode b_WM_hindrance 117 = .ok (.getfield 12, 3) := by decide +kernel
set_option maxRecDepth 100000 in
theorem d_WM_hindrance_120 : decode b_WM_hindrance 120 = .ok (.aload_n 1, 1) := by decide +kernel
set_option maxRecDepth 100000 in
theorem d_WM_hindrance_121 : decode b_WM_hindrance 121 = .ok (.getfield 178, 3) := by decide +kernel
set_option maxRecDepth 100000 in
theorem d_WM_hindrance_124 : decode b_WM_hindrance 124 = .ok (.iload_n 3, 1) := by decide +kernel
set_option maxRecDepth 100000 in
theorem d_WM_hindrance_125 : decode b_WM_hindrance 125 = .ok (.invokevirtual 379, 3) := by decide +kernel
set_option maxRecDepth 100000 in
theorem d_WM_hindrance_128 : decode b_WM_hindrance 128 = .ok (.ifCond .eq 31, 3) := by decide +kernel
set_option maxRecDepth 100000 in
theorem d_WM_hindrance_131 : decode b_WM_hindrance 131 = .ok (.aload 5, 2) := by decide +kernel
set_option maxRecDepth 100000 in
theorem d_WM_hindrance_133 : decode b_WM_hindrance 133 = .ok (.aload_n 0, 1) := by decide +kernel
set_option maxRecDepth 100000 in
theorem d_WM_hindrance_134 : decode b_WM_hindrance 134 = .ok (.invokevirtual 382, 3) := by decide +kernel
set_option maxRecDepth 100000 in
theorem d_WM_hindrance_137 : decode b_WM_hindrance 137 = .ok (.aload_n 0, 1) := by decide +kernel
set_option maxRecDepth 100000 in
theorem d_WM_hindrance_138 : decode b_WM_hindrance 138 = .ok (.getfield 12, 3) := by decide +kernel
set_option maxRecDepth 100000 in
theorem d_WM_hindrance_141 : decode b_WM_hindrance 141 = .ok (.iload 4, 2) := by decide +kernel
set_option maxRecDepth 100000 in
theorem d_WM_hindrance_143 : decode b_WM_hindrance 143 = .ok (.aload_n 0, 1) := by decide +kernel
set_option maxRecDepth 100000 in
theorem d_WM_hindrance_144 : decode b_WM_hindrance 144 = .ok (.invokevirtual 382, 3) := by decide +kernel
set_option maxRecDepth 100000 in
theorem d_WM_hindrance_147 : decode b_WM_hindrance 147 = .ok (.invokevirtual 93, 3) := by decide +kernel
set_option maxRecDepth 100000 in
theorem d_WM_hindrance_150 : decode b_WM_hindrance 150 = .ok (.invokevirtual 385, 3) := by decide +kernel
set_option maxRecDepth 100000 in
theorem d_WM_hindrance_153 : decode b_WM_hindrance 153 = .ok (.ifCond .eq 6, 3) := by decide +kernel
set_option maxRecDepth 100000 in
theorem d_WM_hindrance_156 : decode b_WM_hindrance 156 = .ok (.bipush 6, 2) := by decide +kernel
set_option maxRecDepth 100000 in
theorem d_WM_hindrance_158 : decode b_WM_hindrance 158 = .ok (.ireturn, 1) := by decide +kernel
set_option maxRecDepth 100000 in
theorem d_WM_hindrance_159 : decode b_WM_hindrance 159 = .ok (.aload_n 0, 1) := by decide +kernel
set_option maxRecDepth 100000 in
theorem d_WM_hindrance_160 : decode b_WM_hindrance 160 = .ok (.aload_n 1, 1) := by decide +kernel
set_option maxRecDepth 100000 in
theorem d_WM_hindrance_161 : decode b_WM_hindrance 161 = .ok (.iload_n 3, 1) := by decide +kernel
set_option maxRecDepth 100000 in
theorem d_WM_hindrance_162 : decode b_WM_hindrance 162 = .ok (.invokevirtual 253, 3) := by decide +kernel
set_option maxRecDepth 100000 in
theorem d_WM_hindrance_165 : decode b_WM_hindrance 165 = .ok (.ldc_w 270, 3) := by decide +kernel
set_option maxRecDepth 100000 in
theorem d_WM_hindrance_168 : decode b_WM_hindrance 168 = .ok (.aload_n 0, 1) := by decide +kernel
set_option maxRecDepth 100000 in
theorem d_WM_hindrance_169 : decode b_WM_hindrance 169 = .ok (.getfield 155, 3) := by decide +kernel
set_option maxRecDepth 100000 in
theorem d_WM_hindrance_172 : decode b_WM_hindrance 172 = .ok (.isub, 1) := by decide +kernel
set_option maxRecDepth 100000 in
theorem d_WM_hindrance_173 : decode b_WM_hindrance 173 = .ok (.if_icmp .le 8, 3) := by decide +kernel
set_option maxRecDepth 100000 in
theorem d_WM_hindrance_176 : decode b_WM_hindrance 176 = .ok (.bipush 7, 2) := by decide +kernel
set_option maxRecDepth 100000 in
theorem d_WM_hindrance_178 : decode b_WM_hindrance 178 = .ok (.goto 4, 3) := by decide +kernel
set_option maxRecDepth 100000 in
theorem d_WM_hindrance_181 : decode b_WM_hindrance 181 = .ok (.iconst 0, 1) := by decide +kernel
set_option maxRecDepth 100000 in
theorem d_WM_hindrance_182 : decode b_WM_hindrance 182 = .ok (.ireturn, 1) := by decide +kernel
set_option maxRecDepth 100000 in
theorem d_WM_hourNow_0 : decode b_WM_hourNow 0 = .ok (.aload_n 0, 1) := by decide +kernel
set_option maxRecDepth 100000 in
theorem d_WM_hourNow_1 : decode b_WM_hourNow 1 = .ok (.getfield 155, 3) := by decide +kernel
set_option maxRecDepth 100000 in
theorem d_WM_hourNow_4 : decode b_WM_hourNow 4 = .ok (.bipush 60, 2) := by decide +kernel
set_option maxRecDepth 100000 in
theorem d_WM_hourNow_6 : decode b_WM_hourNow 6 = .ok (.idiv, 1) := by decide +kernel
set_option maxRecDepth 100000 in
theorem d_WM_hourNow_7 : decode b_WM_hourNow 7 = .ok (.bipush 12, 2) := by decide +kernel
set_option maxRecDepth 100000 in
theorem d_WM_hourNow_9 : decode b_WM_hourNow 9 = .ok (.irem, 1) := by decide +kernel
set_option maxRecDepth 100000 in
theorem d_WM_hourNow_10 : decode b_WM_hourNow 10 = .ok (.ireturn, 1) := by decide +kernel
set_option maxRecDepth 100000 in
theorem d_WM_inForce_0 : decode b_WM_inForce 0 = .ok (.iload_n 1, 1) := by decide +kernel
set_option maxRecDepth 100000 in
theorem d_WM_inForce_1 : decode b_WM_inForce 1 = .ok (.invokestatic 75, 3) := by decide +kernel
set_option maxRecDepth 100000 in
theorem d_WM_inForce_4 : decode b_WM_inForce 4 = .ok (.ifCond .eq 19, 3) := by decide +kernel
set_option maxRecDepth 100000 in
theorem d_WM_inForce_7 : decode b_WM_inForce 7 = .ok (.iload_n 2, 1) := by decide +kernel
set_option maxRecDepth 100000 in
theorem d_WM_inForce_8 : decode b_WM_inForce 8 = .ok (.invokestatic 75, 3) := by decide +kernel
set_option maxRecDepth 100000 in
theorem d_WM_inForce_11 : decode b_WM_inForce 11 = .ok (.ifCond .eq 12, 3) := by decide +kernel
set_option maxRecDepth 100000 in
theorem d_WM_inForce_14 : decode b_WM_inForce 14 = .ok (.aload_n 0, 1) := by decide +kernel
set_option maxRecDepth 100000 in
theorem d_WM_inForce_15 : decode b_WM_inForce 15 = .ok (.iload_n 1, 1) := by decide +kernel
set_option maxRecDepth 100000 in
theorem d_WM_inForce_16 : decode b_WM_inForce 16 = .ok (.iload_n 2, 1) := by decide +kernel
set_option maxRecDepth 100000 in
theorem d_WM_inForce_17 : decode b_WM_inForce 17 = .ok (.invokevirtual 223, 3) := by decide +kernel
set_option maxRecDepth 100000 in
theorem d_WM_inForce_20 : decode b_WM_inForce 20 = .ok (.goto 4, 3) := by decide +kernel
set_option maxRecDepth 100000 in
theorem d_WM_inForce_23 : decode b_WM_inForce 23 = .ok (.iconst (-1), 1) := by decide +kernel
set_option maxRecDepth 100000 in
theorem d_WM_inForce_24 : decode b_WM_inForce 24 = .ok (.ireturn, 1) := by decide +kernel
set_option maxRecDepth 100000 in
theorem d_WM_isDay_0 : decode b_WM_isDay 0 = .ok (.iload_n 0, 1) := by decide +kernel
set_option maxRecDepth 100000 in
theorem d_WM_isDay_1 : decode b_WM_isDay 1 = .ok (.ifCond .lt 14, 3) := by decide +kernel
set_option maxRecDepth 100000 in
theorem d_WM_isDay_4 : decode b_WM_isDay 4 = .ok (.iload_n 0, 1) := by decide +kernel
set_option maxRecDepth 100000 in
theorem d_WM_isDay_5 : decode b_WM_isDay 5 = .ok (.sipush 500, 3) := by decide +kernel
set_option maxRecDepth 100000 in
theorem d_WM_isDay_8 : decode b_WM_isDay 8 = .ok (.if_icmp .ge 7, 3) := by decide +kernel
set_option maxRecDepth 100000 in
theorem d_WM_isDay_11 : decode b_WM_isDay 11 = .ok (.iconst 1, 1) := by decide +kernel
set_option maxRecDepth 100000 in
theorem d_WM_isDay_12 : decode b_WM_isDay 12 = .ok (.goto 4, 3) := by decide +kernel
set_option maxRecDepth 100000 in
theorem d_WM_isDay_15 : decode b_WM_isDay 15 = .ok (.iconst 0, 1) := by decide +kernel
set_option maxRecDepth 100000 in
theorem d_WM_isDay_16 : decode b_WM_isDay 16 = .ok (.ireturn, 1) := by decide +kernel
set_option maxRecDepth 100000 in
theorem d_WM_isHour_0 : decode b_WM_isHour 0 = .ok (.iload_n 0, 1) := by decide +kernel
set_option maxRecDepth 100000 in
theorem d_WM_isHour_1 : decode b_WM_isHour 1 = .ok (.ifCond .lt 13, 3) := by decide +kernel
set_option maxRecDepth 100000 in
theorem d_WM_isHour_4 : decode b_WM_isHour 4 = .ok (.iload_n 0, 1) := by decide +kernel
set_option maxRecDepth 100000 in
theorem d_WM_isHour_5 : decode b_WM_isHour 5 = .ok (.bipush 12, 2) := by decide +kernel
set_option maxRecDepth 100000 in
theorem d_WM_isHour_7 : decode b_WM_isHour 7 = .ok (.if_icmp .ge 7, 3) := by decide +kernel
set_option maxRecDepth 100000 in
theorem d_WM_isHour_10 : decode b_WM_isHour 10 = .ok (.iconst 1, 1) := by decide +kernel
set_option maxRecDepth 100000 in
theorem d_WM_isHour_11 : decode b_WM_isHour 11 = .ok (.goto 4, 3) := by decide +kernel
set_option maxRecDepth 100000 in
theorem d_WM_isHour_14 : decode b_WM_isHour 14 = .ok (.iconst 0, 1) := by decide +kernel
set_option maxRecDepth 100000 in
theorem d_WM_isHour_15 : decode b_WM_isHour 15 = .ok (.ireturn, 1) := by decide +kernel
set_option maxRecDepth 100000 in
theorem d_WM_isLevel_0 : decode b_WM_isLevel 0 = .ok (.iload_n 0, 1) := by decide +kernel
set_option maxRecDepth 100000 in
theorem d_WM_isLevel_1 : decode b_WM_isLevel 1 = .ok (.bipush (-90), 2) := by decide +kernel
set_option maxRecDepth 100000 in
theorem d_WM_isLevel_3 : decode b_WM_isLevel 3 = .ok (.if_icmp .lt 13, 3) := by decide +kernel
set_option maxRecDepth 100000 in
theorem d_WM_isLevel_6 : decode b_WM_isLevel 6 = .ok (.iload_n 0, 1) := by decide +kernel
set_option maxRecDepth 100000 in
theorem d_WM_isLevel_7 : decode b_WM_isLevel 7 = .ok (.bipush 90, 2) := by decide +kernel
set_option maxRecDepth 100000 in
theorem d_WM_isLevel_9 : decode b_WM_isLevel 9 = .ok (.if_icmp .gt 7, 3) := by decide +kernel
set_option maxRecDepth 100000 in
theorem d_WM_isLevel_12 : decode b_WM_isLevel 12 = .ok (.iconst 1, 1) := by decide +kernel
set_option maxRecDepth 100000 in
theorem d_WM_isLevel_13 : decode b_WM_isLevel 13 = .ok (.goto 4, 3) := by decide +kernel
set_option maxRecDepth 100000 in
theorem d_WM_isLevel_16 : decode b_WM_isLevel 16 = .ok (.iconst 0, 1) := by decide +kernel
set_option maxRecDepth 100000 in
theorem d_WM_isLevel_17 : decode b_WM_isLevel 17 = .ok (.ireturn, 1) := by decide +kernel
set_option maxRecDepth 100000 in
theorem d_WM_isOars_0 : decode b_WM_isOars 0 = .ok (.iload_n 0, 1) := by decide +kernel
set_option maxRecDepth 100000 in
theorem d_WM_isOars_1 : decode b_WM_isOars 1 = .ok (.iconst 1, 1) := by decide +kernel
set_option maxRecDepth 100000 in
theorem d_WM_isOars_2 : decode b_WM_isOars 2 = .ok (.if_icmp .eq 8, 3) := by decide +kernel
set_option maxRecDepth 100000 in
theorem d_WM_isOars_5 : decode b_WM_isOars 5 = .ok (.iload_n 0, 1) := by decide +kernel
set_option maxRecDepth 100000 in
theorem d_WM_isOars_6 : decode b_WM_isOars 6 = .ok (.iconst 2, 1) := by decide +kernel
set_option maxRecDepth 100000 in
theorem d_WM_isOars_7 : decode b_WM_isOars 7 = .ok (.if_icmp .ne 7, 3) := by decide +kernel
set_option maxRecDepth 100000 in
theorem d_WM_isOars_10 : decode b_WM_isOars 10 = .ok (.iconst 1, 1) := by decide +kernel
set_option maxRecDepth 100000 in
theorem d_WM_isOars_11 : decode b_WM_isOars 11 = .ok (.goto 4, 3) := by decide +kernel
set_option maxRecDepth 100000 in
theorem d_WM_isOars_14 : decode b_WM_isOars 14 = .ok (.iconst 0, 1) := by decide +kernel
set_option maxRecDepth 100000 in
theorem d_WM_isOars_15 : decode b_WM_isOars 15 = .ok (.ireturn, 1) := by decide +kernel
set_option maxRecDepth 100000 in
theorem d_WM_isPension_0 : decode b_WM_isPension 0 = .ok (.iload_n 0, 1) := by decide +kernel
set_option maxRecDepth 100000 in
theorem d_WM_isPension_1 : decode b_WM_isPension 1 = .ok (.iconst 1, 1) := by decide +kernel
set_option maxRecDepth 100000 in
theorem d_WM_isPension_2 : decode b_WM_isPension 2 = .ok (.if_icmp .lt 25, 3) := by decide +kernel
set_option maxRecDepth 100000 in
theorem d_WM_isPension_5 : decode b_WM_isPension 5 = .ok (.iload_n 0, 1) := by decide +kernel
set_option maxRecDepth 100000 in
theorem d_WM_isPension_6 : decode b_WM_isPension 6 = .ok (.sipush 10000, 3) := by decide +kernel
set_option maxRecDepth 100000 in
theorem d_WM_isPension_9 : decode b_WM_isPension 9 = .ok (.if_icmp .gt 18, 3) := by decide +kernel
set_option maxRecDepth 100000 in
theorem d_WM_isPension_12 : decode b_WM_isPension 12 = .ok (.iload_n 1, 1) := by decide +kernel
set_option maxRecDepth 100000 in
theorem d_WM_isPension_13 : decode b_WM_isPension 13 = .ok (.ifCond .lt 14, 3) := by decide +kernel
set_option maxRecDepth 100000 in
theorem d_WM_isPension_16 : decode b_WM_isPension 16 = .ok (.iload_n 1, 1) := by decide +kernel
set_option maxRecDepth 100000 in
theorem d_WM_isPension_17 : decode b_WM_isPension 17 = .ok (.sipush 9999, 3) := by decide +kernel
set_option maxRecDepth 100000 in
theorem d_WM_isPension_20 : decode b_WM_isPension 20 = .ok (.if_icmp .gt 7, 3) := by decide +kernel
set_option maxRecDepth 100000 in
theorem d_WM_isPension_23 : decode b_WM_isPension 23 = .ok (.iconst 1, 1) := by decide +kernel
set_option maxRecDepth 100000 in
theorem d_WM_isPension_24 : decode b_WM_isPension 24 = .ok (.goto 4, 3) := by decide +kernel
set_option maxRecDepth 100000 in
theorem d_WM_isPension_27 : decode b_WM_isPension 27 = .ok (.iconst 0, 1) := by decide +kernel
set_option maxRecDepth 100000 in
theorem d_WM_isPension_28 : decode b_WM_isPension 28 = .ok (.ireturn, 1) := by decide +kernel
set_option maxRecDepth 100000 in
theorem d_WM_isSunday_0 : decode b_WM_isSunday 0 = .ok (.iload_n 0, 1) := by decide +kernel
set_option maxRecDepth 100000 in
theorem d_WM_isSunday_1 : decode b_WM_isSunday 1 = .ok (.bipush 7, 2) := by decide +kernel
set_option maxRecDepth 100000 in
theorem d_WM_isSunday_3 : decode b_WM_isSunday 3 = .ok (.irem, 1) := by decide +kernel
set_option maxRecDepth 100000 in
theorem d_WM_isSunday_4 : decode b_WM_isSunday 4 = .ok (.ifCond .ne 7, 3) := by decide +kernel
set_option maxRecDepth 100000 in
theorem d_WM_isSunday_7 : decode b_WM_isSunday 7 = .ok (.iconst 1, 1) := by decide +kernel
set_option maxRecDepth 100000 in
theorem d_WM_isSunday_8 : decode b_WM_isSunday 8 = .ok (.goto 4, 3) := by decide +kernel
set_option maxRecDepth 100000 in
theorem d_WM_isSunday_11 : decode b_WM_isSunday 11 = .ok (.iconst 0, 1) := by decide +kernel
set_option maxRecDepth 100000 in
theorem d_WM_isSunday_12 : decode b_WM_isSunday 12 = .ok (.ireturn, 1) := by decide +kernel
set_option maxRecDepth 100000 in
theorem d_WM_join_0 : decode b_WM_join 0 = .ok (.aload_n 0, 1) := by decide +kernel
set_option maxRecDepth 100000 in
theorem d_WM_join_1 : decode b_WM_join 1 = .ok (.iload_n 2, 1) := by decide +kernel
set_option maxRecDepth 100000 in
theorem d_WM_join_2 : decode b_WM_join 2 = .ok (.invokevirtual 107, 3) := by decide +kernel
set_option maxRecDepth 100000 in
theorem d_WM_join_5 : decode b_WM_join 5 = .ok (.astore_n 3, 1) := by decide +kernel
set_option maxRecDepth 100000 in
theorem d_WM_join_6 : decode b_WM_join 6 = .ok (.aload_n 3, 1) := by decide +kernel
set_option maxRecDepth 100000 in
theorem d_WM_join_7 : decode b_WM_join 7 = .ok (.ifnull 14, 3) := by decide +kernel
set_option maxRecDepth 100000 in
theorem d_WM_join_10 : decode b_WM_join 10 = .ok (.aload_n 0, 1) := by decide +kernel
set_option maxRecDepth 100000 in
theorem d_WM_join_11 : decode b_WM_join 11 = .ok (.getfield 12, 3) := by decide +kernel
set_option maxRecDepth 100000 in
theorem d_WM_join_14 : decode b_WM_join 14 = .ok (.iload_n 1, 1) := by decide +kernel
set_option maxRecDepth 100000 in
theorem d_WM_join_15 : decode b_WM_join 15 = .ok (.invokevirtual 167, 3) := by decide +kernel
set_option maxRecDepth 100000 in
theorem d_WM_join_18 : decode b_WM_join 18 = .ok (.ifCond .ne 5, 3) := by decide +kernel
set_option maxRecDepth 100000 in
theorem d_WM_join_21 : decode b_WM_join 21 = .ok (.iconst (-1), 1) := by decide +kernel
set_option maxRecDepth 100000 in
theorem d_WM_join_22 : decode b_WM_join 22 = .ok (.ireturn, 1) := by decide +kernel
set_option maxRecDepth 100000 in
theorem d_WM_join_23 : decode b_WM_join 23 = .ok (.aload_n 3, 1) := by decide +kernel
set_option maxRecDepth 100000 in
theorem d_WM_join_24 : decode b_WM_join 24 = .ok (.getfield 111, 3) := by decide +kernel
set_option maxRecDepth 100000 in
theorem d_WM_join_27 : decode b_WM_join 27 = .ok (.iconst 2, 1) := by decide +kernel
set_option maxRecDepth 100000 in
theorem d_WM_join_28 : decode b_WM_join 28 = .ok (.if_icmp .ne 22, 3) := by decide +kernel
set_option maxRecDepth 100000 in
theorem d_WM_join_31 : decode b_WM_join 31 = .ok (.aload_n 3, 1) := by decide +kernel
set_option maxRecDepth 100000 in
theorem d_WM_join_32 : decode b_WM_join 32 = .ok (.aload_n 0, 1) := by decide +kernel
set_option maxRecDepth 100000 in
theorem d_WM_join_33 : decode b_WM_join 33 = .ok (.getfield 155, 3) := by decide +kernel
set_option maxRecDepth 100000 in
theorem d_WM_join_36 : decode b_WM_join 36 = .ok (.invokevirtual 158, 3) := by decide +kernel
set_option maxRecDepth 100000 in
theorem d_WM_join_39 : decode b_WM_join 39 = .ok (.ifCond .ne 11, 3) := by decide +kernel
set_option maxRecDepth 100000 in
theorem d_WM_join_42 : decode b_WM_join 42 = .ok (.aload_n 3, 1) := by decide +kernel
set_option maxRecDepth 100000 in
theorem d_WM_join_43 : decode b_WM_join 43 = .ok (.getfield 145, 3) := by decide +kernel
set_option maxRecDepth 100000 in
theorem d_WM_join_46 : decode b_WM_join 46 = .ok (.iconst (-1), 1) := by decide +kernel
set_option maxRecDepth 100000 in
theorem d_WM_join_47 : decode b_WM_join 47 = .ok (.if_icmp .eq 6, 3) := by decide +kernel
set_option maxRecDepth 100000 in
theorem d_WM_join_50 : decode b_WM_join 50 = .ok (.bipush (-2), 2) := by decide +kernel
set_option maxRecDepth 100000 in
theorem d_WM_join_52 : decode b_WM_join 52 = .ok (.ireturn, 1) := by decide +kernel
set_option maxRecDepth 100000 in
theorem d_WM_join_53 : decode b_WM_join 53 = .ok (.aload_n 3, 1) := by decide +kernel
set_option maxRecDepth 100000 in
theorem d_WM_join_54 : decode b_WM_join 54 = .ok (.iload_n 1, 1) := by decide +kernel
set_option maxRecDepth 100000 in
theorem d_WM_join_55 : decode b_WM_join 55 = .ok (.putfield 145, 3) := by decide +kernel
set_option maxRecDepth 100000 in
theorem d_WM_join_58 : decode b_WM_join 58 = .ok (.aload_n 3, 1) := by decide +kernel
set_option maxRecDepth 100000 in
theorem d_WM_join_59 : decode b_WM_join 59 = .ok (.aload_n 0, 1) := by decide +kernel
set_option maxRecDepth 100000 in
theorem d_WM_join_60 : decode b_WM_join 60 = .ok (.getfield 193, 3) := by decide +kernel
set_option maxRecDepth 100000 in
theorem d_WM_join_63 : decode b_WM_join 63 = .ok (.putfield 196, 3) := by decide +kernel
set_option maxRecDepth 100000 in
theorem d_WM_join_66 : decode b_WM_join 66 = .ok (.aload_n 0, 1) := by decide +kernel
set_option maxRecDepth 100000 in
theorem d_WM_join_67 : decode b_WM_join 67 = .ok (.dup, 1) := by decide +kernel
set_option maxRecDepth 100000 in
theorem d_WM_join_68 : decode b_WM_join 68 = .ok (.getfield 193, 3) := by decide +kernel
set_option maxRecDepth 100000 in
theorem d_WM_join_71 : decode b_WM_join 71 = .ok (.iconst 1, 1) := by decide +kernel
set_option maxRecDepth 100000 in
theorem d_WM_join_72 : decode b_WM_join 72 = .ok (.iadd, 1) := by decide +kernel
set_option maxRecDepth 100000 in
theorem d_WM_join_73 : decode b_WM_join 73 = .ok (.putfield 193, 3) := by decide +kernel
set_option maxRecDepth 100000 in
theorem d_WM_join_76 : decode b_WM_join 76 = .ok (.aload_n 0, 1) := by decide +kernel
set_option maxRecDepth 100000 in
theorem d_WM_join_77 : decode b_WM_join 77 = .ok (.aload_n 3, 1) := by decide +kernel
set_option maxRecDepth 100000 in
theorem d_WM_join_78 : decode b_WM_join 78 = .ok (.invokevirtual 148, 3) := by decide +kernel
set_option maxRecDepth 100000 in
theorem d_WM_join_81 : decode b_WM_join 81 = .ok (.iconst 1, 1) := by decide +kernel
set_option maxRecDepth 100000 in
theorem d_WM_join_82 : decode b_WM_join 82 = .ok (.iadd, 1) := by decide +kernel
set_option maxRecDepth 100000 in
theorem d_WM_join_83 : decode b_WM_join 83 = .ok (.ireturn, 1) := by decide +kernel
set_option maxRecDepth 100000 in
theorem d_WM_leave_0 : decode b_WM_leave 0 = .ok (.aload_n 0, 1) := by decide +kernel
set_option maxRecDepth 100000 in
theorem d_WM_leave_1 : decode b_WM_leave 1 = .ok (.iload_n 1, 1) := by decide +kernel
set_option maxRecDepth 100000 in
theorem d_WM_leave_2 : decode b_WM_leave 2 = .ok (.invokevirtual 107, 3) := by decide +kernel
set_option maxRecDepth 100000 in
theorem d_WM_leave_5 : decode b_WM_leave 5 = .ok (.astore_n 2, 1) := by decide +kernel
set_option maxRecDepth 100000 in
theorem d_WM_leave_6 : decode b_WM_leave 6 = .ok (.aload_n 2, 1) := by decide +kernel
set_option maxRecDepth 100000 in
theorem d_WM_leave_7 : decode b_WM_leave 7 = .ok (.ifnonnull 5, 3) := by decide +kernel
set_option maxRecDepth 100000 in
theorem d_WM_leave_10 : decode b_WM_leave 10 = .ok (.iconst (-1), 1) := by decide +kernel
set_option maxRecDepth 100000 in
theorem d_WM_leave_11 : decode b_WM_leave 11 = .ok (.ireturn, 1) := by decide +kernel
set_option maxRecDepth 100000 in
theorem d_WM_leave_12 : decode b_WM_leave 12 = .ok (.aload_n 2, 1) := by decide +kernel
set_option maxRecDepth 100000 in
theorem d_WM_leave_13 : decode b_WM_leave 13 = .ok (.getfield 145, 3) := by decide +kernel
set_option maxRecDepth 100000 in
theorem d_WM_leave_16 : decode b_WM_leave 16 = .ok (.iconst (-1), 1) := by decide +kernel
set_option maxRecDepth 100000 in
theorem d_WM_leave_17 : decode b_WM_leave 17 = .ok (.if_icmp .ne 6, 3) := by decide +kernel
set_option maxRecDepth 100000 in
theorem d_WM_leave_20 : decode b_WM_leave 20 = .ok (.bipush (-2), 2) := by decide +kernel
set_option maxRecDepth 100000 in
theorem d_WM_leave_22 : decode b_WM_leave 22 = .ok (.ireturn, 1) := by decide +kernel
set_option maxRecDepth 100000 in
theorem d_WM_leave_23 : decode b_WM_leave 23 = .ok (.aload_n 2, 1) := by decide +kernel
set_option maxRecDepth 100000 in
theorem d_WM_leave_24 : decode b_WM_leave 24 = .ok (.iconst (-1), 1) := by decide +kernel
set_option maxRecDepth 100000 in
theorem d_WM_leave_25 : decode b_WM_leave 25 = .ok (.putfield 145, 3) := by decide +kernel
set_option maxRecDepth 100000 in
theorem d_WM_leave_28 : decode b_WM_leave 28 = .ok (.iconst 1, 1) := by decide +kernel
set_option maxRecDepth 100000 in
theorem d_WM_leave_29 : decode b_WM_leave 29 = .ok (.ireturn, 1) := by decide +kernel
set_option maxRecDepth 100000 in
theorem d_WM_level_0 : decode b_WM_level 0 = .ok (.iload_n 1, 1) := by decide +kernel
set_option maxRecDepth 100000 in
theorem d_WM_level_1 : decode b_WM_level 1 = .ok (.invokestatic 75, 3) := by decide +kernel
set_option maxRecDepth 100000 in
theorem d_WM_level_4 : decode b_WM_level 4 = .ok (.ifCond .eq 17, 3) := by decide +kernel
set_option maxRecDepth 100000 in
theorem d_WM_level_7 : decode b_WM_level 7 = .ok (.iload_n 2, 1) := by decide +kernel
set_option maxRecDepth 100000 in
theorem d_WM_level_8 : decode b_WM_level 8 = .ok (.invokestatic 79, 3) := by decide +kernel
set_option maxRecDepth 100000 in
theorem d_WM_level_11 : decode b_WM_level 11 = .ok (.ifCond .eq 10, 3) := by decide +kernel
set_option maxRecDepth 100000 in
theorem d_WM_level_14 : decode b_WM_level 14 = .ok (.iload_n 3, 1) := by decide +kernel
set_option maxRecDepth 100000 in
theorem d_WM_level_15 : decode b_WM_level 15 = .ok (.invokestatic 82, 3) := by decide +kernel
set_option maxRecDepth 100000 in
theorem d_WM_level_18 : decode b_WM_level 18 = .ok (.ifCond .ne 5, 3) := by decide +kernel
set_option maxRecDepth 100000 in
theorem d_WM_level_21 : decode b_WM_level 21 = .ok (.iconst (-1), 1) := by decide +kernel
set_option maxRecDepth 100000 in
theorem d_WM_level_22 : decode b_WM_level 22 = .ok (.ireturn, 1) := by decide +kernel
set_option maxRecDepth 100000 in
theorem d_WM_level_23 : decode b_WM_level 23 = .ok (.aload_n 0, 1) := by decide +kernel
set_option maxRecDepth 100000 in
theorem d_WM_level_24 : decode b_WM_level 24 = .ok (.getfield 12, 3) := by decide +kernel
set_option maxRecDepth 100000 in
theorem d_WM_level_27 : decode b_WM_level 27 = .ok (.iload_n 1, 1) := by decide +kernel
set_option maxRecDepth 100000 in
theorem d_WM_level_28 : decode b_WM_level 28 = .ok (.iload_n 2, 1) := by decide +kernel
set_option maxRecDepth 100000 in
theorem d_WM_level_29 : decode b_WM_level 29 = .ok (.iload_n 3, 1) := by decide +kernel
set_option maxRecDepth 100000 in
theorem d_WM_level_30 : decode b_WM_level 30 = .ok (.invokevirtual 85, 3) := by decide +kernel
set_option maxRecDepth 100000 in
theorem d_WM_level_33 : decode b_WM_level 33 = .ok (.iconst 1, 1) := by decide +kernel
set_option maxRecDepth 100000 in
theorem d_WM_level_34 : decode b_WM_level 34 = .ok (.ireturn, 1) := by decide +kernel
set_option maxRecDepth 100000 in
theorem d_WM_mayGoTo_0 : decode b_WM_mayGoTo 0 = .ok (.aload_n 1, 1) := by decide +kernel
set_option maxRecDepth 100000 in
theorem d_WM_mayGoTo_1 : decode b_WM_mayGoTo 1 = .ok (.getfield 283, 3) := by decide +kernel
set_option maxRecDepth 100000 in
theorem d_WM_mayGoTo_4 : decode b_WM_mayGoTo 4 = .ok (.ifCond .ne 26, 3) := by decide +kernel
set_option maxRecDepth 100000 in
theorem d_WM_mayGoTo_7 : decode b_WM_mayGoTo 7 = .ok (.aload_n 0, 1) := by decide +kernel
set_option maxRecDepth 100000 in
theorem d_WM_mayGoTo_8 : decode b_WM_mayGoTo 8 = .ok (.getfield 12, 3) := by decide +kernel
set_option maxRecDepth 100000 in
theorem d_WM_mayGoTo_11 : decode b_WM_mayGoTo 11 = .ok (.iload_n 2, 1) := by decide +kernel
set_option maxRecDepth 100000 in
theorem d_WM_mayGoTo_12 : decode b_WM_mayGoTo 12 = .ok (.invokevirtual 167, 3) := by decide +kernel
set_option maxRecDepth 100000 in
theorem d_WM_mayGoTo_15 : decode b_WM_mayGoTo 15 = .ok (.ifCond .eq 15, 3) := by decide +kernel
set_option maxRecDepth 100000 in
theorem d_WM_mayGoTo_18 : decode b_WM_mayGoTo 18 = .ok (.iload_n 2, 1) := by decide +kernel
set_option maxRecDepth 100000 in
theorem d_WM_mayGoTo_19 : decode b_WM_mayGoTo 19 = .ok (.aload_n 1, 1) := by decide +kernel
set_option maxRecDepth 100000 in
theorem d_WM_mayGoTo_20 : decode b_WM_mayGoTo 20 = .ok (.getfield 178, 3) := by decide +kernel
set_option maxRecDepth 100000 in
theorem d_WM_mayGoTo_23 : decode b_WM_mayGoTo 23 = .ok (.if_icmp .eq 7, 3) := by decide +kernel
set_option maxRecDepth 100000 in
theorem d_WM_mayGoTo_26 : decode b_WM_mayGoTo 26 = .ok (.iconst 1, 1) := by decide +kernel
set_option maxRecDepth 100000 in
theorem d_WM_mayGoTo_27 : decode b_WM_mayGoTo 27 = .ok (.goto 4, 3) := by decide +kernel
set_option maxRecDepth 100000 in
theorem d_WM_mayGoTo_30 : decode b_WM_mayGoTo 30 = .ok (.iconst 0, 1) := by decide +kernel
set_option maxRecDepth 100000 in
theorem d_WM_mayGoTo_31 : decode b_WM_mayGoTo 31 = .ok (.ireturn, 1) := by decide +kernel
set_option maxRecDepth 100000 in
theorem d_WM_menThatAre_0 : decode b_WM_menThatAre 0 = .ok (.iconst 0, 1) := by decide +kernel
set_option maxRecDepth 100000 in
theorem d_WM_menThatAre_1 : decode b_WM_menThatAre 1 = .ok (.istore_n 2, 1) := by decide +kernel
set_option maxRecDepth 100000 in
theorem d_WM_menThatAre_2 : decode b_WM_menThatAre 2 = .ok (.iconst 0, 1) := by decide +kernel
set_option maxRecDepth 100000 in
theorem d_WM_menThatAre_3 : decode b_WM_menThatAre 3 = .ok (.istore_n 3, 1) := by decide +kernel
set_option maxRecDepth 100000 in
theorem d_WM_menThatAre_4 : decode b_WM_menThatAre 4 = .ok (.iload_n 3, 1) := by decide +kernel
set_option maxRecDepth 100000 in
theorem d_WM_menThatAre_5 : decode b_WM_menThatAre 5 = .ok (.bipush 40, 2) := by decide +kernel
set_option maxRecDepth 100000 in
theorem d_WM_menThatAre_7 : decode b_WM_menThatAre 7 = .ok (.if_icmp .ge 34, 3) := by decide +kernel
set_option maxRecDepth 100000 in
theorem d_WM_menThatAre_10 : decode b_WM_menThatAre 10 = .ok (.aload_n 0, 1) := by decide +kernel
set_option maxRecDepth 100000 in
theorem d_WM_menThatAre_11 : decode b_WM_menThatAre 11 = .ok (.getfield 18, 3) := by decide +kernel
set_option maxRecDepth 100000 in
theorem d_WM_menThatAre_14 : decode b_WM_menThatAre 14 = .ok (.iload_n 3, 1) := by decide +kernel
set_option maxRecDepth 100000 in
theorem d_WM_menThatAre_15 : decode b_WM_menThatAre 15 = .ok (.aaload, 1) := by decide +kernel
set_option maxRecDepth 100000 in
theorem d_WM_menThatAre_16 : decode b_WM_menThatAre 16 = .ok (.astore 4, 2) := by decide +kernel
set_option maxRecDepth 100000 in
theorem d_WM_menThatAre_18 : decode b_WM_menThatAre 18 = .ok (.aload 4, 2) := by decide +kernel
set_option maxRecDepth 100000 in
theorem d_WM_menThatAre_20 : decode b_WM_menThatAre 20 = .ok (.ifnull 15, 3) := by decide +kernel
set_option maxRecDepth 100000 in
theorem d_WM_menThatAre_23 : decode b_WM_menThatAre 23 = .ok (.aload 4, 2) := by decide +kernel
set_option maxRecDepth 100000 in
theorem d_WM_menThatAre_25 : decode b_WM_menThatAre 25 = .ok (.getfield 111, 3) := by decide +kernel
set_option maxRecDepth 100000 in
theorem d_WM_menThatAre_28 : decode b_WM_menThatAre 28 = .ok (.iload_n 1, 1) := by decide +kernel
set_option maxRecDepth 100000 in
theorem d_WM_menThatAre_29 : decode b_WM_menThatAre 29 = .ok (.if_icmp .ne 6, 3) := by decide +kernel
set_option maxRecDepth 100000 in
theorem d_WM_menThatAre_32 : decode b_WM_menThatAre 32 = .ok (.iinc 2 1, 3) := by decide +kernel
set_option maxRecDepth 100000 in
theorem d_WM_menThatAre_35 : decode b_WM_menThatAre 35 = .ok (.iinc 3 1, 3) := by decide +kernel
set_option maxRecDepth 100000 in
theorem d_WM_menThatAre_38 : decode b_WM_menThatAre 38 = .ok (.goto (-34), 3) := by decide +kernel
set_option maxRecDepth 100000 in
theorem d_WM_menThatAre_41 : decode b_WM_menThatAre 41 = .ok (.iload_n 2, 1) := by decide +kernel
set_option maxRecDepth 100000 in
theorem d_WM_menThatAre_42 : decode b_WM_menThatAre 42 = .ok (.ireturn, 1) := by decide +kernel
set_option maxRecDepth 100000 in
theorem d_WM_minutes_0 : decode b_WM_minutes 0 = .ok (.iload_n 1, 1) := by decide +kernel
set_option maxRecDepth 100000 in
theorem d_WM_minutes_1 : decode b_WM_minutes 1 = .ok (.iconst 1, 1) := by decide +kernel
set_option maxRecDepth 100000 in
theorem d_WM_minutes_2 : decode b_WM_minutes 2 = .ok (.if_icmp .lt 22, 3) := by decide +kernel
set_option maxRecDepth 100000 in
theorem d_WM_minutes_5 : decode b_WM_minutes 5 = .ok (.iload_n 1, 1) := by decide +kernel
set_option maxRecDepth 100000 in
theorem d_WM_minutes_6 : decode b_WM_minutes 6 = .ok (.sipush 1440, 3) := by decide +kernel
set_option maxRecDepth 100000 in
theorem d_WM_minutes_9 : decode b_WM_minutes 9 = .ok (.if_icmp .gt 15, 3) := by decide +kernel
set_option maxRecDepth 100000 in
theorem d_WM_minutes_12 : decode b_WM_minutes 12 = .ok (.iload_n 1, 1) := by decide +kernel
set_option maxRecDepth 100000 in
theorem d_WM_minutes_13 : decode b_WM_minutes 13 = .ok (.ldc_w 270, 3) := by decide +kernel
set_option maxRecDepth 100000 in
theorem d_WM_minutes_16 : decode b_WM_minutes 16 = .ok (.aload_n 0, 1) := by decide +kernel
set_option maxRecDepth 100000 in
theorem d_WM_minutes_17 : decode b_WM_minutes 17 = .ok (.getfield 155, 3) := by decide +kernel
set_option maxRecDepth 100000 in
theorem d_WM_minutes_20 : decode b_WM_minutes 20 = .ok (.isub, 1) := by decide +kernel
set_option maxRecDepth 100000 in
theorem d_WM_minutes_21 : decode b_WM_minutes 21 = .ok (.if_icmp .le 5, 3) := by decide +kernel
set_option maxRecDepth 100000 in
theorem d_WM_minutes_24 : decode b_WM_minutes 24 = .ok (.iconst (-1), 1) := by decide +kernel
set_option maxRecDepth 100000 in
theorem d_WM_minutes_25 : decode b_WM_minutes 25 = .ok (.ireturn, 1) := by decide +kernel
set_option maxRecDepth 100000 in
theorem d_WM_minutes_26 : decode b_WM_minutes 26 = .ok (.aload_n 0, 1) := by decide +kernel
set_option maxRecDepth 100000 in
theorem d_WM_minutes_27 : decode b_WM_minutes 27 = .ok (.getfield 155, 3) := by decide +kernel
set_option maxRecDepth 100000 in
theorem d_WM_minutes_30 : decode b_WM_minutes 30 = .ok (.iload_n 1, 1) := by decide +kernel
set_option maxRecDepth 100000 in
theorem d_WM_minutes_31 : decode b_WM_minutes 31 = .ok (.iadd, 1) := by decide +kernel
set_option maxRecDepth 100000 in
theorem d_WM_minutes_32 : decode b_WM_minutes 32 = .ok (.sipush 720, 3) := by decide +kernel
set_option maxRecDepth 100000 in
theorem d_WM_minutes_35 : decode b_WM_minutes 35 = .ok (.idiv, 1) := by decide +kernel
set_option maxRecDepth 100000 in
theorem d_WM_minutes_36 : decode b_WM_minutes 36 = .ok (.istore_n 2, 1) := by decide +kernel
set_option maxRecDepth 100000 in
theorem d_WM_minutes_37 : decode b_WM_minutes 37 = .ok (.aload_n 0, 1) := by decide +kernel
set_option maxRecDepth 100000 in
theorem d_WM_minutes_38 : decode b_WM_minutes 38 = .ok (.invokevirtual 97, 3) := by decide +kernel
set_option maxRecDepth 100000 in
theorem d_WM_minutes_41 : decode b_WM_minutes 41 = .ok (.iconst 1, 1) := by decide +kernel
set_option maxRecDepth 100000 in
theorem d_WM_minutes_42 : decode b_WM_minutes 42 = .ok (.iadd, 1) := by decide +kernel
set_option maxRecDepth 100000 in
theorem d_WM_minutes_43 : decode b_WM_minutes 43 = .ok (.istore_n 3, 1) := by decide +kernel
set_option maxRecDepth 100000 in
theorem d_WM_minutes_44 : decode b_WM_minutes 44 = .ok (.iload_n 3, 1) := by decide +kernel
set_option maxRecDepth 100000 in
theorem d_WM_minutes_45 : decode b_WM_minutes 45 = .ok (.iload_n 2, 1) := by decide +kernel
set_option maxRecDepth 100000 in
theorem d_WM_minutes_46 : decode b_WM_minutes 46 = .ok (.if_icmp .gt 24, 3) := by decide +kernel
set_option maxRecDepth 100000 in
theorem d_WM_minutes_49 : decode b_WM_minutes 49 = .ok (.aload_n 0, 1) := by decide +kernel
set_option maxRecDepth 100000 in
theorem d_WM_minutes_50 : decode b_WM_minutes 50 = .ok (.iload_n 3, 1) := by decide +kernel
set_option maxRecDepth 100000 in
theorem d_WM_minutes_51 : decode b_WM_minutes 51 = .ok (.iconst 1, 1) := by decide +kernel
set_option maxRecDepth 100000 in
theorem d_WM_minutes_52 : decode b_WM_minutes 52 = .ok (.isub, 1) := by decide +kernel
set_option maxRecDepth 100000 in
theorem d_WM_minutes_53 : decode b_WM_minutes 53 = .ok (.invokevirtual 271, 3) := by decide +kernel
set_option maxRecDepth 100000 in
theorem d_WM_minutes_56 : decode b_WM_minutes 56 = .ok (.aload_n 0, 1) := by decide +kernel
set_option maxRecDepth 100000 in
theorem d_WM_minutes_57 : decode b_WM_minutes 57 = .ok (.getfield 50, 3) := by decide +kernel
set_option maxRecDepth 100000 in
theorem d_WM_minutes_60 : decode b_WM_minutes 60 = .ok (.iload_n 3, 1) := by decide +kernel
set_option maxRecDepth 100000 in
theorem d_WM_minutes_61 : decode b_WM_minutes 61 = .ok (.invokevirtual 274, 3) := by decide +kernel
set_option maxRecDepth 100000 in
theorem d_WM_minutes_64 : decode b_WM_minutes 64 = .ok (.iinc 3 1, 3) := by decide +kernel
set_option maxRecDepth 100000 in
theorem d_WM_minutes_67 : decode b_WM_minutes 67 = .ok (.goto (-23), 3) := by decide +kernel
set_option maxRecDepth 100000 in
theorem d_WM_minutes_70 : decode b_WM_minutes 70 = .ok (.aload_n 0, 1) := by decide +kernel
set_option maxRecDepth 100000 in
theorem d_WM_minutes_71 : decode b_WM_minutes 71 = .ok (.dup, 1) := by decide +kernel
set_option maxRecDepth 100000 in
theorem d_WM_minutes_72 : decode b_WM_minutes 72 = .ok (.getfield 155, 3) := by decide +kernel
set_option maxRecDepth 100000 in
theorem d_WM_minutes_75 : decode b_WM_minutes 75 = .ok (.iload_n 1, 1) := by decide +kernel
set_option maxRecDepth 100000 in
theorem d_WM_minutes_76 : decode b_WM_minutes 76 = .ok (.iadd, 1) := by decide +kernel
set_option maxRecDepth 100000 in
theorem d_WM_minutes_77 : decode b_WM_minutes 77 = .ok (.putfield 155, 3) := by decide +kernel
set_option maxRecDepth 100000 in
theorem d_WM_minutes_80 : decode b_WM_minutes 80 = .ok (.aload_n 0, 1) := by decide +kernel
set_option maxRecDepth 100000 in
theorem d_WM_minutes_81 : decode b_WM_minutes 81 = .ok (.getfield 155, 3) := by decide +kernel
set_option maxRecDepth 100000 in
theorem d_WM_minutes_84 : decode b_WM_minutes 84 = .ok (.ireturn, 1) := by decide +kernel
set_option maxRecDepth 100000 in
theorem d_WM_minutesOfWay_0 : decode b_WM_minutesOfWay 0 = .ok (.aload_n 0, 1) := by decide +kernel
set_option maxRecDepth 100000 in
theorem d_WM_minutesOfWay_1 : decode b_WM_minutesOfWay 1 = .ok (.getfield 12, 3) := by decide +kernel
set_option maxRecDepth 100000 in
theorem d_WM_minutesOfWay_4 : decode b_WM_minutesOfWay 4 = .ok (.aload_n 1, 1) := by decide +kernel
set_option maxRecDepth 100000 in
theorem d_WM_minutesOfWay_5 : decode b_WM_minutesOfWay 5 = .ok (.getfield 178, 3) := by decide +kernel
set_option maxRecDepth 100000 in
theorem d_WM_minutesOfWay_8 : decode b_WM_minutesOfWay 8 = .ok (.iload_n 2, 1) := by decide +kernel
set_option maxRecDepth 100000 in
theorem d_WM_minutesOfWay_9 : decode b_WM_minutesOfWay 9 = .ok (.aload_n 0, 1) := by decide +kernel
set_option maxRecDepth 100000 in
theorem d_WM_minutesOfWay_10 : decode b_WM_minutesOfWay 10 = .ok (.invokevirtual 97, 3) := by decide +kernel
set_option maxRecDepth 100000 in
theorem d_WM_minutesOfWay_13 : decode b_WM_minutesOfWay 13 = .ok (.aload_n 0, 1) := by decide +kernel
set_option maxRecDepth 100000 in
theorem d_WM_minutesOfWay_14 : decode b_WM_minutesOfWay 14 = .ok (.invokevirtual 382, 3) := by decide +kernel
set_option maxRecDepth 100000 in
theorem d_WM_minutesOfWay_17 : decode b_WM_minutesOfWay 17 = .ok (.invokevirtual 359, 3) := by decide +kernel
set_option maxRecDepth 100000 in
theorem d_WM_minutesOfWay_20 : decode b_WM_minutesOfWay 20 = .ok (.istore_n 3, 1) := by decide +kernel
set_option maxRecDepth 100000 in
theorem d_WM_minutesOfWay_21 : decode b_WM_minutesOfWay 21 = .ok (.iload_n 3, 1) := by decide +kernel
set_option maxRecDepth 100000 in
theorem d_WM_minutesOfWay_22 : decode b_WM_minutesOfWay 22 = .ok (.ifCond .le 8, 3) := by decide +kernel
set_option maxRecDepth 100000 in
theorem d_WM_minutesOfWay_25 : decode b_WM_minutesOfWay 25 = .ok (.bipush 7, 2) := by decide +kernel
set_option maxRecDepth 100000 in
theorem d_WM_minutesOfWay_27 : decode b_WM_minutesOfWay 27 = .ok (.goto 14, 3) := by decide +kernel
set_option maxRecDepth 100000 in
theorem d_WM_minutesOfWay_30 : decode b_WM_minutesOfWay 30 = .ok (.iload_n 3, 1) := by decide +kernel
set_option maxRecDepth 100000 in
theorem d_WM_minutesOfWay_31 : decode b_WM_minutesOfWay 31 = .ok (.ifCond .ge 8, 3) := by decide +kernel
set_option maxRecDepth 100000 in
theorem d_WM_minutesOfWay_34 : decode b_WM_minutesOfWay 34 = .ok (.bipush 14, 2) := by decide +kernel
set_option maxRecDepth 100000 in
theorem d_WM_minutesOfWay_36 : decode b_WM_minutesOfWay 36 = .ok (.goto 5, 3) := by decide +kernel
set_option maxRecDepth 100000 in
theorem d_WM_minutesOfWay_39 : decode b_WM_minutesOfWay 39 = .ok (.bipush 10, 2) := by decide +kernel
set_option maxRecDepth 100000 in
theorem d_WM_minutesOfWay_41 : decode b_WM_minutesOfWay 41 = .ok (.istore 4, 2) := by decide +kernel
set_option maxRecDepth 100000 in
theorem d_WM_minutesOfWay_43 : decode b_WM_minutesOfWay 43 = .ok (.aload_n 0, 1) := by decide +kernel
set_option maxRecDepth 100000 in
theorem d_WM_minutesOfWay_44 : decode b_WM_minutesOfWay 44 = .ok (.getfield 12, 3) := by decide +kernel
set_option maxRecDepth 100000 in
theorem d_WM_minutesOfWay_47 : decode b_WM_minutesOfWay 47 = .ok (.aload_n 1, 1) := by decide +kernel
set_option maxRecDepth 100000 in
theorem d_WM_minutesOfWay_48 : decode b_WM_minutesOfWay 48 = .ok (.getfield 178, 3) := by decide +kernel
set_option maxRecDepth 100000 in
theorem d_WM_minutesOfWay_51 : decode b_WM_minutesOfWay 51 = .ok (.iload_n 2, 1) := by decide +kernel
set_option maxRecDepth 100000 in
theorem d_WM_minutesOfWay_52 : decode b_WM_minutesOfWay 52 = .ok (.invokevirtual 363, 3) := by decide +kernel
set_option maxRecDepth 100000 in
theorem d_WM_minutesOfWay_55 : decode b_WM_minutesOfWay 55 = .ok (.iload 4, 2) := by decide +kernel
set_option maxRecDepth 100000 in
theorem d_WM_minutesOfWay_57 : decode b_WM_minutesOfWay 57 = .ok (.imul, 1) := by decide +kernel
set_option maxRecDepth 100000 in
theorem d_WM_minutesOfWay_58 : decode b_WM_minutesOfWay 58 = .ok (.istore 5, 2) := by decide +kernel
set_option maxRecDepth 100000 in
theorem d_WM_minutesOfWay_60 : decode b_WM_minutesOfWay 60 = .ok (.iconst 1, 1) := by decide +kernel
set_option maxRecDepth 100000 in
theorem d_WM_minutesOfWay_61 : decode b_WM_minutesOfWay 61 = .ok (.aload_n 1, 1) := by decide +kernel
set_option maxRecDepth 100000 in
theorem d_WM_minutesOfWay_62 : decode b_WM_minutesOfWay 62 = .ok (.getfield 181, 3) := by decide +kernel
set_option maxRecDepth 100000 in
theorem d_WM_minutesOfWay_65 : decode b_WM_minutesOfWay 65 = .ok (.iconst 2, 1) := by decide +kernel
set_option maxRecDepth 100000 in
theorem d_WM_minutesOfWay_66 : decode b_WM_minutesOfWay 66 = .ok (.if_icmp .ne 12, 3) := by decide +kernel
set_option maxRecDepth 100000 in
theorem d_WM_minutesOfWay_69 : decode b_WM_minutesOfWay 69 = .ok (.iload 5, 2) := by decide +kernel
set_option maxRecDepth 100000 in
theorem d_WM_minutesOfWay_71 : decode b_WM_minutesOfWay 71 = .ok (.iconst 2, 1) := by decide +kernel
set_option maxRecDepth 100000 in
theorem d_WM_minutesOfWay_72 : decode b_WM_minutesOfWay 72 = .ok (.imul, 1) := by decide +kernel
set_option maxRecDepth 100000 in
theorem d_WM_minutesOfWay_73 : decode b_WM_minutesOfWay 73 = .ok (.iconst 3, 1) := by decide +kernel
set_option maxRecDepth 100000 in
theorem d_WM_minutesOfWay_74 : decode b_WM_minutesOfWay 74 = .ok (.idiv, 1) := by decide +kernel
set_option maxRecDepth 100000 in
theorem d_WM_minutesOfWay_75 : decode b_WM_minutesOfWay 75 = .ok (.goto 5, 3) := by decide +kernel
set_option maxRecDepth 100000 in
theorem d_WM_minutesOfWay_78 : decode b_WM_minutesOfWay 78 = .ok (.iload 5, 2) := by decide +kernel
set_option maxRecDepth 100000 in
theorem d_WM_minutesOfWay_80 : decode b_WM_minutesOfWay 80 = .ok (.invokestatic 370, 3) := by decide +kernel
set_option maxRecDepth 100000 in
theorem d_WM_minutesOfWay_83 : decode b_WM_minutesOfWay 83 = .ok (.ireturn, 1) := by decide +kernel
set_option maxRecDepth 100000 in
theorem d_WM_mustWait_0 : decode b_WM_mustWait 0 = .ok (.aload_n 1, 1) := by decide +kernel
set_option maxRecDepth 100000 in
theorem d_WM_mustWait_1 : decode b_WM_mustWait 1 = .ok (.getfield 145, 3) := by decide +kernel
set_option maxRecDepth 100000 in
theorem d_WM_mustWait_4 : decode b_WM_mustWait 4 = .ok (.iload_n 2, 1) := by decide +kernel
set_option maxRecDepth 100000 in
theorem d_WM_mustWait_5 : decode b_WM_mustWait 5 = .ok (.if_icmp .ne 17, 3) := by decide +kernel
set_option maxRecDepth 100000 in
theorem d_WM_mustWait_8 : decode b_WM_mustWait 8 = .ok (.aload_n 0, 1) := by decide +kernel
set_option maxRecDepth 100000 in
theorem d_WM_mustWait_9 : decode b_WM_mustWait 9 = .ok (.aload_n 1, 1) := by decide +kernel
set_option maxRecDepth 100000 in
theorem d_WM_mustWait_10 : decode b_WM_mustWait 10 = .ok (.invokevirtual 148, 3) := by decide +kernel
set_option maxRecDepth 100000 in
theorem d_WM_mustWait_13 : decode b_WM_mustWait 13 = .ok (.ifCond .eq 7, 3) := by decide +kernel
set_option maxRecDepth 100000 in
theorem d_WM_mustWait_16 : decode b_WM_mustWait 16 = .ok (.iconst 1, 1) := by decide +kernel
set_option maxRecDepth 100000 in
theorem d_WM_mustWait_17 : decode b_WM_mustWait 17 = .ok (.goto 4, 3) := by decide +kernel
set_option maxRecDepth 100000 in
theorem d_WM_mustWait_20 : decode b_WM_mustWait 20 = .ok (.iconst 0, 1) := by decide +kernel
set_option maxRecDepth 100000 in
theorem d_WM_mustWait_21 : decode b_WM_mustWait 21 = .ok (.ireturn, 1) := by decide +kernel
set_option maxRecDepth 100000 in
theorem d_WM_mustWait_22 : decode b_WM_mustWait 22 = .ok (.aload_n 0, 1) := by decide +kernel
set_option maxRecDepth 100000 in
theorem d_WM_mustWait_23 : decode b_WM_mustWait 23 = .ok (.iload_n 2, 1) := by decide +kernel
set_option maxRecDepth 100000 in
theorem d_WM_mustWait_24 : decode b_WM_mustWait 24 = .ok (.invokevirtual 356, 3) := by decide +kernel
set_option maxRecDepth 100000 in
theorem d_WM_mustWait_27 : decode b_WM_mustWait 27 = .ok (.ireturn, 1) := by decide +kernel
set_option maxRecDepth 100000 in
theorem d_WM_numberInForce_0 : decode b_WM_numberInForce 0 = .ok (.aload_n 0, 1) := by decide +kernel
set_option maxRecDepth 100000 in
theorem d_WM_numberInForce_1 : decode b_WM_numberInForce 1 = .ok (.getfield 210, 3) := by decide +kernel
set_option maxRecDepth 100000 in
theorem d_WM_numberInForce_4 : decode b_WM_numberInForce 4 = .ok (.iconst 1, 1) := by decide +kernel
set_option maxRecDepth 100000 in
theorem d_WM_numberInForce_5 : decode b_WM_numberInForce 5 = .ok (.isub, 1) := by decide +kernel
set_option maxRecDepth 100000 in
theorem d_WM_numberInForce_6 : decode b_WM_numberInForce 6 = .ok (.istore_n 3, 1) := by decide +kernel
set_option maxRecDepth 100000 in
theorem d_WM_numberInForce_7 : decode b_WM_numberInForce 7 = .ok (.iload_n 3, 1) := by decide +kernel
set_option maxRecDepth 100000 in
theorem d_WM_numberInForce_8 : decode b_WM_numberInForce 8 = .ok (.ifCond .lt 41, 3) := by decide +kernel
set_option maxRecDepth 100000 in
theorem d_WM_numberInForce_11 : decode b_WM_numberInForce 11 = .ok (.aload_n 0, 1) := by decide +kernel
set_option maxRecDepth 100000 in
theorem d_WM_numberInForce_12 : decode b_WM_numberInForce 12 = .ok (.iload_n 3, 1) := by decide +kernel
set_option maxRecDepth 100000 in
theorem d_WM_numberInForce_13 : decode b_WM_numberInForce 13 = .ok (.invokevirtual 226, 3) := by decide +kernel
set_option maxRecDepth 100000 in
theorem d_WM_numberInForce_16 : decode b_WM_numberInForce 16 = .ok (.astore 4, 2) := by decide +kernel
set_option maxRecDepth 100000 in
theorem d_WM_numberInForce_18 : decode b_WM_numberInForce 18 = .ok (.aload 4, 2) := by decide +kernel
set_option maxRecDepth 100000 in
theorem d_WM_numberInForce_20 : decode b_WM_numberInForce 20 = .ok (.ifnull 23, 3) := by decide +kernel
set_option maxRecDepth 100000 in
theorem d_WM_numberInForce_23 : decode b_WM_numberInForce 23 = .ok (.aload 4, 2) := by decide +kernel
set_option maxRecDepth 100000 in
theorem d_WM_numberInForce_25 : decode b_WM_numberInForce 25 = .ok (.getfield 220, 3) := by decide +kernel
set_option maxRecDepth 100000 in
theorem d_WM_numberInForce_28 : decode b_WM_numberInForce 28 = .ok (.iload_n 2, 1) := by decide +kernel
set_option maxRecDepth 100000 in
theorem d_WM_numberInForce_29 : decode b_WM_numberInForce 29 = .ok (.if_icmp .gt 14, 3) := by decide +kernel
set_option maxRecDepth 100000 in
theorem d_WM_numberInForce_32 : decode b_WM_numberInForce 32 = .ok (.aload 4, 2) := by decide +kernel
set_option maxRecDepth 100000 in
theorem d_WM_numberInForce_34 : decode b_WM_numberInForce 34 = .ok (.getfield 217, 3) := by decide +kernel
set_option maxRecDepth 100000 in
theorem d_WM_numberInForce_37 : decode b_WM_numberInForce 37 = .ok (.iload_n 1, 1) := by decide +kernel
set_option maxRecDepth 100000 in
theorem d_WM_numberInForce_38 : decode b_WM_numberInForce 38 = .ok (.if_icmp .gt 5, 3) := by decide +kernel
set_option maxRecDepth 100000 in
theorem d_WM_numberInForce_41 : decode b_WM_numberInForce 41 = .ok (.iload_n 3, 1) := by decide +kernel
set_option maxRecDepth 100000 in
theorem d_WM_numberInForce_42 : decode b_WM_numberInForce 42 = .ok (.ireturn, 1) := by decide +kernel
set_option maxRecDepth 100000 in
theorem d_WM_numberInForce_43 : decode b_WM_numberInForce 43 = .ok (.iinc 3 (-1), 3) := by decide +kernel
set_option maxRecDepth 100000 in
theorem d_WM_numberInForce_46 : decode b_WM_numberInForce 46 = .ok (.goto (-39), 3) := by decide +kernel
set_option maxRecDepth 100000 in
theorem d_WM_numberInForce_49 : decode b_WM_numberInForce 49 = .ok (.bipush (-2), 2) := by decide +kernel
set_option maxRecDepth 100000 in
theorem d_WM_numberInForce_51 : decode b_WM_numberInForce 51 = .ok (.ireturn, 1) := by decide +kernel
set_option maxRecDepth 100000 in
theorem d_WM_order_0 : decode b_WM_order 0 = .ok (.iload_n 1, 1) := by decide +kernel
set_option maxRecDepth 100000 in
theorem d_WM_order_1 : decode b_WM_order 1 = .ok (.invokestatic 75, 3) := by decide +kernel
set_option maxRecDepth 100000 in
theorem d_WM_order_4 : decode b_WM_order 4 = .ok (.ifCond .ne 5, 3) := by decide +kernel
set_option maxRecDepth 100000 in
theorem d_WM_order_7 : decode b_WM_order 7 = .ok (.iconst (-1), 1) := by decide +kernel
set_option maxRecDepth 100000 in
theorem d_WM_order_8 : decode b_WM_order 8 = .ok (.ireturn, 1) := by decide +kernel
set_option maxRecDepth 100000 in
theorem d_WM_order_9 : decode b_WM_order 9 = .ok (.aload_n 0, 1) := by decide +kernel
set_option maxRecDepth 100000 in
theorem d_WM_order_10 : decode b_WM_order 10 = .ok (.getfield 210, 3) := by decide +kernel
set_option maxRecDepth 100000 in
theorem d_WM_order_13 : decode b_WM_order 13 = .ok (.bipush 20, 2) := by decide +kernel
set_option maxRecDepth 100000 in
theorem d_WM_order_15 : decode b_WM_order 15 = .ok (.if_icmp .lt 6, 3) := by decide +kernel
set_option maxRecDepth 100000 in
theorem d_WM_order_18 : decode b_WM_order 18 = .ok (.bipush (-3), 2) := by decide +kernel
set_option maxRecDepth 100000 in
theorem d_WM_order_20 : decode b_WM_order 20 = .ok (.ireturn, 1) := by decide +kernel
set_option maxRecDepth 100000 in
theorem d_WM_order_21 : decode b_WM_order 21 = .ok (.aload_n 0, 1) := by decide +kernel
set_option maxRecDepth 100000 in
theorem d_WM_order_22 : decode b_WM_order 22 = .ok (.getfield 43, 3) := by decide +kernel
set_option maxRecDepth 100000 in
theorem d_WM_order_25 : decode b_WM_order 25 = .ok (.aload_n 0, 1) := by decide +kernel
set_option maxRecDepth 100000 in
theorem d_WM_order_26 : decode b_WM_order 26 = .ok (.getfield 55, 3) := by decide +kernel
set_option maxRecDepth 100000 in
theorem d_WM_order_29 : decode b_WM_order 29 = .ok (.invokevirtual 213, 3) := by decide +kernel
set_option maxRecDepth 100000 in
theorem d_WM_order_32 : decode b_WM_order 32 = .ok (.istore_n 2, 1) := by decide +kernel
set_option maxRecDepth 100000 in
theorem d_WM_order_33 : decode b_WM_order 33 = .ok (.aload_n 0, 1) := by decide +kernel
set_option maxRecDepth 100000 in
theorem d_WM_order_34 : decode b_WM_order 34 = .ok (.getfield 43, 3) := by decide +kernel
set_option maxRecDepth 100000 in
theorem d_WM_order_37 : decode b_WM_order 37 = .ok (.iconst 0, 1) := by decide +kernel
set_option maxRecDepth 100000 in
theorem d_WM_order_38 : decode b_WM_order 38 = .ok (.putfield 207, 3) := by decide +kernel
set_option maxRecDepth 100000 in
theorem d_WM_order_41 : decode b_WM_order 41 = .ok (.iload_n 2, 1) := by decide +kernel
set_option maxRecDepth 100000 in
theorem d_WM_order_42 : decode b_WM_order 42 = .ok (.iconst (-1), 1) := by decide +kernel
set_option maxRecDepth 100000 in
theorem d_WM_order_43 : decode b_WM_order 43 = .ok (.if_icmp .eq 8, 3) := by decide +kernel
set_option maxRecDepth 100000 in
theorem d_WM_order_46 : decode b_WM_order 46 = .ok (.bipush (-100), 2) := by decide +kernel
set_option maxRecDepth 100000 in
theorem d_WM_order_48 : decode b_WM_order 48 = .ok (.iload_n 2, 1) := by decide +kernel
set_option maxRecDepth 100000 in
theorem d_WM_order_49 : decode b_WM_order 49 = .ok (.isub, 1) := by decide +kernel
set_option maxRecDepth 100000 in
theorem d_WM_order_50 : decode b_WM_order 50 = .ok (.ireturn, 1) := by decide +kernel
set_option maxRecDepth 100000 in
theorem d_WM_order_51 : decode b_WM_order 51 = .ok (.aload_n 0, 1) := by decide +kernel
set_option maxRecDepth 100000 in
theorem d_WM_order_52 : decode b_WM_order 52 = .ok (.getfield 55, 3) := by decide +kernel
set_option maxRecDepth 100000 in
theorem d_WM_order_55 : decode b_WM_order 55 = .ok (.iload_n 1, 1) := by decide +kernel
set_option maxRecDepth 100000 in
theorem d_WM_order_56 : decode b_WM_order 56 = .ok (.putfield 217, 3) := by decide +kernel
set_option maxRecDepth 100000 in
theorem d_WM_order_59 : decode b_WM_order 59 = .ok (.aload_n 0, 1) := by decide +kernel
set_option maxRecDepth 100000 in
theorem d_WM_order_60 : decode b_WM_order 60 = .ok (.getfield 55, 3) := by decide +kernel
set_option maxRecDepth 100000 in
theorem d_WM_order_63 : decode b_WM_order 63 = .ok (.aload_n 0, 1) := by decide +kernel
set_option maxRecDepth 100000 in
theorem d_WM_order_64 : decode b_WM_order 64 = .ok (.invokevirtual 97, 3) := by decide +kernel
set_option maxRecDepth 100000 in
theorem d_WM_order_67 : decode b_WM_order 67 = .ok (.putfield 220, 3) := by decide +kernel
set_option maxRecDepth 100000 in
theorem d_WM_order_70 : decode b_WM_order 70 = .ok (.aload_n 0, 1) := by decide +kernel
set_option maxRecDepth 100000 in
theorem d_WM_order_71 : decode b_WM_order 71 = .ok (.getfield 30, 3) := by decide +kernel
set_option maxRecDepth 100000 in
theorem d_WM_order_74 : decode b_WM_order 74 = .ok (.aload_n 0, 1) := by decide +kernel
set_option maxRecDepth 100000 in
theorem d_WM_order_75 : decode b_WM_order 75 = .ok (.getfield 210, 3) := by decide +kernel
set_option maxRecDepth 100000 in
theorem d_WM_order_78 : decode b_WM_order 78 = .ok (.aload_n 0, 1) := by decide +kernel
set_option maxRecDepth 100000 in
theorem d_WM_order_79 : decode b_WM_order 79 = .ok (.getfield 55, 3) := by decide +kernel
set_option maxRecDepth 100000 in
theorem d_WM_order_82 : decode b_WM_order 82 = .ok (.aastore, 1) := by decide +kernel
set_option maxRecDepth 100000 in
theorem d_WM_order_83 : decode b_WM_order 83 = .ok (.aload_n 0, 1) := by decide +kernel
set_option maxRecDepth 100000 in
theorem d_WM_order_84 : decode b_WM_order 84 = .ok (.dup, 1) := by decide +kernel
set_option maxRecDepth 100000 in
theorem d_WM_order_85 : decode b_WM_order 85 = .ok (.getfield 210, 3) := by decide +kernel
set_option maxRecDepth 100000 in
theorem d_WM_order_88 : decode b_WM_order 88 = .ok (.iconst 1, 1) := by decide +kernel
set_option maxRecDepth 100000 in
theorem d_WM_order_89 : decode b_WM_order 89 = .ok (.iadd, 1) := by decide +kernel
set_option maxRecDepth 100000 in
theorem d_WM_order_90 : decode b_WM_order 90 = .ok (.putfield 210, 3) := by decide +kernel
set_option maxRecDepth 100000 in
theorem d_WM_order_93 : decode b_WM_order 93 = .ok (.aload_n 0, 1) := by decide +kernel
set_option maxRecDepth 100000 in
theorem d_WM_order_94 : decode b_WM_order 94 = .ok (.new 28, 3) := by decide +kernel
set_option maxRecDepth 100000 in
theorem d_WM_order_97 : decode b_WM_order 97 = .ok (.dup, 1) := by decide +kernel
set_option maxRecDepth 100000 in
theorem d_WM_order_98 : decode b_WM_order 98 = .ok (.invokespecial 54, 3) := by decide +kernel
set_option maxRecDepth 100000 in
theorem d_WM_order_101 : decode b_WM_order 101 = .ok (.putfield 55, 3) := by decide +kernel
set_option maxRecDepth 100000 in
theorem d_WM_order_104 : decode b_WM_order 104 = .ok (.aload_n 0, 1) := by decide +kernel
set_option maxRecDepth 100000 in
theorem d_WM_order_105 : decode b_WM_order 105 = .ok (.getfield 210, 3) := by decide +kernel
set_option maxRecDepth 100000 in
theorem d_WM_order_108 : decode b_WM_order 108 = .ok (.iconst 1, 1) := by decide +kernel
set_option maxRecDepth 100000 in
theorem d_WM_order_109 : decode b_WM_order 109 = .ok (.isub, 1) := by decide +kernel
set_option maxRecDepth 100000 in
theorem d_WM_order_110 : decode b_WM_order 110 = .ok (.ireturn, 1) := by decide +kernel
set_option maxRecDepth 100000 in
theorem d_WM_orderAt_0 : decode b_WM_orderAt 0 = .ok (.iload_n 1, 1) := by decide +kernel
set_option maxRecDepth 100000 in
theorem d_WM_orderAt_1 : decode b_WM_orderAt 1 = .ok (.ifCond .lt 20, 3) := by decide +kernel
set_option maxRecDepth 100000 in
theorem d_WM_orderAt_4 : decode b_WM_orderAt 4 = .ok (.iload_n 1, 1) := by decide +kernel
set_option maxRecDepth 100000 in
theorem d_WM_orderAt_5 : decode b_WM_orderAt 5 = .ok (.aload_n 0, 1) := by decide +kernel
set_option maxRecDepth 100000 in
theorem d_WM_orderAt_6 : decode b_WM_orderAt 6 = .ok (.getfield 210, 3) := by decide +kernel
set_option maxRecDepth 100000 in
theorem d_WM_orderAt_9 : decode b_WM_orderAt 9 = .ok (.if_icmp .ge 12, 3) := by decide +kernel
set_option maxRecDepth 100000 in
theorem d_WM_orderAt_12 : decode b_WM_orderAt 12 = .ok (.aload_n 0, 1) := by decide +kernel
set_option maxRecDepth 100000 in
theorem d_WM_orderAt_13 : decode b_WM_orderAt 13 = .ok (.getfield 30, 3) := by decide +kernel
set_option maxRecDepth 100000 in
theorem d_WM_orderAt_16 : decode b_WM_orderAt 16 = .ok (.iload_n 1, 1) := by decide +kernel
set_option maxRecDepth 100000 in
theorem d_WM_orderAt_17 : decode b_WM_orderAt 17 = .ok (.aaload, 1) := by decide +kernel
set_option maxRecDepth 100000 in
theorem d_WM_orderAt_18 : decode b_WM_orderAt 18 = .ok (.goto 4, 3) := by decide +kernel
set_option maxRecDepth 100000 in
theorem d_WM_orderAt_21 : decode b_WM_orderAt 21 = .ok (.aconst_null, 1) := by decide +kernel
set_option maxRecDepth 100000 in
theorem d_WM_orderAt_22 : decode b_WM_orderAt 22 = .ok (.areturn, 1) := by decide +kernel
set_option maxRecDepth 100000 in
theorem d_WM_over_0 : decode b_WM_over 0 = .ok (.aload_n 0, 1) := by decide +kernel
set_option maxRecDepth 100000 in
theorem d_WM_over_1 : decode b_WM_over 1 = .ok (.iload_n 1, 1) := by decide +kernel
set_option maxRecDepth 100000 in
theorem d_WM_over_2 : decode b_WM_over 2 = .ok (.invokevirtual 107, 3) := by decide +kernel
set_option maxRecDepth 100000 in
theorem d_WM_over_5 : decode b_WM_over 5 = .ok (.ifnull 10, 3) := by decide +kernel
set_option maxRecDepth 100000 in
theorem d_WM_over_8 : decode b_WM_over 8 = .ok (.iload_n 2, 1) := by decide +kernel
set_option maxRecDepth 100000 in
theorem d_WM_over_9 : decode b_WM_over 9 = .ok (.invokestatic 75, 3) := by decide +kernel
set_option maxRecDepth 100000 in
theorem d_WM_over_12 : decode b_WM_over 12 = .ok (.ifCond .ne 5, 3) := by decide +kernel
set_option maxRecDepth 100000 in
theorem d_WM_over_15 : decode b_WM_over 15 = .ok (.iconst (-1), 1) := by decide +kernel
set_option maxRecDepth 100000 in
theorem d_WM_over_16 : decode b_WM_over 16 = .ok (.ireturn, 1) := by decide +kernel
set_option maxRecDepth 100000 in
theorem d_WM_over_17 : decode b_WM_over 17 = .ok (.iconst 0, 1) := by decide +kernel
set_option maxRecDepth 100000 in
theorem d_WM_over_18 : decode b_WM_over 18 = .ok (.istore_n 3, 1) := by decide +kernel
set_option maxRecDepth 100000 in
theorem d_WM_over_19 : decode b_WM_over 19 = .ok (.iconst 0, 1) := by decide +kernel
set_option maxRecDepth 100000 in
theorem d_WM_over_20 : decode b_WM_over 20 = .ok (.istore 4, 2) := by decide +kernel
set_option maxRecDepth 100000 in
theorem d_WM_over_22 : decode b_WM_over 22 = .ok (.iload 4, 2) := by decide +kernel
set_option maxRecDepth 100000 in
theorem d_WM_over_24 : decode b_WM_over 24 = .ok (.aload_n 0, 1) := by decide +kernel
set_option maxRecDepth 100000 in
theorem d_WM_over_25 : decode b_WM_over 25 = .ok (.getfield 243, 3) := by decide +kernel
set_option maxRecDepth 100000 in
theorem d_WM_over_28 : decode b_WM_over 28 = .ok (.if_icmp .ge 41, 3) := by decide +kernel
set_option maxRecDepth 100000 in
theorem d_WM_over_31 : decode b_WM_over 31 = .ok (.aload_n 0, 1) := by decide +kernel
set_option maxRecDepth 100000 in
theorem d_WM_over_32 : decode b_WM_over 32 = .ok (.iload 4, 2) := by decide +kernel
set_option maxRecDepth 100000 in
theorem d_WM_over_34 : decode b_WM_over 34 = .ok (.invokevirtual 293, 3) := by decide +kernel
set_option maxRecDepth 100000 in
theorem d_WM_over_37 : decode b_WM_over 37 = .ok (.astore 5, 2) := by decide +kernel
set_option maxRecDepth 100000 in
theorem d_WM_over_39 : decode b_WM_over 39 = .ok (.aload 5, 2) := by decide +kernel
set_option maxRecDepth 100000 in
theorem d_WM_over_41 : decode b_WM_over 41 = .ok (.ifnull 22, 3) := by decide +kernel
set_option maxRecDepth 100000 in
theorem d_WM_over_44 : decode b_WM_over 44 = .ok (.aload 5, 2) := by decide +kernel
set_option maxRecDepth 100000 in
theorem d_WM_over_46 : decode b_WM_over 46 = .ok (.getfield 306, 3) := by decide +kernel
set_option maxRecDepth 100000 in
theorem d_WM_over_49 : decode b_WM_over 49 = .ok (.iload_n 1, 1) := by decide +kernel
set_option maxRecDepth 100000 in
theorem d_WM_over_50 : decode b_WM_over 50 = .ok (.if_icmp .ne 13, 3) := by decide +kernel
set_option maxRecDepth 100000 in
theorem d_WM_over_53 : decode b_WM_over 53 = .ok (.iload_n 3, 1) := by decide +kernel
set_option maxRecDepth 100000 in
theorem d_WM_over_54 : decode b_WM_over 54 = .ok (.aload_n 0, 1) := by decide +kernel
set_option maxRecDepth 100000 in
theorem d_WM_over_55 : decode b_WM_over 55 = .ok (.aload 5, 2) := by decide +kernel
set_option maxRecDepth 100000 in
theorem d_WM_over_57 : decode b_WM_over 57 = .ok (.iload_n 2, 1) := by decide +kernel
set_option maxRecDepth 100000 in
theorem d_WM_over_58 : decode b_WM_over 58 = .ok (.invokevirtual 319, 3) := by decide +kernel
set_option maxRecDepth 100000 in
theorem d_WM_over_61 : decode b_WM_over 61 = .ok (.iadd, 1) := by decide +kernel
set_option maxRecDepth 100000 in
theorem d_WM_over_62 : decode b_WM_over 62 = .ok (.istore_n 3, 1) := by decide +kernel
set_option maxRecDepth 100000 in
theorem d_WM_over_63 : decode b_WM_over 63 = .ok (.iinc 4 1, 3) := by decide +kernel
set_option maxRecDepth 100000 in
theorem d_WM_over_66 : decode b_WM_over 66 = .ok (.goto (-44), 3) := by decide +kernel
set_option maxRecDepth 100000 in
theorem d_WM_over_69 : decode b_WM_over 69 = .ok (.iload_n 3, 1) := by decide +kernel
set_option maxRecDepth 100000 in
theorem d_WM_over_70 : decode b_WM_over 70 = .ok (.ireturn, 1) := by decide +kernel
set_option maxRecDepth 100000 in
theorem d_WM_overpaid_0 : decode b_WM_overpaid 0 = .ok (.aload_n 0, 1) := by decide +kernel
set_option maxRecDepth 100000 in
theorem d_WM_overpaid_1 : decode b_WM_overpaid 1 = .ok (.aload_n 1, 1) := by decide +kernel
set_option maxRecDepth 100000 in
theorem d_WM_overpaid_2 : decode b_WM_overpaid 2 = .ok (.iload_n 2, 1) := by decide +kernel
set_option maxRecDepth 100000 in
theorem d_WM_overpaid_3 : decode b_WM_overpaid 3 = .ok (.invokevirtual 315, 3) := by decide +kernel
set_option maxRecDepth 100000 in
theorem d_WM_overpaid_6 : decode b_WM_overpaid 6 = .ok (.istore_n 3, 1) := by decide +kernel
set_option maxRecDepth 100000 in
theorem d_WM_overpaid_7 : decode b_WM_overpaid 7 = .ok (.iload_n 3, 1) := by decide +kernel
set_option maxRecDepth 100000 in
theorem d_WM_overpaid_8 : decode b_WM_overpaid 8 = .ok (.iconst (-1), 1) := by decide +kernel
set_option maxRecDepth 100000 in
theorem d_WM_overpaid_9 : decode b_WM_overpaid 9 = .ok (.if_icmp .ne 7, 3) := by decide +kernel
set_option maxRecDepth 100000 in
theorem d_WM_overpaid_12 : decode b_WM_overpaid 12 = .ok (.iconst 0, 1) := by decide +kernel
set_option maxRecDepth 100000 in
theorem d_WM_overpaid_13 : decode b_WM_overpaid 13 = .ok (.goto 13, 3) := by decide +kernel
set_option maxRecDepth 100000 in
theorem d_WM_overpaid_16 : decode b_WM_overpaid 16 = .ok (.iconst 0, 1) := by decide +kernel
set_option maxRecDepth 100000 in
theorem d_WM_overpaid_17 : decode b_WM_overpaid 17 = .ok (.aload_n 1, 1) := by decide +kernel
set_option maxRecDepth 100000 in
theorem d_WM_overpaid_18 : decode b_WM_overpaid 18 = .ok (.getfield 312, 3) := by decide +kernel
set_option maxRecDepth 100000 in
theorem d_WM_overpaid_21 : decode b_WM_overpaid 21 = .ok (.iload_n 3, 1) := by decide +kernel
set_option maxRecDepth 100000 in
theorem d_WM_overpaid_22 : decode b_WM_overpaid 22 = .ok (.isub, 1) := by decide +kernel
set_option maxRecDepth 100000 in
theorem d_WM_overpaid_23 : decode b_WM_overpaid 23 = .ok (.invokestatic 370, 3) := by decide +kernel
set_option maxRecDepth 100000 in
theorem d_WM_overpaid_26 : decode b_WM_overpaid 26 = .ok (.ireturn, 1) := by decide +kernel
set_option maxRecDepth 100000 in
theorem d_WM_partPot_0 : decode b_WM_partPot 0 = .ok (.iload_n 1, 1) := by decide +kernel
set_option maxRecDepth 100000 in
theorem d_WM_partPot_1 : decode b_WM_partPot 1 = .ok (.invokestatic 391, 3) := by decide +kernel
set_option maxRecDepth 100000 in
theorem d_WM_partPot_4 : decode b_WM_partPot 4 = .ok (.ifCond .ne 4, 3) := by decide +kernel
set_option maxRecDepth 100000 in
theorem d_WM_partPot_7 : decode b_WM_partPot 7 = .ok (.return_, 1) := by decide +kernel
set_option maxRecDepth 100000 in
theorem d_WM_partPot_8 : decode b_WM_partPot 8 = .ok (.iconst 0, 1) := by decide +kernel
set_option maxRecDepth 100000 in
theorem d_WM_partPot_9 : decode b_WM_partPot 9 = .ok (.istore_n 2, 1) := by decide +kernel
set_option maxRecDepth 100000 in
theorem d_WM_partPot_10 : decode b_WM_partPot 10 = .ok (.iconst 0, 1) := by decide +kernel
set_option maxRecDepth 100000 in
theorem d_WM_partPot_11 : decode b_WM_partPot 11 = .ok (.istore_n 3, 1) := by decide +kernel
set_option maxRecDepth 100000 in
theorem d_WM_partPot_12 : decode b_WM_partPot 12 = .ok (.iload_n 3, 1) := by decide +kernel
set_option maxRecDepth 100000 in
theorem d_WM_partPot_13 : decode b_WM_partPot 13 = .ok (.bipush 40, 2) := by decide +kernel
set_option maxRecDepth 100000 in
theorem d_WM_partPot_15 : decode b_WM_partPot 15 = .ok (.if_icmp .ge 34, 3) := by decide +kernel
set_option maxRecDepth 100000 in
theorem d_WM_partPot_18 : decode b_WM_partPot 18 = .ok (.aload_n 0, 1) := by decide +kernel
set_option maxRecDepth 100000 in
theorem d_WM_partPot_19 : decode b_WM_partPot 19 = .ok (.getfield 18, 3) := by decide +kernel
set_option maxRecDepth 100000 in
theorem d_WM_partPot_22 : decode b_WM_partPot 22 = .ok (.iload_n 3, 1) := by decide +kernel
set_option maxRecDepth 100000 in
theorem d_WM_partPot_23 : decode b_WM_partPot 23 = .ok (.aaload, 1) := by decide +kernel
set_option maxRecDepth 100000 in
theorem d_WM_partPot_24 : decode b_WM_partPot 24 = .ok (.astore 4, 2) := by decide +kernel
set_option maxRecDepth 100000 in
theorem d_WM_partPot_26 : decode b_WM_partPot 26 = .ok (.aload 4, 2) := by decide +kernel
set_option maxRecDepth 100000 in
theorem d_WM_partPot_28 : decode b_WM_partPot 28 = .ok (.ifnull 15, 3) := by decide +kernel
set_option maxRecDepth 100000 in
theorem d_WM_partPot_31 : decode b_WM_partPot 31 = .ok (.aload 4, 2) := by decide +kernel
set_option maxRecDepth 100000 in
theorem d_WM_partPot_33 : decode b_WM_partPot 33 = .ok (.getfield 394, 3) := by decide +kernel
set_option maxRecDepth 100000 in
theorem d_WM_partPot_36 : decode b_WM_partPot 36 = .ok (.iload_n 1, 1) := by decide +kernel
set_option maxRecDepth 100000 in
theorem d_WM_partPot_37 : decode b_WM_partPot 37 = .ok (.if_icmp .ne 6, 3) := by decide +kernel
set_option maxRecDepth 100000 in
theorem d_WM_partPot_40 : decode b_WM_partPot 40 = .ok (.iinc 2 1, 3) := by decide +kernel
set_option maxRecDepth 100000 in
theorem d_WM_partPot_43 : decode b_WM_partPot 43 = .ok (.iinc 3 1, 3) := by decide +kernel
set_option maxRecDepth 100000 in
theorem d_WM_partPot_46 : decode b_WM_partPot 46 = .ok (.goto (-34), 3) := by decide +kernel
set_option maxRecDepth 100000 in
theorem d_WM_partPot_49 : decode b_WM_partPot 49 = .ok (.iload_n 2, 1) := by decide +kernel
set_option maxRecDepth 100000 in
theorem d_WM_partPot_50 : decode b_WM_partPot 50 = .ok (.ifCond .ne 4, 3) := by decide +kernel
set_option maxRecDepth 100000 in
theorem d_WM_partPot_53 : decode b_WM_partPot 53 = .ok (.return_, 1) := by decide +kernel
set_option maxRecDepth 100000 in
theorem d_WM_partPot_54 : decode b_WM_partPot 54 = .ok (.aload_n 0, 1) := by decide +kernel
set_option maxRecDepth 100000 in
theorem d_WM_partPot_55 : decode b_WM_partPot 55 = .ok (.getfield 50, 3) := by decide +kernel
set_option maxRecDepth 100000 in
theorem d_WM_partPot_58 : decode b_WM_partPot 58 = .ok (.getfield 344, 3) := by decide +kernel
set_option maxRecDepth 100000 in
theorem d_WM_partPot_61 : decode b_WM_partPot 61 = .ok (.iload_n 2, 1) := by decide +kernel
set_option maxRecDepth 100000 in
theorem d_WM_partPot_62 : decode b_WM_partPot 62 = .ok (.idiv, 1) := by decide +kernel
set_option maxRecDepth 100000 in
theorem d_WM_partPot_63 : decode b_WM_partPot 63 = .ok (.istore_n 3, 1) := by decide +kernel
set_option maxRecDepth 100000 in
theorem d_WM_partPot_64 : decode b_WM_partPot 64 = .ok (.iconst 0, 1) := by decide +kernel
set_option maxRecDepth 100000 in
theorem d_WM_partPot_65 : decode b_WM_partPot 65 = .ok (.istore 4, 2) := by decide +kernel
set_option maxRecDepth 100000 in
theorem d_WM_partPot_67 : decode b_WM_partPot 67 = .ok (.iload 4, 2) := by decide +kernel
set_option maxRecDepth 100000 in
theorem d_WM_partPot_69 : decode b_WM_partPot 69 = .ok (.bipush 40, 2) := by decide +kernel
set_option maxRecDepth 100000 in
theorem d_WM_partPot_71 : decode b_WM_partPot 71 = .ok (.if_icmp .ge 43, 3) := by decide +kernel
set_option maxRecDepth 100000 in
theorem d_WM_partPot_74 : decode b_WM_partPot 74 = .ok (.aload_n 0, 1) := by decide +kernel
set_option maxRecDepth 100000 in
theorem d_WM_partPot_75 : decode b_WM_partPot 75 = .ok (.getfield 18, 3) := by decide +kernel
set_option maxRecDepth 100000 in
theorem d_WM_partPot_78 : decode b_WM_partPot 78 = .ok (.iload 4, 2) := by decide +kernel
set_option maxRecDepth 100000 in
theorem d_WM_partPot_80 : decode b_WM_partPot 80 = .ok (.aaload, 1) := by decide +kernel
set_option maxRecDepth 100000 in
theorem d_WM_partPot_81 : decode b_WM_partPot 81 = .ok (.astore 5, 2) := by decide +kernel
set_option maxRecDepth 100000 in
theorem d_WM_partPot_83 : decode b_WM_partPot 83 = .ok (.aload 5, 2) := by decide +kernel
set_option maxRecDepth 100000 in
theorem d_WM_partPot_85 : decode b_WM_partPot 85 = .ok (.ifnull 23, 3) := by decide +kernel
set_option maxRecDepth 100000 in
theorem d_WM_partPot_88 : decode b_WM_partPot 88 = .ok (.aload 5, 2) := by decide +kernel
set_option maxRecDepth 100000 in
theorem d_WM_partPot_90 : decode b_WM_partPot 90 = .ok (.getfield 394, 3) := by decide +kernel
set_option maxRecDepth 100000 in
theorem d_WM_partPot_93 : decode b_WM_partPot 93 = .ok (.iload_n 1, 1) := by decide +kernel
set_option maxRecDepth 100000 in
theorem d_WM_partPot_94 : decode b_WM_partPot 94 = .ok (.if_icmp .ne 14, 3) := by decide +kernel
set_option maxRecDepth 100000 in
theorem d_WM_partPot_97 : decode b_WM_partPot 97 = .ok (.aload 5, 2) := by decide +kernel
set_option maxRecDepth 100000 in
theorem d_WM_partPot_99 : decode b_WM_partPot 99 = .ok (.dup, 1) := by decide +kernel
set_option maxRecDepth 100000 in
theorem d_WM_partPot_100 : decode b_WM_partPot 100 = .ok (.getfield 152, 3) := by decide +kernel
set_option maxRecDepth 100000 in
theorem d_WM_partPot_103 : decode b_WM_partPot 103 = .ok (.iload_n 3, 1) := by decide +kernel
set_option maxRecDepth 100000 in
theorem d_WM_partPot_104 : decode b_WM_partPot 104 = .ok (.iadd, 1) := by decide +kernel
set_option maxRecDepth 100000 in
theorem d_WM_partPot_105 : decode b_WM_partPot 105 = .ok (.putfield 152, 3) := by decide +kernel
set_option maxRecDepth 100000 in
theorem d_WM_partPot_108 : decode b_WM_partPot 108 = .ok (.iinc 4 1, 3) := by decide +kernel
set_option maxRecDepth 100000 in
theorem d_WM_partPot_111 : decode b_WM_partPot 111 = .ok (.goto (-44), 3) := by decide +kernel
set_option maxRecDepth 100000 in
theorem d_WM_partPot_114 : decode b_WM_partPot 114 = .ok (.aload_n 0, 1) := by decide +kernel
set_option maxRecDepth 100000 in
theorem d_WM_partPot_115 : decode b_WM_partPot 115 = .ok (.getfield 50, 3) := by decide +kernel
set_option maxRecDepth 100000 in
theorem d_WM_partPot_118 : decode b_WM_partPot 118 = .ok (.iload_n 1, 1) := by decide +kernel
set_option maxRecDepth 100000 in
theorem d_WM_partPot_119 : decode b_WM_partPot 119 = .ok (.aload_n 0, 1) := by decide +kernel
set_option maxRecDepth 100000 in
theorem d_WM_partPot_120 : decode b_WM_partPot 120 = .ok (.getfield 50, 3) := by decide +kernel
set_option maxRecDepth 100000 in
theorem d_WM_partPot_123 : decode b_WM_partPot 123 = .ok (.getfield 344, 3) := by decide +kernel
set_option maxRecDepth 100000 in
theorem d_WM_partPot_126 : decode b_WM_partPot 126 = .ok (.iload_n 3, 1) := by decide +kernel
set_option maxRecDepth 100000 in
theorem d_WM_partPot_127 : decode b_WM_partPot 127 = .ok (.iload_n 2, 1) := by decide +kernel
set_option maxRecDepth 100000 in
theorem d_WM_partPot_128 : decode b_WM_partPot 128 = .ok (.imul, 1) := by decide +kernel
set_option maxRecDepth 100000 in
theorem d_WM_partPot_129 : decode b_WM_partPot 129 = .ok (.isub, 1) := by decide +kernel
set_option maxRecDepth 100000 in
theorem d_WM_partPot_130 : decode b_WM_partPot 130 = .ok (.invokevirtual 388, 3) := by decide +kernel
set_option maxRecDepth 100000 in
theorem d_WM_partPot_133 : decode b_WM_partPot 133 = .ok (.aload_n 0, 1) := by decide +kernel
set_option maxRecDepth 100000 in
theorem d_WM_partPot_134 : decode b_WM_partPot 134 = .ok (.getfield 50, 3) := by decide +kernel
set_option maxRecDepth 100000 in
theorem d_WM_partPot_137 : decode b_WM_partPot 137 = .ok (.iconst 0, 1) := by decide +kernel
set_option maxRecDepth 100000 in
theorem d_WM_partPot_138 : decode b_WM_partPot 138 = .ok (.putfield 344, 3) := by decide +kernel
set_option maxRecDepth 100000 in
theorem d_WM_partPot_141 : decode b_WM_partPot 141 = .ok (.return_, 1) := by decide +kernel
set_option maxRecDepth 100000 in
theorem d_WM_pass_0 : decode b_WM_pass 0 = .ok (.aload_n 0, 1) := by decide +kernel
set_option maxRecDepth 100000 in
theorem d_WM_pass_1 : decode b_WM_pass 1 = .ok (.iload_n 1, 1) := by decide +kernel
set_option maxRecDepth 100000 in
theorem d_WM_pass_2 : decode b_WM_pass 2 = .ok (.invokevirtual 139, 3) := by decide +kernel
set_option maxRecDepth 100000 in
theorem d_WM_pass_5 : decode b_WM_pass 5 = .ok (.istore_n 2, 1) := by decide +kernel
set_option maxRecDepth 100000 in
theorem d_WM_pass_6 : decode b_WM_pass 6 = .ok (.aload_n 0, 1) := by decide +kernel
set_option maxRecDepth 100000 in
theorem d_WM_pass_7 : decode b_WM_pass 7 = .ok (.iload_n 1, 1) := by decide +kernel
set_option maxRecDepth 100000 in
theorem d_WM_pass_8 : decode b_WM_pass 8 = .ok (.invokevirtual 107, 3) := by decide +kernel
set_option maxRecDepth 100000 in
theorem d_WM_pass_11 : decode b_WM_pass 11 = .ok (.astore_n 3, 1) := by decide +kernel
set_option maxRecDepth 100000 in
theorem d_WM_pass_12 : decode b_WM_pass 12 = .ok (.iload_n 2, 1) := by decide +kernel
set_option maxRecDepth 100000 in
theorem d_WM_pass_13 : decode b_WM_pass 13 = .ok (.ifCond .lt 7, 3) := by decide +kernel
set_option maxRecDepth 100000 in
theorem d_WM_pass_16 : decode b_WM_pass 16 = .ok (.aload_n 3, 1) := by decide +kernel
set_option maxRecDepth 100000 in
theorem d_WM_pass_17 : decode b_WM_pass 17 = .ok (.ifnonnull 5, 3) := by decide +kernel
set_option maxRecDepth 100000 in
theorem d_WM_pass_20 : decode b_WM_pass 20 = .ok (.iload_n 2, 1) := by decide +kernel
set_option maxRecDepth 100000 in
theorem d_WM_pass_21 : decode b_WM_pass 21 = .ok (.ireturn, 1) := by decide +kernel
set_option maxRecDepth 100000 in
theorem d_WM_pass_22 : decode b_WM_pass 22 = .ok (.iload_n 2, 1) := by decide +kernel
set_option maxRecDepth 100000 in
theorem d_WM_pass_23 : decode b_WM_pass 23 = .ok (.sipush 300, 3) := by decide +kernel
set_option maxRecDepth 100000 in
theorem d_WM_pass_26 : decode b_WM_pass 26 = .ok (.if_icmp .ge 12, 3) := by decide +kernel
set_option maxRecDepth 100000 in
theorem d_WM_pass_29 : decode b_WM_pass 29 = .ok (.bipush (-100), 2) := by decide +kernel
set_option maxRecDepth 100000 in
theorem d_WM_pass_31 : decode b_WM_pass 31 = .ok (.sipush 300, 3) := by decide +kernel
set_option maxRecDepth 100000 in
theorem d_WM_pass_34 : decode b_WM_pass 34 = .ok (.iload_n 2, 1) := by decide +kernel
set_option maxRecDepth 100000 in
theorem d_WM_pass_35 : decode b_WM_pass 35 = .ok (.isub, 1) := by decide +kernel
set_option maxRecDepth 100000 in
theorem d_WM_pass_36 : decode b_WM_pass 36 = .ok (.isub, 1) := by decide +kernel
set_option maxRecDepth 100000 in
theorem d_WM_pass_37 : decode b_WM_pass 37 = .ok (.ireturn, 1) := by decide +kernel
set_option maxRecDepth 100000 in
theorem d_WM_pass_38 : decode b_WM_pass 38 = .ok (.aload_n 3, 1) := by decide +kernel
set_option maxRecDepth 100000 in
theorem d_WM_pass_39 : decode b_WM_pass 39 = .ok (.iconst 2, 1) := by decide +kernel
set_option maxRecDepth 100000 in
theorem d_WM_pass_40 : decode b_WM_pass 40 = .ok (.putfield 111, 3) := by decide +kernel
set_option maxRecDepth 100000 in
theorem d_WM_pass_43 : decode b_WM_pass 43 = .ok (.iconst 1, 1) := by decide +kernel
set_option maxRecDepth 100000 in
theorem d_WM_pass_44 : decode b_WM_pass 44 = .ok (.ireturn, 1) := by decide +kernel
set_option maxRecDepth 100000 in
theorem d_WM_pension_0 : decode b_WM_pension 0 = .ok (.iload_n 1, 1) := by decide +kernel
set_option maxRecDepth 100000 in
theorem d_WM_pension_1 : decode b_WM_pension 1 = .ok (.iload_n 2, 1) := by decide +kernel
set_option maxRecDepth 100000 in
theorem d_WM_pension_2 : decode b_WM_pension 2 = .ok (.invokestatic 277, 3) := by decide +kernel
set_option maxRecDepth 100000 in
theorem d_WM_pension_5 : decode b_WM_pension 5 = .ok (.ifCond .ne 5, 3) := by decide +kernel
set_option maxRecDepth 100000 in
theorem d_WM_pension_8 : decode b_WM_pension 8 = .ok (.iconst (-1), 1) := by decide +kernel
set_option maxRecDepth 100000 in
theorem d_WM_pension_9 : decode b_WM_pension 9 = .ok (.ireturn, 1) := by decide +kernel
set_option maxRecDepth 100000 in
theorem d_WM_pension_10 : decode b_WM_pension 10 = .ok (.aload_n 0, 1) := by decide +kernel
set_option maxRecDepth 100000 in
theorem d_WM_pension_11 : decode b_WM_pension 11 = .ok (.getfield 50, 3) := by decide +kernel
set_option maxRecDepth 100000 in
theorem d_WM_pension_14 : decode b_WM_pension 14 = .ok (.getfield 280, 3) := by decide +kernel
set_option maxRecDepth 100000 in
theorem d_WM_pension_17 : decode b_WM_pension 17 = .ok (.bipush 30, 2) := by decide +kernel
set_option maxRecDepth 100000 in
theorem d_WM_pension_19 : decode b_WM_pension 19 = .ok (.if_icmp .lt 8, 3) := by decide +kernel
set_option maxRecDepth 100000 in
theorem d_WM_pension_22 : decode b_WM_pension 22 = .ok (.bipush (-3), 2) := by decide +kernel
set_option maxRecDepth 100000 in
theorem d_WM_pension_24 : decode b_WM_pension 24 = .ok (.goto 12, 3) := by decide +kernel
set_option maxRecDepth 100000 in
theorem d_WM_pension_27 : decode b_WM_pension 27 = .ok (.aload_n 0, 1) := by decide +kernel
set_option maxRecDepth 100000 in
theorem d_WM_pension_28 : decode b_WM_pension 28 = .ok (.getfield 50, 3) := by decide +kernel
set_option maxRecDepth 100000 in
theorem d_WM_pension_31 : decode b_WM_pension 31 = .ok (.iload_n 1, 1) := by decide +kernel
set_option maxRecDepth 100000 in
theorem d_WM_pension_32 : decode b_WM_pension 32 = .ok (.iload_n 2, 1) := by decide +kernel
set_option maxRecDepth 100000 in
theorem d_WM_pension_33 : decode b_WM_pension 33 = .ok (.invokevirtual 300, 3) := by decide +kernel
set_option maxRecDepth 100000 in
theorem d_WM_pension_36 : decode b_WM_pension 36 = .ok (.ireturn, 1) := by decide +kernel
set_option maxRecDepth 100000 in
theorem d_WM_priceOf_0 : decode b_WM_priceOf 0 = .ok (.iload 4, 2) := by decide +kernel
set_option maxRecDepth 100000 in
theorem d_WM_priceOf_2 : decode b_WM_priceOf 2 = .ok (.bipush 12, 2) := by decide +kernel
set_option maxRecDepth 100000 in
theorem d_WM_priceOf_4 : decode b_WM_priceOf 4 = .ok (.idiv, 1) := by decide +kernel
set_option maxRecDepth 100000 in
theorem d_WM_priceOf_5 : decode b_WM_priceOf 5 = .ok (.istore 6, 2) := by decide +kernel
set_option maxRecDepth 100000 in
theorem d_WM_priceOf_7 : decode b_WM_priceOf 7 = .ok (.iload 4, 2) := by decide +kernel
set_option maxRecDepth 100000 in
theorem d_WM_priceOf_9 : decode b_WM_priceOf 9 = .ok (.bipush 12, 2) := by decide +kernel
set_option maxRecDepth 100000 in
theorem d_WM_priceOf_11 : decode b_WM_priceOf 11 = .ok (.irem, 1) := by decide +kernel
set_option maxRecDepth 100000 in
theorem d_WM_priceOf_12 : decode b_WM_priceOf 12 = .ok (.istore 7, 2) := by decide +kernel
set_option maxRecDepth 100000 in
theorem d_WM_priceOf_14 : decode b_WM_priceOf 14 = .ok (.aload_n 0, 1) := by decide +kernel
set_option maxRecDepth 100000 in
theorem d_WM_priceOf_15 : decode b_WM_priceOf 15 = .ok (.getfield 12, 3) := by decide +kernel
set_option maxRecDepth 100000 in
theorem d_WM_priceOf_18 : decode b_WM_priceOf 18 = .ok (.iload_n 2, 1) := by decide +kernel
set_option maxRecDepth 100000 in
theorem d_WM_priceOf_19 : decode b_WM_priceOf 19 = .ok (.iload_n 3, 1) := by decide +kernel
set_option maxRecDepth 100000 in
theorem d_WM_priceOf_20 : decode b_WM_priceOf 20 = .ok (.iload 6, 2) := by decide +kernel
set_option maxRecDepth 100000 in
theorem d_WM_priceOf_22 : decode b_WM_priceOf 22 = .ok (.iload 7, 2) := by decide +kernel
set_option maxRecDepth 100000 in
theorem d_WM_priceOf_24 : decode b_WM_priceOf 24 = .ok (.invokevirtual 359, 3) := by decide +kernel
set_option maxRecDepth 100000 in
theorem d_WM_priceOf_27 : decode b_WM_priceOf 27 = .ok (.istore 8, 2) := by decide +kernel
set_option maxRecDepth 100000 in
theorem d_WM_priceOf_29 : decode b_WM_priceOf 29 = .ok (.aload_n 1, 1) := by decide +kernel
set_option maxRecDepth 100000 in
theorem d_WM_priceOf_30 : decode b_WM_priceOf 30 = .ok (.aload_n 0, 1) := by decide +kernel
set_option maxRecDepth 100000 in
theorem d_WM_priceOf_31 : decode b_WM_priceOf 31 = .ok (.getfield 12, 3) := by decide +kernel
set_option maxRecDepth 100000 in
theorem d_WM_priceOf_34 : decode b_WM_priceOf 34 = .ok (.iload_n 2, 1) := by decide +kernel
set_option maxRecDepth 100000 in
theorem d_WM_priceOf_35 : decode b_WM_priceOf 35 = .ok (.iload_n 3, 1) := by decide +kernel
set_option maxRecDepth 100000 in
theorem d_WM_priceOf_36 : decode b_WM_priceOf 36 = .ok (.invokevirtual 363, 3) := by decide +kernel
set_option maxRecDepth 100000 in
theorem d_WM_priceOf_39 : decode b_WM_priceOf 39 = .ok (.iload 8, 2) := by decide +kernel
set_option maxRecDepth 100000 in
theorem d_WM_priceOf_41 : decode b_WM_priceOf 41 = .ok (.iload 6, 2) := by decide +kernel
set_option maxRecDepth 100000 in
theorem d_WM_priceOf_43 : decode b_WM_priceOf 43 = .ok (.iload 7, 2) := by decide +kernel
set_option maxRecDepth 100000 in
theorem d_WM_priceOf_45 : decode b_WM_priceOf 45 = .ok (.iload 5, 2) := by decide +kernel
set_option maxRecDepth 100000 in
theorem d_WM_priceOf_47 : decode b_WM_priceOf 47 = .ok (.invokevirtual 366, 3) := by decide +kernel
set_option maxRecDepth 100000 in
theorem d_WM_priceOf_50 : decode b_WM_priceOf 50 = .ok (.ireturn, 1) := by decide +kernel
set_option maxRecDepth 100000 in
theorem d_WM_row_0 : decode b_WM_row 0 = .ok (.aload_n 0, 1) := by decide +kernel
set_option maxRecDepth 100000 in
theorem d_WM_row_1 : decode b_WM_row 1 = .ok (.iload_n 1, 1) := by decide +kernel
set_option maxRecDepth 100000 in
theorem d_WM_row_2 : decode b_WM_row 2 = .ok (.invokevirtual 174, 3) := by decide +kernel
set_option maxRecDepth 100000 in
theorem d_WM_row_5 : decode b_WM_row 5 = .ok (.astore 5, 2) := by decide +kernel
set_option maxRecDepth 100000 in
theorem d_WM_row_7 : decode b_WM_row 7 = .ok (.aload_n 0, 1) := by decide +kernel
set_option maxRecDepth 100000 in
theorem d_WM_row_8 : decode b_WM_row 8 = .ok (.iload_n 2, 1) := by decide +kernel
set_option maxRecDepth 100000 in
theorem d_WM_row_9 : decode b_WM_row 9 = .ok (.invokevirtual 107, 3) := by decide +kernel
set_option maxRecDepth 100000 in
theorem d_WM_row_12 : decode b_WM_row 12 = .ok (.astore 6, 2) := by decide +kernel
set_option maxRecDepth 100000 in
theorem d_WM_row_14 : decode b_WM_row 14 = .ok (.aload 5, 2) := by decide +kernel
set_option maxRecDepth 100000 in
theorem d_WM_row_16 : decode b_WM_row 16 = .ok (.ifnull 30, 3) := by decide +kernel
set_option maxRecDepth 100000 in
theorem d_WM_row_19 : decode b_WM_row 19 = .ok (.aload 6, 2) := by decide +kernel
set_option maxRecDepth 100000 in
theorem d_WM_row_21 : decode b_WM_row 21 = .ok (.ifnull 25, 3) := by decide +kernel
set_option maxRecDepth 100000 in
theorem d_WM_row_24 : decode b_WM_row 24 = .ok (.aload_n 0, 1) := by decide +kernel
set_option maxRecDepth 100000 in
theorem d_WM_row_25 : decode b_WM_row 25 = .ok (.aload 5, 2) := by decide +kernel
set_option maxRecDepth 100000 in
theorem d_WM_row_27 : decode b_WM_row 27 = .ok (.iload_n 3, 1) := by decide +kernel
set_option maxRecDepth 100000 in
theorem d_WM_row_28 : decode b_WM_row 28 = .ok (.invokevirtual 234, 3) := by decide +kernel
set_option maxRecDepth 100000 in
theorem d_WM_row_31 : decode b_WM_row 31 = .ok (.ifCond .eq 15, 3) := by decide +kernel
set_option maxRecDepth 100000 in
theorem d_WM_row_34 : decode b_WM_row 34 = .ok (.iload 4, 2) := by decide +kernel
set_option maxRecDepth 100000 in
theorem d_WM_row_36 : decode b_WM_row 36 = .ok (.ifCond .lt 10, 3) := by decide +kernel
set_option maxRecDepth 100000 in
theorem d_WM_row_39 : decode b_WM_row 39 = .ok (.iload 4, 2) := by decide +kernel
set_option maxRecDepth 100000 in
theorem d_WM_row_41 : decode b_WM_row 41 = .ok (.ldc 242, 2) := by decide +kernel
set_option maxRecDepth 100000 in
theorem d_WM_row_43 : decode b_WM_row 43 = .ok (.if_icmp .le 5, 3) := by decide +kernel
set_option maxRecDepth 100000 in
theorem d_WM_row_46 : decode b_WM_row 46 = .ok (.iconst (-1), 1) := by decide +kernel
set_option maxRecDepth 100000 in
theorem d_WM_row_47 : decode b_WM_row 47 = .ok (.ireturn, 1) := by decide +kernel
set_option maxRecDepth 100000 in
theorem d_WM_row_48 : decode b_WM_row 48 = .ok (.aload_n 0, 1) := by decide +kernel
set_option maxRecDepth 100000 in
theorem d_WM_row_49 : decode b_WM_row 49 = .ok (.aload 5, 2) := by decide +kernel
set_option maxRecDepth 100000 in
theorem d_WM_row_51 : decode b_WM_row 51 = .ok (.aload 6, 2) := by decide +kernel
set_option maxRecDepth 100000 in
theorem d_WM_row_53 : decode b_WM_row 53 = .ok (.iload_n 3, 1) := by decide +kernel
set_option maxRecDepth 100000 in
theorem d_WM_row_54 : decode b_WM_row 54 = .ok (.invokevirtual 238, 3) := by decide +kernel
set_option maxRecDepth 100000 in
theorem d_WM_row_57 : decode b_WM_row 57 = .ok (.istore 7, 2) := by decide +kernel
set_option maxRecDepth 100000 in
theorem d_WM_row_59 : decode b_WM_row 59 = .ok (.iload 7, 2) := by decide +kernel
set_option maxRecDepth 100000 in
theorem d_WM_row_61 : decode b_WM_row 61 = .ok (.ifCond .eq 9, 3) := by decide +kernel
set_option maxRecDepth 100000 in
theorem d_WM_row_64 : decode b_WM_row 64 = .ok (.bipush (-10), 2) := by decide +kernel
set_option maxRecDepth 100000 in
theorem d_WM_row_66 : decode b_WM_row 66 = .ok (.iload 7, 2) := by decide +kernel
set_option maxRecDepth 100000 in
theorem d_WM_row_68 : decode b_WM_row 68 = .ok (.isub, 1) := by decide +kernel
set_option maxRecDepth 100000 in
theorem d_WM_row_69 : decode b_WM_row 69 = .ok (.ireturn, 1) := by decide +kernel
set_option maxRecDepth 100000 in
theorem d_WM_row_70 : decode b_WM_row 70 = .ok (.aload_n 0, 1) := by decide +kernel
set_option maxRecDepth 100000 in
theorem d_WM_row_71 : decode b_WM_row 71 = .ok (.getfield 243, 3) := by decide +kernel
set_option maxRecDepth 100000 in
theorem d_WM_row_74 : decode b_WM_row 74 = .ok (.sipush 600, 3) := by decide +kernel
set_option maxRecDepth 100000 in
theorem d_WM_row_77 : decode b_WM_row 77 = .ok (.if_icmp .lt 6, 3) := by decide +kernel
set_option maxRecDepth 100000 in
theorem d_WM_row_80 : decode b_WM_row 80 = .ok (.bipush (-3), 2) := by decide +kernel
set_option maxRecDepth 100000 in
theorem d_WM_row_82 : decode b_WM_row 82 = .ok (.ireturn, 1) := by decide +kernel
set_option maxRecDepth 100000 in
theorem d_WM_row_83 : decode b_WM_row 83 = .ok (.new 34, 3) := by decide +kernel
set_option maxRecDepth 100000 in
theorem d_WM_row_86 : decode b_WM_row 86 = .ok (.dup, 1) := by decide +kernel
set_option maxRecDepth 100000 in
theorem d_WM_row_87 : decode b_WM_row 87 = .ok (.iload_n 1, 1) := by decide +kernel
set_option maxRecDepth 100000 in
theorem d_WM_row_88 : decode b_WM_row 88 = .ok (.iload_n 2, 1) := by decide +kernel
set_option maxRecDepth 100000 in
theorem d_WM_row_89 : decode b_WM_row 89 = .ok (.aload_n 0, 1) := by decide +kernel
set_option maxRecDepth 100000 in
theorem d_WM_row_90 : decode b_WM_row 90 = .ok (.getfield 155, 3) := by decide +kernel
set_option maxRecDepth 100000 in
theorem d_WM_row_93 : decode b_WM_row 93 = .ok (.iload 4, 2) := by decide +kernel
set_option maxRecDepth 100000 in
theorem d_WM_row_95 : decode b_WM_row 95 = .ok (.invokespecial 244, 3) := by decide +kernel
set_option maxRecDepth 100000 in
theorem d_WM_row_98 : decode b_WM_row 98 = .ok (.astore 8, 2) := by decide +kernel
set_option maxRecDepth 100000 in
theorem d_WM_row_100 : decode b_WM_row 100 = .ok (.aload 8, 2) := by decide +kernel
set_option maxRecDepth 100000 in
theorem d_WM_row_102 : decode b_WM_row 102 = .ok (.aload 5, 2) := by decide +kernel
set_option maxRecDepth 100000 in
theorem d_WM_row_104 : decode b_WM_row 104 = .ok (.getfield 178, 3) := by decide +kernel
set_option maxRecDepth 100000 in
theorem d_WM_row_107 : decode b_WM_row 107 = .ok (.putfield 247, 3) := by decide +kernel
set_option maxRecDepth 100000 in
theorem d_WM_row_110 : decode b_WM_row 110 = .ok (.aload 8, 2) := by decide +kernel
set_option maxRecDepth 100000 in
theorem d_WM_row_112 : decode b_WM_row 112 = .ok (.iload_n 3, 1) := by decide +kernel
set_option maxRecDepth 100000 in
theorem d_WM_row_113 : decode b_WM_row 113 = .ok (.putfield 250, 3) := by decide +kernel
set_option maxRecDepth 100000 in
theorem d_WM_row_116 : decode b_WM_row 116 = .ok (.aload 8, 2) := by decide +kernel
set_option maxRecDepth 100000 in
theorem d_WM_row_118 : decode b_WM_row 118 = .ok (.aload_n 0, 1) := by decide +kernel
set_option maxRecDepth 100000 in
theorem d_WM_row_119 : decode b_WM_row 119 = .ok (.getfield 155, 3) := by decide +kernel
set_option maxRecDepth 100000 in
theorem d_WM_row_122 : decode b_WM_row 122 = .ok (.aload_n 0, 1) := by decide +kernel
set_option maxRecDepth 100000 in
theorem d_WM_row_123 : decode b_WM_row 123 = .ok (.aload 5, 2) := by decide +kernel
set_option maxRecDepth 100000 in
theorem d_WM_row_125 : decode b_WM_row 125 = .ok (.iload_n 3, 1) := by decide +kernel
set_option maxRecDepth 100000 in
theorem d_WM_row_126 : decode b_WM_row 126 = .ok (.invokevirtual 253, 3) := by decide +kernel
set_option maxRecDepth 100000 in
theorem d_WM_row_129 : decode b_WM_row 129 = .ok (.iadd, 1) := by decide +kernel
set_option maxRecDepth 100000 in
theorem d_WM_row_130 : decode b_WM_row 130 = .ok (.putfield 257, 3) := by decide +kernel
set_option maxRecDepth 100000 in
theorem d_WM_row_133 : decode b_WM_row 133 = .ok (.aload_n 0, 1) := by decide +kernel
set_option maxRecDepth 100000 in
theorem d_WM_row_134 : decode b_WM_row 134 = .ok (.getfield 36, 3) := by decide +kernel
set_option maxRecDepth 100000 in
theorem d_WM_row_137 : decode b_WM_row 137 = .ok (.aload_n 0, 1) := by decide +kernel
set_option maxRecDepth 100000 in
theorem d_WM_row_138 : decode b_WM_row 138 = .ok (.getfield 243, 3) := by decide +kernel
set_option maxRecDepth 100000 in
theorem d_WM_row_141 : decode b_WM_row 141 = .ok (.aload 8, 2) := by decide +kernel
set_option maxRecDepth 100000 in
theorem d_WM_row_143 : decode b_WM_row 143 = .ok (.aastore, 1) := by decide +kernel
set_option maxRecDepth 100000 in
theorem d_WM_row_144 : decode b_WM_row 144 = .ok (.aload 5, 2) := by decide +kernel
set_option maxRecDepth 100000 in
theorem d_WM_row_146 : decode b_WM_row 146 = .ok (.aload 8, 2) := by decide +kernel
set_option maxRecDepth 100000 in
theorem d_WM_row_148 : decode b_WM_row 148 = .ok (.aload_n 0, 1) := by decide +kernel
set_option maxRecDepth 100000 in
theorem d_WM_row_149 : decode b_WM_row 149 = .ok (.getfield 243, 3) := by decide +kernel
set_option maxRecDepth 100000 in
theorem d_WM_row_152 : decode b_WM_row 152 = .ok (.invokevirtual 260, 3) := by decide +kernel
set_option maxRecDepth 100000 in
theorem d_WM_row_155 : decode b_WM_row 155 = .ok (.aload 6, 2) := by decide +kernel
set_option maxRecDepth 100000 in
theorem d_WM_row_157 : decode b_WM_row 157 = .ok (.aload 8, 2) := by decide +kernel
set_option maxRecDepth 100000 in
theorem d_WM_row_159 : decode b_WM_row 159 = .ok (.getfield 257, 3) := by decide +kernel
set_option maxRecDepth 100000 in
theorem d_WM_row_162 : decode b_WM_row 162 = .ok (.invokevirtual 264, 3) := by decide +kernel
set_option maxRecDepth 100000 in
theorem d_WM_row_165 : decode b_WM_row 165 = .ok (.aload_n 0, 1) := by decide +kernel
set_option maxRecDepth 100000 in
theorem d_WM_row_166 : decode b_WM_row 166 = .ok (.aload 6, 2) := by decide +kernel
set_option maxRecDepth 100000 in
theorem d_WM_row_168 : decode b_WM_row 168 = .ok (.iload 4, 2) := by decide +kernel
set_option maxRecDepth 100000 in
theorem d_WM_row_170 : decode b_WM_row 170 = .ok (.invokevirtual 266, 3) := by decide +kernel
set_option maxRecDepth 100000 in
theorem d_WM_row_173 : decode b_WM_row 173 = .ok (.aload_n 0, 1) := by decide +kernel
set_option maxRecDepth 100000 in
theorem d_WM_row_174 : decode b_WM_row 174 = .ok (.dup, 1) := by decide +kernel
set_option maxRecDepth 100000 in
theorem d_WM_row_175 : decode b_WM_row 175 = .ok (.getfield 243, 3) := by decide +kernel
set_option maxRecDepth 100000 in
theorem d_WM_row_178 : decode b_WM_row 178 = .ok (.iconst 1, 1) := by decide +kernel
set_option maxRecDepth 100000 in
theorem d_WM_row_179 : decode b_WM_row 179 = .ok (.iadd, 1) := by decide +kernel
set_option maxRecDepth 100000 in
theorem d_WM_row_180 : decode b_WM_row 180 = .ok (.putfield 243, 3) := by decide +kernel
set_option maxRecDepth 100000 in
theorem d_WM_row_183 : decode b_WM_row 183 = .ok (.aload_n 0, 1) := by decide +kernel
set_option maxRecDepth 100000 in
theorem d_WM_row_184 : decode b_WM_row 184 = .ok (.getfield 243, 3) := by decide +kernel
set_option maxRecDepth 100000 in
theorem d_WM_row_187 : decode b_WM_row 187 = .ok (.iconst 1, 1) := by decide +kernel
set_option maxRecDepth 100000 in
theorem d_WM_row_188 : decode b_WM_row 188 = .ok (.isub, 1) := by decide +kernel
set_option maxRecDepth 100000 in
theorem d_WM_row_189 : decode b_WM_row 189 = .ok (.ireturn, 1) := by decide +kernel
set_option maxRecDepth 100000 in
theorem d_WM_served_0 : decode b_WM_served 0 = .ok (.aload_n 0, 1) := by decide +kernel
set_option maxRecDepth 100000 in
theorem d_WM_served_1 : decode b_WM_served 1 = .ok (.iload_n 1, 1) := by decide +kernel
set_option maxRecDepth 100000 in
theorem d_WM_served_2 : decode b_WM_served 2 = .ok (.invokevirtual 107, 3) := by decide +kernel
set_option maxRecDepth 100000 in
theorem d_WM_served_5 : decode b_WM_served 5 = .ok (.astore_n 2, 1) := by decide +kernel
set_option maxRecDepth 100000 in
theorem d_WM_served_6 : decode b_WM_served 6 = .ok (.aload_n 2, 1) := by decide +kernel
set_option maxRecDepth 100000 in
theorem d_WM_served_7 : decode b_WM_served 7 = .ok (.ifnonnull 5, 3) := by decide +kernel
set_option maxRecDepth 100000 in
theorem d_WM_served_10 : decode b_WM_served 10 = .ok (.iconst (-1), 1) := by decide +kernel
set_option maxRecDepth 100000 in
theorem d_WM_served_11 : decode b_WM_served 11 = .ok (.ireturn, 1) := by decide +kernel
set_option maxRecDepth 100000 in
theorem d_WM_served_12 : decode b_WM_served 12 = .ok (.aload_n 2, 1) := by decide +kernel
set_option maxRecDepth 100000 in
theorem d_WM_served_13 : decode b_WM_served 13 = .ok (.getfield 119, 3) := by decide +kernel
set_option maxRecDepth 100000 in
theorem d_WM_served_16 : decode b_WM_served 16 = .ok (.astore_n 3, 1) := by decide +kernel
set_option maxRecDepth 100000 in
theorem d_WM_served_17 : decode b_WM_served 17 = .ok (.aload_n 3, 1) := by decide +kernel
set_option maxRecDepth 100000 in
theorem d_WM_served_18 : decode b_WM_served 18 = .ok (.ifnull 11, 3) := by decide +kernel
set_option maxRecDepth 100000 in
theorem d_WM_served_21 : decode b_WM_served 21 = .ok (.aload_n 2, 1) := by decide +kernel
set_option maxRecDepth 100000 in
theorem d_WM_served_22 : decode b_WM_served 22 = .ok (.getfield 111, 3) := by decide +kernel
set_option maxRecDepth 100000 in
theorem d_WM_served_25 : decode b_WM_served 25 = .ok (.iconst 1, 1) := by decide +kernel
set_option maxRecDepth 100000 in
theorem d_WM_served_26 : decode b_WM_served 26 = .ok (.if_icmp .eq 8, 3) := by decide +kernel
set_option maxRecDepth 100000 in
theorem d_WM_served_29 : decode b_WM_served 29 = .ok (.bipush (-2), 2) := by decide +kernel
set_option maxRecDepth 100000 in
theorem d_WM_served_31 : decode b_WM_served 31 = .ok (.goto 11, 3) := by decide +kernel
set_option maxRecDepth 100000 in
theorem d_WM_served_34 : decode b_WM_served 34 = .ok (.aload_n 3, 1) := by decide +kernel
set_option maxRecDepth 100000 in
theorem d_WM_served_35 : decode b_WM_served 35 = .ok (.aload_n 0, 1) := by decide +kernel
set_option maxRecDepth 100000 in
theorem d_WM_served_36 : decode b_WM_served 36 = .ok (.invokevirtual 97, 3) := by decide +kernel
set_option maxRecDepth 100000 in
theorem d_WM_served_39 : decode b_WM_served 39 = .ok (.invokevirtual 136, 3) := by decide +kernel
set_option maxRecDepth 100000 in
theorem d_WM_served_42 : decode b_WM_served 42 = .ok (.ireturn, 1) := by decide +kernel
set_option maxRecDepth 100000 in
theorem d_WM_sink_0 : decode b_WM_sink 0 = .ok (.aload_n 0, 1) := by decide +kernel
set_option maxRecDepth 100000 in
theorem d_WM_sink_1 : decode b_WM_sink 1 = .ok (.iload_n 1, 1) := by decide +kernel
set_option maxRecDepth 100000 in
theorem d_WM_sink_2 : decode b_WM_sink 2 = .ok (.invokevirtual 174, 3) := by decide +kernel
set_option maxRecDepth 100000 in
theorem d_WM_sink_5 : decode b_WM_sink 5 = .ok (.astore 4, 2) := by decide +kernel
set_option maxRecDepth 100000 in
theorem d_WM_sink_7 : decode b_WM_sink 7 = .ok (.aload 4, 2) := by decide +kernel
set_option maxRecDepth 100000 in
theorem d_WM_sink_9 : decode b_WM_sink 9 = .ok (.ifnull 11, 3) := by decide +kernel
set_option maxRecDepth 100000 in
theorem d_WM_sink_12 : decode b_WM_sink 12 = .ok (.iload_n 2, 1) := by decide +kernel
set_option maxRecDepth 100000 in
theorem d_WM_sink_13 : decode b_WM_sink 13 = .ok (.iload_n 3, 1) := by decide +kernel
set_option maxRecDepth 100000 in
theorem d_WM_sink_14 : decode b_WM_sink 14 = .ok (.invokestatic 277, 3) := by decide +kernel
set_option maxRecDepth 100000 in
theorem d_WM_sink_17 : decode b_WM_sink 17 = .ok (.ifCond .ne 5, 3) := by decide +kernel
set_option maxRecDepth 100000 in
theorem d_WM_sink_20 : decode b_WM_sink 20 = .ok (.iconst (-1), 1) := by decide +kernel
set_option maxRecDepth 100000 in
theorem d_WM_sink_21 : decode b_WM_sink 21 = .ok (.ireturn, 1) := by decide +kernel
set_option maxRecDepth 100000 in
theorem d_WM_sink_22 : decode b_WM_sink 22 = .ok (.aload_n 0, 1) := by decide +kernel
set_option maxRecDepth 100000 in
theorem d_WM_sink_23 : decode b_WM_sink 23 = .ok (.aload 4, 2) := by decide +kernel
set_option maxRecDepth 100000 in
theorem d_WM_sink_25 : decode b_WM_sink 25 = .ok (.getfield 190, 3) := by decide +kernel
set_option maxRecDepth 100000 in
theorem d_WM_sink_28 : decode b_WM_sink 28 = .ok (.invokevirtual 107, 3) := by decide +kernel
set_option maxRecDepth 100000 in
theorem d_WM_sink_31 : decode b_WM_sink 31 = .ok (.astore 5, 2) := by decide +kernel
set_option maxRecDepth 100000 in
theorem d_WM_sink_33 : decode b_WM_sink 33 = .ok (.aload 4, 2) := by decide +kernel
set_option maxRecDepth 100000 in
theorem d_WM_sink_35 : decode b_WM_sink 35 = .ok (.aload_n 0, 1) := by decide +kernel
set_option maxRecDepth 100000 in
theorem d_WM_sink_36 : decode b_WM_sink 36 = .ok (.getfield 155, 3) := by decide +kernel
set_option maxRecDepth 100000 in
theorem d_WM_sink_39 : decode b_WM_sink 39 = .ok (.invokevirtual 187, 3) := by decide +kernel
set_option maxRecDepth 100000 in
theorem d_WM_sink_42 : decode b_WM_sink 42 = .ok (.iconst 1, 1) := by decide +kernel
set_option maxRecDepth 100000 in
theorem d_WM_sink_43 : decode b_WM_sink 43 = .ok (.if_icmp .ne 8, 3) := by decide +kernel
set_option maxRecDepth 100000 in
theorem d_WM_sink_46 : decode b_WM_sink 46 = .ok (.aload 5, 2) := by decide +kernel
set_option maxRecDepth 100000 in
theorem d_WM_sink_48 : decode b_WM_sink 48 = .ok (.ifnonnull 6, 3) := by decide +kernel
set_option maxRecDepth 100000 in
theorem d_WM_sink_51 : decode b_WM_sink 51 = .ok (.bipush (-2), 2) := by decide +kernel
set_option maxRecDepth 100000 in
theorem d_WM_sink_53 : decode b_WM_sink 53 = .ok (.ireturn, 1) := by decide +kernel
set_option maxRecDepth 100000 in
theorem d_WM_sink_54 : decode b_WM_sink 54 = .ok (.aload_n 0, 1) := by decide +kernel
set_option maxRecDepth 100000 in
theorem d_WM_sink_55 : decode b_WM_sink 55 = .ok (.getfield 50, 3) := by decide +kernel
set_option maxRecDepth 100000 in
theorem d_WM_sink_58 : decode b_WM_sink 58 = .ok (.getfield 280, 3) := by decide +kernel
set_option maxRecDepth 100000 in
theorem d_WM_sink_61 : decode b_WM_sink 61 = .ok (.bipush 30, 2) := by decide +kernel
set_option maxRecDepth 100000 in
theorem d_WM_sink_63 : decode b_WM_sink 63 = .ok (.if_icmp .lt 6, 3) := by decide +kernel
set_option maxRecDepth 100000 in
theorem d_WM_sink_66 : decode b_WM_sink 66 = .ok (.bipush (-3), 2) := by decide +kernel
set_option maxRecDepth 100000 in
theorem d_WM_sink_68 : decode b_WM_sink 68 = .ok (.ireturn, 1) := by decide +kernel
set_option maxRecDepth 100000 in
theorem d_WM_sink_69 : decode b_WM_sink 69 = .ok (.aload 4, 2) := by decide +kernel
set_option maxRecDepth 100000 in
theorem d_WM_sink_71 : decode b_WM_sink 71 = .ok (.iconst 1, 1) := by decide +kernel
set_option maxRecDepth 100000 in
theorem d_WM_sink_72 : decode b_WM_sink 72 = .ok (.putfield 283, 3) := by decide +kernel
set_option maxRecDepth 100000 in
theorem d_WM_sink_75 : decode b_WM_sink 75 = .ok (.aload 5, 2) := by decide +kernel
set_option maxRecDepth 100000 in
theorem d_WM_sink_77 : decode b_WM_sink 77 = .ok (.iconst 3, 1) := by decide +kernel
set_option maxRecDepth 100000 in
theorem d_WM_sink_78 : decode b_WM_sink 78 = .ok (.putfield 111, 3) := by decide +kernel
set_option maxRecDepth 100000 in
theorem d_WM_sink_81 : decode b_WM_sink 81 = .ok (.aload 5, 2) := by decide +kernel
set_option maxRecDepth 100000 in
theorem d_WM_sink_83 : decode b_WM_sink 83 = .ok (.aload_n 0, 1) := by decide +kernel
set_option maxRecDepth 100000 in
theorem d_WM_sink_84 : decode b_WM_sink 84 = .ok (.getfield 155, 3) := by decide +kernel
set_option maxRecDepth 100000 in
theorem d_WM_sink_87 : decode b_WM_sink 87 = .ok (.putfield 287, 3) := by decide +kernel
set_option maxRecDepth 100000 in
theorem d_WM_sink_90 : decode b_WM_sink 90 = .ok (.aload_n 0, 1) := by decide +kernel
set_option maxRecDepth 100000 in
theorem d_WM_sink_91 : decode b_WM_sink 91 = .ok (.aload 4, 2) := by decide +kernel
set_option maxRecDepth 100000 in
theorem d_WM_sink_93 : decode b_WM_sink 93 = .ok (.getfield 290, 3) := by decide +kernel
set_option maxRecDepth 100000 in
theorem d_WM_sink_96 : decode b_WM_sink 96 = .ok (.invokevirtual 293, 3) := by decide +kernel
set_option maxRecDepth 100000 in
theorem d_WM_sink_99 : decode b_WM_sink 99 = .ok (.astore 6, 2) := by decide +kernel
set_option maxRecDepth 100000 in
theorem d_WM_sink_101 : decode b_WM_sink 101 = .ok (.aload 6, 2) := by decide +kernel
set_option maxRecDepth 100000 in
theorem d_WM_sink_103 : decode b_WM_sink 103 = .ok (.ifnull 9, 3) := by decide +kernel
set_option maxRecDepth 100000 in
theorem d_WM_sink_106 : decode b_WM_sink 106 = .ok (.aload 6, 2) := by decide +kernel
set_option maxRecDepth 100000 in
theorem d_WM_sink_108 : decode b_WM_sink 108 = .ok (.iconst 1, 1) := by decide +kernel
set_option maxRecDepth 100000 in
theorem d_WM_sink_109 : decode b_WM_sink 109 = .ok (.putfield 297, 3) := by decide +kernel
set_option maxRecDepth 100000 in
theorem d_WM_sink_112 : decode b_WM_sink 112 = .ok (.aload_n 0, 1) := by decide +kernel
set_option maxRecDepth 100000 in
theorem d_WM_sink_113 : decode b_WM_sink 113 = .ok (.getfield 50, 3) := by decide +kernel
set_option maxRecDepth 100000 in
theorem d_WM_sink_116 : decode b_WM_sink 116 = .ok (.iload_n 2, 1) := by decide +kernel
set_option maxRecDepth 100000 in
theorem d_WM_sink_117 : decode b_WM_sink 117 = .ok (.iload_n 3, 1) := by decide +kernel
set_option maxRecDepth 100000 in
theorem d_WM_sink_118 : decode b_WM_sink 118 = .ok (.invokevirtual 300, 3) := by decide +kernel
set_option maxRecDepth 100000 in
theorem d_WM_sink_121 : decode b_WM_sink 121 = .ok (.ireturn, 1) := by decide +kernel
set_option maxRecDepth 100000 in
theorem d_WM_stairs_0 : decode b_WM_stairs 0 = .ok (.iload_n 1, 1) := by decide +kernel
set_option maxRecDepth 100000 in
theorem d_WM_stairs_1 : decode b_WM_stairs 1 = .ok (.ifCond .lt 20, 3) := by decide +kernel
set_option maxRecDepth 100000 in
theorem d_WM_stairs_4 : decode b_WM_stairs 4 = .ok (.iload_n 1, 1) := by decide +kernel
set_option maxRecDepth 100000 in
theorem d_WM_stairs_5 : decode b_WM_stairs 5 = .ok (.bipush 60, 2) := by decide +kernel
set_option maxRecDepth 100000 in
theorem d_WM_stairs_7 : decode b_WM_stairs 7 = .ok (.if_icmp .gt 14, 3) := by decide +kernel
set_option maxRecDepth 100000 in
theorem d_WM_stairs_10 : decode b_WM_stairs 10 = .ok (.iload_n 1, 1) := by decide +kernel
set_option maxRecDepth 100000 in
theorem d_WM_stairs_11 : decode b_WM_stairs 11 = .ok (.aload_n 0, 1) := by decide +kernel
set_option maxRecDepth 100000 in
theorem d_WM_stairs_12 : decode b_WM_stairs 12 = .ok (.getfield 12, 3) := by decide +kernel
set_option maxRecDepth 100000 in
theorem d_WM_stairs_15 : decode b_WM_stairs 15 = .ok (.invokevirtual 60, 3) := by decide +kernel
set_option maxRecDepth 100000 in
theorem d_WM_stairs_18 : decode b_WM_stairs 18 = .ok (.if_icmp .gt 5, 3) := by decide +kernel
set_option maxRecDepth 100000 in
theorem d_WM_stairs_21 : decode b_WM_stairs 21 = .ok (.iconst (-1), 1) := by decide +kernel
set_option maxRecDepth 100000 in
theorem d_WM_stairs_22 : decode b_WM_stairs 22 = .ok (.ireturn, 1) := by decide +kernel
set_option maxRecDepth 100000 in
theorem d_WM_stairs_23 : decode b_WM_stairs 23 = .ok (.aload_n 0, 1) := by decide +kernel
set_option maxRecDepth 100000 in
theorem d_WM_stairs_24 : decode b_WM_stairs 24 = .ok (.getfield 12, 3) := by decide +kernel
set_option maxRecDepth 100000 in
theorem d_WM_stairs_27 : decode b_WM_stairs 27 = .ok (.getfield 64, 3) := by decide +kernel
set_option maxRecDepth 100000 in
theorem d_WM_stairs_30 : decode b_WM_stairs 30 = .ok (.bipush 12, 2) := by decide +kernel
set_option maxRecDepth 100000 in
theorem d_WM_stairs_32 : decode b_WM_stairs 32 = .ok (.if_icmp .lt 8, 3) := by decide +kernel
set_option maxRecDepth 100000 in
theorem d_WM_stairs_35 : decode b_WM_stairs 35 = .ok (.bipush (-3), 2) := by decide +kernel
set_option maxRecDepth 100000 in
theorem d_WM_stairs_37 : decode b_WM_stairs 37 = .ok (.goto 11, 3) := by decide +kernel
set_option maxRecDepth 100000 in
theorem d_WM_stairs_40 : decode b_WM_stairs 40 = .ok (.aload_n 0, 1) := by decide +kernel
set_option maxRecDepth 100000 in
theorem d_WM_stairs_41 : decode b_WM_stairs 41 = .ok (.getfield 12, 3) := by decide +kernel
set_option maxRecDepth 100000 in
theorem d_WM_stairs_44 : decode b_WM_stairs 44 = .ok (.iload_n 1, 1) := by decide +kernel
set_option maxRecDepth 100000 in
theorem d_WM_stairs_45 : decode b_WM_stairs 45 = .ok (.invokevirtual 68, 3) := by decide +kernel
set_option maxRecDepth 100000 in
theorem d_WM_stairs_48 : decode b_WM_stairs 48 = .ok (.ireturn, 1) := by decide +kernel
set_option maxRecDepth 100000 in
theorem d_WM_table_0 : decode b_WM_table 0 = .ok (.iload_n 1, 1) := by decide +kernel
set_option maxRecDepth 100000 in
theorem d_WM_table_1 : decode b_WM_table 1 = .ok (.invokestatic 79, 3) := by decide +kernel
set_option maxRecDepth 100000 in
theorem d_WM_table_4 : decode b_WM_table 4 = .ok (.ifCond .eq 10, 3) := by decide +kernel
set_option maxRecDepth 100000 in
theorem d_WM_table_7 : decode b_WM_table 7 = .ok (.iload_n 2, 1) := by decide +kernel
set_option maxRecDepth 100000 in
theorem d_WM_table_8 : decode b_WM_table 8 = .ok (.invokestatic 82, 3) := by decide +kernel
set_option maxRecDepth 100000 in
theorem d_WM_table_11 : decode b_WM_table 11 = .ok (.ifCond .ne 7, 3) := by decide +kernel
set_option maxRecDepth 100000 in
theorem d_WM_table_14 : decode b_WM_table 14 = .ok (.sipush (-1000), 3) := by decide +kernel
set_option maxRecDepth 100000 in
theorem d_WM_table_17 : decode b_WM_table 17 = .ok (.ireturn, 1) := by decide +kernel
set_option maxRecDepth 100000 in
theorem d_WM_table_18 : decode b_WM_table 18 = .ok (.aload_n 0, 1) := by decide +kernel
set_option maxRecDepth 100000 in
theorem d_WM_table_19 : decode b_WM_table 19 = .ok (.getfield 12, 3) := by decide +kernel
set_option maxRecDepth 100000 in
theorem d_WM_table_22 : decode b_WM_table 22 = .ok (.getfield 89, 3) := by decide +kernel
set_option maxRecDepth 100000 in
theorem d_WM_table_25 : decode b_WM_table 25 = .ok (.iload_n 1, 1) := by decide +kernel
set_option maxRecDepth 100000 in
theorem d_WM_table_26 : decode b_WM_table 26 = .ok (.iaload, 1) := by decide +kernel
set_option maxRecDepth 100000 in
theorem d_WM_table_27 : decode b_WM_table 27 = .ok (.istore_n 3, 1) := by decide +kernel
set_option maxRecDepth 100000 in
theorem d_WM_table_28 : decode b_WM_table 28 = .ok (.aload_n 0, 1) := by decide +kernel
set_option maxRecDepth 100000 in
theorem d_WM_table_29 : decode b_WM_table 29 = .ok (.getfield 12, 3) := by decide +kernel
set_option maxRecDepth 100000 in
theorem d_WM_table_32 : decode b_WM_table 32 = .ok (.getfield 89, 3) := by decide +kernel
set_option maxRecDepth 100000 in
theorem d_WM_table_35 : decode b_WM_table 35 = .ok (.iload_n 1, 1) := by decide +kernel
set_option maxRecDepth 100000 in
theorem d_WM_table_36 : decode b_WM_table 36 = .ok (.iload_n 2, 1) := by decide +kernel
set_option maxRecDepth 100000 in
theorem d_WM_table_37 : decode b_WM_table 37 = .ok (.iastore, 1) := by decide +kernel
set_option maxRecDepth 100000 in
theorem d_WM_table_38 : decode b_WM_table 38 = .ok (.iload_n 3, 1) := by decide +kernel
set_option maxRecDepth 100000 in
theorem d_WM_table_39 : decode b_WM_table 39 = .ok (.ireturn, 1) := by decide +kernel
set_option maxRecDepth 100000 in
theorem d_WM_takeMoney_0 : decode b_WM_takeMoney 0 = .ok (.iload_n 2, 1) := by decide +kernel
set_option maxRecDepth 100000 in
theorem d_WM_takeMoney_1 : decode b_WM_takeMoney 1 = .ok (.bipush 20, 2) := by decide +kernel
set_option maxRecDepth 100000 in
theorem d_WM_takeMoney_3 : decode b_WM_takeMoney 3 = .ok (.idiv, 1) := by decide +kernel
set_option maxRecDepth 100000 in
theorem d_WM_takeMoney_4 : decode b_WM_takeMoney 4 = .ok (.istore_n 3, 1) := by decide +kernel
set_option maxRecDepth 100000 in
theorem d_WM_takeMoney_5 : decode b_WM_takeMoney 5 = .ok (.aload_n 0, 1) := by decide +kernel
set_option maxRecDepth 100000 in
theorem d_WM_takeMoney_6 : decode b_WM_takeMoney 6 = .ok (.getfield 50, 3) := by decide +kernel
set_option maxRecDepth 100000 in
theorem d_WM_takeMoney_9 : decode b_WM_takeMoney 9 = .ok (.dup, 1) := by decide +kernel
set_option maxRecDepth 100000 in
theorem d_WM_takeMoney_10 : decode b_WM_takeMoney 10 = .ok (.getfield 350, 3) := by decide +kernel
set_option maxRecDepth 100000 in
theorem d_WM_takeMoney_13 : decode b_WM_takeMoney 13 = .ok (.iload_n 2, 1) := by decide +kernel
set_option maxRecDepth 100000 in
theorem d_WM_takeMoney_14 : decode b_WM_takeMoney 14 = .ok (.iadd, 1) := by decide +kernel
set_option maxRecDepth 100000 in
theorem d_WM_takeMoney_15 : decode b_WM_takeMoney 15 = .ok (.putfield 350, 3) := by decide +kernel
set_option maxRecDepth 100000 in
theorem d_WM_takeMoney_18 : decode b_WM_takeMoney 18 = .ok (.aload_n 0, 1) := by decide +kernel
set_option maxRecDepth 100000 in
theorem d_WM_takeMoney_19 : decode b_WM_takeMoney 19 = .ok (.getfield 50, 3) := by decide +kernel
set_option maxRecDepth 100000 in
theorem d_WM_takeMoney_22 : decode b_WM_takeMoney 22 = .ok (.aload_n 0, 1) := by decide +kernel
set_option maxRecDepth 100000 in
theorem d_WM_takeMoney_23 : decode b_WM_takeMoney 23 = .ok (.invokevirtual 97, 3) := by decide +kernel
set_option maxRecDepth 100000 in
theorem d_WM_takeMoney_26 : decode b_WM_takeMoney 26 = .ok (.iload_n 3, 1) := by decide +kernel
set_option maxRecDepth 100000 in
theorem d_WM_takeMoney_27 : decode b_WM_takeMoney 27 = .ok (.invokevirtual 388, 3) := by decide +kernel
set_option maxRecDepth 100000 in
theorem d_WM_takeMoney_30 : decode b_WM_takeMoney 30 = .ok (.aload_n 0, 1) := by decide +kernel
set_option maxRecDepth 100000 in
theorem d_WM_takeMoney_31 : decode b_WM_takeMoney 31 = .ok (.invokevirtual 97, 3) := by decide +kernel
set_option maxRecDepth 100000 in
theorem d_WM_takeMoney_34 : decode b_WM_takeMoney 34 = .ok (.invokestatic 391, 3) := by decide +kernel
set_option maxRecDepth 100000 in
theorem d_WM_takeMoney_37 : decode b_WM_takeMoney 37 = .ok (.ifCond .eq 29, 3) := by decide +kernel
set_option maxRecDepth 100000 in
theorem d_WM_takeMoney_40 : decode b_WM_takeMoney 40 = .ok (.aload_n 0, 1) := by decide +kernel
set_option maxRecDepth 100000 in
theorem d_WM_takeMoney_41 : decode b_WM_takeMoney 41 = .ok (.getfield 50, 3) := by decide +kernel
set_option maxRecDepth 100000 in
theorem d_WM_takeMoney_44 : decode b_WM_takeMoney 44 = .ok (.dup, 1) := by decide +kernel
set_option maxRecDepth 100000 in
theorem d_WM_takeMoney_45 : decode b_WM_takeMoney 45 = .ok (.getfield 344, 3) := by decide +kernel
set_option maxRecDepth 100000 in
theorem d_WM_takeMoney_48 : decode b_WM_takeMoney 48 = .ok (.iload_n 2, 1) := by decide +kernel
set_option maxRecDepth 100000 in
theorem d_WM_takeMoney_49 : decode b_WM_takeMoney 49 = .ok (.iload_n 3, 1) := by decide +kernel
set_option maxRecDepth 100000 in
theorem d_WM_takeMoney_50 : decode b_WM_takeMoney 50 = .ok (.isub, 1) := by decide +kernel
set_option maxRecDepth 100000 in
theorem d_WM_takeMoney_51 : decode b_WM_takeMoney 51 = .ok (.iadd, 1) := by decide +kernel
set_option maxRecDepth 100000 in
theorem d_WM_takeMoney_52 : decode b_WM_takeMoney 52 = .ok (.putfield 344, 3) := by decide +kernel
set_option maxRecDepth 100000 in
theorem d_WM_takeMoney_55 : decode b_WM_takeMoney 55 = .ok (.aload_n 1, 1) := by decide +kernel
set_option maxRecDepth 100000 in
theorem d_WM_takeMoney_56 : decode b_WM_takeMoney 56 = .ok (.aload_n 0, 1) := by decide +kernel
set_option maxRecDepth 100000 in
theorem d_WM_takeMoney_57 : decode b_WM_takeMoney 57 = .ok (.invokevirtual 97, 3) := by decide +kernel
set_option maxRecDepth 100000 in
theorem d_WM_takeMoney_60 : decode b_WM_takeMoney 60 = .ok (.putfield 394, 3) := by decide +kernel
set_option maxRecDepth 100000 in
theorem d_WM_takeMoney_63 : decode b_WM_takeMoney 63 = .ok (.goto 15, 3) := by decide +kernel
set_option maxRecDepth 100000 in
theorem d_WM_takeMoney_66 : decode b_WM_takeMoney 66 = .ok (.aload_n 1, 1) := by decide +kernel
set_option maxRecDepth 100000 in
theorem d_WM_takeMoney_67 : decode b_WM_takeMoney 67 = .ok (.dup, 1) := by decide +kernel
set_option maxRecDepth 100000 in
theorem d_WM_takeMoney_68 : decode b_WM_takeMoney 68 = .ok (.getfield 152, 3) := by decide +kernel
set_option maxRecDepth 100000 in
theorem d_WM_takeMoney_71 : decode b_WM_takeMoney 71 = .ok (.iload_n 2, 1) := by decide +kernel
set_option maxRecDepth 100000 in
theorem d_WM_takeMoney_72 : decode b_WM_takeMoney 72 = .ok (.iload_n 3, 1) := by decide +kernel
set_option maxRecDepth 100000 in
theorem d_WM_takeMoney_73 : decode b_WM_takeMoney 73 = .ok (.isub, 1) := by decide +kernel
set_option maxRecDepth 100000 in
theorem d_WM_takeMoney_74 : decode b_WM_takeMoney 74 = .ok (.iadd, 1) := by decide +kernel
set_option maxRecDepth 100000 in
theorem d_WM_takeMoney_75 : decode b_WM_takeMoney 75 = .ok (.putfield 152, 3) := by decide +kernel
set_option maxRecDepth 100000 in
theorem d_WM_takeMoney_78 : decode b_WM_takeMoney 78 = .ok (.return_, 1) := by decide +kernel
set_option maxRecDepth 100000 in
theorem d_WM_trip_0 : decode b_WM_trip 0 = .ok (.aload_n 0, 1) := by decide +kernel
set_option maxRecDepth 100000 in
theorem d_WM_trip_1 : decode b_WM_trip 1 = .ok (.iload_n 1, 1) := by decide +kernel
set_option maxRecDepth 100000 in
theorem d_WM_trip_2 : decode b_WM_trip 2 = .ok (.invokevirtual 293, 3) := by decide +kernel
set_option maxRecDepth 100000 in
theorem d_WM_trip_5 : decode b_WM_trip 5 = .ok (.astore_n 3, 1) := by decide +kernel
set_option maxRecDepth 100000 in
theorem d_WM_trip_6 : decode b_WM_trip 6 = .ok (.aload_n 3, 1) := by decide +kernel
set_option maxRecDepth 100000 in
theorem d_WM_trip_7 : decode b_WM_trip 7 = .ok (.ifnonnull 6, 3) := by decide +kernel
set_option maxRecDepth 100000 in
theorem d_WM_trip_10 : decode b_WM_trip 10 = .ok (.bipush (-2), 2) := by decide +kernel
set_option maxRecDepth 100000 in
theorem d_WM_trip_12 : decode b_WM_trip 12 = .ok (.ireturn, 1) := by decide +kernel
set_option maxRecDepth 100000 in
theorem d_WM_trip_13 : decode b_WM_trip 13 = .ok (.iload_n 2, 1) := by decide +kernel
set_option maxRecDepth 100000 in
theorem d_WM_trip_14 : decode b_WM_trip 14 = .ok (.tableswitch 94 0 7 #[46, 51, 56, 61, 66, 71, 76, 81], 46) := by decide +kernel
set_option maxRecDepth 100000 in
theorem d_WM_trip_60 : decode b_WM_trip 60 = .ok (.aload_n 3, 1) := by decide +kernel
set_option maxRecDepth 100000 in
theorem d_WM_trip_61 : decode b_WM_trip 61 = .ok (.getfield 303, 3) := by decide +kernel
set_option maxRecDepth 100000 in
theorem d_WM_trip_64 : decode b_WM_trip 64 = .ok (.ireturn, 1) := by decide +kernel
set_option maxRecDepth 100000 in
theorem d_WM_trip_65 : decode b_WM_trip 65 = .ok (.aload_n 3, 1) := by decide +kernel
set_option maxRecDepth 100000 in
theorem d_WM_trip_66 : decode b_WM_trip 66 = .ok (.getfield 306, 3) := by decide +kernel
set_option maxRecDepth 100000 in
theorem d_WM_trip_69 : decode b_WM_trip 69 = .ok (.ireturn, 1) := by decide +kernel
set_option maxRecDepth 100000 in
theorem d_WM_trip_70 : decode b_WM_trip 70 = .ok (.aload_n 3, 1) := by decide +kernel
set_option maxRecDepth 100000 in
theorem d_WM_trip_71 : decode b_WM_trip 71 = .ok (.getfield 247, 3) := by decide +kernel
set_option maxRecDepth 100000 in
theorem d_WM_trip_74 : decode b_WM_trip 74 = .ok (.ireturn, 1) := by decide +kernel
set_option maxRecDepth 100000 in
theorem d_WM_trip_75 : decode b_WM_trip 75 = .ok (.aload_n 3, 1) := by decide +kernel
set_option maxRecDepth 100000 in
theorem d_WM_trip_76 : decode b_WM_trip 76 = .ok (.getfield 250, 3) := by decide +kernel
set_option maxRecDepth 100000 in
theorem d_WM_trip_79 : decode b_WM_trip 79 = .ok (.ireturn, 1) := by decide +kernel
set_option maxRecDepth 100000 in
theorem d_WM_trip_80 : decode b_WM_trip 80 = .ok (.aload_n 3, 1) := by decide +kernel
set_option maxRecDepth 100000 in
theorem d_WM_trip_81 : decode b_WM_trip 81 = .ok (.getfield 309, 3) := by decide +kernel
set_option maxRecDepth 100000 in
theorem d_WM_trip_84 : decode b_WM_trip 84 = .ok (.ireturn, 1) := by decide +kernel
set_option maxRecDepth 100000 in
theorem d_WM_trip_85 : decode b_WM_trip 85 = .ok (.aload_n 3, 1) := by decide +kernel
set_option maxRecDepth 100000 in
theorem d_WM_trip_86 : decode b_WM_trip 86 = .ok (.getfield 257, 3) := by decide +kernel
set_option maxRecDepth 100000 in
theorem d_WM_trip_89 : decode b_WM_trip 89 = .ok (.ireturn, 1) := by decide +kernel
set_option maxRecDepth 100000 in
theorem d_WM_trip_90 : decode b_WM_trip 90 = .ok (.aload_n 3, 1) := by decide +kernel
set_option maxRecDepth 100000 in
theorem d_WM_trip_91 : decode b_WM_trip 91 = .ok (.getfield 312, 3) := by decide +kernel
set_option maxRecDepth 100000 in
theorem d_WM_trip_94 : decode b_WM_trip 94 = .ok (.ireturn, 1) := by decide +kernel
set_option maxRecDepth 100000 in
theorem d_WM_trip_95 : decode b_WM_trip 95 = .ok (.aload_n 3, 1) := by decide +kernel
set_option maxRecDepth 100000 in
theorem d_WM_trip_96 : decode b_WM_trip 96 = .ok (.getfield 297, 3) := by decide +kernel
set_option maxRecDepth 100000 in
theorem d_WM_trip_99 : decode b_WM_trip 99 = .ok (.ifCond .eq 7, 3) := by decide +kernel
set_option maxRecDepth 100000 in
theorem d_WM_trip_102 : decode b_WM_trip 102 = .ok (.iconst 1, 1) := by decide +kernel
set_option maxRecDepth 100000 in
theorem d_WM_trip_103 : decode b_WM_trip 103 = .ok (.goto 4, 3) := by decide +kernel
set_option maxRecDepth 100000 in
theorem d_WM_trip_106 : decode b_WM_trip 106 = .ok (.iconst 0, 1) := by decide +kernel
set_option maxRecDepth 100000 in
theorem d_WM_trip_107 : decode b_WM_trip 107 = .ok (.ireturn, 1) := by decide +kernel
set_option maxRecDepth 100000 in
theorem d_WM_trip_108 : decode b_WM_trip 108 = .ok (.bipush (-2), 2) := by decide +kernel
set_option maxRecDepth 100000 in
theorem d_WM_trip_110 : decode b_WM_trip 110 = .ok (.ireturn, 1) := by decide +kernel
set_option maxRecDepth 100000 in
theorem d_WM_tripAt_0 : decode b_WM_tripAt 0 = .ok (.iload_n 1, 1) := by decide +kernel
set_option maxRecDepth 100000 in
theorem d_WM_tripAt_1 : decode b_WM_tripAt 1 = .ok (.ifCond .lt 20, 3) := by decide +kernel
set_option maxRecDepth 100000 in
theorem d_WM_tripAt_4 : decode b_WM_tripAt 4 = .ok (.iload_n 1, 1) := by decide +kernel
set_option maxRecDepth 100000 in
theorem d_WM_tripAt_5 : decode b_WM_tripAt 5 = .ok (.aload_n 0, 1) := by decide +kernel
set_option maxRecDepth 100000 in
theorem d_WM_tripAt_6 : decode b_WM_tripAt 6 = .ok (.getfield 243, 3) := by decide +kernel
set_option maxRecDepth 100000 in
theorem d_WM_tripAt_9 : decode b_WM_tripAt 9 = .ok (.if_icmp .ge 12, 3) := by decide +kernel
set_option maxRecDepth 100000 in
theorem d_WM_tripAt_12 : decode b_WM_tripAt 12 = .ok (.aload_n 0, 1) := by decide +kernel
set_option maxRecDepth 100000 in
theorem d_WM_tripAt_13 : decode b_WM_tripAt 13 = .ok (.getfield 36, 3) := by decide +kernel
set_option maxRecDepth 100000 in
theorem d_WM_tripAt_16 : decode b_WM_tripAt 16 = .ok (.iload_n 1, 1) := by decide +kernel
set_option maxRecDepth 100000 in
theorem d_WM_tripAt_17 : decode b_WM_tripAt 17 = .ok (.aaload, 1) := by decide +kernel
set_option maxRecDepth 100000 in
theorem d_WM_tripAt_18 : decode b_WM_tripAt 18 = .ok (.goto 4, 3) := by decide +kernel
set_option maxRecDepth 100000 in
theorem d_WM_tripAt_21 : decode b_WM_tripAt 21 = .ok (.aconst_null, 1) := by decide +kernel
set_option maxRecDepth 100000 in
theorem d_WM_tripAt_22 : decode b_WM_tripAt 22 = .ok (.areturn, 1) := by decide +kernel
set_option maxRecDepth 100000 in
theorem d_WM_why_0 : decode b_WM_why 0 = .ok (.aload_n 0, 1) := by decide +kernel
set_option maxRecDepth 100000 in
theorem d_WM_why_1 : decode b_WM_why 1 = .ok (.iload_n 1, 1) := by decide +kernel
set_option maxRecDepth 100000 in
theorem d_WM_why_2 : decode b_WM_why 2 = .ok (.invokevirtual 174, 3) := by decide +kernel
set_option maxRecDepth 100000 in
theorem d_WM_why_5 : decode b_WM_why 5 = .ok (.astore 4, 2) := by decide +kernel
set_option maxRecDepth 100000 in
theorem d_WM_why_7 : decode b_WM_why 7 = .ok (.aload_n 0, 1) := by decide +kernel
set_option maxRecDepth 100000 in
theorem d_WM_why_8 : decode b_WM_why 8 = .ok (.iload_n 2, 1) := by decide +kernel
set_option maxRecDepth 100000 in
theorem d_WM_why_9 : decode b_WM_why 9 = .ok (.invokevirtual 107, 3) := by decide +kernel
set_option maxRecDepth 100000 in
theorem d_WM_why_12 : decode b_WM_why 12 = .ok (.astore 5, 2) := by decide +kernel
set_option maxRecDepth 100000 in
theorem d_WM_why_14 : decode b_WM_why 14 = .ok (.aload 4, 2) := by decide +kernel
set_option maxRecDepth 100000 in
theorem d_WM_why_16 : decode b_WM_why 16 = .ok (.ifnull 18, 3) := by decide +kernel
set_option maxRecDepth 100000 in
theorem d_WM_why_19 : decode b_WM_why 19 = .ok (.aload 5, 2) := by decide +kernel
set_option maxRecDepth 100000 in
theorem d_WM_why_21 : decode b_WM_why 21 = .ok (.ifnull 13, 3) := by decide +kernel
set_option maxRecDepth 100000 in
theorem d_WM_why_24 : decode b_WM_why 24 = .ok (.aload_n 0, 1) := by decide +kernel
set_option maxRecDepth 100000 in
theorem d_WM_why_25 : decode b_WM_why 25 = .ok (.aload 4, 2) := by decide +kernel
set_option maxRecDepth 100000 in
theorem d_WM_why_27 : decode b_WM_why 27 = .ok (.iload_n 3, 1) := by decide +kernel
set_option maxRecDepth 100000 in
theorem d_WM_why_28 : decode b_WM_why 28 = .ok (.invokevirtual 234, 3) := by decide +kernel
set_option maxRecDepth 100000 in
theorem d_WM_why_31 : decode b_WM_why 31 = .ok (.ifCond .ne 5, 3) := by decide +kernel
set_option maxRecDepth 100000 in
theorem d_WM_why_34 : decode b_WM_why 34 = .ok (.iconst (-1), 1) := by decide +kernel
set_option maxRecDepth 100000 in
theorem d_WM_why_35 : decode b_WM_why 35 = .ok (.ireturn, 1) := by decide +kernel
set_option maxRecDepth 100000 in
theorem d_WM_why_36 : decode b_WM_why 36 = .ok (.aload_n 0, 1) := by decide +kernel
set_option maxRecDepth 100000 in
theorem d_WM_why_37 : decode b_WM_why 37 = .ok (.aload 4, 2) := by decide +kernel
set_option maxRecDepth 100000 in
theorem d_WM_why_39 : decode b_WM_why 39 = .ok (.aload 5, 2) := by decide +kernel
set_option maxRecDepth 100000 in
theorem d_WM_why_41 : decode b_WM_why 41 = .ok (.iload_n 3, 1) := by decide +kernel
set_option maxRecDepth 100000 in
theorem d_WM_why_42 : decode b_WM_why 42 = .ok (.invokevirtual 238, 3) := by decide +kernel
set_option maxRecDepth 100000 in
theorem d_WM_why_45 : decode b_WM_why 45 = .ok (.ireturn, 1) := by decide +kernel
