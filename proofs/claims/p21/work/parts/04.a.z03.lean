set_option maxRecDepth 100000 in
theorem d_Tp_readLine_146 : decode b_Tp_readLine 146 = .ok (.aload_n 0, 1) := by decide +kernel
set_option maxRecDepth 100000 in
theorem d_Tp_readLine_147 : decode b_Tp_readLine 147 = .ok (.invokevirtual 51, 3) := by decide +kernel
set_option maxRecDepth 100000 in
theorem d_Tp_readLine_150 : decode b_Tp_readLine 150 = .ok (.ifCond .ne 5, 3) := by decide +kernel
set_option maxRecDepth 100000 in
theorem d_Tp_readLine_153 : decode b_Tp_readLine 153 = .ok (.iconst 0, 1) := by decide +kernel
set_option maxRecDepth 100000 in
theorem d_Tp_readLine_154 : decode b_Tp_readLine 154 = .ok (.ireturn, 1) := by decide +kernel
set_option maxRecDepth 100000 in
theorem d_Tp_readLine_155 : decode b_Tp_readLine 155 = .ok (.aload_n 0, 1) := by decide +kernel
set_option maxRecDepth 100000 in
theorem d_Tp_readLine_156 : decode b_Tp_readLine 156 = .ok (.getfield 37, 3) := by decide +kernel
set_option maxRecDepth 100000 in
theorem d_Tp_readLine_159 : decode b_Tp_readLine 159 = .ok (.iconst 3, 1) := by decide +kernel
set_option maxRecDepth 100000 in
theorem d_Tp_readLine_160 : decode b_Tp_readLine 160 = .ok (.if_icmp .eq 5, 3) := by decide +kernel
set_option maxRecDepth 100000 in
theorem d_Tp_readLine_163 : decode b_Tp_readLine 163 = .ok (.iconst 0, 1) := by decide +kernel
set_option maxRecDepth 100000 in
theorem d_Tp_readLine_164 : decode b_Tp_readLine 164 = .ok (.ireturn, 1) := by decide +kernel
set_option maxRecDepth 100000 in
theorem d_Tp_readLine_165 : decode b_Tp_readLine 165 = .ok (.aload_n 1, 1) := by decide +kernel
set_option maxRecDepth 100000 in
theorem d_Tp_readLine_166 : decode b_Tp_readLine 166 = .ok (.iload_n 2, 1) := by decide +kernel
set_option maxRecDepth 100000 in
theorem d_Tp_readLine_167 : decode b_Tp_readLine 167 = .ok (.iload 5, 2) := by decide +kernel
set_option maxRecDepth 100000 in
theorem d_Tp_readLine_169 : decode b_Tp_readLine 169 = .ok (.iload 6, 2) := by decide +kernel
set_option maxRecDepth 100000 in
theorem d_Tp_readLine_171 : decode b_Tp_readLine 171 = .ok (.iload 7, 2) := by decide +kernel
set_option maxRecDepth 100000 in
theorem d_Tp_readLine_173 : decode b_Tp_readLine 173 = .ok (.invokevirtual 63, 3) := by decide +kernel
set_option maxRecDepth 100000 in
theorem d_Tp_readLine_176 : decode b_Tp_readLine 176 = .ok (.aload_n 0, 1) := by decide +kernel
set_option maxRecDepth 100000 in
theorem d_Tp_readLine_177 : decode b_Tp_readLine 177 = .ok (.invokevirtual 27, 3) := by decide +kernel
set_option maxRecDepth 100000 in
theorem d_Tp_readLine_180 : decode b_Tp_readLine 180 = .ok (.iconst 1, 1) := by decide +kernel
set_option maxRecDepth 100000 in
theorem d_Tp_readLine_181 : decode b_Tp_readLine 181 = .ok (.ireturn, 1) := by decide +kernel
set_option maxRecDepth 100000 in
theorem d_Tp_step_0 : decode b_Tp_step 0 = .ok (.aload_n 0, 1) := by decide +kernel
set_option maxRecDepth 100000 in
theorem d_Tp_step_1 : decode b_Tp_step 1 = .ok (.aload_n 0, 1) := by decide +kernel
set_option maxRecDepth 100000 in
theorem d_Tp_step_2 : decode b_Tp_step 2 = .ok (.getfield 24, 3) := by decide +kernel
set_option maxRecDepth 100000 in
theorem d_Tp_step_5 : decode b_Tp_step 5 = .ok (.putfield 34, 3) := by decide +kernel
set_option maxRecDepth 100000 in
theorem d_Tp_step_8 : decode b_Tp_step 8 = .ok (.aload_n 0, 1) := by decide +kernel
set_option maxRecDepth 100000 in
theorem d_Tp_step_9 : decode b_Tp_step 9 = .ok (.getfield 34, 3) := by decide +kernel
set_option maxRecDepth 100000 in
theorem d_Tp_step_12 : decode b_Tp_step 12 = .ok (.aload_n 0, 1) := by decide +kernel
set_option maxRecDepth 100000 in
theorem d_Tp_step_13 : decode b_Tp_step 13 = .ok (.getfield 15, 3) := by decide +kernel
set_option maxRecDepth 100000 in
theorem d_Tp_step_16 : decode b_Tp_step 16 = .ok (.if_icmp .ge 30, 3) := by decide +kernel
set_option maxRecDepth 100000 in
theorem d_Tp_step_19 : decode b_Tp_step 19 = .ok (.aload_n 0, 1) := by decide +kernel
set_option maxRecDepth 100000 in
theorem d_Tp_step_20 : decode b_Tp_step 20 = .ok (.getfield 9, 3) := by decide +kernel
set_option maxRecDepth 100000 in
theorem d_Tp_step_23 : decode b_Tp_step 23 = .ok (.aload_n 0, 1) := by decide +kernel
set_option maxRecDepth 100000 in
theorem d_Tp_step_24 : decode b_Tp_step 24 = .ok (.getfield 34, 3) := by decide +kernel
set_option maxRecDepth 100000 in
theorem d_Tp_step_27 : decode b_Tp_step 27 = .ok (.baload, 1) := by decide +kernel
set_option maxRecDepth 100000 in
theorem d_Tp_step_28 : decode b_Tp_step 28 = .ok (.bipush 32, 2) := by decide +kernel
set_option maxRecDepth 100000 in
theorem d_Tp_step_30 : decode b_Tp_step 30 = .ok (.if_icmp .ne 16, 3) := by decide +kernel
set_option maxRecDepth 100000 in
theorem d_Tp_step_33 : decode b_Tp_step 33 = .ok (.aload_n 0, 1) := by decide +kernel
set_option maxRecDepth 100000 in
theorem d_Tp_step_34 : decode b_Tp_step 34 = .ok (.dup, 1) := by decide +kernel
set_option maxRecDepth 100000 in
theorem d_Tp_step_35 : decode b_Tp_step 35 = .ok (.getfield 34, 3) := by decide +kernel
set_option maxRecDepth 100000 in
theorem d_Tp_step_38 : decode b_Tp_step 38 = .ok (.iconst 1, 1) := by decide +kernel
set_option maxRecDepth 100000 in
theorem d_Tp_step_39 : decode b_Tp_step 39 = .ok (.iadd, 1) := by decide +kernel
set_option maxRecDepth 100000 in
theorem d_Tp_step_40 : decode b_Tp_step 40 = .ok (.putfield 34, 3) := by decide +kernel
set_option maxRecDepth 100000 in
theorem d_Tp_step_43 : decode b_Tp_step 43 = .ok (.goto (-35), 3) := by decide +kernel
set_option maxRecDepth 100000 in
theorem d_Tp_step_46 : decode b_Tp_step 46 = .ok (.aload_n 0, 1) := by decide +kernel
set_option maxRecDepth 100000 in
theorem d_Tp_step_47 : decode b_Tp_step 47 = .ok (.aload_n 0, 1) := by decide +kernel
set_option maxRecDepth 100000 in
theorem d_Tp_step_48 : decode b_Tp_step 48 = .ok (.getfield 34, 3) := by decide +kernel
set_option maxRecDepth 100000 in
theorem d_Tp_step_51 : decode b_Tp_step 51 = .ok (.putfield 24, 3) := by decide +kernel
set_option maxRecDepth 100000 in
theorem d_Tp_step_54 : decode b_Tp_step 54 = .ok (.aload_n 0, 1) := by decide +kernel
set_option maxRecDepth 100000 in
theorem d_Tp_step_55 : decode b_Tp_step 55 = .ok (.iconst 0, 1) := by decide +kernel
set_option maxRecDepth 100000 in
theorem d_Tp_step_56 : decode b_Tp_step 56 = .ok (.putfield 48, 3) := by decide +kernel
set_option maxRecDepth 100000 in
theorem d_Tp_step_59 : decode b_Tp_step 59 = .ok (.aload_n 0, 1) := by decide +kernel
set_option maxRecDepth 100000 in
theorem d_Tp_step_60 : decode b_Tp_step 60 = .ok (.getfield 34, 3) := by decide +kernel
set_option maxRecDepth 100000 in
theorem d_Tp_step_63 : decode b_Tp_step 63 = .ok (.aload_n 0, 1) := by decide +kernel
set_option maxRecDepth 100000 in
theorem d_Tp_step_64 : decode b_Tp_step 64 = .ok (.getfield 15, 3) := by decide +kernel
set_option maxRecDepth 100000 in
theorem d_Tp_step_67 : decode b_Tp_step 67 = .ok (.if_icmp .lt 11, 3) := by decide +kernel
set_option maxRecDepth 100000 in
theorem d_Tp_step_70 : decode b_Tp_step 70 = .ok (.aload_n 0, 1) := by decide +kernel
set_option maxRecDepth 100000 in
theorem d_Tp_step_71 : decode b_Tp_step 71 = .ok (.iconst 0, 1) := by decide +kernel
set_option maxRecDepth 100000 in
theorem d_Tp_step_72 : decode b_Tp_step 72 = .ok (.putfield 37, 3) := by decide +kernel
set_option maxRecDepth 100000 in
theorem d_Tp_step_75 : decode b_Tp_step 75 = .ok (.goto 107, 3) := by decide +kernel
set_option maxRecDepth 100000 in
theorem d_Tp_step_78 : decode b_Tp_step 78 = .ok (.aload_n 0, 1) := by decide +kernel
set_option maxRecDepth 100000 in
theorem d_Tp_step_79 : decode b_Tp_step 79 = .ok (.getfield 9, 3) := by decide +kernel
set_option maxRecDepth 100000 in
theorem d_Tp_step_82 : decode b_Tp_step 82 = .ok (.aload_n 0, 1) := by decide +kernel
set_option maxRecDepth 100000 in
theorem d_Tp_step_83 : decode b_Tp_step 83 = .ok (.getfield 34, 3) := by decide +kernel
set_option maxRecDepth 100000 in
theorem d_Tp_step_86 : decode b_Tp_step 86 = .ok (.baload, 1) := by decide +kernel
set_option maxRecDepth 100000 in
theorem d_Tp_step_87 : decode b_Tp_step 87 = .ok (.invokestatic 96, 3) := by decide +kernel
set_option maxRecDepth 100000 in
theorem d_Tp_step_90 : decode b_Tp_step 90 = .ok (.ifCond .eq 15, 3) := by decide +kernel
set_option maxRecDepth 100000 in
theorem d_Tp_step_93 : decode b_Tp_step 93 = .ok (.aload_n 0, 1) := by decide +kernel
set_option maxRecDepth 100000 in
theorem d_Tp_step_94 : decode b_Tp_step 94 = .ok (.iconst 1, 1) := by decide +kernel
set_option maxRecDepth 100000 in
theorem d_Tp_step_95 : decode b_Tp_step 95 = .ok (.putfield 37, 3) := by decide +kernel
set_option maxRecDepth 100000 in
theorem d_Tp_step_98 : decode b_Tp_step 98 = .ok (.aload_n 0, 1) := by decide +kernel
set_option maxRecDepth 100000 in
theorem d_Tp_step_99 : decode b_Tp_step 99 = .ok (.invokevirtual 100, 3) := by decide +kernel
set_option maxRecDepth 100000 in
theorem d_Tp_step_102 : decode b_Tp_step 102 = .ok (.goto 80, 3) := by decide +kernel
set_option maxRecDepth 100000 in
theorem d_Tp_step_105 : decode b_Tp_step 105 = .ok (.aload_n 0, 1) := by decide +kernel
set_option maxRecDepth 100000 in
theorem d_Tp_step_106 : decode b_Tp_step 106 = .ok (.getfield 9, 3) := by decide +kernel
set_option maxRecDepth 100000 in
theorem d_Tp_step_109 : decode b_Tp_step 109 = .ok (.aload_n 0, 1) := by decide +kernel
set_option maxRecDepth 100000 in
theorem d_Tp_step_110 : decode b_Tp_step 110 = .ok (.getfield 34, 3) := by decide +kernel
set_option maxRecDepth 100000 in
theorem d_Tp_step_113 : decode b_Tp_step 113 = .ok (.baload, 1) := by decide +kernel
set_option maxRecDepth 100000 in
theorem d_Tp_step_114 : decode b_Tp_step 114 = .ok (.invokestatic 103, 3) := by decide +kernel
set_option maxRecDepth 100000 in
theorem d_Tp_step_117 : decode b_Tp_step 117 = .ok (.ifCond .eq 32, 3) := by decide +kernel
set_option maxRecDepth 100000 in
theorem d_Tp_step_120 : decode b_Tp_step 120 = .ok (.aload_n 0, 1) := by decide +kernel
set_option maxRecDepth 100000 in
theorem d_Tp_step_121 : decode b_Tp_step 121 = .ok (.invokevirtual 106, 3) := by decide +kernel
set_option maxRecDepth 100000 in
theorem d_Tp_step_124 : decode b_Tp_step 124 = .ok (.aload_n 0, 1) := by decide +kernel
set_option maxRecDepth 100000 in
theorem d_Tp_step_125 : decode b_Tp_step 125 = .ok (.aload_n 0, 1) := by decide +kernel
set_option maxRecDepth 100000 in
theorem d_Tp_step_126 : decode b_Tp_step 126 = .ok (.getfield 24, 3) := by decide +kernel
set_option maxRecDepth 100000 in
theorem d_Tp_step_129 : decode b_Tp_step 129 = .ok (.aload_n 0, 1) := by decide +kernel
set_option maxRecDepth 100000 in
theorem d_Tp_step_130 : decode b_Tp_step 130 = .ok (.getfield 34, 3) := by decide +kernel
set_option maxRecDepth 100000 in
theorem d_Tp_step_133 : decode b_Tp_step 133 = .ok (.isub, 1) := by decide +kernel
set_option maxRecDepth 100000 in
theorem d_Tp_step_134 : decode b_Tp_step 134 = .ok (.iconst 5, 1) := by decide +kernel
set_option maxRecDepth 100000 in
theorem d_Tp_step_135 : decode b_Tp_step 135 = .ok (.if_icmp .le 7, 3) := by decide +kernel
set_option maxRecDepth 100000 in
theorem d_Tp_step_138 : decode b_Tp_step 138 = .ok (.iconst 4, 1) := by decide +kernel
set_option maxRecDepth 100000 in
theorem d_Tp_step_139 : decode b_Tp_step 139 = .ok (.goto 4, 3) := by decide +kernel
set_option maxRecDepth 100000 in
theorem d_Tp_step_142 : decode b_Tp_step 142 = .ok (.iconst 2, 1) := by decide +kernel
set_option maxRecDepth 100000 in
theorem d_Tp_step_143 : decode b_Tp_step 143 = .ok (.putfield 37, 3) := by decide +kernel
set_option maxRecDepth 100000 in
theorem d_Tp_step_146 : decode b_Tp_step 146 = .ok (.goto 36, 3) := by decide +kernel
set_option maxRecDepth 100000 in
theorem d_Tp_step_149 : decode b_Tp_step 149 = .ok (.aload_n 0, 1) := by decide +kernel
set_option maxRecDepth 100000 in
theorem d_Tp_step_150 : decode b_Tp_step 150 = .ok (.aload_n 0, 1) := by decide +kernel
set_option maxRecDepth 100000 in
theorem d_Tp_step_151 : decode b_Tp_step 151 = .ok (.getfield 9, 3) := by decide +kernel
set_option maxRecDepth 100000 in
theorem d_Tp_step_154 : decode b_Tp_step 154 = .ok (.aload_n 0, 1) := by decide +kernel
set_option maxRecDepth 100000 in
theorem d_Tp_step_155 : decode b_Tp_step 155 = .ok (.getfield 34, 3) := by decide +kernel
set_option maxRecDepth 100000 in
theorem d_Tp_step_158 : decode b_Tp_step 158 = .ok (.baload, 1) := by decide +kernel
set_option maxRecDepth 100000 in
theorem d_Tp_step_159 : decode b_Tp_step 159 = .ok (.bipush 59, 2) := by decide +kernel
set_option maxRecDepth 100000 in
theorem d_Tp_step_161 : decode b_Tp_step 161 = .ok (.if_icmp .ne 7, 3) := by decide +kernel
set_option maxRecDepth 100000 in
theorem d_Tp_step_164 : decode b_Tp_step 164 = .ok (.iconst 3, 1) := by decide +kernel
set_option maxRecDepth 100000 in
theorem d_Tp_step_165 : decode b_Tp_step 165 = .ok (.goto 4, 3) := by decide +kernel
set_option maxRecDepth 100000 in
theorem d_Tp_step_168 : decode b_Tp_step 168 = .ok (.iconst 4, 1) := by decide +kernel
set_option maxRecDepth 100000 in
theorem d_Tp_step_169 : decode b_Tp_step 169 = .ok (.putfield 37, 3) := by decide +kernel
set_option maxRecDepth 100000 in
theorem d_Tp_step_172 : decode b_Tp_step 172 = .ok (.aload_n 0, 1) := by decide +kernel
set_option maxRecDepth 100000 in
theorem d_Tp_step_173 : decode b_Tp_step 173 = .ok (.dup, 1) := by decide +kernel
set_option maxRecDepth 100000 in
theorem d_Tp_step_174 : decode b_Tp_step 174 = .ok (.getfield 24, 3) := by decide +kernel
set_option maxRecDepth 100000 in
theorem d_Tp_step_177 : decode b_Tp_step 177 = .ok (.iconst 1, 1) := by decide +kernel
set_option maxRecDepth 100000 in
theorem d_Tp_step_178 : decode b_Tp_step 178 = .ok (.iadd, 1) := by decide +kernel
set_option maxRecDepth 100000 in
theorem d_Tp_step_179 : decode b_Tp_step 179 = .ok (.putfield 24, 3) := by decide +kernel
set_option maxRecDepth 100000 in
theorem d_Tp_step_182 : decode b_Tp_step 182 = .ok (.return_, 1) := by decide +kernel
set_option maxRecDepth 100000 in
theorem d_Tp_stepOverNumber_0 : decode b_Tp_stepOverNumber 0 = .ok (.aload_n 0, 1) := by decide +kernel
set_option maxRecDepth 100000 in
theorem d_Tp_stepOverNumber_1 : decode b_Tp_stepOverNumber 1 = .ok (.getfield 37, 3) := by decide +kernel
set_option maxRecDepth 100000 in
theorem d_Tp_stepOverNumber_4 : decode b_Tp_stepOverNumber 4 = .ok (.iconst 2, 1) := by decide +kernel
set_option maxRecDepth 100000 in
theorem d_Tp_stepOverNumber_5 : decode b_Tp_stepOverNumber 5 = .ok (.if_icmp .eq 5, 3) := by decide +kernel
set_option maxRecDepth 100000 in
theorem d_Tp_stepOverNumber_8 : decode b_Tp_stepOverNumber 8 = .ok (.iconst 0, 1) := by decide +kernel
set_option maxRecDepth 100000 in
theorem d_Tp_stepOverNumber_9 : decode b_Tp_stepOverNumber 9 = .ok (.ireturn, 1) := by decide +kernel
set_option maxRecDepth 100000 in
theorem d_Tp_stepOverNumber_10 : decode b_Tp_stepOverNumber 10 = .ok (.aload_n 0, 1) := by decide +kernel
set_option maxRecDepth 100000 in
theorem d_Tp_stepOverNumber_11 : decode b_Tp_stepOverNumber 11 = .ok (.invokevirtual 27, 3) := by decide +kernel
set_option maxRecDepth 100000 in
theorem d_Tp_stepOverNumber_14 : decode b_Tp_stepOverNumber 14 = .ok (.iconst 1, 1) := by decide +kernel
set_option maxRecDepth 100000 in
theorem d_Tp_stepOverNumber_15 : decode b_Tp_stepOverNumber 15 = .ok (.ireturn, 1) := by decide +kernel
set_option maxRecDepth 100000 in
theorem d_Tp_stepOverWord_0 : decode b_Tp_stepOverWord 0 = .ok (.aload_n 0, 1) := by decide +kernel
set_option maxRecDepth 100000 in
theorem d_Tp_stepOverWord_1 : decode b_Tp_stepOverWord 1 = .ok (.getfield 37, 3) := by decide +kernel
set_option maxRecDepth 100000 in
theorem d_Tp_stepOverWord_4 : decode b_Tp_stepOverWord 4 = .ok (.iconst 1, 1) := by decide +kernel
set_option maxRecDepth 100000 in
theorem d_Tp_stepOverWord_5 : decode b_Tp_stepOverWord 5 = .ok (.if_icmp .ne 11, 3) := by decide +kernel
set_option maxRecDepth 100000 in
theorem d_Tp_stepOverWord_8 : decode b_Tp_stepOverWord 8 = .ok (.aload_n 0, 1) := by decide +kernel
set_option maxRecDepth 100000 in
theorem d_Tp_stepOverWord_9 : decode b_Tp_stepOverWord 9 = .ok (.aload_n 1, 1) := by decide +kernel
set_option maxRecDepth 100000 in
theorem d_Tp_stepOverWord_10 : decode b_Tp_stepOverWord 10 = .ok (.invokevirtual 67, 3) := by decide +kernel
set_option maxRecDepth 100000 in
theorem d_Tp_stepOverWord_13 : decode b_Tp_stepOverWord 13 = .ok (.ifCond .ne 5, 3) := by decide +kernel
set_option maxRecDepth 100000 in
theorem d_Tp_stepOverWord_16 : decode b_Tp_stepOverWord 16 = .ok (.iconst 0, 1) := by decide +kernel
set_option maxRecDepth 100000 in
theorem d_Tp_stepOverWord_17 : decode b_Tp_stepOverWord 17 = .ok (.ireturn, 1) := by decide +kernel
set_option maxRecDepth 100000 in
theorem d_Tp_stepOverWord_18 : decode b_Tp_stepOverWord 18 = .ok (.aload_n 0, 1) := by decide +kernel
set_option maxRecDepth 100000 in
theorem d_Tp_stepOverWord_19 : decode b_Tp_stepOverWord 19 = .ok (.invokevirtual 27, 3) := by decide +kernel
set_option maxRecDepth 100000 in
theorem d_Tp_stepOverWord_22 : decode b_Tp_stepOverWord 22 = .ok (.iconst 1, 1) := by decide +kernel
set_option maxRecDepth 100000 in
theorem d_Tp_stepOverWord_23 : decode b_Tp_stepOverWord 23 = .ok (.ireturn, 1) := by decide +kernel
set_option maxRecDepth 100000 in
theorem d_Tr_init_0 : decode b_Tr_init 0 = .ok (.aload_n 0, 1) := by decide +kernel
set_option maxRecDepth 100000 in
theorem d_Tr_init_1 : decode b_Tr_init 1 = .ok (.invokespecial 1, 3) := by decide +kernel
set_option maxRecDepth 100000 in
theorem d_Tr_init_4 : decode b_Tr_init 4 = .ok (.aload_n 0, 1) := by decide +kernel
set_option maxRecDepth 100000 in
theorem d_Tr_init_5 : decode b_Tr_init 5 = .ok (.iload_n 1, 1) := by decide +kernel
set_option maxRecDepth 100000 in
theorem d_Tr_init_6 : decode b_Tr_init 6 = .ok (.putfield 7, 3) := by decide +kernel
set_option maxRecDepth 100000 in
theorem d_Tr_init_9 : decode b_Tr_init 9 = .ok (.aload_n 0, 1) := by decide +kernel
set_option maxRecDepth 100000 in
theorem d_Tr_init_10 : decode b_Tr_init 10 = .ok (.iload_n 2, 1) := by decide +kernel
set_option maxRecDepth 100000 in
theorem d_Tr_init_11 : decode b_Tr_init 11 = .ok (.putfield 13, 3) := by decide +kernel
set_option maxRecDepth 100000 in
theorem d_Tr_init_14 : decode b_Tr_init 14 = .ok (.aload_n 0, 1) := by decide +kernel
set_option maxRecDepth 100000 in
theorem d_Tr_init_15 : decode b_Tr_init 15 = .ok (.iload_n 3, 1) := by decide +kernel
set_option maxRecDepth 100000 in
theorem d_Tr_init_16 : decode b_Tr_init 16 = .ok (.putfield 16, 3) := by decide +kernel
set_option maxRecDepth 100000 in
theorem d_Tr_init_19 : decode b_Tr_init 19 = .ok (.aload_n 0, 1) := by decide +kernel
set_option maxRecDepth 100000 in
theorem d_Tr_init_20 : decode b_Tr_init 20 = .ok (.iload 4, 2) := by decide +kernel
set_option maxRecDepth 100000 in
theorem d_Tr_init_22 : decode b_Tr_init 22 = .ok (.putfield 19, 3) := by decide +kernel
set_option maxRecDepth 100000 in
theorem d_Tr_init_25 : decode b_Tr_init 25 = .ok (.return_, 1) := by decide +kernel
set_option maxRecDepth 100000 in
theorem d_WM_absent_0 : decode b_WM_absent 0 = .ok (.aload_n 0, 1) := by decide +kernel
set_option maxRecDepth 100000 in
theorem d_WM_absent_1 : decode b_WM_absent 1 = .ok (.iload_n 1, 1) := by decide +kernel
set_option maxRecDepth 100000 in
theorem d_WM_absent_2 : decode b_WM_absent 2 = .ok (.invokevirtual 107, 3) := by decide +kernel
set_option maxRecDepth 100000 in
theorem d_WM_absent_5 : decode b_WM_absent 5 = .ok (.astore 4, 2) := by decide +kernel
set_option maxRecDepth 100000 in
theorem d_WM_absent_7 : decode b_WM_absent 7 = .ok (.aload 4, 2) := by decide +kernel
set_option maxRecDepth 100000 in
theorem d_WM_absent_9 : decode b_WM_absent 9 = .ok (.ifnull 20, 3) := by decide +kernel
set_option maxRecDepth 100000 in
theorem d_WM_absent_12 : decode b_WM_absent 12 = .ok (.iload_n 2, 1) := by decide +kernel
set_option maxRecDepth 100000 in
theorem d_WM_absent_13 : decode b_WM_absent 13 = .ok (.ifCond .lt 16, 3) := by decide +kernel
set_option maxRecDepth 100000 in
theorem d_WM_absent_16 : decode b_WM_absent 16 = .ok (.iload_n 2, 1) := by decide +kernel
set_option maxRecDepth 100000 in
theorem d_WM_absent_17 : decode b_WM_absent 17 = .ok (.iload_n 3, 1) := by decide +kernel
set_option maxRecDepth 100000 in
theorem d_WM_absent_18 : decode b_WM_absent 18 = .ok (.if_icmp .gt 11, 3) := by decide +kernel
set_option maxRecDepth 100000 in
theorem d_WM_absent_21 : decode b_WM_absent 21 = .ok (.iload_n 3, 1) := by decide +kernel
set_option maxRecDepth 100000 in
theorem d_WM_absent_22 : decode b_WM_absent 22 = .ok (.aload_n 0, 1) := by decide +kernel
set_option maxRecDepth 100000 in
theorem d_WM_absent_23 : decode b_WM_absent 23 = .ok (.invokevirtual 97, 3) := by decide +kernel
set_option maxRecDepth 100000 in
theorem d_WM_absent_26 : decode b_WM_absent 26 = .ok (.if_icmp .le 5, 3) := by decide +kernel
set_option maxRecDepth 100000 in
theorem d_WM_absent_29 : decode b_WM_absent 29 = .ok (.iconst (-1), 1) := by decide +kernel
set_option maxRecDepth 100000 in
theorem d_WM_absent_30 : decode b_WM_absent 30 = .ok (.ireturn, 1) := by decide +kernel
set_option maxRecDepth 100000 in
theorem d_WM_absent_31 : decode b_WM_absent 31 = .ok (.aload 4, 2) := by decide +kernel
set_option maxRecDepth 100000 in
theorem d_WM_absent_33 : decode b_WM_absent 33 = .ok (.getfield 119, 3) := by decide +kernel
set_option maxRecDepth 100000 in
theorem d_WM_absent_36 : decode b_WM_absent 36 = .ok (.astore 5, 2) := by decide +kernel
set_option maxRecDepth 100000 in
theorem d_WM_absent_38 : decode b_WM_absent 38 = .ok (.aload 5, 2) := by decide +kernel
set_option maxRecDepth 100000 in
theorem d_WM_absent_40 : decode b_WM_absent 40 = .ok (.ifnull 14, 3) := by decide +kernel
set_option maxRecDepth 100000 in
theorem d_WM_absent_43 : decode b_WM_absent 43 = .ok (.iload_n 2, 1) := by decide +kernel
set_option maxRecDepth 100000 in
theorem d_WM_absent_44 : decode b_WM_absent 44 = .ok (.aload 5, 2) := by decide +kernel
set_option maxRecDepth 100000 in
theorem d_WM_absent_46 : decode b_WM_absent 46 = .ok (.getfield 123, 3) := by decide +kernel
set_option maxRecDepth 100000 in
theorem d_WM_absent_49 : decode b_WM_absent 49 = .ok (.if_icmp .ge 5, 3) := by decide +kernel
set_option maxRecDepth 100000 in
theorem d_WM_absent_52 : decode b_WM_absent 52 = .ok (.iconst (-1), 1) := by decide +kernel
set_option maxRecDepth 100000 in
theorem d_WM_absent_53 : decode b_WM_absent 53 = .ok (.ireturn, 1) := by decide +kernel
set_option maxRecDepth 100000 in
theorem d_WM_absent_54 : decode b_WM_absent 54 = .ok (.aload 5, 2) := by decide +kernel
set_option maxRecDepth 100000 in
theorem d_WM_absent_56 : decode b_WM_absent 56 = .ok (.ifnull 22, 3) := by decide +kernel
set_option maxRecDepth 100000 in
theorem d_WM_absent_59 : decode b_WM_absent 59 = .ok (.aload 4, 2) := by decide +kernel
set_option maxRecDepth 100000 in
theorem d_WM_absent_61 : decode b_WM_absent 61 = .ok (.getfield 111, 3) := by decide +kernel
set_option maxRecDepth 100000 in
theorem d_WM_absent_64 : decode b_WM_absent 64 = .ok (.iconst 1, 1) := by decide +kernel
set_option maxRecDepth 100000 in
theorem d_WM_absent_65 : decode b_WM_absent 65 = .ok (.if_icmp .ne 13, 3) := by decide +kernel
set_option maxRecDepth 100000 in
theorem d_WM_absent_68 : decode b_WM_absent 68 = .ok (.aload 5, 2) := by decide +kernel
set_option maxRecDepth 100000 in
theorem d_WM_absent_70 : decode b_WM_absent 70 = .ok (.iload_n 2, 1) := by decide +kernel
set_option maxRecDepth 100000 in
theorem d_WM_absent_71 : decode b_WM_absent 71 = .ok (.iload_n 3, 1) := by decide +kernel
set_option maxRecDepth 100000 in
theorem d_WM_absent_72 : decode b_WM_absent 72 = .ok (.invokevirtual 126, 3) := by decide +kernel
set_option maxRecDepth 100000 in
theorem d_WM_absent_75 : decode b_WM_absent 75 = .ok (.ifCond .eq 6, 3) := by decide +kernel
set_option maxRecDepth 100000 in
theorem d_WM_absent_78 : decode b_WM_absent 78 = .ok (.bipush (-2), 2) := by decide +kernel
set_option maxRecDepth 100000 in
theorem d_WM_absent_80 : decode b_WM_absent 80 = .ok (.ireturn, 1) := by decide +kernel
set_option maxRecDepth 100000 in
theorem d_WM_absent_81 : decode b_WM_absent 81 = .ok (.aload 5, 2) := by decide +kernel
set_option maxRecDepth 100000 in
theorem d_WM_absent_83 : decode b_WM_absent 83 = .ok (.getfield 130, 3) := by decide +kernel
set_option maxRecDepth 100000 in
theorem d_WM_absent_86 : decode b_WM_absent 86 = .ok (.bipush 6, 2) := by decide +kernel
set_option maxRecDepth 100000 in
theorem d_WM_absent_88 : decode b_WM_absent 88 = .ok (.if_icmp .lt 8, 3) := by decide +kernel
set_option maxRecDepth 100000 in
theorem d_WM_absent_91 : decode b_WM_absent 91 = .ok (.bipush (-3), 2) := by decide +kernel
set_option maxRecDepth 100000 in
theorem d_WM_absent_93 : decode b_WM_absent 93 = .ok (.goto 10, 3) := by decide +kernel
set_option maxRecDepth 100000 in
theorem d_WM_absent_96 : decode b_WM_absent 96 = .ok (.aload 5, 2) := by decide +kernel
set_option maxRecDepth 100000 in
theorem d_WM_absent_98 : decode b_WM_absent 98 = .ok (.iload_n 2, 1) := by decide +kernel
set_option maxRecDepth 100000 in
theorem d_WM_absent_99 : decode b_WM_absent 99 = .ok (.iload_n 3, 1) := by decide +kernel
set_option maxRecDepth 100000 in
theorem d_WM_absent_100 : decode b_WM_absent 100 = .ok (.invokevirtual 133, 3) := by decide +kernel
set_option maxRecDepth 100000 in
theorem d_WM_absent_103 : decode b_WM_absent 103 = .ok (.ireturn, 1) := by decide +kernel
set_option maxRecDepth 100000 in
theorem d_WM_bind_0 : decode b_WM_bind 0 = .ok (.aload_n 0, 1) := by decide +kernel
set_option maxRecDepth 100000 in
theorem d_WM_bind_1 : decode b_WM_bind 1 = .ok (.iload_n 1, 1) := by decide +kernel
set_option maxRecDepth 100000 in
theorem d_WM_bind_2 : decode b_WM_bind 2 = .ok (.invokevirtual 107, 3) := by decide +kernel
set_option maxRecDepth 100000 in
theorem d_WM_bind_5 : decode b_WM_bind 5 = .ok (.astore_n 3, 1) := by decide +kernel
set_option maxRecDepth 100000 in
theorem d_WM_bind_6 : decode b_WM_bind 6 = .ok (.aload_n 0, 1) := by decide +kernel
set_option maxRecDepth 100000 in
theorem d_WM_bind_7 : decode b_WM_bind 7 = .ok (.iload_n 2, 1) := by decide +kernel
set_option maxRecDepth 100000 in
theorem d_WM_bind_8 : decode b_WM_bind 8 = .ok (.invokevirtual 107, 3) := by decide +kernel
set_option maxRecDepth 100000 in
theorem d_WM_bind_11 : decode b_WM_bind 11 = .ok (.astore 4, 2) := by decide +kernel
set_option maxRecDepth 100000 in
theorem d_WM_bind_13 : decode b_WM_bind 13 = .ok (.aload_n 3, 1) := by decide +kernel
set_option maxRecDepth 100000 in
theorem d_WM_bind_14 : decode b_WM_bind 14 = .ok (.ifnull 8, 3) := by decide +kernel
set_option maxRecDepth 100000 in
theorem d_WM_bind_17 : decode b_WM_bind 17 = .ok (.aload 4, 2) := by decide +kernel
set_option maxRecDepth 100000 in
theorem d_WM_bind_19 : decode b_WM_bind 19 = .ok (.ifnonnull 5, 3) := by decide +kernel
set_option maxRecDepth 100000 in
theorem d_WM_bind_22 : decode b_WM_bind 22 = .ok (.iconst (-1), 1) := by decide +kernel
set_option maxRecDepth 100000 in
theorem d_WM_bind_23 : decode b_WM_bind 23 = .ok (.ireturn, 1) := by decide +kernel
set_option maxRecDepth 100000 in
theorem d_WM_bind_24 : decode b_WM_bind 24 = .ok (.aload_n 3, 1) := by decide +kernel
set_option maxRecDepth 100000 in
theorem d_WM_bind_25 : decode b_WM_bind 25 = .ok (.getfield 111, 3) := by decide +kernel
set_option maxRecDepth 100000 in
theorem d_WM_bind_28 : decode b_WM_bind 28 = .ok (.ifCond .ne 12, 3) := by decide +kernel
set_option maxRecDepth 100000 in
theorem d_WM_bind_31 : decode b_WM_bind 31 = .ok (.aload 4, 2) := by decide +kernel
set_option maxRecDepth 100000 in
theorem d_WM_bind_33 : decode b_WM_bind 33 = .ok (.getfield 111, 3) := by decide +kernel
set_option maxRecDepth 100000 in
theorem d_WM_bind_36 : decode b_WM_bind 36 = .ok (.iconst 2, 1) := by decide +kernel
set_option maxRecDepth 100000 in
theorem d_WM_bind_37 : decode b_WM_bind 37 = .ok (.if_icmp .eq 6, 3) := by decide +kernel
set_option maxRecDepth 100000 in
theorem d_WM_bind_40 : decode b_WM_bind 40 = .ok (.bipush (-2), 2) := by decide +kernel
set_option maxRecDepth 100000 in
theorem d_WM_bind_42 : decode b_WM_bind 42 = .ok (.ireturn, 1) := by decide +kernel
set_option maxRecDepth 100000 in
theorem d_WM_bind_43 : decode b_WM_bind 43 = .ok (.aload_n 3, 1) := by decide +kernel
set_option maxRecDepth 100000 in
theorem d_WM_bind_44 : decode b_WM_bind 44 = .ok (.iconst 1, 1) := by decide +kernel
set_option maxRecDepth 100000 in
theorem d_WM_bind_45 : decode b_WM_bind 45 = .ok (.putfield 111, 3) := by decide +kernel
set_option maxRecDepth 100000 in
theorem d_WM_bind_48 : decode b_WM_bind 48 = .ok (.aload_n 3, 1) := by decide +kernel
set_option maxRecDepth 100000 in
theorem d_WM_bind_49 : decode b_WM_bind 49 = .ok (.new 114, 3) := by decide +kernel
set_option maxRecDepth 100000 in
theorem d_WM_bind_52 : decode b_WM_bind 52 = .ok (.dup, 1) := by decide +kernel
set_option maxRecDepth 100000 in
theorem d_WM_bind_53 : decode b_WM_bind 53 = .ok (.iload_n 2, 1) := by decide +kernel
set_option maxRecDepth 100000 in
theorem d_WM_bind_54 : decode b_WM_bind 54 = .ok (.aload_n 0, 1) := by decide +kernel
set_option maxRecDepth 100000 in
theorem d_WM_bind_55 : decode b_WM_bind 55 = .ok (.invokevirtual 97, 3) := by decide +kernel
set_option maxRecDepth 100000 in
theorem d_WM_bind_58 : decode b_WM_bind 58 = .ok (.invokespecial 116, 3) := by decide +kernel
set_option maxRecDepth 100000 in
theorem d_WM_bind_61 : decode b_WM_bind 61 = .ok (.putfield 119, 3) := by decide +kernel
set_option maxRecDepth 100000 in
theorem d_WM_bind_64 : decode b_WM_bind 64 = .ok (.iconst 1, 1) := by decide +kernel
set_option maxRecDepth 100000 in
theorem d_WM_bind_65 : decode b_WM_bind 65 = .ok (.ireturn, 1) := by decide +kernel
set_option maxRecDepth 100000 in
theorem d_WM_boat_0 : decode b_WM_boat 0 = .ok (.iload_n 1, 1) := by decide +kernel
set_option maxRecDepth 100000 in
theorem d_WM_boat_1 : decode b_WM_boat 1 = .ok (.invokestatic 164, 3) := by decide +kernel
set_option maxRecDepth 100000 in
theorem d_WM_boat_4 : decode b_WM_boat 4 = .ok (.ifCond .eq 14, 3) := by decide +kernel
set_option maxRecDepth 100000 in
theorem d_WM_boat_7 : decode b_WM_boat 7 = .ok (.aload_n 0, 1) := by decide +kernel
set_option maxRecDepth 100000 in
theorem d_WM_boat_8 : decode b_WM_boat 8 = .ok (.getfield 12, 3) := by decide +kernel
set_option maxRecDepth 100000 in
theorem d_WM_boat_11 : decode b_WM_boat 11 = .ok (.iload_n 2, 1) := by decide +kernel
set_option maxRecDepth 100000 in
theorem d_WM_boat_12 : decode b_WM_boat 12 = .ok (.invokevirtual 167, 3) := by decide +kernel
set_option maxRecDepth 100000 in
theorem d_WM_boat_15 : decode b_WM_boat 15 = .ok (.ifCond .ne 5, 3) := by decide +kernel
set_option maxRecDepth 100000 in
theorem d_WM_boat_18 : decode b_WM_boat 18 = .ok (.iconst (-1), 1) := by decide +kernel
set_option maxRecDepth 100000 in
theorem d_WM_boat_19 : decode b_WM_boat 19 = .ok (.ireturn, 1) := by decide +kernel
set_option maxRecDepth 100000 in
theorem d_WM_boat_20 : decode b_WM_boat 20 = .ok (.aload_n 0, 1) := by decide +kernel
set_option maxRecDepth 100000 in
theorem d_WM_boat_21 : decode b_WM_boat 21 = .ok (.getfield 170, 3) := by decide +kernel
set_option maxRecDepth 100000 in
theorem d_WM_boat_24 : decode b_WM_boat 24 = .ok (.bipush 20, 2) := by decide +kernel
set_option maxRecDepth 100000 in
theorem d_WM_boat_26 : decode b_WM_boat 26 = .ok (.if_icmp .lt 6, 3) := by decide +kernel
set_option maxRecDepth 100000 in
theorem d_WM_boat_29 : decode b_WM_boat 29 = .ok (.bipush (-3), 2) := by decide +kernel
set_option maxRecDepth 100000 in
theorem d_WM_boat_31 : decode b_WM_boat 31 = .ok (.ireturn, 1) := by decide +kernel
set_option maxRecDepth 100000 in
theorem d_WM_boat_32 : decode b_WM_boat 32 = .ok (.aload_n 0, 1) := by decide +kernel
set_option maxRecDepth 100000 in
theorem d_WM_boat_33 : decode b_WM_boat 33 = .ok (.getfield 24, 3) := by decide +kernel
set_option maxRecDepth 100000 in
theorem d_WM_boat_36 : decode b_WM_boat 36 = .ok (.aload_n 0, 1) := by decide +kernel
set_option maxRecDepth 100000 in
theorem d_WM_boat_37 : decode b_WM_boat 37 = .ok (.getfield 170, 3) := by decide +kernel
set_option maxRecDepth 100000 in
theorem d_WM_boat_40 : decode b_WM_boat 40 = .ok (.new 22, 3) := by decide +kernel
set_option maxRecDepth 100000 in
theorem d_WM_boat_43 : decode b_WM_boat 43 = .ok (.dup, 1) := by decide +kernel
set_option maxRecDepth 100000 in
theorem d_WM_boat_44 : decode b_WM_boat 44 = .ok (.iload_n 1, 1) := by decide +kernel
set_option maxRecDepth 100000 in
theorem d_WM_boat_45 : decode b_WM_boat 45 = .ok (.iload_n 2, 1) := by decide +kernel
set_option maxRecDepth 100000 in
theorem d_WM_boat_46 : decode b_WM_boat 46 = .ok (.invokespecial 173, 3) := by decide +kernel
set_option maxRecDepth 100000 in
theorem d_WM_boat_49 : decode b_WM_boat 49 = .ok (.aastore, 1) := by decide +kernel
set_option maxRecDepth 100000 in
theorem d_WM_boat_50 : decode b_WM_boat 50 = .ok (.aload_n 0, 1) := by decide +kernel
set_option maxRecDepth 100000 in
theorem d_WM_boat_51 : decode b_WM_boat 51 = .ok (.dup, 1) := by decide +kernel
set_option maxRecDepth 100000 in
theorem d_WM_boat_52 : decode b_WM_boat 52 = .ok (.getfield 170, 3) := by decide +kernel
set_option maxRecDepth 100000 in
theorem d_WM_boat_55 : decode b_WM_boat 55 = .ok (.iconst 1, 1) := by decide +kernel
set_option maxRecDepth 100000 in
theorem d_WM_boat_56 : decode b_WM_boat 56 = .ok (.iadd, 1) := by decide +kernel
set_option maxRecDepth 100000 in
theorem d_WM_boat_57 : decode b_WM_boat 57 = .ok (.putfield 170, 3) := by decide +kernel
set_option maxRecDepth 100000 in
theorem d_WM_boat_60 : decode b_WM_boat 60 = .ok (.aload_n 0, 1) := by decide +kernel
set_option maxRecDepth 100000 in
theorem d_WM_boat_61 : decode b_WM_boat 61 = .ok (.getfield 170, 3) := by decide +kernel
set_option maxRecDepth 100000 in
theorem d_WM_boat_64 : decode b_WM_boat 64 = .ok (.iconst 1, 1) := by decide +kernel
set_option maxRecDepth 100000 in
theorem d_WM_boat_65 : decode b_WM_boat 65 = .ok (.isub, 1) := by decide +kernel
set_option maxRecDepth 100000 in
theorem d_WM_boat_66 : decode b_WM_boat 66 = .ok (.ireturn, 1) := by decide +kernel
set_option maxRecDepth 100000 in
theorem d_WM_boatAt_0 : decode b_WM_boatAt 0 = .ok (.iload_n 1, 1) := by decide +kernel
set_option maxRecDepth 100000 in
theorem d_WM_boatAt_1 : decode b_WM_boatAt 1 = .ok (.ifCond .lt 20, 3) := by decide +kernel
set_option maxRecDepth 100000 in
theorem d_WM_boatAt_4 : decode b_WM_boatAt 4 = .ok (.iload_n 1, 1) := by decide +kernel
set_option maxRecDepth 100000 in
theorem d_WM_boatAt_5 : decode b_WM_boatAt 5 = .ok (.aload_n 0, 1) := by decide +kernel
set_option maxRecDepth 100000 in
theorem d_WM_boatAt_6 : decode b_WM_boatAt 6 = .ok (.getfield 170, 3) := by decide +kernel
set_option maxRecDepth 100000 in
theorem d_WM_boatAt_9 : decode b_WM_boatAt 9 = .ok (.if_icmp .ge 12, 3) := by decide +kernel
set_option maxRecDepth 100000 in
theorem d_WM_boatAt_12 : decode b_WM_boatAt 12 = .ok (.aload_n 0, 1) := by decide +kernel
set_option maxRecDepth 100000 in
theorem d_WM_boatAt_13 : decode b_WM_boatAt 13 = .ok (.getfield 24, 3) := by decide +kernel
set_option maxRecDepth 100000 in
theorem d_WM_boatAt_16 : decode b_WM_boatAt 16 = .ok (.iload_n 1, 1) := by decide +kernel
set_option maxRecDepth 100000 in
theorem d_WM_boatAt_17 : decode b_WM_boatAt 17 = .ok (.aaload, 1) := by decide +kernel
set_option maxRecDepth 100000 in
theorem d_WM_boatAt_18 : decode b_WM_boatAt 18 = .ok (.goto 4, 3) := by decide +kernel
set_option maxRecDepth 100000 in
theorem d_WM_boatAt_21 : decode b_WM_boatAt 21 = .ok (.aconst_null, 1) := by decide +kernel
set_option maxRecDepth 100000 in
theorem d_WM_boatAt_22 : decode b_WM_boatAt 22 = .ok (.areturn, 1) := by decide +kernel
set_option maxRecDepth 100000 in
theorem d_WM_bridge_0 : decode b_WM_bridge 0 = .ok (.iload_n 1, 1) := by decide +kernel
set_option maxRecDepth 100000 in
theorem d_WM_bridge_1 : decode b_WM_bridge 1 = .ok (.iconst (-1), 1) := by decide +kernel
set_option maxRecDepth 100000 in
theorem d_WM_bridge_2 : decode b_WM_bridge 2 = .ok (.if_icmp .eq 22, 3) := by decide +kernel
set_option maxRecDepth 100000 in
theorem d_WM_bridge_5 : decode b_WM_bridge 5 = .ok (.iload_n 1, 1) := by decide +kernel
set_option maxRecDepth 100000 in
theorem d_WM_bridge_6 : decode b_WM_bridge 6 = .ok (.ifCond .lt 16, 3) := by decide +kernel
set_option maxRecDepth 100000 in
theorem d_WM_bridge_9 : decode b_WM_bridge 9 = .ok (.iload_n 1, 1) := by decide +kernel
set_option maxRecDepth 100000 in
theorem d_WM_bridge_10 : decode b_WM_bridge 10 = .ok (.aload_n 0, 1) := by decide +kernel
set_option maxRecDepth 100000 in
theorem d_WM_bridge_11 : decode b_WM_bridge 11 = .ok (.getfield 12, 3) := by decide +kernel
set_option maxRecDepth 100000 in
theorem d_WM_bridge_14 : decode b_WM_bridge 14 = .ok (.getfield 64, 3) := by decide +kernel
set_option maxRecDepth 100000 in
theorem d_WM_bridge_17 : decode b_WM_bridge 17 = .ok (.iconst 1, 1) := by decide +kernel
set_option maxRecDepth 100000 in
theorem d_WM_bridge_18 : decode b_WM_bridge 18 = .ok (.isub, 1) := by decide +kernel
set_option maxRecDepth 100000 in
theorem d_WM_bridge_19 : decode b_WM_bridge 19 = .ok (.if_icmp .lt 5, 3) := by decide +kernel
set_option maxRecDepth 100000 in
theorem d_WM_bridge_22 : decode b_WM_bridge 22 = .ok (.iconst (-1), 1) := by decide +kernel
set_option maxRecDepth 100000 in
theorem d_WM_bridge_23 : decode b_WM_bridge 23 = .ok (.ireturn, 1) := by decide +kernel
set_option maxRecDepth 100000 in
theorem d_WM_bridge_24 : decode b_WM_bridge 24 = .ok (.aload_n 0, 1) := by decide +kernel
set_option maxRecDepth 100000 in
theorem d_WM_bridge_25 : decode b_WM_bridge 25 = .ok (.getfield 12, 3) := by decide +kernel
set_option maxRecDepth 100000 in
theorem d_WM_bridge_28 : decode b_WM_bridge 28 = .ok (.iload_n 1, 1) := by decide +kernel
set_option maxRecDepth 100000 in
theorem d_WM_bridge_29 : decode b_WM_bridge 29 = .ok (.putfield 72, 3) := by decide +kernel
set_option maxRecDepth 100000 in
theorem d_WM_bridge_32 : decode b_WM_bridge 32 = .ok (.iconst 1, 1) := by decide +kernel
set_option maxRecDepth 100000 in
theorem d_WM_bridge_33 : decode b_WM_bridge 33 = .ok (.ireturn, 1) := by decide +kernel
set_option maxRecDepth 100000 in
theorem d_WM_coins_0 : decode b_WM_coins 0 = .ok (.iload_n 1, 1) := by decide +kernel
set_option maxRecDepth 100000 in
theorem d_WM_coins_1 : decode b_WM_coins 1 = .ok (.tableswitch 72 0 4 #[35, 43, 51, 56, 64], 35) := by decide +kernel
set_option maxRecDepth 100000 in
theorem d_WM_coins_36 : decode b_WM_coins 36 = .ok (.aload_n 0, 1) := by decide +kernel
set_option maxRecDepth 100000 in
theorem d_WM_coins_37 : decode b_WM_coins 37 = .ok (.getfield 50, 3) := by decide +kernel
set_option maxRecDepth 100000 in
theorem d_WM_coins_40 : decode b_WM_coins 40 = .ok (.getfield 343, 3) := by decide +kernel
set_option maxRecDepth 100000 in
theorem d_WM_coins_43 : decode b_WM_coins 43 = .ok (.ireturn, 1) := by decide +kernel
set_option maxRecDepth 100000 in
theorem d_WM_coins_44 : decode b_WM_coins 44 = .ok (.aload_n 0, 1) := by decide +kernel
set_option maxRecDepth 100000 in
theorem d_WM_coins_45 : decode b_WM_coins 45 = .ok (.getfield 50, 3) := by decide +kernel
set_option maxRecDepth 100000 in
theorem d_WM_coins_48 : decode b_WM_coins 48 = .ok (.getfield 344, 3) := by decide +kernel
set_option maxRecDepth 100000 in
theorem d_WM_coins_51 : decode b_WM_coins 51 = .ok (.ireturn, 1) := by decide +kernel
set_option maxRecDepth 100000 in
theorem d_WM_coins_52 : decode b_WM_coins 52 = .ok (.aload_n 0, 1) := by decide +kernel
set_option maxRecDepth 100000 in
theorem d_WM_coins_53 : decode b_WM_coins 53 = .ok (.invokevirtual 347, 3) := by decide +kernel
set_option maxRecDepth 100000 in
theorem d_WM_coins_56 : decode b_WM_coins 56 = .ok (.ireturn, 1) := by decide +kernel
set_option maxRecDepth 100000 in
theorem d_WM_coins_57 : decode b_WM_coins 57 = .ok (.aload_n 0, 1) := by decide +kernel
set_option maxRecDepth 100000 in
theorem d_WM_coins_58 : decode b_WM_coins 58 = .ok (.getfield 50, 3) := by decide +kernel
set_option maxRecDepth 100000 in
theorem d_WM_coins_61 : decode b_WM_coins 61 = .ok (.getfield 350, 3) := by decide +kernel
set_option maxRecDepth 100000 in
theorem d_WM_coins_64 : decode b_WM_coins 64 = .ok (.ireturn, 1) := by decide +kernel
set_option maxRecDepth 100000 in
theorem d_WM_coins_65 : decode b_WM_coins 65 = .ok (.aload_n 0, 1) := by decide +kernel
set_option maxRecDepth 100000 in
theorem d_WM_coins_66 : decode b_WM_coins 66 = .ok (.getfield 50, 3) := by decide +kernel
set_option maxRecDepth 100000 in
theorem d_WM_coins_69 : decode b_WM_coins 69 = .ok (.getfield 353, 3) := by decide +kernel
set_option maxRecDepth 100000 in
theorem d_WM_coins_72 : decode b_WM_coins 72 = .ok (.ireturn, 1) := by decide +kernel
set_option maxRecDepth 100000 in
theorem d_WM_coins_73 : decode b_WM_coins 73 = .ok (.iconst (-1), 1) := by decide +kernel
set_option maxRecDepth 100000 in
theorem d_WM_coins_74 : decode b_WM_coins 74 = .ok (.ireturn, 1) := by decide +kernel
set_option maxRecDepth 100000 in
theorem d_WM_coinsOfMen_0 : decode b_WM_coinsOfMen 0 = .ok (.iconst 0, 1) := by decide +kernel
set_option maxRecDepth 100000 in
theorem d_WM_coinsOfMen_1 : decode b_WM_coinsOfMen 1 = .ok (.istore_n 1, 1) := by decide +kernel
set_option maxRecDepth 100000 in
theorem d_WM_coinsOfMen_2 : decode b_WM_coinsOfMen 2 = .ok (.iconst 0, 1) := by decide +kernel
set_option maxRecDepth 100000 in
theorem d_WM_coinsOfMen_3 : decode b_WM_coinsOfMen 3 = .ok (.istore_n 2, 1) := by decide +kernel
set_option maxRecDepth 100000 in
theorem d_WM_coinsOfMen_4 : decode b_WM_coinsOfMen 4 = .ok (.iload_n 2, 1) := by decide +kernel
set_option maxRecDepth 100000 in
theorem d_WM_coinsOfMen_5 : decode b_WM_coinsOfMen 5 = .ok (.bipush 40, 2) := by decide +kernel
set_option maxRecDepth 100000 in
theorem d_WM_coinsOfMen_7 : decode b_WM_coinsOfMen 7 = .ok (.if_icmp .ge 31, 3) := by decide +kernel
set_option maxRecDepth 100000 in
theorem d_WM_coinsOfMen_10 : decode b_WM_coinsOfMen 10 = .ok (.aload_n 0, 1) := by decide +kernel
set_option maxRecDepth 100000 in
theorem d_WM_coinsOfMen_11 : decode b_WM_coinsOfMen 11 = .ok (.getfield 18, 3) := by decide +kernel
set_option maxRecDepth 100000 in
theorem d_WM_coinsOfMen_14 : decode b_WM_coinsOfMen 14 = .ok (.iload_n 2, 1) := by decide +kernel
set_option maxRecDepth 100000 in
theorem d_WM_coinsOfMen_15 : decode b_WM_coinsOfMen 15 = .ok (.aaload, 1) := by decide +kernel
set_option maxRecDepth 100000 in
theorem d_WM_coinsOfMen_16 : decode b_WM_coinsOfMen 16 = .ok (.astore_n 3, 1) := by decide +kernel
set_option maxRecDepth 100000 in
theorem d_WM_coinsOfMen_17 : decode b_WM_coinsOfMen 17 = .ok (.iload_n 1, 1) := by decide +kernel
set_option maxRecDepth 100000 in
theorem d_WM_coinsOfMen_18 : decode b_WM_coinsOfMen 18 = .ok (.aload_n 3, 1) := by decide +kernel
set_option maxRecDepth 100000 in
theorem d_WM_coinsOfMen_19 : decode b_WM_coinsOfMen 19 = .ok (.ifnonnull 7, 3) := by decide +kernel
set_option maxRecDepth 100000 in
theorem d_WM_coinsOfMen_22 : decode b_WM_coinsOfMen 22 = .ok (.iconst 0, 1) := by decide +kernel
set_option maxRecDepth 100000 in
theorem d_WM_coinsOfMen_23 : decode b_WM_coinsOfMen 23 = .ok (.goto 7, 3) := by decide +kernel
set_option maxRecDepth 100000 in
theorem d_WM_coinsOfMen_26 : decode b_WM_coinsOfMen 26 = .ok (.aload_n 3, 1) := by decide +kernel
set_option maxRecDepth 100000 in
theorem d_WM_coinsOfMen_27 : decode b_WM_coinsOfMen 27 = .ok (.getfield 152, 3) := by decide +kernel
set_option maxRecDepth 100000 in
theorem d_WM_coinsOfMen_30 : decode b_WM_coinsOfMen 30 = .ok (.iadd, 1) := by decide +kernel
set_option maxRecDepth 100000 in
theorem d_WM_coinsOfMen_31 : decode b_WM_coinsOfMen 31 = .ok (.istore_n 1, 1) := by decide +kernel
set_option maxRecDepth 100000 in
theorem d_WM_coinsOfMen_32 : decode b_WM_coinsOfMen 32 = .ok (.iinc 2 1, 3) := by decide +kernel
set_option maxRecDepth 100000 in
theorem d_WM_coinsOfMen_35 : decode b_WM_coinsOfMen 35 = .ok (.goto (-31), 3) := by decide +kernel
set_option maxRecDepth 100000 in
theorem d_WM_coinsOfMen_38 : decode b_WM_coinsOfMen 38 = .ok (.iload_n 1, 1) := by decide +kernel
set_option maxRecDepth 100000 in
theorem d_WM_coinsOfMen_39 : decode b_WM_coinsOfMen 39 = .ok (.ireturn, 1) := by decide +kernel
set_option maxRecDepth 100000 in
theorem d_WM_count_0 : decode b_WM_count 0 = .ok (.iload_n 1, 1) := by decide +kernel
set_option maxRecDepth 100000 in
theorem d_WM_count_1 : decode b_WM_count 1 = .ok (.tableswitch 117 0 9 #[55, 63, 68, 73, 78, 83, 89, 95, 101, 109], 55) := by decide +kernel
set_option maxRecDepth 100000 in
theorem d_WM_count_56 : decode b_WM_count 56 = .ok (.aload_n 0, 1) := by decide +kernel
set_option maxRecDepth 100000 in
theorem d_WM_count_57 : decode b_WM_count 57 = .ok (.getfield 12, 3) := by decide +kernel
set_option maxRecDepth 100000 in
theorem d_WM_count_60 : decode b_WM_count 60 = .ok (.getfield 64, 3) := by decide +kernel
set_option maxRecDepth 100000 in
theorem d_WM_count_63 : decode b_WM_count 63 = .ok (.ireturn, 1) := by decide +kernel
set_option maxRecDepth 100000 in
theorem d_WM_count_64 : decode b_WM_count 64 = .ok (.aload_n 0, 1) := by decide +kernel
set_option maxRecDepth 100000 in
theorem d_WM_count_65 : decode b_WM_count 65 = .ok (.getfield 170, 3) := by decide +kernel
set_option maxRecDepth 100000 in
theorem d_WM_count_68 : decode b_WM_count 68 = .ok (.ireturn, 1) := by decide +kernel
set_option maxRecDepth 100000 in
theorem d_WM_count_69 : decode b_WM_count 69 = .ok (.aload_n 0, 1) := by decide +kernel
set_option maxRecDepth 100000 in
theorem d_WM_count_70 : decode b_WM_count 70 = .ok (.getfield 243, 3) := by decide +kernel
set_option maxRecDepth 100000 in
theorem d_WM_count_73 : decode b_WM_count 73 = .ok (.ireturn, 1) := by decide +kernel
set_option maxRecDepth 100000 in
theorem d_WM_count_74 : decode b_WM_count 74 = .ok (.aload_n 0, 1) := by decide +kernel
set_option maxRecDepth 100000 in
theorem d_WM_count_75 : decode b_WM_count 75 = .ok (.getfield 210, 3) := by decide +kernel
set_option maxRecDepth 100000 in
theorem d_WM_count_78 : decode b_WM_count 78 = .ok (.ireturn, 1) := by decide +kernel
set_option maxRecDepth 100000 in
theorem d_WM_count_79 : decode b_WM_count 79 = .ok (.aload_n 0, 1) := by decide +kernel
set_option maxRecDepth 100000 in
theorem d_WM_count_80 : decode b_WM_count 80 = .ok (.getfield 155, 3) := by decide +kernel
set_option maxRecDepth 100000 in
theorem d_WM_count_83 : decode b_WM_count 83 = .ok (.ireturn, 1) := by decide +kernel
set_option maxRecDepth 100000 in
theorem d_WM_count_84 : decode b_WM_count 84 = .ok (.aload_n 0, 1) := by decide +kernel
set_option maxRecDepth 100000 in
theorem d_WM_count_85 : decode b_WM_count 85 = .ok (.iconst 2, 1) := by decide +kernel
set_option maxRecDepth 100000 in
theorem d_WM_count_86 : decode b_WM_count 86 = .ok (.invokevirtual 340, 3) := by decide +kernel
set_option maxRecDepth 100000 in
theorem d_WM_count_89 : decode b_WM_count 89 = .ok (.ireturn, 1) := by decide +kernel
set_option maxRecDepth 100000 in
theorem d_WM_count_90 : decode b_WM_count 90 = .ok (.aload_n 0, 1) := by decide +kernel
set_option maxRecDepth 100000 in
theorem d_WM_count_91 : decode b_WM_count 91 = .ok (.iconst 1, 1) := by decide +kernel
set_option maxRecDepth 100000 in
theorem d_WM_count_92 : decode b_WM_count 92 = .ok (.invokevirtual 340, 3) := by decide +kernel
set_option maxRecDepth 100000 in
theorem d_WM_count_95 : decode b_WM_count 95 = .ok (.ireturn, 1) := by decide +kernel
set_option maxRecDepth 100000 in
theorem d_WM_count_96 : decode b_WM_count 96 = .ok (.aload_n 0, 1) := by decide +kernel
set_option maxRecDepth 100000 in
theorem d_WM_count_97 : decode b_WM_count 97 = .ok (.iconst 3, 1) := by decide +kernel
set_option maxRecDepth 100000 in
theorem d_WM_count_98 : decode b_WM_count 98 = .ok (.invokevirtual 340, 3) := by decide +kernel
set_option maxRecDepth 100000 in
theorem d_WM_count_101 : decode b_WM_count 101 = .ok (.ireturn, 1) := by decide +kernel
set_option maxRecDepth 100000 in
theorem d_WM_count_102 : decode b_WM_count 102 = .ok (.aload_n 0, 1) := by decide +kernel
set_option maxRecDepth 100000 in
theorem d_WM_count_103 : decode b_WM_count 103 = .ok (.getfield 50, 3) := by decide +kernel
set_option maxRecDepth 100000 in
theorem d_WM_count_106 : decode b_WM_count 106 = .ok (.getfield 280, 3) := by decide +kernel
set_option maxRecDepth 100000 in
theorem d_WM_count_109 : decode b_WM_count 109 = .ok (.ireturn, 1) := by decide +kernel
set_option maxRecDepth 100000 in
theorem d_WM_count_110 : decode b_WM_count 110 = .ok (.aload_n 0, 1) := by decide +kernel
set_option maxRecDepth 100000 in
theorem d_WM_count_111 : decode b_WM_count 111 = .ok (.getfield 43, 3) := by decide +kernel
set_option maxRecDepth 100000 in
theorem d_WM_count_114 : decode b_WM_count 114 = .ok (.getfield 207, 3) := by decide +kernel
set_option maxRecDepth 100000 in
theorem d_WM_count_117 : decode b_WM_count 117 = .ok (.ireturn, 1) := by decide +kernel
set_option maxRecDepth 100000 in
theorem d_WM_count_118 : decode b_WM_count 118 = .ok (.iconst (-1), 1) := by decide +kernel
set_option maxRecDepth 100000 in
theorem d_WM_count_119 : decode b_WM_count 119 = .ok (.ireturn, 1) := by decide +kernel
set_option maxRecDepth 100000 in
theorem d_WM_craft_0 : decode b_WM_craft 0 = .ok (.aload_n 0, 1) := by decide +kernel
