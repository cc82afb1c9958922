set_option maxRecDepth 100000 in
theorem d_Md_why_2 : decode b_Md_why 2 = .ok (.iload_n 2, 1) := by decide +kernel
set_option maxRecDepth 100000 in
theorem d_Md_why_3 : decode b_Md_why 3 = .ok (.iload_n 3, 1) := by decide +kernel
set_option maxRecDepth 100000 in
theorem d_Md_why_4 : decode b_Md_why 4 = .ok (.invokevirtual 306, 3) := by decide +kernel
set_option maxRecDepth 100000 in
theorem d_Md_why_7 : decode b_Md_why 7 = .ok (.ifCond .eq 13, 3) := by decide +kernel
set_option maxRecDepth 100000 in
theorem d_Md_why_10 : decode b_Md_why 10 = .ok (.aload_n 0, 1) := by decide +kernel
set_option maxRecDepth 100000 in
theorem d_Md_why_11 : decode b_Md_why 11 = .ok (.iload_n 1, 1) := by decide +kernel
set_option maxRecDepth 100000 in
theorem d_Md_why_12 : decode b_Md_why 12 = .ok (.iload_n 2, 1) := by decide +kernel
set_option maxRecDepth 100000 in
theorem d_Md_why_13 : decode b_Md_why 13 = .ok (.iload_n 3, 1) := by decide +kernel
set_option maxRecDepth 100000 in
theorem d_Md_why_14 : decode b_Md_why 14 = .ok (.invokevirtual 309, 3) := by decide +kernel
set_option maxRecDepth 100000 in
theorem d_Md_why_17 : decode b_Md_why 17 = .ok (.goto 4, 3) := by decide +kernel
set_option maxRecDepth 100000 in
theorem d_Md_why_20 : decode b_Md_why 20 = .ok (.iconst (-1), 1) := by decide +kernel
set_option maxRecDepth 100000 in
theorem d_Md_why_21 : decode b_Md_why 21 = .ok (.ireturn, 1) := by decide +kernel
set_option maxRecDepth 100000 in
theorem d_Md_wordOf_0 : decode b_Md_wordOf 0 = .ok (.lload_n 0, 1) := by decide +kernel
set_option maxRecDepth 100000 in
theorem d_Md_wordOf_1 : decode b_Md_wordOf 1 = .ok (.ldc2_w 244, 3) := by decide +kernel
set_option maxRecDepth 100000 in
theorem d_Md_wordOf_4 : decode b_Md_wordOf 4 = .ok (.lcmp, 1) := by decide +kernel
set_option maxRecDepth 100000 in
theorem d_Md_wordOf_5 : decode b_Md_wordOf 5 = .ok (.ifCond .ne 5, 3) := by decide +kernel
set_option maxRecDepth 100000 in
theorem d_Md_wordOf_8 : decode b_Md_wordOf 8 = .ok (.iconst 4, 1) := by decide +kernel
set_option maxRecDepth 100000 in
theorem d_Md_wordOf_9 : decode b_Md_wordOf 9 = .ok (.ireturn, 1) := by decide +kernel
set_option maxRecDepth 100000 in
theorem d_Md_wordOf_10 : decode b_Md_wordOf 10 = .ok (.lload_n 0, 1) := by decide +kernel
set_option maxRecDepth 100000 in
theorem d_Md_wordOf_11 : decode b_Md_wordOf 11 = .ok (.ldc2_w 246, 3) := by decide +kernel
set_option maxRecDepth 100000 in
theorem d_Md_wordOf_14 : decode b_Md_wordOf 14 = .ok (.lcmp, 1) := by decide +kernel
set_option maxRecDepth 100000 in
theorem d_Md_wordOf_15 : decode b_Md_wordOf 15 = .ok (.ifCond .ne 5, 3) := by decide +kernel
set_option maxRecDepth 100000 in
theorem d_Md_wordOf_18 : decode b_Md_wordOf 18 = .ok (.iconst 5, 1) := by decide +kernel
set_option maxRecDepth 100000 in
theorem d_Md_wordOf_19 : decode b_Md_wordOf 19 = .ok (.ireturn, 1) := by decide +kernel
set_option maxRecDepth 100000 in
theorem d_Md_wordOf_20 : decode b_Md_wordOf 20 = .ok (.lload_n 0, 1) := by decide +kernel
set_option maxRecDepth 100000 in
theorem d_Md_wordOf_21 : decode b_Md_wordOf 21 = .ok (.ldc2_w 248, 3) := by decide +kernel
set_option maxRecDepth 100000 in
theorem d_Md_wordOf_24 : decode b_Md_wordOf 24 = .ok (.lcmp, 1) := by decide +kernel
set_option maxRecDepth 100000 in
theorem d_Md_wordOf_25 : decode b_Md_wordOf 25 = .ok (.ifCond .ne 6, 3) := by decide +kernel
set_option maxRecDepth 100000 in
theorem d_Md_wordOf_28 : decode b_Md_wordOf 28 = .ok (.bipush 10, 2) := by decide +kernel
set_option maxRecDepth 100000 in
theorem d_Md_wordOf_30 : decode b_Md_wordOf 30 = .ok (.ireturn, 1) := by decide +kernel
set_option maxRecDepth 100000 in
theorem d_Md_wordOf_31 : decode b_Md_wordOf 31 = .ok (.lload_n 0, 1) := by decide +kernel
set_option maxRecDepth 100000 in
theorem d_Md_wordOf_32 : decode b_Md_wordOf 32 = .ok (.ldc2_w 250, 3) := by decide +kernel
set_option maxRecDepth 100000 in
theorem d_Md_wordOf_35 : decode b_Md_wordOf 35 = .ok (.lcmp, 1) := by decide +kernel
set_option maxRecDepth 100000 in
theorem d_Md_wordOf_36 : decode b_Md_wordOf 36 = .ok (.ifCond .ne 6, 3) := by decide +kernel
set_option maxRecDepth 100000 in
theorem d_Md_wordOf_39 : decode b_Md_wordOf 39 = .ok (.bipush 11, 2) := by decide +kernel
set_option maxRecDepth 100000 in
theorem d_Md_wordOf_41 : decode b_Md_wordOf 41 = .ok (.ireturn, 1) := by decide +kernel
set_option maxRecDepth 100000 in
theorem d_Md_wordOf_42 : decode b_Md_wordOf 42 = .ok (.lload_n 0, 1) := by decide +kernel
set_option maxRecDepth 100000 in
theorem d_Md_wordOf_43 : decode b_Md_wordOf 43 = .ok (.ldc2_w 252, 3) := by decide +kernel
set_option maxRecDepth 100000 in
theorem d_Md_wordOf_46 : decode b_Md_wordOf 46 = .ok (.lcmp, 1) := by decide +kernel
set_option maxRecDepth 100000 in
theorem d_Md_wordOf_47 : decode b_Md_wordOf 47 = .ok (.ifCond .ne 6, 3) := by decide +kernel
set_option maxRecDepth 100000 in
theorem d_Md_wordOf_50 : decode b_Md_wordOf 50 = .ok (.bipush 12, 2) := by decide +kernel
set_option maxRecDepth 100000 in
theorem d_Md_wordOf_52 : decode b_Md_wordOf 52 = .ok (.ireturn, 1) := by decide +kernel
set_option maxRecDepth 100000 in
theorem d_Md_wordOf_53 : decode b_Md_wordOf 53 = .ok (.lload_n 0, 1) := by decide +kernel
set_option maxRecDepth 100000 in
theorem d_Md_wordOf_54 : decode b_Md_wordOf 54 = .ok (.ldc2_w 254, 3) := by decide +kernel
set_option maxRecDepth 100000 in
theorem d_Md_wordOf_57 : decode b_Md_wordOf 57 = .ok (.lcmp, 1) := by decide +kernel
set_option maxRecDepth 100000 in
theorem d_Md_wordOf_58 : decode b_Md_wordOf 58 = .ok (.ifCond .ne 6, 3) := by decide +kernel
set_option maxRecDepth 100000 in
theorem d_Md_wordOf_61 : decode b_Md_wordOf 61 = .ok (.bipush 13, 2) := by decide +kernel
set_option maxRecDepth 100000 in
theorem d_Md_wordOf_63 : decode b_Md_wordOf 63 = .ok (.ireturn, 1) := by decide +kernel
set_option maxRecDepth 100000 in
theorem d_Md_wordOf_64 : decode b_Md_wordOf 64 = .ok (.lload_n 0, 1) := by decide +kernel
set_option maxRecDepth 100000 in
theorem d_Md_wordOf_65 : decode b_Md_wordOf 65 = .ok (.ldc2_w 256, 3) := by decide +kernel
set_option maxRecDepth 100000 in
theorem d_Md_wordOf_68 : decode b_Md_wordOf 68 = .ok (.lcmp, 1) := by decide +kernel
set_option maxRecDepth 100000 in
theorem d_Md_wordOf_69 : decode b_Md_wordOf 69 = .ok (.ifCond .ne 6, 3) := by decide +kernel
set_option maxRecDepth 100000 in
theorem d_Md_wordOf_72 : decode b_Md_wordOf 72 = .ok (.bipush 14, 2) := by decide +kernel
set_option maxRecDepth 100000 in
theorem d_Md_wordOf_74 : decode b_Md_wordOf 74 = .ok (.ireturn, 1) := by decide +kernel
set_option maxRecDepth 100000 in
theorem d_Md_wordOf_75 : decode b_Md_wordOf 75 = .ok (.lload_n 0, 1) := by decide +kernel
set_option maxRecDepth 100000 in
theorem d_Md_wordOf_76 : decode b_Md_wordOf 76 = .ok (.ldc2_w 258, 3) := by decide +kernel
set_option maxRecDepth 100000 in
theorem d_Md_wordOf_79 : decode b_Md_wordOf 79 = .ok (.lcmp, 1) := by decide +kernel
set_option maxRecDepth 100000 in
theorem d_Md_wordOf_80 : decode b_Md_wordOf 80 = .ok (.ifCond .ne 6, 3) := by decide +kernel
set_option maxRecDepth 100000 in
theorem d_Md_wordOf_83 : decode b_Md_wordOf 83 = .ok (.bipush 15, 2) := by decide +kernel
set_option maxRecDepth 100000 in
theorem d_Md_wordOf_85 : decode b_Md_wordOf 85 = .ok (.ireturn, 1) := by decide +kernel
set_option maxRecDepth 100000 in
theorem d_Md_wordOf_86 : decode b_Md_wordOf 86 = .ok (.lload_n 0, 1) := by decide +kernel
set_option maxRecDepth 100000 in
theorem d_Md_wordOf_87 : decode b_Md_wordOf 87 = .ok (.ldc2_w 260, 3) := by decide +kernel
set_option maxRecDepth 100000 in
theorem d_Md_wordOf_90 : decode b_Md_wordOf 90 = .ok (.lcmp, 1) := by decide +kernel
set_option maxRecDepth 100000 in
theorem d_Md_wordOf_91 : decode b_Md_wordOf 91 = .ok (.ifCond .ne 6, 3) := by decide +kernel
set_option maxRecDepth 100000 in
theorem d_Md_wordOf_94 : decode b_Md_wordOf 94 = .ok (.bipush 16, 2) := by decide +kernel
set_option maxRecDepth 100000 in
theorem d_Md_wordOf_96 : decode b_Md_wordOf 96 = .ok (.ireturn, 1) := by decide +kernel
set_option maxRecDepth 100000 in
theorem d_Md_wordOf_97 : decode b_Md_wordOf 97 = .ok (.lload_n 0, 1) := by decide +kernel
set_option maxRecDepth 100000 in
theorem d_Md_wordOf_98 : decode b_Md_wordOf 98 = .ok (.ldc2_w 262, 3) := by decide +kernel
set_option maxRecDepth 100000 in
theorem d_Md_wordOf_101 : decode b_Md_wordOf 101 = .ok (.lcmp, 1) := by decide +kernel
set_option maxRecDepth 100000 in
theorem d_Md_wordOf_102 : decode b_Md_wordOf 102 = .ok (.ifCond .ne 6, 3) := by decide +kernel
set_option maxRecDepth 100000 in
theorem d_Md_wordOf_105 : decode b_Md_wordOf 105 = .ok (.bipush 17, 2) := by decide +kernel
set_option maxRecDepth 100000 in
theorem d_Md_wordOf_107 : decode b_Md_wordOf 107 = .ok (.ireturn, 1) := by decide +kernel
set_option maxRecDepth 100000 in
theorem d_Md_wordOf_108 : decode b_Md_wordOf 108 = .ok (.lload_n 0, 1) := by decide +kernel
set_option maxRecDepth 100000 in
theorem d_Md_wordOf_109 : decode b_Md_wordOf 109 = .ok (.ldc2_w 264, 3) := by decide +kernel
set_option maxRecDepth 100000 in
theorem d_Md_wordOf_112 : decode b_Md_wordOf 112 = .ok (.lcmp, 1) := by decide +kernel
set_option maxRecDepth 100000 in
theorem d_Md_wordOf_113 : decode b_Md_wordOf 113 = .ok (.ifCond .ne 8, 3) := by decide +kernel
set_option maxRecDepth 100000 in
theorem d_Md_wordOf_116 : decode b_Md_wordOf 116 = .ok (.bipush 18, 2) := by decide +kernel
set_option maxRecDepth 100000 in
theorem d_Md_wordOf_118 : decode b_Md_wordOf 118 = .ok (.goto 4, 3) := by decide +kernel
set_option maxRecDepth 100000 in
theorem d_Md_wordOf_121 : decode b_Md_wordOf 121 = .ok (.iconst 3, 1) := by decide +kernel
set_option maxRecDepth 100000 in
theorem d_Md_wordOf_122 : decode b_Md_wordOf 122 = .ok (.ireturn, 1) := by decide +kernel
