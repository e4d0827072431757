theorem dX9_init_0 : decode cX9_init 0 = .ok (.aload_n 0, 1) := by decide +kernel
theorem dX9_init_1 : decode cX9_init 1 = .ok (.invokespecial 1, 3) := by decide +kernel
theorem dX9_init_4 : decode cX9_init 4 = .ok (.aload_n 0, 1) := by decide +kernel
theorem dX9_init_5 : decode cX9_init 5 = .ok (.bipush 12, 2) := by decide +kernel
theorem dX9_init_7 : decode cX9_init 7 = .ok (.newarray .int, 2) := by decide +kernel
theorem dX9_init_9 : decode cX9_init 9 = .ok (.putfield 7, 3) := by decide +kernel
theorem dX9_init_12 : decode cX9_init 12 = .ok (.aload_n 0, 1) := by decide +kernel
theorem dX9_init_13 : decode cX9_init 13 = .ok (.bipush 12, 2) := by decide +kernel
theorem dX9_init_15 : decode cX9_init 15 = .ok (.newarray .int, 2) := by decide +kernel
theorem dX9_init_17 : decode cX9_init 17 = .ok (.putfield 13, 3) := by decide +kernel
theorem dX9_init_20 : decode cX9_init 20 = .ok (.aload_n 0, 1) := by decide +kernel
theorem dX9_init_21 : decode cX9_init 21 = .ok (.bipush 12, 2) := by decide +kernel
theorem dX9_init_23 : decode cX9_init 23 = .ok (.newarray .int, 2) := by decide +kernel
theorem dX9_init_25 : decode cX9_init 25 = .ok (.putfield 16, 3) := by decide +kernel
theorem dX9_init_28 : decode cX9_init 28 = .ok (.aload_n 0, 1) := by decide +kernel
theorem dX9_init_29 : decode cX9_init 29 = .ok (.bipush 12, 2) := by decide +kernel
theorem dX9_init_31 : decode cX9_init 31 = .ok (.newarray .int, 2) := by decide +kernel
theorem dX9_init_33 : decode cX9_init 33 = .ok (.putfield 19, 3) := by decide +kernel
theorem dX9_init_36 : decode cX9_init 36 = .ok (.aload_n 0, 1) := by decide +kernel
theorem dX9_init_37 : decode cX9_init 37 = .ok (.bipush 30, 2) := by decide +kernel
theorem dX9_init_39 : decode cX9_init 39 = .ok (.putfield 22, 3) := by decide +kernel
theorem dX9_init_42 : decode cX9_init 42 = .ok (.aload_n 0, 1) := by decide +kernel
theorem dX9_init_43 : decode cX9_init 43 = .ok (.bipush 25, 2) := by decide +kernel
theorem dX9_init_45 : decode cX9_init 45 = .ok (.putfield 26, 3) := by decide +kernel
theorem dX9_init_48 : decode cX9_init 48 = .ok (.aload_n 0, 1) := by decide +kernel
theorem dX9_init_49 : decode cX9_init 49 = .ok (.bipush 11, 2) := by decide +kernel
theorem dX9_init_51 : decode cX9_init 51 = .ok (.newarray .int, 2) := by decide +kernel
theorem dX9_init_53 : decode cX9_init 53 = .ok (.putfield 29, 3) := by decide +kernel
theorem dX9_init_56 : decode cX9_init 56 = .ok (.aload_n 0, 1) := by decide +kernel
theorem dX9_init_57 : decode cX9_init 57 = .ok (.bipush 11, 2) := by decide +kernel
theorem dX9_init_59 : decode cX9_init 59 = .ok (.newarray .int, 2) := by decide +kernel
theorem dX9_init_61 : decode cX9_init 61 = .ok (.putfield 32, 3) := by decide +kernel
theorem dX9_init_64 : decode cX9_init 64 = .ok (.aload_n 0, 1) := by decide +kernel
theorem dX9_init_65 : decode cX9_init 65 = .ok (.iconst 4, 1) := by decide +kernel
theorem dX9_init_66 : decode cX9_init 66 = .ok (.newarray .int, 2) := by decide +kernel
theorem dX9_init_68 : decode cX9_init 68 = .ok (.putfield 35, 3) := by decide +kernel
theorem dX9_init_71 : decode cX9_init 71 = .ok (.aload_n 0, 1) := by decide +kernel
theorem dX9_init_72 : decode cX9_init 72 = .ok (.iconst 4, 1) := by decide +kernel
theorem dX9_init_73 : decode cX9_init 73 = .ok (.newarray .int, 2) := by decide +kernel
theorem dX9_init_75 : decode cX9_init 75 = .ok (.putfield 38, 3) := by decide +kernel
theorem dX9_init_78 : decode cX9_init 78 = .ok (.aload_n 0, 1) := by decide +kernel
theorem dX9_init_79 : decode cX9_init 79 = .ok (.iconst 4, 1) := by decide +kernel
theorem dX9_init_80 : decode cX9_init 80 = .ok (.newarray .int, 2) := by decide +kernel
theorem dX9_init_82 : decode cX9_init 82 = .ok (.putfield 41, 3) := by decide +kernel
theorem dX9_init_85 : decode cX9_init 85 = .ok (.aload_n 0, 1) := by decide +kernel
theorem dX9_init_86 : decode cX9_init 86 = .ok (.iconst 4, 1) := by decide +kernel
theorem dX9_init_87 : decode cX9_init 87 = .ok (.newarray .int, 2) := by decide +kernel
theorem dX9_init_89 : decode cX9_init 89 = .ok (.putfield 44, 3) := by decide +kernel
theorem dX9_init_92 : decode cX9_init 92 = .ok (.aload_n 0, 1) := by decide +kernel
theorem dX9_init_93 : decode cX9_init 93 = .ok (.sipush 1000, 3) := by decide +kernel
theorem dX9_init_96 : decode cX9_init 96 = .ok (.putfield 47, 3) := by decide +kernel
theorem dX9_init_99 : decode cX9_init 99 = .ok (.aload_n 0, 1) := by decide +kernel
theorem dX9_init_100 : decode cX9_init 100 = .ok (.bipush 20, 2) := by decide +kernel
theorem dX9_init_102 : decode cX9_init 102 = .ok (.newarray .int, 2) := by decide +kernel
theorem dX9_init_104 : decode cX9_init 104 = .ok (.putfield 50, 3) := by decide +kernel
theorem dX9_init_107 : decode cX9_init 107 = .ok (.aload_n 0, 1) := by decide +kernel
theorem dX9_init_108 : decode cX9_init 108 = .ok (.bipush 20, 2) := by decide +kernel
theorem dX9_init_110 : decode cX9_init 110 = .ok (.newarray .int, 2) := by decide +kernel
theorem dX9_init_112 : decode cX9_init 112 = .ok (.putfield 53, 3) := by decide +kernel
theorem dX9_init_115 : decode cX9_init 115 = .ok (.aload_n 0, 1) := by decide +kernel
theorem dX9_init_116 : decode cX9_init 116 = .ok (.bipush 20, 2) := by decide +kernel
theorem dX9_init_118 : decode cX9_init 118 = .ok (.newarray .int, 2) := by decide +kernel
theorem dX9_init_120 : decode cX9_init 120 = .ok (.putfield 56, 3) := by decide +kernel
theorem dX9_init_123 : decode cX9_init 123 = .ok (.aload_n 0, 1) := by decide +kernel
theorem dX9_init_124 : decode cX9_init 124 = .ok (.bipush 40, 2) := by decide +kernel
theorem dX9_init_126 : decode cX9_init 126 = .ok (.newarray .int, 2) := by decide +kernel
theorem dX9_init_128 : decode cX9_init 128 = .ok (.putfield 59, 3) := by decide +kernel
theorem dX9_init_131 : decode cX9_init 131 = .ok (.aload_n 0, 1) := by decide +kernel
theorem dX9_init_132 : decode cX9_init 132 = .ok (.bipush 40, 2) := by decide +kernel
theorem dX9_init_134 : decode cX9_init 134 = .ok (.newarray .int, 2) := by decide +kernel
theorem dX9_init_136 : decode cX9_init 136 = .ok (.putfield 62, 3) := by decide +kernel
theorem dX9_init_139 : decode cX9_init 139 = .ok (.aload_n 0, 1) := by decide +kernel
theorem dX9_init_140 : decode cX9_init 140 = .ok (.bipush 40, 2) := by decide +kernel
theorem dX9_init_142 : decode cX9_init 142 = .ok (.newarray .int, 2) := by decide +kernel
theorem dX9_init_144 : decode cX9_init 144 = .ok (.putfield 65, 3) := by decide +kernel
theorem dX9_init_147 : decode cX9_init 147 = .ok (.aload_n 0, 1) := by decide +kernel
theorem dX9_init_148 : decode cX9_init 148 = .ok (.bipush 40, 2) := by decide +kernel
theorem dX9_init_150 : decode cX9_init 150 = .ok (.newarray .int, 2) := by decide +kernel
theorem dX9_init_152 : decode cX9_init 152 = .ok (.putfield 68, 3) := by decide +kernel
theorem dX9_init_155 : decode cX9_init 155 = .ok (.aload_n 0, 1) := by decide +kernel
theorem dX9_init_156 : decode cX9_init 156 = .ok (.bipush 40, 2) := by decide +kernel
theorem dX9_init_158 : decode cX9_init 158 = .ok (.newarray .boolean, 2) := by decide +kernel
theorem dX9_init_160 : decode cX9_init 160 = .ok (.putfield 71, 3) := by decide +kernel
theorem dX9_init_163 : decode cX9_init 163 = .ok (.aload_n 0, 1) := by decide +kernel
theorem dX9_init_164 : decode cX9_init 164 = .ok (.bipush 121, 2) := by decide +kernel
theorem dX9_init_166 : decode cX9_init 166 = .ok (.newarray .int, 2) := by decide +kernel
theorem dX9_init_168 : decode cX9_init 168 = .ok (.putfield 75, 3) := by decide +kernel
theorem dX9_init_171 : decode cX9_init 171 = .ok (.aload_n 0, 1) := by decide +kernel
theorem dX9_init_172 : decode cX9_init 172 = .ok (.sipush 11264, 3) := by decide +kernel
theorem dX9_init_175 : decode cX9_init 175 = .ok (.newarray .int, 2) := by decide +kernel
theorem dX9_init_177 : decode cX9_init 177 = .ok (.putfield 78, 3) := by decide +kernel
theorem dX9_init_180 : decode cX9_init 180 = .ok (.aload_n 0, 1) := by decide +kernel
theorem dX9_init_181 : decode cX9_init 181 = .ok (.sipush 1024, 3) := by decide +kernel
theorem dX9_init_184 : decode cX9_init 184 = .ok (.newarray .int, 2) := by decide +kernel
theorem dX9_init_186 : decode cX9_init 186 = .ok (.putfield 81, 3) := by decide +kernel
theorem dX9_init_189 : decode cX9_init 189 = .ok (.aload_n 0, 1) := by decide +kernel
theorem dX9_init_190 : decode cX9_init 190 = .ok (.sipush 1024, 3) := by decide +kernel
theorem dX9_init_193 : decode cX9_init 193 = .ok (.newarray .int, 2) := by decide +kernel
theorem dX9_init_195 : decode cX9_init 195 = .ok (.putfield 84, 3) := by decide +kernel
theorem dX9_init_198 : decode cX9_init 198 = .ok (.aload_n 0, 1) := by decide +kernel
theorem dX9_init_199 : decode cX9_init 199 = .ok (.bipush 40, 2) := by decide +kernel
theorem dX9_init_201 : decode cX9_init 201 = .ok (.newarray .int, 2) := by decide +kernel
theorem dX9_init_203 : decode cX9_init 203 = .ok (.putfield 87, 3) := by decide +kernel
theorem dX9_init_206 : decode cX9_init 206 = .ok (.aload_n 0, 1) := by decide +kernel
theorem dX9_init_207 : decode cX9_init 207 = .ok (.bipush 40, 2) := by decide +kernel
theorem dX9_init_209 : decode cX9_init 209 = .ok (.newarray .int, 2) := by decide +kernel
theorem dX9_init_211 : decode cX9_init 211 = .ok (.putfield 90, 3) := by decide +kernel
theorem dX9_init_214 : decode cX9_init 214 = .ok (.aload_n 0, 1) := by decide +kernel
theorem dX9_init_215 : decode cX9_init 215 = .ok (.sipush 1681, 3) := by decide +kernel
theorem dX9_init_218 : decode cX9_init 218 = .ok (.newarray .int, 2) := by decide +kernel
theorem dX9_init_220 : decode cX9_init 220 = .ok (.putfield 93, 3) := by decide +kernel
theorem dX9_init_223 : decode cX9_init 223 = .ok (.aload_n 0, 1) := by decide +kernel
theorem dX9_init_224 : decode cX9_init 224 = .ok (.sipush 1681, 3) := by decide +kernel
theorem dX9_init_227 : decode cX9_init 227 = .ok (.newarray .int, 2) := by decide +kernel
theorem dX9_init_229 : decode cX9_init 229 = .ok (.putfield 96, 3) := by decide +kernel
theorem dX9_init_232 : decode cX9_init 232 = .ok (.return_, 1) := by decide +kernel
theorem dX9_in_0 : decode cX9_in 0 = .ok (.lload_n 0, 1) := by decide +kernel
theorem dX9_in_1 : decode cX9_in 1 = .ok (.lload_n 2, 1) := by decide +kernel
theorem dX9_in_2 : decode cX9_in 2 = .ok (.lcmp, 1) := by decide +kernel
theorem dX9_in_3 : decode cX9_in 3 = .ok (.ifCond .lt 14, 3) := by decide +kernel
theorem dX9_in_6 : decode cX9_in 6 = .ok (.lload_n 0, 1) := by decide +kernel
theorem dX9_in_7 : decode cX9_in 7 = .ok (.lload 4, 2) := by decide +kernel
theorem dX9_in_9 : decode cX9_in 9 = .ok (.lcmp, 1) := by decide +kernel
theorem dX9_in_10 : decode cX9_in 10 = .ok (.ifCond .gt 7, 3) := by decide +kernel
theorem dX9_in_13 : decode cX9_in 13 = .ok (.iconst 1, 1) := by decide +kernel
theorem dX9_in_14 : decode cX9_in 14 = .ok (.goto 4, 3) := by decide +kernel
theorem dX9_in_17 : decode cX9_in 17 = .ok (.iconst 0, 1) := by decide +kernel
theorem dX9_in_18 : decode cX9_in 18 = .ok (.ireturn, 1) := by decide +kernel
theorem dX9_noPoint_0 : decode cX9_noPoint 0 = .ok (.iload_n 0, 1) := by decide +kernel
theorem dX9_noPoint_1 : decode cX9_noPoint 1 = .ok (.i2l, 1) := by decide +kernel
theorem dX9_noPoint_2 : decode cX9_noPoint 2 = .ok (.lconst 0, 1) := by decide +kernel
theorem dX9_noPoint_3 : decode cX9_noPoint 3 = .ok (.ldc2_w 102, 3) := by decide +kernel
theorem dX9_noPoint_6 : decode cX9_noPoint 6 = .ok (.invokestatic 104, 3) := by decide +kernel
theorem dX9_noPoint_9 : decode cX9_noPoint 9 = .ok (.ifCond .eq 15, 3) := by decide +kernel
theorem dX9_noPoint_12 : decode cX9_noPoint 12 = .ok (.iload_n 1, 1) := by decide +kernel
theorem dX9_noPoint_13 : decode cX9_noPoint 13 = .ok (.i2l, 1) := by decide +kernel
theorem dX9_noPoint_14 : decode cX9_noPoint 14 = .ok (.lconst 0, 1) := by decide +kernel
theorem dX9_noPoint_15 : decode cX9_noPoint 15 = .ok (.ldc2_w 102, 3) := by decide +kernel
theorem dX9_noPoint_18 : decode cX9_noPoint 18 = .ok (.invokestatic 104, 3) := by decide +kernel
theorem dX9_noPoint_21 : decode cX9_noPoint 21 = .ok (.ifCond .ne 7, 3) := by decide +kernel
theorem dX9_noPoint_24 : decode cX9_noPoint 24 = .ok (.iconst 1, 1) := by decide +kernel
theorem dX9_noPoint_25 : decode cX9_noPoint 25 = .ok (.goto 4, 3) := by decide +kernel
theorem dX9_noPoint_28 : decode cX9_noPoint 28 = .ok (.iconst 0, 1) := by decide +kernel
theorem dX9_noPoint_29 : decode cX9_noPoint 29 = .ok (.ireturn, 1) := by decide +kernel
theorem dX9_noPanel_0 : decode cX9_noPanel 0 = .ok (.iload_n 1, 1) := by decide +kernel
theorem dX9_noPanel_1 : decode cX9_noPanel 1 = .ok (.i2l, 1) := by decide +kernel
theorem dX9_noPanel_2 : decode cX9_noPanel 2 = .ok (.lconst 0, 1) := by decide +kernel
theorem dX9_noPanel_3 : decode cX9_noPanel 3 = .ok (.aload_n 0, 1) := by decide +kernel
theorem dX9_noPanel_4 : decode cX9_noPanel 4 = .ok (.getfield 108, 3) := by decide +kernel
theorem dX9_noPanel_7 : decode cX9_noPanel 7 = .ok (.iconst 1, 1) := by decide +kernel
theorem dX9_noPanel_8 : decode cX9_noPanel 8 = .ok (.isub, 1) := by decide +kernel
theorem dX9_noPanel_9 : decode cX9_noPanel 9 = .ok (.i2l, 1) := by decide +kernel
theorem dX9_noPanel_10 : decode cX9_noPanel 10 = .ok (.invokestatic 104, 3) := by decide +kernel
theorem dX9_noPanel_13 : decode cX9_noPanel 13 = .ok (.ifCond .ne 7, 3) := by decide +kernel
theorem dX9_noPanel_16 : decode cX9_noPanel 16 = .ok (.iconst 1, 1) := by decide +kernel
theorem dX9_noPanel_17 : decode cX9_noPanel 17 = .ok (.goto 4, 3) := by decide +kernel
theorem dX9_noPanel_20 : decode cX9_noPanel 20 = .ok (.iconst 0, 1) := by decide +kernel
theorem dX9_noPanel_21 : decode cX9_noPanel 21 = .ok (.ireturn, 1) := by decide +kernel
theorem dX9_noSet_0 : decode cX9_noSet 0 = .ok (.iload_n 1, 1) := by decide +kernel
theorem dX9_noSet_1 : decode cX9_noSet 1 = .ok (.ifCond .lt 12, 3) := by decide +kernel
theorem dX9_noSet_4 : decode cX9_noSet 4 = .ok (.iload_n 1, 1) := by decide +kernel
theorem dX9_noSet_5 : decode cX9_noSet 5 = .ok (.aload_n 0, 1) := by decide +kernel
theorem dX9_noSet_6 : decode cX9_noSet 6 = .ok (.getfield 111, 3) := by decide +kernel
theorem dX9_noSet_9 : decode cX9_noSet 9 = .ok (.ishr, 1) := by decide +kernel
theorem dX9_noSet_10 : decode cX9_noSet 10 = .ok (.ifCond .eq 7, 3) := by decide +kernel
theorem dX9_noSet_13 : decode cX9_noSet 13 = .ok (.iconst 1, 1) := by decide +kernel
theorem dX9_noSet_14 : decode cX9_noSet 14 = .ok (.goto 4, 3) := by decide +kernel
theorem dX9_noSet_17 : decode cX9_noSet 17 = .ok (.iconst 0, 1) := by decide +kernel
theorem dX9_noSet_18 : decode cX9_noSet 18 = .ok (.ireturn, 1) := by decide +kernel
theorem dX9_cross_0 : decode cX9_cross 0 = .ok (.iload_n 0, 1) := by decide +kernel
theorem dX9_cross_1 : decode cX9_cross 1 = .ok (.iload_n 3, 1) := by decide +kernel
theorem dX9_cross_2 : decode cX9_cross 2 = .ok (.imul, 1) := by decide +kernel
theorem dX9_cross_3 : decode cX9_cross 3 = .ok (.iload_n 1, 1) := by decide +kernel
theorem dX9_cross_4 : decode cX9_cross 4 = .ok (.iload_n 2, 1) := by decide +kernel
theorem dX9_cross_5 : decode cX9_cross 5 = .ok (.imul, 1) := by decide +kernel
theorem dX9_cross_6 : decode cX9_cross 6 = .ok (.isub, 1) := by decide +kernel
theorem dX9_cross_7 : decode cX9_cross 7 = .ok (.ireturn, 1) := by decide +kernel
theorem dX9_sign_0 : decode cX9_sign 0 = .ok (.iload_n 0, 1) := by decide +kernel
theorem dX9_sign_1 : decode cX9_sign 1 = .ok (.ifCond .le 7, 3) := by decide +kernel
theorem dX9_sign_4 : decode cX9_sign 4 = .ok (.iconst 1, 1) := by decide +kernel
theorem dX9_sign_5 : decode cX9_sign 5 = .ok (.goto 12, 3) := by decide +kernel
theorem dX9_sign_8 : decode cX9_sign 8 = .ok (.iload_n 0, 1) := by decide +kernel
theorem dX9_sign_9 : decode cX9_sign 9 = .ok (.ifCond .ge 7, 3) := by decide +kernel
theorem dX9_sign_12 : decode cX9_sign 12 = .ok (.iconst (-1), 1) := by decide +kernel
theorem dX9_sign_13 : decode cX9_sign 13 = .ok (.goto 4, 3) := by decide +kernel
theorem dX9_sign_16 : decode cX9_sign 16 = .ok (.iconst 0, 1) := by decide +kernel
theorem dX9_sign_17 : decode cX9_sign 17 = .ok (.ireturn, 1) := by decide +kernel
theorem dX9_isBetween_0 : decode cX9_isBetween 0 = .ok (.iload_n 0, 1) := by decide +kernel
theorem dX9_isBetween_1 : decode cX9_isBetween 1 = .ok (.iload_n 2, 1) := by decide +kernel
theorem dX9_isBetween_2 : decode cX9_isBetween 2 = .ok (.if_icmp .ge 16, 3) := by decide +kernel
theorem dX9_isBetween_5 : decode cX9_isBetween 5 = .ok (.iload 4, 2) := by decide +kernel
theorem dX9_isBetween_7 : decode cX9_isBetween 7 = .ok (.i2l, 1) := by decide +kernel
theorem dX9_isBetween_8 : decode cX9_isBetween 8 = .ok (.iload_n 0, 1) := by decide +kernel
theorem dX9_isBetween_9 : decode cX9_isBetween 9 = .ok (.i2l, 1) := by decide +kernel
theorem dX9_isBetween_10 : decode cX9_isBetween 10 = .ok (.iload_n 2, 1) := by decide +kernel
theorem dX9_isBetween_11 : decode cX9_isBetween 11 = .ok (.i2l, 1) := by decide +kernel
theorem dX9_isBetween_12 : decode cX9_isBetween 12 = .ok (.invokestatic 104, 3) := by decide +kernel
theorem dX9_isBetween_15 : decode cX9_isBetween 15 = .ok (.goto 13, 3) := by decide +kernel
theorem dX9_isBetween_18 : decode cX9_isBetween 18 = .ok (.iload 4, 2) := by decide +kernel
theorem dX9_isBetween_20 : decode cX9_isBetween 20 = .ok (.i2l, 1) := by decide +kernel
theorem dX9_isBetween_21 : decode cX9_isBetween 21 = .ok (.iload_n 2, 1) := by decide +kernel
theorem dX9_isBetween_22 : decode cX9_isBetween 22 = .ok (.i2l, 1) := by decide +kernel
theorem dX9_isBetween_23 : decode cX9_isBetween 23 = .ok (.iload_n 0, 1) := by decide +kernel
theorem dX9_isBetween_24 : decode cX9_isBetween 24 = .ok (.i2l, 1) := by decide +kernel
theorem dX9_isBetween_25 : decode cX9_isBetween 25 = .ok (.invokestatic 104, 3) := by decide +kernel
theorem dX9_isBetween_28 : decode cX9_isBetween 28 = .ok (.istore 6, 2) := by decide +kernel
theorem dX9_isBetween_30 : decode cX9_isBetween 30 = .ok (.iload_n 1, 1) := by decide +kernel
theorem dX9_isBetween_31 : decode cX9_isBetween 31 = .ok (.iload_n 3, 1) := by decide +kernel
theorem dX9_isBetween_32 : decode cX9_isBetween 32 = .ok (.if_icmp .ge 16, 3) := by decide +kernel
theorem dX9_isBetween_35 : decode cX9_isBetween 35 = .ok (.iload 5, 2) := by decide +kernel
theorem dX9_isBetween_37 : decode cX9_isBetween 37 = .ok (.i2l, 1) := by decide +kernel
theorem dX9_isBetween_38 : decode cX9_isBetween 38 = .ok (.iload_n 1, 1) := by decide +kernel
theorem dX9_isBetween_39 : decode cX9_isBetween 39 = .ok (.i2l, 1) := by decide +kernel
theorem dX9_isBetween_40 : decode cX9_isBetween 40 = .ok (.iload_n 3, 1) := by decide +kernel
theorem dX9_isBetween_41 : decode cX9_isBetween 41 = .ok (.i2l, 1) := by decide +kernel
theorem dX9_isBetween_42 : decode cX9_isBetween 42 = .ok (.invokestatic 104, 3) := by decide +kernel
theorem dX9_isBetween_45 : decode cX9_isBetween 45 = .ok (.goto 13, 3) := by decide +kernel
theorem dX9_isBetween_48 : decode cX9_isBetween 48 = .ok (.iload 5, 2) := by decide +kernel
theorem dX9_isBetween_50 : decode cX9_isBetween 50 = .ok (.i2l, 1) := by decide +kernel
theorem dX9_isBetween_51 : decode cX9_isBetween 51 = .ok (.iload_n 3, 1) := by decide +kernel
theorem dX9_isBetween_52 : decode cX9_isBetween 52 = .ok (.i2l, 1) := by decide +kernel
theorem dX9_isBetween_53 : decode cX9_isBetween 53 = .ok (.iload_n 1, 1) := by decide +kernel
theorem dX9_isBetween_54 : decode cX9_isBetween 54 = .ok (.i2l, 1) := by decide +kernel
theorem dX9_isBetween_55 : decode cX9_isBetween 55 = .ok (.invokestatic 104, 3) := by decide +kernel
theorem dX9_isBetween_58 : decode cX9_isBetween 58 = .ok (.istore 7, 2) := by decide +kernel
theorem dX9_isBetween_60 : decode cX9_isBetween 60 = .ok (.iload 6, 2) := by decide +kernel
theorem dX9_isBetween_62 : decode cX9_isBetween 62 = .ok (.ifCond .eq 12, 3) := by decide +kernel
theorem dX9_isBetween_65 : decode cX9_isBetween 65 = .ok (.iload 7, 2) := by decide +kernel
theorem dX9_isBetween_67 : decode cX9_isBetween 67 = .ok (.ifCond .eq 7, 3) := by decide +kernel
theorem dX9_isBetween_70 : decode cX9_isBetween 70 = .ok (.iconst 1, 1) := by decide +kernel
theorem dX9_isBetween_71 : decode cX9_isBetween 71 = .ok (.goto 4, 3) := by decide +kernel
theorem dX9_isBetween_74 : decode cX9_isBetween 74 = .ok (.iconst 0, 1) := by decide +kernel
theorem dX9_isBetween_75 : decode cX9_isBetween 75 = .ok (.ireturn, 1) := by decide +kernel
theorem dX9_meet_0 : decode cX9_meet 0 = .ok (.iload 6, 2) := by decide +kernel
theorem dX9_meet_2 : decode cX9_meet 2 = .ok (.iload 4, 2) := by decide +kernel
theorem dX9_meet_4 : decode cX9_meet 4 = .ok (.isub, 1) := by decide +kernel
theorem dX9_meet_5 : decode cX9_meet 5 = .ok (.iload 7, 2) := by decide +kernel
theorem dX9_meet_7 : decode cX9_meet 7 = .ok (.iload 5, 2) := by decide +kernel
theorem dX9_meet_9 : decode cX9_meet 9 = .ok (.isub, 1) := by decide +kernel
theorem dX9_meet_10 : decode cX9_meet 10 = .ok (.iload_n 0, 1) := by decide +kernel
theorem dX9_meet_11 : decode cX9_meet 11 = .ok (.iload 4, 2) := by decide +kernel
theorem dX9_meet_13 : decode cX9_meet 13 = .ok (.isub, 1) := by decide +kernel
theorem dX9_meet_14 : decode cX9_meet 14 = .ok (.iload_n 1, 1) := by decide +kernel
theorem dX9_meet_15 : decode cX9_meet 15 = .ok (.iload 5, 2) := by decide +kernel
theorem dX9_meet_17 : decode cX9_meet 17 = .ok (.isub, 1) := by decide +kernel
theorem dX9_meet_18 : decode cX9_meet 18 = .ok (.invokestatic 114, 3) := by decide +kernel
theorem dX9_meet_21 : decode cX9_meet 21 = .ok (.invokestatic 118, 3) := by decide +kernel
theorem dX9_meet_24 : decode cX9_meet 24 = .ok (.istore 8, 2) := by decide +kernel
theorem dX9_meet_26 : decode cX9_meet 26 = .ok (.iload 6, 2) := by decide +kernel
theorem dX9_meet_28 : decode cX9_meet 28 = .ok (.iload 4, 2) := by decide +kernel
theorem dX9_meet_30 : decode cX9_meet 30 = .ok (.isub, 1) := by decide +kernel
theorem dX9_meet_31 : decode cX9_meet 31 = .ok (.iload 7, 2) := by decide +kernel
theorem dX9_meet_33 : decode cX9_meet 33 = .ok (.iload 5, 2) := by decide +kernel
theorem dX9_meet_35 : decode cX9_meet 35 = .ok (.isub, 1) := by decide +kernel
theorem dX9_meet_36 : decode cX9_meet 36 = .ok (.iload_n 2, 1) := by decide +kernel
theorem dX9_meet_37 : decode cX9_meet 37 = .ok (.iload 4, 2) := by decide +kernel
theorem dX9_meet_39 : decode cX9_meet 39 = .ok (.isub, 1) := by decide +kernel
theorem dX9_meet_40 : decode cX9_meet 40 = .ok (.iload_n 3, 1) := by decide +kernel
theorem dX9_meet_41 : decode cX9_meet 41 = .ok (.iload 5, 2) := by decide +kernel
theorem dX9_meet_43 : decode cX9_meet 43 = .ok (.isub, 1) := by decide +kernel
theorem dX9_meet_44 : decode cX9_meet 44 = .ok (.invokestatic 114, 3) := by decide +kernel
theorem dX9_meet_47 : decode cX9_meet 47 = .ok (.invokestatic 118, 3) := by decide +kernel
theorem dX9_meet_50 : decode cX9_meet 50 = .ok (.istore 9, 2) := by decide +kernel
theorem dX9_meet_52 : decode cX9_meet 52 = .ok (.iload_n 2, 1) := by decide +kernel
theorem dX9_meet_53 : decode cX9_meet 53 = .ok (.iload_n 0, 1) := by decide +kernel
theorem dX9_meet_54 : decode cX9_meet 54 = .ok (.isub, 1) := by decide +kernel
theorem dX9_meet_55 : decode cX9_meet 55 = .ok (.iload_n 3, 1) := by decide +kernel
theorem dX9_meet_56 : decode cX9_meet 56 = .ok (.iload_n 1, 1) := by decide +kernel
theorem dX9_meet_57 : decode cX9_meet 57 = .ok (.isub, 1) := by decide +kernel
theorem dX9_meet_58 : decode cX9_meet 58 = .ok (.iload 4, 2) := by decide +kernel
theorem dX9_meet_60 : decode cX9_meet 60 = .ok (.iload_n 0, 1) := by decide +kernel
theorem dX9_meet_61 : decode cX9_meet 61 = .ok (.isub, 1) := by decide +kernel
theorem dX9_meet_62 : decode cX9_meet 62 = .ok (.iload 5, 2) := by decide +kernel
theorem dX9_meet_64 : decode cX9_meet 64 = .ok (.iload_n 1, 1) := by decide +kernel
theorem dX9_meet_65 : decode cX9_meet 65 = .ok (.isub, 1) := by decide +kernel
theorem dX9_meet_66 : decode cX9_meet 66 = .ok (.invokestatic 114, 3) := by decide +kernel
theorem dX9_meet_69 : decode cX9_meet 69 = .ok (.invokestatic 118, 3) := by decide +kernel
theorem dX9_meet_72 : decode cX9_meet 72 = .ok (.istore 10, 2) := by decide +kernel
theorem dX9_meet_74 : decode cX9_meet 74 = .ok (.iload_n 2, 1) := by decide +kernel
theorem dX9_meet_75 : decode cX9_meet 75 = .ok (.iload_n 0, 1) := by decide +kernel
theorem dX9_meet_76 : decode cX9_meet 76 = .ok (.isub, 1) := by decide +kernel
theorem dX9_meet_77 : decode cX9_meet 77 = .ok (.iload_n 3, 1) := by decide +kernel
theorem dX9_meet_78 : decode cX9_meet 78 = .ok (.iload_n 1, 1) := by decide +kernel
theorem dX9_meet_79 : decode cX9_meet 79 = .ok (.isub, 1) := by decide +kernel
theorem dX9_meet_80 : decode cX9_meet 80 = .ok (.iload 6, 2) := by decide +kernel
theorem dX9_meet_82 : decode cX9_meet 82 = .ok (.iload_n 0, 1) := by decide +kernel
theorem dX9_meet_83 : decode cX9_meet 83 = .ok (.isub, 1) := by decide +kernel
theorem dX9_meet_84 : decode cX9_meet 84 = .ok (.iload 7, 2) := by decide +kernel
theorem dX9_meet_86 : decode cX9_meet 86 = .ok (.iload_n 1, 1) := by decide +kernel
theorem dX9_meet_87 : decode cX9_meet 87 = .ok (.isub, 1) := by decide +kernel
theorem dX9_meet_88 : decode cX9_meet 88 = .ok (.invokestatic 114, 3) := by decide +kernel
theorem dX9_meet_91 : decode cX9_meet 91 = .ok (.invokestatic 118, 3) := by decide +kernel
theorem dX9_meet_94 : decode cX9_meet 94 = .ok (.istore 11, 2) := by decide +kernel
theorem dX9_meet_96 : decode cX9_meet 96 = .ok (.iload 8, 2) := by decide +kernel
theorem dX9_meet_98 : decode cX9_meet 98 = .ok (.iload 9, 2) := by decide +kernel
theorem dX9_meet_100 : decode cX9_meet 100 = .ok (.imul, 1) := by decide +kernel
theorem dX9_meet_101 : decode cX9_meet 101 = .ok (.ifCond .ge 13, 3) := by decide +kernel
theorem dX9_meet_104 : decode cX9_meet 104 = .ok (.iload 10, 2) := by decide +kernel
theorem dX9_meet_106 : decode cX9_meet 106 = .ok (.iload 11, 2) := by decide +kernel
theorem dX9_meet_108 : decode cX9_meet 108 = .ok (.imul, 1) := by decide +kernel
theorem dX9_meet_109 : decode cX9_meet 109 = .ok (.ifCond .ge 5, 3) := by decide +kernel
theorem dX9_meet_112 : decode cX9_meet 112 = .ok (.iconst 1, 1) := by decide +kernel
theorem dX9_meet_113 : decode cX9_meet 113 = .ok (.ireturn, 1) := by decide +kernel
theorem dX9_meet_114 : decode cX9_meet 114 = .ok (.iload 8, 2) := by decide +kernel
theorem dX9_meet_116 : decode cX9_meet 116 = .ok (.ifCond .ne 19, 3) := by decide +kernel
theorem dX9_meet_119 : decode cX9_meet 119 = .ok (.iload 4, 2) := by decide +kernel
theorem dX9_meet_121 : decode cX9_meet 121 = .ok (.iload 5, 2) := by decide +kernel
theorem dX9_meet_123 : decode cX9_meet 123 = .ok (.iload 6, 2) := by decide +kernel
theorem dX9_meet_125 : decode cX9_meet 125 = .ok (.iload 7, 2) := by decide +kernel
theorem dX9_meet_127 : decode cX9_meet 127 = .ok (.iload_n 0, 1) := by decide +kernel
theorem dX9_meet_128 : decode cX9_meet 128 = .ok (.iload_n 1, 1) := by decide +kernel
theorem dX9_meet_129 : decode cX9_meet 129 = .ok (.invokestatic 122, 3) := by decide +kernel
theorem dX9_meet_132 : decode cX9_meet 132 = .ok (.ifCond .ne 62, 3) := by decide +kernel
theorem dX9_meet_135 : decode cX9_meet 135 = .ok (.iload 9, 2) := by decide +kernel
theorem dX9_meet_137 : decode cX9_meet 137 = .ok (.ifCond .ne 19, 3) := by decide +kernel
theorem dX9_meet_140 : decode cX9_meet 140 = .ok (.iload 4, 2) := by decide +kernel
theorem dX9_meet_142 : decode cX9_meet 142 = .ok (.iload 5, 2) := by decide +kernel
theorem dX9_meet_144 : decode cX9_meet 144 = .ok (.iload 6, 2) := by decide +kernel
theorem dX9_meet_146 : decode cX9_meet 146 = .ok (.iload 7, 2) := by decide +kernel
theorem dX9_meet_148 : decode cX9_meet 148 = .ok (.iload_n 2, 1) := by decide +kernel
theorem dX9_meet_149 : decode cX9_meet 149 = .ok (.iload_n 3, 1) := by decide +kernel
theorem dX9_meet_150 : decode cX9_meet 150 = .ok (.invokestatic 122, 3) := by decide +kernel
theorem dX9_meet_153 : decode cX9_meet 153 = .ok (.ifCond .ne 41, 3) := by decide +kernel
theorem dX9_meet_156 : decode cX9_meet 156 = .ok (.iload 10, 2) := by decide +kernel
theorem dX9_meet_158 : decode cX9_meet 158 = .ok (.ifCond .ne 17, 3) := by decide +kernel
theorem dX9_meet_161 : decode cX9_meet 161 = .ok (.iload_n 0, 1) := by decide +kernel
theorem dX9_meet_162 : decode cX9_meet 162 = .ok (.iload_n 1, 1) := by decide +kernel
theorem dX9_meet_163 : decode cX9_meet 163 = .ok (.iload_n 2, 1) := by decide +kernel
theorem dX9_meet_164 : decode cX9_meet 164 = .ok (.iload_n 3, 1) := by decide +kernel
theorem dX9_meet_165 : decode cX9_meet 165 = .ok (.iload 4, 2) := by decide +kernel
theorem dX9_meet_167 : decode cX9_meet 167 = .ok (.iload 5, 2) := by decide +kernel
theorem dX9_meet_169 : decode cX9_meet 169 = .ok (.invokestatic 122, 3) := by decide +kernel
theorem dX9_meet_172 : decode cX9_meet 172 = .ok (.ifCond .ne 22, 3) := by decide +kernel
theorem dX9_meet_175 : decode cX9_meet 175 = .ok (.iload 11, 2) := by decide +kernel
theorem dX9_meet_177 : decode cX9_meet 177 = .ok (.ifCond .ne 21, 3) := by decide +kernel
theorem dX9_meet_180 : decode cX9_meet 180 = .ok (.iload_n 0, 1) := by decide +kernel
theorem dX9_meet_181 : decode cX9_meet 181 = .ok (.iload_n 1, 1) := by decide +kernel
theorem dX9_meet_182 : decode cX9_meet 182 = .ok (.iload_n 2, 1) := by decide +kernel
theorem dX9_meet_183 : decode cX9_meet 183 = .ok (.iload_n 3, 1) := by decide +kernel
theorem dX9_meet_184 : decode cX9_meet 184 = .ok (.iload 6, 2) := by decide +kernel
theorem dX9_meet_186 : decode cX9_meet 186 = .ok (.iload 7, 2) := by decide +kernel
theorem dX9_meet_188 : decode cX9_meet 188 = .ok (.invokestatic 122, 3) := by decide +kernel
theorem dX9_meet_191 : decode cX9_meet 191 = .ok (.ifCond .eq 7, 3) := by decide +kernel
theorem dX9_meet_194 : decode cX9_meet 194 = .ok (.iconst 1, 1) := by decide +kernel
theorem dX9_meet_195 : decode cX9_meet 195 = .ok (.goto 4, 3) := by decide +kernel
theorem dX9_meet_198 : decode cX9_meet 198 = .ok (.iconst 0, 1) := by decide +kernel
theorem dX9_meet_199 : decode cX9_meet 199 = .ok (.ireturn, 1) := by decide +kernel
theorem dX9_isSeen_0 : decode cX9_isSeen 0 = .ok (.aload_n 0, 1) := by decide +kernel
theorem dX9_isSeen_1 : decode cX9_isSeen 1 = .ok (.getfield 16, 3) := by decide +kernel
theorem dX9_isSeen_4 : decode cX9_isSeen 4 = .ok (.iload_n 3, 1) := by decide +kernel
theorem dX9_isSeen_5 : decode cX9_isSeen 5 = .ok (.iaload, 1) := by decide +kernel
theorem dX9_isSeen_6 : decode cX9_isSeen 6 = .ok (.aload_n 0, 1) := by decide +kernel
theorem dX9_isSeen_7 : decode cX9_isSeen 7 = .ok (.getfield 7, 3) := by decide +kernel
theorem dX9_isSeen_10 : decode cX9_isSeen 10 = .ok (.iload_n 3, 1) := by decide +kernel
theorem dX9_isSeen_11 : decode cX9_isSeen 11 = .ok (.iaload, 1) := by decide +kernel
theorem dX9_isSeen_12 : decode cX9_isSeen 12 = .ok (.isub, 1) := by decide +kernel
theorem dX9_isSeen_13 : decode cX9_isSeen 13 = .ok (.istore 4, 2) := by decide +kernel
theorem dX9_isSeen_15 : decode cX9_isSeen 15 = .ok (.aload_n 0, 1) := by decide +kernel
theorem dX9_isSeen_16 : decode cX9_isSeen 16 = .ok (.getfield 19, 3) := by decide +kernel
theorem dX9_isSeen_19 : decode cX9_isSeen 19 = .ok (.iload_n 3, 1) := by decide +kernel
theorem dX9_isSeen_20 : decode cX9_isSeen 20 = .ok (.iaload, 1) := by decide +kernel
theorem dX9_isSeen_21 : decode cX9_isSeen 21 = .ok (.aload_n 0, 1) := by decide +kernel
theorem dX9_isSeen_22 : decode cX9_isSeen 22 = .ok (.getfield 13, 3) := by decide +kernel
theorem dX9_isSeen_25 : decode cX9_isSeen 25 = .ok (.iload_n 3, 1) := by decide +kernel
theorem dX9_isSeen_26 : decode cX9_isSeen 26 = .ok (.iaload, 1) := by decide +kernel
theorem dX9_isSeen_27 : decode cX9_isSeen 27 = .ok (.isub, 1) := by decide +kernel
theorem dX9_isSeen_28 : decode cX9_isSeen 28 = .ok (.istore 5, 2) := by decide +kernel
theorem dX9_isSeen_30 : decode cX9_isSeen 30 = .ok (.iload 4, 2) := by decide +kernel
theorem dX9_isSeen_32 : decode cX9_isSeen 32 = .ok (.iload 5, 2) := by decide +kernel
theorem dX9_isSeen_34 : decode cX9_isSeen 34 = .ok (.iload_n 1, 1) := by decide +kernel
theorem dX9_isSeen_35 : decode cX9_isSeen 35 = .ok (.aload_n 0, 1) := by decide +kernel
theorem dX9_isSeen_36 : decode cX9_isSeen 36 = .ok (.getfield 7, 3) := by decide +kernel
theorem dX9_isSeen_39 : decode cX9_isSeen 39 = .ok (.iload_n 3, 1) := by decide +kernel
theorem dX9_isSeen_40 : decode cX9_isSeen 40 = .ok (.iaload, 1) := by decide +kernel
theorem dX9_isSeen_41 : decode cX9_isSeen 41 = .ok (.isub, 1) := by decide +kernel
theorem dX9_isSeen_42 : decode cX9_isSeen 42 = .ok (.iload_n 2, 1) := by decide +kernel
theorem dX9_isSeen_43 : decode cX9_isSeen 43 = .ok (.aload_n 0, 1) := by decide +kernel
theorem dX9_isSeen_44 : decode cX9_isSeen 44 = .ok (.getfield 13, 3) := by decide +kernel
theorem dX9_isSeen_47 : decode cX9_isSeen 47 = .ok (.iload_n 3, 1) := by decide +kernel
theorem dX9_isSeen_48 : decode cX9_isSeen 48 = .ok (.iaload, 1) := by decide +kernel
theorem dX9_isSeen_49 : decode cX9_isSeen 49 = .ok (.isub, 1) := by decide +kernel
theorem dX9_isSeen_50 : decode cX9_isSeen 50 = .ok (.invokestatic 114, 3) := by decide +kernel
theorem dX9_isSeen_53 : decode cX9_isSeen 53 = .ok (.ifCond .gt 5, 3) := by decide +kernel
theorem dX9_isSeen_56 : decode cX9_isSeen 56 = .ok (.iconst 0, 1) := by decide +kernel
theorem dX9_isSeen_57 : decode cX9_isSeen 57 = .ok (.ireturn, 1) := by decide +kernel
theorem dX9_isSeen_58 : decode cX9_isSeen 58 = .ok (.aload_n 0, 1) := by decide +kernel
theorem dX9_isSeen_59 : decode cX9_isSeen 59 = .ok (.getfield 7, 3) := by decide +kernel
theorem dX9_isSeen_62 : decode cX9_isSeen 62 = .ok (.iload_n 3, 1) := by decide +kernel
theorem dX9_isSeen_63 : decode cX9_isSeen 63 = .ok (.iaload, 1) := by decide +kernel
theorem dX9_isSeen_64 : decode cX9_isSeen 64 = .ok (.aload_n 0, 1) := by decide +kernel
theorem dX9_isSeen_65 : decode cX9_isSeen 65 = .ok (.getfield 16, 3) := by decide +kernel
theorem dX9_isSeen_68 : decode cX9_isSeen 68 = .ok (.iload_n 3, 1) := by decide +kernel
theorem dX9_isSeen_69 : decode cX9_isSeen 69 = .ok (.iaload, 1) := by decide +kernel
theorem dX9_isSeen_70 : decode cX9_isSeen 70 = .ok (.iadd, 1) := by decide +kernel
theorem dX9_isSeen_71 : decode cX9_isSeen 71 = .ok (.istore 6, 2) := by decide +kernel
theorem dX9_isSeen_73 : decode cX9_isSeen 73 = .ok (.aload_n 0, 1) := by decide +kernel
theorem dX9_isSeen_74 : decode cX9_isSeen 74 = .ok (.getfield 13, 3) := by decide +kernel
theorem dX9_isSeen_77 : decode cX9_isSeen 77 = .ok (.iload_n 3, 1) := by decide +kernel
theorem dX9_isSeen_78 : decode cX9_isSeen 78 = .ok (.iaload, 1) := by decide +kernel
theorem dX9_isSeen_79 : decode cX9_isSeen 79 = .ok (.aload_n 0, 1) := by decide +kernel
theorem dX9_isSeen_80 : decode cX9_isSeen 80 = .ok (.getfield 19, 3) := by decide +kernel
theorem dX9_isSeen_83 : decode cX9_isSeen 83 = .ok (.iload_n 3, 1) := by decide +kernel
theorem dX9_isSeen_84 : decode cX9_isSeen 84 = .ok (.iaload, 1) := by decide +kernel
theorem dX9_isSeen_85 : decode cX9_isSeen 85 = .ok (.iadd, 1) := by decide +kernel
theorem dX9_isSeen_86 : decode cX9_isSeen 86 = .ok (.istore 7, 2) := by decide +kernel
theorem dX9_isSeen_88 : decode cX9_isSeen 88 = .ok (.iload 6, 2) := by decide +kernel
theorem dX9_isSeen_90 : decode cX9_isSeen 90 = .ok (.iconst 2, 1) := by decide +kernel
theorem dX9_isSeen_91 : decode cX9_isSeen 91 = .ok (.iload_n 1, 1) := by decide +kernel
theorem dX9_isSeen_92 : decode cX9_isSeen 92 = .ok (.imul, 1) := by decide +kernel
theorem dX9_isSeen_93 : decode cX9_isSeen 93 = .ok (.isub, 1) := by decide +kernel
theorem dX9_isSeen_94 : decode cX9_isSeen 94 = .ok (.istore 8, 2) := by decide +kernel
theorem dX9_isSeen_96 : decode cX9_isSeen 96 = .ok (.iload 7, 2) := by decide +kernel
theorem dX9_isSeen_98 : decode cX9_isSeen 98 = .ok (.iconst 2, 1) := by decide +kernel
theorem dX9_isSeen_99 : decode cX9_isSeen 99 = .ok (.iload_n 2, 1) := by decide +kernel
theorem dX9_isSeen_100 : decode cX9_isSeen 100 = .ok (.imul, 1) := by decide +kernel
theorem dX9_isSeen_101 : decode cX9_isSeen 101 = .ok (.isub, 1) := by decide +kernel
theorem dX9_isSeen_102 : decode cX9_isSeen 102 = .ok (.istore 9, 2) := by decide +kernel
theorem dX9_isSeen_104 : decode cX9_isSeen 104 = .ok (.iload 8, 2) := by decide +kernel
theorem dX9_isSeen_106 : decode cX9_isSeen 106 = .ok (.i2l, 1) := by decide +kernel
theorem dX9_isSeen_107 : decode cX9_isSeen 107 = .ok (.iload 8, 2) := by decide +kernel
theorem dX9_isSeen_109 : decode cX9_isSeen 109 = .ok (.i2l, 1) := by decide +kernel
theorem dX9_isSeen_110 : decode cX9_isSeen 110 = .ok (.lmul, 1) := by decide +kernel
theorem dX9_isSeen_111 : decode cX9_isSeen 111 = .ok (.iload 9, 2) := by decide +kernel
theorem dX9_isSeen_113 : decode cX9_isSeen 113 = .ok (.i2l, 1) := by decide +kernel
theorem dX9_isSeen_114 : decode cX9_isSeen 114 = .ok (.iload 9, 2) := by decide +kernel
theorem dX9_isSeen_116 : decode cX9_isSeen 116 = .ok (.i2l, 1) := by decide +kernel
theorem dX9_isSeen_117 : decode cX9_isSeen 117 = .ok (.lmul, 1) := by decide +kernel
theorem dX9_isSeen_118 : decode cX9_isSeen 118 = .ok (.ladd, 1) := by decide +kernel
theorem dX9_isSeen_119 : decode cX9_isSeen 119 = .ok (.lstore 10, 2) := by decide +kernel
theorem dX9_isSeen_121 : decode cX9_isSeen 121 = .ok (.iload 4, 2) := by decide +kernel
theorem dX9_isSeen_123 : decode cX9_isSeen 123 = .ok (.iload 5, 2) := by decide +kernel
theorem dX9_isSeen_125 : decode cX9_isSeen 125 = .ok (.iload 8, 2) := by decide +kernel
theorem dX9_isSeen_127 : decode cX9_isSeen 127 = .ok (.iload 9, 2) := by decide +kernel
theorem dX9_isSeen_129 : decode cX9_isSeen 129 = .ok (.invokestatic 114, 3) := by decide +kernel
theorem dX9_isSeen_132 : decode cX9_isSeen 132 = .ok (.i2l, 1) := by decide +kernel
theorem dX9_isSeen_133 : decode cX9_isSeen 133 = .ok (.lstore 12, 2) := by decide +kernel
theorem dX9_isSeen_135 : decode cX9_isSeen 135 = .ok (.iload 4, 2) := by decide +kernel
theorem dX9_isSeen_137 : decode cX9_isSeen 137 = .ok (.i2l, 1) := by decide +kernel
theorem dX9_isSeen_138 : decode cX9_isSeen 138 = .ok (.iload 4, 2) := by decide +kernel
theorem dX9_isSeen_140 : decode cX9_isSeen 140 = .ok (.i2l, 1) := by decide +kernel
theorem dX9_isSeen_141 : decode cX9_isSeen 141 = .ok (.lmul, 1) := by decide +kernel
theorem dX9_isSeen_142 : decode cX9_isSeen 142 = .ok (.iload 5, 2) := by decide +kernel
theorem dX9_isSeen_144 : decode cX9_isSeen 144 = .ok (.i2l, 1) := by decide +kernel
theorem dX9_isSeen_145 : decode cX9_isSeen 145 = .ok (.iload 5, 2) := by decide +kernel
theorem dX9_isSeen_147 : decode cX9_isSeen 147 = .ok (.i2l, 1) := by decide +kernel
theorem dX9_isSeen_148 : decode cX9_isSeen 148 = .ok (.lmul, 1) := by decide +kernel
theorem dX9_isSeen_149 : decode cX9_isSeen 149 = .ok (.ladd, 1) := by decide +kernel
theorem dX9_isSeen_150 : decode cX9_isSeen 150 = .ok (.lstore 14, 2) := by decide +kernel
theorem dX9_isSeen_152 : decode cX9_isSeen 152 = .ok (.lload 10, 2) := by decide +kernel
theorem dX9_isSeen_154 : decode cX9_isSeen 154 = .ok (.ldc2_w 126, 3) := by decide +kernel
theorem dX9_isSeen_157 : decode cX9_isSeen 157 = .ok (.aload_n 0, 1) := by decide +kernel
theorem dX9_isSeen_158 : decode cX9_isSeen 158 = .ok (.getfield 22, 3) := by decide +kernel
theorem dX9_isSeen_161 : decode cX9_isSeen 161 = .ok (.i2l, 1) := by decide +kernel
theorem dX9_isSeen_162 : decode cX9_isSeen 162 = .ok (.lmul, 1) := by decide +kernel
theorem dX9_isSeen_163 : decode cX9_isSeen 163 = .ok (.aload_n 0, 1) := by decide +kernel
theorem dX9_isSeen_164 : decode cX9_isSeen 164 = .ok (.getfield 22, 3) := by decide +kernel
theorem dX9_isSeen_167 : decode cX9_isSeen 167 = .ok (.i2l, 1) := by decide +kernel
theorem dX9_isSeen_168 : decode cX9_isSeen 168 = .ok (.lmul, 1) := by decide +kernel
theorem dX9_isSeen_169 : decode cX9_isSeen 169 = .ok (.lcmp, 1) := by decide +kernel
theorem dX9_isSeen_170 : decode cX9_isSeen 170 = .ok (.ifCond .gt 27, 3) := by decide +kernel
theorem dX9_isSeen_173 : decode cX9_isSeen 173 = .ok (.ldc2_w 128, 3) := by decide +kernel
theorem dX9_isSeen_176 : decode cX9_isSeen 176 = .ok (.lload 12, 2) := by decide +kernel
theorem dX9_isSeen_178 : decode cX9_isSeen 178 = .ok (.lmul, 1) := by decide +kernel
theorem dX9_isSeen_179 : decode cX9_isSeen 179 = .ok (.lload 12, 2) := by decide +kernel
theorem dX9_isSeen_181 : decode cX9_isSeen 181 = .ok (.lmul, 1) := by decide +kernel
theorem dX9_isSeen_182 : decode cX9_isSeen 182 = .ok (.aload_n 0, 1) := by decide +kernel
theorem dX9_isSeen_183 : decode cX9_isSeen 183 = .ok (.getfield 26, 3) := by decide +kernel
theorem dX9_isSeen_186 : decode cX9_isSeen 186 = .ok (.i2l, 1) := by decide +kernel
theorem dX9_isSeen_187 : decode cX9_isSeen 187 = .ok (.lload 14, 2) := by decide +kernel
theorem dX9_isSeen_189 : decode cX9_isSeen 189 = .ok (.lmul, 1) := by decide +kernel
theorem dX9_isSeen_190 : decode cX9_isSeen 190 = .ok (.lload 10, 2) := by decide +kernel
theorem dX9_isSeen_192 : decode cX9_isSeen 192 = .ok (.lmul, 1) := by decide +kernel
theorem dX9_isSeen_193 : decode cX9_isSeen 193 = .ok (.lcmp, 1) := by decide +kernel
theorem dX9_isSeen_194 : decode cX9_isSeen 194 = .ok (.ifCond .ge 5, 3) := by decide +kernel
theorem dX9_isSeen_197 : decode cX9_isSeen 197 = .ok (.iconst 0, 1) := by decide +kernel
theorem dX9_isSeen_198 : decode cX9_isSeen 198 = .ok (.ireturn, 1) := by decide +kernel
theorem dX9_isSeen_199 : decode cX9_isSeen 199 = .ok (.iconst 1, 1) := by decide +kernel
theorem dX9_isSeen_200 : decode cX9_isSeen 200 = .ok (.istore 16, 2) := by decide +kernel
theorem dX9_isSeen_202 : decode cX9_isSeen 202 = .ok (.iconst 0, 1) := by decide +kernel
theorem dX9_isSeen_203 : decode cX9_isSeen 203 = .ok (.istore 17, 2) := by decide +kernel
theorem dX9_isSeen_205 : decode cX9_isSeen 205 = .ok (.iload 17, 2) := by decide +kernel
theorem dX9_isSeen_207 : decode cX9_isSeen 207 = .ok (.aload_n 0, 1) := by decide +kernel
theorem dX9_isSeen_208 : decode cX9_isSeen 208 = .ok (.getfield 108, 3) := by decide +kernel
theorem dX9_isSeen_211 : decode cX9_isSeen 211 = .ok (.if_icmp .ge 79, 3) := by decide +kernel
theorem dX9_isSeen_214 : decode cX9_isSeen 214 = .ok (.iload 16, 2) := by decide +kernel
theorem dX9_isSeen_216 : decode cX9_isSeen 216 = .ok (.ifCond .eq 65, 3) := by decide +kernel
theorem dX9_isSeen_219 : decode cX9_isSeen 219 = .ok (.iload 17, 2) := by decide +kernel
theorem dX9_isSeen_221 : decode cX9_isSeen 221 = .ok (.iload_n 3, 1) := by decide +kernel
theorem dX9_isSeen_222 : decode cX9_isSeen 222 = .ok (.if_icmp .eq 55, 3) := by decide +kernel
theorem dX9_isSeen_225 : decode cX9_isSeen 225 = .ok (.iconst 2, 1) := by decide +kernel
theorem dX9_isSeen_226 : decode cX9_isSeen 226 = .ok (.iload_n 1, 1) := by decide +kernel
theorem dX9_isSeen_227 : decode cX9_isSeen 227 = .ok (.imul, 1) := by decide +kernel
theorem dX9_isSeen_228 : decode cX9_isSeen 228 = .ok (.iconst 2, 1) := by decide +kernel
theorem dX9_isSeen_229 : decode cX9_isSeen 229 = .ok (.iload_n 2, 1) := by decide +kernel
theorem dX9_isSeen_230 : decode cX9_isSeen 230 = .ok (.imul, 1) := by decide +kernel
theorem dX9_isSeen_231 : decode cX9_isSeen 231 = .ok (.iload 6, 2) := by decide +kernel
theorem dX9_isSeen_233 : decode cX9_isSeen 233 = .ok (.iload 7, 2) := by decide +kernel
theorem dX9_isSeen_235 : decode cX9_isSeen 235 = .ok (.iconst 2, 1) := by decide +kernel
theorem dX9_isSeen_236 : decode cX9_isSeen 236 = .ok (.aload_n 0, 1) := by decide +kernel
theorem dX9_isSeen_237 : decode cX9_isSeen 237 = .ok (.getfield 7, 3) := by decide +kernel
theorem dX9_isSeen_240 : decode cX9_isSeen 240 = .ok (.iload 17, 2) := by decide +kernel
theorem dX9_isSeen_242 : decode cX9_isSeen 242 = .ok (.iaload, 1) := by decide +kernel
theorem dX9_isSeen_243 : decode cX9_isSeen 243 = .ok (.imul, 1) := by decide +kernel
theorem dX9_isSeen_244 : decode cX9_isSeen 244 = .ok (.iconst 2, 1) := by decide +kernel
theorem dX9_isSeen_245 : decode cX9_isSeen 245 = .ok (.aload_n 0, 1) := by decide +kernel
theorem dX9_isSeen_246 : decode cX9_isSeen 246 = .ok (.getfield 13, 3) := by decide +kernel
theorem dX9_isSeen_249 : decode cX9_isSeen 249 = .ok (.iload 17, 2) := by decide +kernel
theorem dX9_isSeen_251 : decode cX9_isSeen 251 = .ok (.iaload, 1) := by decide +kernel
theorem dX9_isSeen_252 : decode cX9_isSeen 252 = .ok (.imul, 1) := by decide +kernel
theorem dX9_isSeen_253 : decode cX9_isSeen 253 = .ok (.iconst 2, 1) := by decide +kernel
theorem dX9_isSeen_254 : decode cX9_isSeen 254 = .ok (.aload_n 0, 1) := by decide +kernel
theorem dX9_isSeen_255 : decode cX9_isSeen 255 = .ok (.getfield 16, 3) := by decide +kernel
theorem dX9_isSeen_258 : decode cX9_isSeen 258 = .ok (.iload 17, 2) := by decide +kernel
theorem dX9_isSeen_260 : decode cX9_isSeen 260 = .ok (.iaload, 1) := by decide +kernel
theorem dX9_isSeen_261 : decode cX9_isSeen 261 = .ok (.imul, 1) := by decide +kernel
theorem dX9_isSeen_262 : decode cX9_isSeen 262 = .ok (.iconst 2, 1) := by decide +kernel
theorem dX9_isSeen_263 : decode cX9_isSeen 263 = .ok (.aload_n 0, 1) := by decide +kernel
theorem dX9_isSeen_264 : decode cX9_isSeen 264 = .ok (.getfield 19, 3) := by decide +kernel
theorem dX9_isSeen_267 : decode cX9_isSeen 267 = .ok (.iload 17, 2) := by decide +kernel
theorem dX9_isSeen_269 : decode cX9_isSeen 269 = .ok (.iaload, 1) := by decide +kernel
theorem dX9_isSeen_270 : decode cX9_isSeen 270 = .ok (.imul, 1) := by decide +kernel
theorem dX9_isSeen_271 : decode cX9_isSeen 271 = .ok (.invokestatic 130, 3) := by decide +kernel
theorem dX9_isSeen_274 : decode cX9_isSeen 274 = .ok (.ifCond .ne 7, 3) := by decide +kernel
theorem dX9_isSeen_277 : decode cX9_isSeen 277 = .ok (.iconst 1, 1) := by decide +kernel
theorem dX9_isSeen_278 : decode cX9_isSeen 278 = .ok (.goto 4, 3) := by decide +kernel
theorem dX9_isSeen_281 : decode cX9_isSeen 281 = .ok (.iconst 0, 1) := by decide +kernel
theorem dX9_isSeen_282 : decode cX9_isSeen 282 = .ok (.istore 16, 2) := by decide +kernel
theorem dX9_isSeen_284 : decode cX9_isSeen 284 = .ok (.iinc 17 1, 3) := by decide +kernel
theorem dX9_isSeen_287 : decode cX9_isSeen 287 = .ok (.goto (-82), 3) := by decide +kernel
theorem dX9_isSeen_290 : decode cX9_isSeen 290 = .ok (.iload 16, 2) := by decide +kernel
theorem dX9_isSeen_292 : decode cX9_isSeen 292 = .ok (.ireturn, 1) := by decide +kernel
theorem dX9_panel_0 : decode cX9_panel 0 = .ok (.aload_n 0, 1) := by decide +kernel
theorem dX9_panel_1 : decode cX9_panel 1 = .ok (.iconst 0, 1) := by decide +kernel
theorem dX9_panel_2 : decode cX9_panel 2 = .ok (.putfield 99, 3) := by decide +kernel
theorem dX9_panel_5 : decode cX9_panel 5 = .ok (.iload_n 1, 1) := by decide +kernel
theorem dX9_panel_6 : decode cX9_panel 6 = .ok (.iload_n 2, 1) := by decide +kernel
theorem dX9_panel_7 : decode cX9_panel 7 = .ok (.invokestatic 134, 3) := by decide +kernel
theorem dX9_panel_10 : decode cX9_panel 10 = .ok (.ifCond .ne 12, 3) := by decide +kernel
theorem dX9_panel_13 : decode cX9_panel 13 = .ok (.iload_n 3, 1) := by decide +kernel
theorem dX9_panel_14 : decode cX9_panel 14 = .ok (.iload 4, 2) := by decide +kernel
theorem dX9_panel_16 : decode cX9_panel 16 = .ok (.invokestatic 134, 3) := by decide +kernel
theorem dX9_panel_19 : decode cX9_panel 19 = .ok (.ifCond .eq 6, 3) := by decide +kernel
theorem dX9_panel_22 : decode cX9_panel 22 = .ok (.bipush (-2), 2) := by decide +kernel
theorem dX9_panel_24 : decode cX9_panel 24 = .ok (.ireturn, 1) := by decide +kernel
theorem dX9_panel_25 : decode cX9_panel 25 = .ok (.iload_n 1, 1) := by decide +kernel
theorem dX9_panel_26 : decode cX9_panel 26 = .ok (.iload_n 3, 1) := by decide +kernel
theorem dX9_panel_27 : decode cX9_panel 27 = .ok (.if_icmp .ne 12, 3) := by decide +kernel
theorem dX9_panel_30 : decode cX9_panel 30 = .ok (.iload_n 2, 1) := by decide +kernel
theorem dX9_panel_31 : decode cX9_panel 31 = .ok (.iload 4, 2) := by decide +kernel
theorem dX9_panel_33 : decode cX9_panel 33 = .ok (.if_icmp .ne 6, 3) := by decide +kernel
theorem dX9_panel_36 : decode cX9_panel 36 = .ok (.bipush (-3), 2) := by decide +kernel
theorem dX9_panel_38 : decode cX9_panel 38 = .ok (.ireturn, 1) := by decide +kernel
theorem dX9_panel_39 : decode cX9_panel 39 = .ok (.aload_n 0, 1) := by decide +kernel
theorem dX9_panel_40 : decode cX9_panel 40 = .ok (.getfield 108, 3) := by decide +kernel
theorem dX9_panel_43 : decode cX9_panel 43 = .ok (.bipush 12, 2) := by decide +kernel
theorem dX9_panel_45 : decode cX9_panel 45 = .ok (.if_icmp .ne 6, 3) := by decide +kernel
theorem dX9_panel_48 : decode cX9_panel 48 = .ok (.bipush (-4), 2) := by decide +kernel
theorem dX9_panel_50 : decode cX9_panel 50 = .ok (.ireturn, 1) := by decide +kernel
theorem dX9_panel_51 : decode cX9_panel 51 = .ok (.aload_n 0, 1) := by decide +kernel
theorem dX9_panel_52 : decode cX9_panel 52 = .ok (.getfield 7, 3) := by decide +kernel
theorem dX9_panel_55 : decode cX9_panel 55 = .ok (.aload_n 0, 1) := by decide +kernel
theorem dX9_panel_56 : decode cX9_panel 56 = .ok (.getfield 108, 3) := by decide +kernel
theorem dX9_panel_59 : decode cX9_panel 59 = .ok (.iload_n 1, 1) := by decide +kernel
theorem dX9_panel_60 : decode cX9_panel 60 = .ok (.iastore, 1) := by decide +kernel
theorem dX9_panel_61 : decode cX9_panel 61 = .ok (.aload_n 0, 1) := by decide +kernel
theorem dX9_panel_62 : decode cX9_panel 62 = .ok (.getfield 13, 3) := by decide +kernel
theorem dX9_panel_65 : decode cX9_panel 65 = .ok (.aload_n 0, 1) := by decide +kernel
theorem dX9_panel_66 : decode cX9_panel 66 = .ok (.getfield 108, 3) := by decide +kernel
theorem dX9_panel_69 : decode cX9_panel 69 = .ok (.iload_n 2, 1) := by decide +kernel
theorem dX9_panel_70 : decode cX9_panel 70 = .ok (.iastore, 1) := by decide +kernel
theorem dX9_panel_71 : decode cX9_panel 71 = .ok (.aload_n 0, 1) := by decide +kernel
theorem dX9_panel_72 : decode cX9_panel 72 = .ok (.getfield 16, 3) := by decide +kernel
theorem dX9_panel_75 : decode cX9_panel 75 = .ok (.aload_n 0, 1) := by decide +kernel
theorem dX9_panel_76 : decode cX9_panel 76 = .ok (.getfield 108, 3) := by decide +kernel
theorem dX9_panel_79 : decode cX9_panel 79 = .ok (.iload_n 3, 1) := by decide +kernel
theorem dX9_panel_80 : decode cX9_panel 80 = .ok (.iastore, 1) := by decide +kernel
theorem dX9_panel_81 : decode cX9_panel 81 = .ok (.aload_n 0, 1) := by decide +kernel
theorem dX9_panel_82 : decode cX9_panel 82 = .ok (.getfield 19, 3) := by decide +kernel
theorem dX9_panel_85 : decode cX9_panel 85 = .ok (.aload_n 0, 1) := by decide +kernel
theorem dX9_panel_86 : decode cX9_panel 86 = .ok (.getfield 108, 3) := by decide +kernel
theorem dX9_panel_89 : decode cX9_panel 89 = .ok (.iload 4, 2) := by decide +kernel
theorem dX9_panel_91 : decode cX9_panel 91 = .ok (.iastore, 1) := by decide +kernel
theorem dX9_panel_92 : decode cX9_panel 92 = .ok (.aload_n 0, 1) := by decide +kernel
theorem dX9_panel_93 : decode cX9_panel 93 = .ok (.dup, 1) := by decide +kernel
theorem dX9_panel_94 : decode cX9_panel 94 = .ok (.getfield 108, 3) := by decide +kernel
theorem dX9_panel_97 : decode cX9_panel 97 = .ok (.iconst 1, 1) := by decide +kernel
theorem dX9_panel_98 : decode cX9_panel 98 = .ok (.iadd, 1) := by decide +kernel
theorem dX9_panel_99 : decode cX9_panel 99 = .ok (.putfield 108, 3) := by decide +kernel
theorem dX9_panel_102 : decode cX9_panel 102 = .ok (.aload_n 0, 1) := by decide +kernel
theorem dX9_panel_103 : decode cX9_panel 103 = .ok (.getfield 108, 3) := by decide +kernel
theorem dX9_panel_106 : decode cX9_panel 106 = .ok (.iconst 1, 1) := by decide +kernel
theorem dX9_panel_107 : decode cX9_panel 107 = .ok (.isub, 1) := by decide +kernel
theorem dX9_panel_108 : decode cX9_panel 108 = .ok (.ireturn, 1) := by decide +kernel
theorem dX9_eye_0 : decode cX9_eye 0 = .ok (.aload_n 0, 1) := by decide +kernel
theorem dX9_eye_1 : decode cX9_eye 1 = .ok (.iconst 0, 1) := by decide +kernel
theorem dX9_eye_2 : decode cX9_eye 2 = .ok (.putfield 99, 3) := by decide +kernel
theorem dX9_eye_5 : decode cX9_eye 5 = .ok (.iload_n 1, 1) := by decide +kernel
theorem dX9_eye_6 : decode cX9_eye 6 = .ok (.i2l, 1) := by decide +kernel
theorem dX9_eye_7 : decode cX9_eye 7 = .ok (.lconst 0, 1) := by decide +kernel
theorem dX9_eye_8 : decode cX9_eye 8 = .ok (.lconst 1, 1) := by decide +kernel
theorem dX9_eye_9 : decode cX9_eye 9 = .ok (.invokestatic 104, 3) := by decide +kernel
theorem dX9_eye_12 : decode cX9_eye 12 = .ok (.ifCond .eq 33, 3) := by decide +kernel
theorem dX9_eye_15 : decode cX9_eye 15 = .ok (.iload_n 2, 1) := by decide +kernel
theorem dX9_eye_16 : decode cX9_eye 16 = .ok (.i2l, 1) := by decide +kernel
theorem dX9_eye_17 : decode cX9_eye 17 = .ok (.iload_n 1, 1) := by decide +kernel
theorem dX9_eye_18 : decode cX9_eye 18 = .ok (.ifCond .ne 7, 3) := by decide +kernel
theorem dX9_eye_21 : decode cX9_eye 21 = .ok (.lconst 1, 1) := by decide +kernel
theorem dX9_eye_22 : decode cX9_eye 22 = .ok (.goto 4, 3) := by decide +kernel
theorem dX9_eye_25 : decode cX9_eye 25 = .ok (.lconst 0, 1) := by decide +kernel
theorem dX9_eye_26 : decode cX9_eye 26 = .ok (.iload_n 1, 1) := by decide +kernel
theorem dX9_eye_27 : decode cX9_eye 27 = .ok (.ifCond .ne 9, 3) := by decide +kernel
theorem dX9_eye_30 : decode cX9_eye 30 = .ok (.ldc2_w 138, 3) := by decide +kernel
theorem dX9_eye_33 : decode cX9_eye 33 = .ok (.goto 6, 3) := by decide +kernel
theorem dX9_eye_36 : decode cX9_eye 36 = .ok (.ldc2_w 128, 3) := by decide +kernel
theorem dX9_eye_39 : decode cX9_eye 39 = .ok (.invokestatic 104, 3) := by decide +kernel
theorem dX9_eye_42 : decode cX9_eye 42 = .ok (.ifCond .ne 6, 3) := by decide +kernel
theorem dX9_eye_45 : decode cX9_eye 45 = .ok (.bipush (-2), 2) := by decide +kernel
theorem dX9_eye_47 : decode cX9_eye 47 = .ok (.ireturn, 1) := by decide +kernel
theorem dX9_eye_48 : decode cX9_eye 48 = .ok (.iload_n 1, 1) := by decide +kernel
theorem dX9_eye_49 : decode cX9_eye 49 = .ok (.ifCond .ne 10, 3) := by decide +kernel
theorem dX9_eye_52 : decode cX9_eye 52 = .ok (.aload_n 0, 1) := by decide +kernel
theorem dX9_eye_53 : decode cX9_eye 53 = .ok (.getfield 22, 3) := by decide +kernel
theorem dX9_eye_56 : decode cX9_eye 56 = .ok (.goto 7, 3) := by decide +kernel
theorem dX9_eye_59 : decode cX9_eye 59 = .ok (.aload_n 0, 1) := by decide +kernel
theorem dX9_eye_60 : decode cX9_eye 60 = .ok (.getfield 26, 3) := by decide +kernel
theorem dX9_eye_63 : decode cX9_eye 63 = .ok (.istore_n 3, 1) := by decide +kernel
theorem dX9_eye_64 : decode cX9_eye 64 = .ok (.aload_n 0, 1) := by decide +kernel
theorem dX9_eye_65 : decode cX9_eye 65 = .ok (.iload_n 1, 1) := by decide +kernel
theorem dX9_eye_66 : decode cX9_eye 66 = .ok (.ifCond .ne 7, 3) := by decide +kernel
theorem dX9_eye_69 : decode cX9_eye 69 = .ok (.iload_n 2, 1) := by decide +kernel
theorem dX9_eye_70 : decode cX9_eye 70 = .ok (.goto 7, 3) := by decide +kernel
theorem dX9_eye_73 : decode cX9_eye 73 = .ok (.aload_n 0, 1) := by decide +kernel
theorem dX9_eye_74 : decode cX9_eye 74 = .ok (.getfield 22, 3) := by decide +kernel
theorem dX9_eye_77 : decode cX9_eye 77 = .ok (.putfield 22, 3) := by decide +kernel
theorem dX9_eye_80 : decode cX9_eye 80 = .ok (.aload_n 0, 1) := by decide +kernel
theorem dX9_eye_81 : decode cX9_eye 81 = .ok (.iload_n 1, 1) := by decide +kernel
theorem dX9_eye_82 : decode cX9_eye 82 = .ok (.ifCond .ne 10, 3) := by decide +kernel
theorem dX9_eye_85 : decode cX9_eye 85 = .ok (.aload_n 0, 1) := by decide +kernel
theorem dX9_eye_86 : decode cX9_eye 86 = .ok (.getfield 26, 3) := by decide +kernel
theorem dX9_eye_89 : decode cX9_eye 89 = .ok (.goto 4, 3) := by decide +kernel
theorem dX9_eye_92 : decode cX9_eye 92 = .ok (.iload_n 2, 1) := by decide +kernel
theorem dX9_eye_93 : decode cX9_eye 93 = .ok (.putfield 26, 3) := by decide +kernel
theorem dX9_eye_96 : decode cX9_eye 96 = .ok (.iload_n 3, 1) := by decide +kernel
theorem dX9_eye_97 : decode cX9_eye 97 = .ok (.ireturn, 1) := by decide +kernel
theorem dX9_view_0 : decode cX9_view 0 = .ok (.aload_n 0, 1) := by decide +kernel
theorem dX9_view_1 : decode cX9_view 1 = .ok (.iconst 0, 1) := by decide +kernel
theorem dX9_view_2 : decode cX9_view 2 = .ok (.putfield 99, 3) := by decide +kernel
theorem dX9_view_5 : decode cX9_view 5 = .ok (.iload_n 1, 1) := by decide +kernel
theorem dX9_view_6 : decode cX9_view 6 = .ok (.iload_n 2, 1) := by decide +kernel
theorem dX9_view_7 : decode cX9_view 7 = .ok (.invokestatic 134, 3) := by decide +kernel
theorem dX9_view_10 : decode cX9_view 10 = .ok (.ifCond .eq 6, 3) := by decide +kernel
theorem dX9_view_13 : decode cX9_view 13 = .ok (.bipush (-2), 2) := by decide +kernel
theorem dX9_view_15 : decode cX9_view 15 = .ok (.ireturn, 1) := by decide +kernel
theorem dX9_view_16 : decode cX9_view 16 = .ok (.aload_n 0, 1) := by decide +kernel
theorem dX9_view_17 : decode cX9_view 17 = .ok (.getfield 111, 3) := by decide +kernel
theorem dX9_view_20 : decode cX9_view 20 = .ok (.bipush 10, 2) := by decide +kernel
theorem dX9_view_22 : decode cX9_view 22 = .ok (.if_icmp .ne 6, 3) := by decide +kernel
theorem dX9_view_25 : decode cX9_view 25 = .ok (.bipush (-4), 2) := by decide +kernel
theorem dX9_view_27 : decode cX9_view 27 = .ok (.ireturn, 1) := by decide +kernel
theorem dX9_view_28 : decode cX9_view 28 = .ok (.aload_n 0, 1) := by decide +kernel
theorem dX9_view_29 : decode cX9_view 29 = .ok (.getfield 29, 3) := by decide +kernel
theorem dX9_view_32 : decode cX9_view 32 = .ok (.aload_n 0, 1) := by decide +kernel
theorem dX9_view_33 : decode cX9_view 33 = .ok (.getfield 111, 3) := by decide +kernel
theorem dX9_view_36 : decode cX9_view 36 = .ok (.iload_n 1, 1) := by decide +kernel
theorem dX9_view_37 : decode cX9_view 37 = .ok (.iastore, 1) := by decide +kernel
theorem dX9_view_38 : decode cX9_view 38 = .ok (.aload_n 0, 1) := by decide +kernel
theorem dX9_view_39 : decode cX9_view 39 = .ok (.getfield 32, 3) := by decide +kernel
theorem dX9_view_42 : decode cX9_view 42 = .ok (.aload_n 0, 1) := by decide +kernel
theorem dX9_view_43 : decode cX9_view 43 = .ok (.getfield 111, 3) := by decide +kernel
theorem dX9_view_46 : decode cX9_view 46 = .ok (.iload_n 2, 1) := by decide +kernel
theorem dX9_view_47 : decode cX9_view 47 = .ok (.iastore, 1) := by decide +kernel
theorem dX9_view_48 : decode cX9_view 48 = .ok (.aload_n 0, 1) := by decide +kernel
theorem dX9_view_49 : decode cX9_view 49 = .ok (.dup, 1) := by decide +kernel
theorem dX9_view_50 : decode cX9_view 50 = .ok (.getfield 111, 3) := by decide +kernel
theorem dX9_view_53 : decode cX9_view 53 = .ok (.iconst 1, 1) := by decide +kernel
theorem dX9_view_54 : decode cX9_view 54 = .ok (.iadd, 1) := by decide +kernel
theorem dX9_view_55 : decode cX9_view 55 = .ok (.putfield 111, 3) := by decide +kernel
theorem dX9_view_58 : decode cX9_view 58 = .ok (.aload_n 0, 1) := by decide +kernel
theorem dX9_view_59 : decode cX9_view 59 = .ok (.getfield 111, 3) := by decide +kernel
theorem dX9_view_62 : decode cX9_view 62 = .ok (.iconst 1, 1) := by decide +kernel
theorem dX9_view_63 : decode cX9_view 63 = .ok (.isub, 1) := by decide +kernel
theorem dX9_view_64 : decode cX9_view 64 = .ok (.ireturn, 1) := by decide +kernel
theorem dX9_seen_0 : decode cX9_seen 0 = .ok (.aload_n 0, 1) := by decide +kernel
theorem dX9_seen_1 : decode cX9_seen 1 = .ok (.iconst 0, 1) := by decide +kernel
theorem dX9_seen_2 : decode cX9_seen 2 = .ok (.putfield 99, 3) := by decide +kernel
theorem dX9_seen_5 : decode cX9_seen 5 = .ok (.iload_n 1, 1) := by decide +kernel
theorem dX9_seen_6 : decode cX9_seen 6 = .ok (.iload_n 2, 1) := by decide +kernel
theorem dX9_seen_7 : decode cX9_seen 7 = .ok (.invokestatic 134, 3) := by decide +kernel
theorem dX9_seen_10 : decode cX9_seen 10 = .ok (.ifCond .eq 8, 3) := by decide +kernel
theorem dX9_seen_13 : decode cX9_seen 13 = .ok (.bipush (-2), 2) := by decide +kernel
theorem dX9_seen_15 : decode cX9_seen 15 = .ok (.goto 30, 3) := by decide +kernel
theorem dX9_seen_18 : decode cX9_seen 18 = .ok (.aload_n 0, 1) := by decide +kernel
theorem dX9_seen_19 : decode cX9_seen 19 = .ok (.iload_n 3, 1) := by decide +kernel
theorem dX9_seen_20 : decode cX9_seen 20 = .ok (.invokevirtual 140, 3) := by decide +kernel
theorem dX9_seen_23 : decode cX9_seen 23 = .ok (.ifCond .eq 7, 3) := by decide +kernel
theorem dX9_seen_26 : decode cX9_seen 26 = .ok (.iconst (-1), 1) := by decide +kernel
theorem dX9_seen_27 : decode cX9_seen 27 = .ok (.goto 18, 3) := by decide +kernel
theorem dX9_seen_30 : decode cX9_seen 30 = .ok (.aload_n 0, 1) := by decide +kernel
theorem dX9_seen_31 : decode cX9_seen 31 = .ok (.iload_n 1, 1) := by decide +kernel
theorem dX9_seen_32 : decode cX9_seen 32 = .ok (.iload_n 2, 1) := by decide +kernel
theorem dX9_seen_33 : decode cX9_seen 33 = .ok (.iload_n 3, 1) := by decide +kernel
theorem dX9_seen_34 : decode cX9_seen 34 = .ok (.invokevirtual 144, 3) := by decide +kernel
theorem dX9_seen_37 : decode cX9_seen 37 = .ok (.ifCond .eq 7, 3) := by decide +kernel
theorem dX9_seen_40 : decode cX9_seen 40 = .ok (.iconst 1, 1) := by decide +kernel
theorem dX9_seen_41 : decode cX9_seen 41 = .ok (.goto 4, 3) := by decide +kernel
theorem dX9_seen_44 : decode cX9_seen 44 = .ok (.iconst 0, 1) := by decide +kernel
theorem dX9_seen_45 : decode cX9_seen 45 = .ok (.ireturn, 1) := by decide +kernel
theorem dX9_seesOf_0 : decode cX9_seesOf 0 = .ok (.iconst 0, 1) := by decide +kernel
theorem dX9_seesOf_1 : decode cX9_seesOf 1 = .ok (.istore_n 2, 1) := by decide +kernel
theorem dX9_seesOf_2 : decode cX9_seesOf 2 = .ok (.iconst 0, 1) := by decide +kernel
theorem dX9_seesOf_3 : decode cX9_seesOf 3 = .ok (.istore_n 3, 1) := by decide +kernel
theorem dX9_seesOf_4 : decode cX9_seesOf 4 = .ok (.iload_n 3, 1) := by decide +kernel
theorem dX9_seesOf_5 : decode cX9_seesOf 5 = .ok (.aload_n 0, 1) := by decide +kernel
theorem dX9_seesOf_6 : decode cX9_seesOf 6 = .ok (.getfield 108, 3) := by decide +kernel
theorem dX9_seesOf_9 : decode cX9_seesOf 9 = .ok (.if_icmp .ge 39, 3) := by decide +kernel
theorem dX9_seesOf_12 : decode cX9_seesOf 12 = .ok (.iload_n 2, 1) := by decide +kernel
theorem dX9_seesOf_13 : decode cX9_seesOf 13 = .ok (.aload_n 0, 1) := by decide +kernel
theorem dX9_seesOf_14 : decode cX9_seesOf 14 = .ok (.aload_n 0, 1) := by decide +kernel
theorem dX9_seesOf_15 : decode cX9_seesOf 15 = .ok (.getfield 29, 3) := by decide +kernel
theorem dX9_seesOf_18 : decode cX9_seesOf 18 = .ok (.iload_n 1, 1) := by decide +kernel
theorem dX9_seesOf_19 : decode cX9_seesOf 19 = .ok (.iaload, 1) := by decide +kernel
theorem dX9_seesOf_20 : decode cX9_seesOf 20 = .ok (.aload_n 0, 1) := by decide +kernel
theorem dX9_seesOf_21 : decode cX9_seesOf 21 = .ok (.getfield 32, 3) := by decide +kernel
theorem dX9_seesOf_24 : decode cX9_seesOf 24 = .ok (.iload_n 1, 1) := by decide +kernel
theorem dX9_seesOf_25 : decode cX9_seesOf 25 = .ok (.iaload, 1) := by decide +kernel
theorem dX9_seesOf_26 : decode cX9_seesOf 26 = .ok (.iload_n 3, 1) := by decide +kernel
theorem dX9_seesOf_27 : decode cX9_seesOf 27 = .ok (.invokevirtual 144, 3) := by decide +kernel
theorem dX9_seesOf_30 : decode cX9_seesOf 30 = .ok (.ifCond .eq 9, 3) := by decide +kernel
theorem dX9_seesOf_33 : decode cX9_seesOf 33 = .ok (.iconst 1, 1) := by decide +kernel
theorem dX9_seesOf_34 : decode cX9_seesOf 34 = .ok (.iload_n 3, 1) := by decide +kernel
theorem dX9_seesOf_35 : decode cX9_seesOf 35 = .ok (.ishl, 1) := by decide +kernel
theorem dX9_seesOf_36 : decode cX9_seesOf 36 = .ok (.goto 4, 3) := by decide +kernel
theorem dX9_seesOf_39 : decode cX9_seesOf 39 = .ok (.iconst 0, 1) := by decide +kernel
theorem dX9_seesOf_40 : decode cX9_seesOf 40 = .ok (.ior, 1) := by decide +kernel
theorem dX9_seesOf_41 : decode cX9_seesOf 41 = .ok (.istore_n 2, 1) := by decide +kernel
theorem dX9_seesOf_42 : decode cX9_seesOf 42 = .ok (.iinc 3 1, 3) := by decide +kernel
theorem dX9_seesOf_45 : decode cX9_seesOf 45 = .ok (.goto (-41), 3) := by decide +kernel
theorem dX9_seesOf_48 : decode cX9_seesOf 48 = .ok (.iload_n 2, 1) := by decide +kernel
theorem dX9_seesOf_49 : decode cX9_seesOf 49 = .ok (.ireturn, 1) := by decide +kernel
theorem dX9_sees_0 : decode cX9_sees 0 = .ok (.aload_n 0, 1) := by decide +kernel
theorem dX9_sees_1 : decode cX9_sees 1 = .ok (.iconst 0, 1) := by decide +kernel
theorem dX9_sees_2 : decode cX9_sees 2 = .ok (.putfield 99, 3) := by decide +kernel
theorem dX9_sees_5 : decode cX9_sees 5 = .ok (.iload_n 1, 1) := by decide +kernel
theorem dX9_sees_6 : decode cX9_sees 6 = .ok (.i2l, 1) := by decide +kernel
theorem dX9_sees_7 : decode cX9_sees 7 = .ok (.lconst 0, 1) := by decide +kernel
theorem dX9_sees_8 : decode cX9_sees 8 = .ok (.aload_n 0, 1) := by decide +kernel
theorem dX9_sees_9 : decode cX9_sees 9 = .ok (.getfield 111, 3) := by decide +kernel
theorem dX9_sees_12 : decode cX9_sees 12 = .ok (.iconst 1, 1) := by decide +kernel
theorem dX9_sees_13 : decode cX9_sees 13 = .ok (.isub, 1) := by decide +kernel
theorem dX9_sees_14 : decode cX9_sees 14 = .ok (.i2l, 1) := by decide +kernel
theorem dX9_sees_15 : decode cX9_sees 15 = .ok (.invokestatic 104, 3) := by decide +kernel
theorem dX9_sees_18 : decode cX9_sees 18 = .ok (.ifCond .eq 11, 3) := by decide +kernel
theorem dX9_sees_21 : decode cX9_sees 21 = .ok (.aload_n 0, 1) := by decide +kernel
theorem dX9_sees_22 : decode cX9_sees 22 = .ok (.iload_n 1, 1) := by decide +kernel
theorem dX9_sees_23 : decode cX9_sees 23 = .ok (.invokevirtual 148, 3) := by decide +kernel
theorem dX9_sees_26 : decode cX9_sees 26 = .ok (.goto 4, 3) := by decide +kernel
theorem dX9_sees_29 : decode cX9_sees 29 = .ok (.iconst (-1), 1) := by decide +kernel
theorem dX9_sees_30 : decode cX9_sees 30 = .ok (.ireturn, 1) := by decide +kernel
theorem dX9_look_0 : decode cX9_look 0 = .ok (.iconst 0, 1) := by decide +kernel
theorem dX9_look_1 : decode cX9_look 1 = .ok (.istore_n 1, 1) := by decide +kernel
theorem dX9_look_2 : decode cX9_look 2 = .ok (.iload_n 1, 1) := by decide +kernel
theorem dX9_look_3 : decode cX9_look 3 = .ok (.aload_n 0, 1) := by decide +kernel
theorem dX9_look_4 : decode cX9_look 4 = .ok (.getfield 111, 3) := by decide +kernel
theorem dX9_look_7 : decode cX9_look 7 = .ok (.if_icmp .ge 20, 3) := by decide +kernel
theorem dX9_look_10 : decode cX9_look 10 = .ok (.aload_n 0, 1) := by decide +kernel
theorem dX9_look_11 : decode cX9_look 11 = .ok (.getfield 87, 3) := by decide +kernel
theorem dX9_look_14 : decode cX9_look 14 = .ok (.iload_n 1, 1) := by decide +kernel
theorem dX9_look_15 : decode cX9_look 15 = .ok (.aload_n 0, 1) := by decide +kernel
theorem dX9_look_16 : decode cX9_look 16 = .ok (.iload_n 1, 1) := by decide +kernel
theorem dX9_look_17 : decode cX9_look 17 = .ok (.invokevirtual 148, 3) := by decide +kernel
theorem dX9_look_20 : decode cX9_look 20 = .ok (.iastore, 1) := by decide +kernel
theorem dX9_look_21 : decode cX9_look 21 = .ok (.iinc 1 1, 3) := by decide +kernel
theorem dX9_look_24 : decode cX9_look 24 = .ok (.goto (-22), 3) := by decide +kernel
theorem dX9_look_27 : decode cX9_look 27 = .ok (.return_, 1) := by decide +kernel
theorem dX9_timesOf_0 : decode cX9_timesOf 0 = .ok (.ldc 151, 2) := by decide +kernel
theorem dX9_timesOf_2 : decode cX9_timesOf 2 = .ok (.istore_n 2, 1) := by decide +kernel
theorem dX9_timesOf_3 : decode cX9_timesOf 3 = .ok (.iconst 0, 1) := by decide +kernel
theorem dX9_timesOf_4 : decode cX9_timesOf 4 = .ok (.istore_n 3, 1) := by decide +kernel
theorem dX9_timesOf_5 : decode cX9_timesOf 5 = .ok (.iload_n 3, 1) := by decide +kernel
theorem dX9_timesOf_6 : decode cX9_timesOf 6 = .ok (.aload_n 0, 1) := by decide +kernel
theorem dX9_timesOf_7 : decode cX9_timesOf 7 = .ok (.getfield 108, 3) := by decide +kernel
theorem dX9_timesOf_10 : decode cX9_timesOf 10 = .ok (.if_icmp .ge 73, 3) := by decide +kernel
theorem dX9_timesOf_13 : decode cX9_timesOf 13 = .ok (.iconst 0, 1) := by decide +kernel
theorem dX9_timesOf_14 : decode cX9_timesOf 14 = .ok (.istore 4, 2) := by decide +kernel
theorem dX9_timesOf_16 : decode cX9_timesOf 16 = .ok (.iconst 0, 1) := by decide +kernel
theorem dX9_timesOf_17 : decode cX9_timesOf 17 = .ok (.istore 5, 2) := by decide +kernel
theorem dX9_timesOf_19 : decode cX9_timesOf 19 = .ok (.iload 5, 2) := by decide +kernel
theorem dX9_timesOf_21 : decode cX9_timesOf 21 = .ok (.aload_n 0, 1) := by decide +kernel
theorem dX9_timesOf_22 : decode cX9_timesOf 22 = .ok (.getfield 111, 3) := by decide +kernel
theorem dX9_timesOf_25 : decode cX9_timesOf 25 = .ok (.if_icmp .ge 39, 3) := by decide +kernel
theorem dX9_timesOf_28 : decode cX9_timesOf 28 = .ok (.iload 4, 2) := by decide +kernel
theorem dX9_timesOf_30 : decode cX9_timesOf 30 = .ok (.iload_n 1, 1) := by decide +kernel
theorem dX9_timesOf_31 : decode cX9_timesOf 31 = .ok (.iload 5, 2) := by decide +kernel
theorem dX9_timesOf_33 : decode cX9_timesOf 33 = .ok (.ishr, 1) := by decide +kernel
theorem dX9_timesOf_34 : decode cX9_timesOf 34 = .ok (.iconst 1, 1) := by decide +kernel
theorem dX9_timesOf_35 : decode cX9_timesOf 35 = .ok (.iand, 1) := by decide +kernel
theorem dX9_timesOf_36 : decode cX9_timesOf 36 = .ok (.iconst 1, 1) := by decide +kernel
theorem dX9_timesOf_37 : decode cX9_timesOf 37 = .ok (.if_icmp .ne 17, 3) := by decide +kernel
theorem dX9_timesOf_40 : decode cX9_timesOf 40 = .ok (.aload_n 0, 1) := by decide +kernel
theorem dX9_timesOf_41 : decode cX9_timesOf 41 = .ok (.getfield 87, 3) := by decide +kernel
theorem dX9_timesOf_44 : decode cX9_timesOf 44 = .ok (.iload 5, 2) := by decide +kernel
theorem dX9_timesOf_46 : decode cX9_timesOf 46 = .ok (.iaload, 1) := by decide +kernel
theorem dX9_timesOf_47 : decode cX9_timesOf 47 = .ok (.iload_n 3, 1) := by decide +kernel
theorem dX9_timesOf_48 : decode cX9_timesOf 48 = .ok (.ishr, 1) := by decide +kernel
theorem dX9_timesOf_49 : decode cX9_timesOf 49 = .ok (.iconst 1, 1) := by decide +kernel
theorem dX9_timesOf_50 : decode cX9_timesOf 50 = .ok (.iand, 1) := by decide +kernel
theorem dX9_timesOf_51 : decode cX9_timesOf 51 = .ok (.goto 4, 3) := by decide +kernel
theorem dX9_timesOf_54 : decode cX9_timesOf 54 = .ok (.iconst 0, 1) := by decide +kernel
theorem dX9_timesOf_55 : decode cX9_timesOf 55 = .ok (.iadd, 1) := by decide +kernel
theorem dX9_timesOf_56 : decode cX9_timesOf 56 = .ok (.istore 4, 2) := by decide +kernel
theorem dX9_timesOf_58 : decode cX9_timesOf 58 = .ok (.iinc 5 1, 3) := by decide +kernel
theorem dX9_timesOf_61 : decode cX9_timesOf 61 = .ok (.goto (-42), 3) := by decide +kernel
theorem dX9_timesOf_64 : decode cX9_timesOf 64 = .ok (.iload 4, 2) := by decide +kernel
theorem dX9_timesOf_66 : decode cX9_timesOf 66 = .ok (.iload_n 2, 1) := by decide +kernel
theorem dX9_timesOf_67 : decode cX9_timesOf 67 = .ok (.if_icmp .ge 8, 3) := by decide +kernel
theorem dX9_timesOf_70 : decode cX9_timesOf 70 = .ok (.iload 4, 2) := by decide +kernel
theorem dX9_timesOf_72 : decode cX9_timesOf 72 = .ok (.goto 4, 3) := by decide +kernel
theorem dX9_timesOf_75 : decode cX9_timesOf 75 = .ok (.iload_n 2, 1) := by decide +kernel
theorem dX9_timesOf_76 : decode cX9_timesOf 76 = .ok (.istore_n 2, 1) := by decide +kernel
theorem dX9_timesOf_77 : decode cX9_timesOf 77 = .ok (.iinc 3 1, 3) := by decide +kernel
theorem dX9_timesOf_80 : decode cX9_timesOf 80 = .ok (.goto (-75), 3) := by decide +kernel
theorem dX9_timesOf_83 : decode cX9_timesOf 83 = .ok (.iload_n 2, 1) := by decide +kernel
theorem dX9_timesOf_84 : decode cX9_timesOf 84 = .ok (.ireturn, 1) := by decide +kernel
theorem dX9_bits_0 : decode cX9_bits 0 = .ok (.iconst 0, 1) := by decide +kernel
theorem dX9_bits_1 : decode cX9_bits 1 = .ok (.istore_n 1, 1) := by decide +kernel
theorem dX9_bits_2 : decode cX9_bits 2 = .ok (.iconst 0, 1) := by decide +kernel
theorem dX9_bits_3 : decode cX9_bits 3 = .ok (.istore_n 2, 1) := by decide +kernel
theorem dX9_bits_4 : decode cX9_bits 4 = .ok (.iload_n 2, 1) := by decide +kernel
theorem dX9_bits_5 : decode cX9_bits 5 = .ok (.bipush 10, 2) := by decide +kernel
theorem dX9_bits_7 : decode cX9_bits 7 = .ok (.if_icmp .ge 17, 3) := by decide +kernel
theorem dX9_bits_10 : decode cX9_bits 10 = .ok (.iload_n 1, 1) := by decide +kernel
theorem dX9_bits_11 : decode cX9_bits 11 = .ok (.iload_n 0, 1) := by decide +kernel
theorem dX9_bits_12 : decode cX9_bits 12 = .ok (.iload_n 2, 1) := by decide +kernel
theorem dX9_bits_13 : decode cX9_bits 13 = .ok (.ishr, 1) := by decide +kernel
theorem dX9_bits_14 : decode cX9_bits 14 = .ok (.iconst 1, 1) := by decide +kernel
theorem dX9_bits_15 : decode cX9_bits 15 = .ok (.iand, 1) := by decide +kernel
theorem dX9_bits_16 : decode cX9_bits 16 = .ok (.iadd, 1) := by decide +kernel
theorem dX9_bits_17 : decode cX9_bits 17 = .ok (.istore_n 1, 1) := by decide +kernel
theorem dX9_bits_18 : decode cX9_bits 18 = .ok (.iinc 2 1, 3) := by decide +kernel
theorem dX9_bits_21 : decode cX9_bits 21 = .ok (.goto (-17), 3) := by decide +kernel
theorem dX9_bits_24 : decode cX9_bits 24 = .ok (.iload_n 1, 1) := by decide +kernel
theorem dX9_bits_25 : decode cX9_bits 25 = .ok (.ireturn, 1) := by decide +kernel
theorem dX9_cover_0 : decode cX9_cover 0 = .ok (.aload_n 0, 1) := by decide +kernel
theorem dX9_cover_1 : decode cX9_cover 1 = .ok (.iconst 0, 1) := by decide +kernel
theorem dX9_cover_2 : decode cX9_cover 2 = .ok (.putfield 99, 3) := by decide +kernel
theorem dX9_cover_5 : decode cX9_cover 5 = .ok (.iload_n 1, 1) := by decide +kernel
theorem dX9_cover_6 : decode cX9_cover 6 = .ok (.i2l, 1) := by decide +kernel
theorem dX9_cover_7 : decode cX9_cover 7 = .ok (.lconst 1, 1) := by decide +kernel
theorem dX9_cover_8 : decode cX9_cover 8 = .ok (.ldc2_w 152, 3) := by decide +kernel
theorem dX9_cover_11 : decode cX9_cover 11 = .ok (.invokestatic 104, 3) := by decide +kernel
theorem dX9_cover_14 : decode cX9_cover 14 = .ok (.ifCond .ne 6, 3) := by decide +kernel
theorem dX9_cover_17 : decode cX9_cover 17 = .ok (.bipush (-2), 2) := by decide +kernel
theorem dX9_cover_19 : decode cX9_cover 19 = .ok (.ireturn, 1) := by decide +kernel
theorem dX9_cover_20 : decode cX9_cover 20 = .ok (.aload_n 0, 1) := by decide +kernel
theorem dX9_cover_21 : decode cX9_cover 21 = .ok (.invokevirtual 154, 3) := by decide +kernel
theorem dX9_cover_24 : decode cX9_cover 24 = .ok (.bipush (-9), 2) := by decide +kernel
theorem dX9_cover_26 : decode cX9_cover 26 = .ok (.istore_n 2, 1) := by decide +kernel
theorem dX9_cover_27 : decode cX9_cover 27 = .ok (.iconst 0, 1) := by decide +kernel
theorem dX9_cover_28 : decode cX9_cover 28 = .ok (.istore_n 3, 1) := by decide +kernel
theorem dX9_cover_29 : decode cX9_cover 29 = .ok (.iload_n 3, 1) := by decide +kernel
theorem dX9_cover_30 : decode cX9_cover 30 = .ok (.iconst 1, 1) := by decide +kernel
theorem dX9_cover_31 : decode cX9_cover 31 = .ok (.aload_n 0, 1) := by decide +kernel
theorem dX9_cover_32 : decode cX9_cover 32 = .ok (.getfield 111, 3) := by decide +kernel
theorem dX9_cover_35 : decode cX9_cover 35 = .ok (.ishl, 1) := by decide +kernel
theorem dX9_cover_36 : decode cX9_cover 36 = .ok (.if_icmp .ge 41, 3) := by decide +kernel
theorem dX9_cover_39 : decode cX9_cover 39 = .ok (.iload_n 2, 1) := by decide +kernel
theorem dX9_cover_40 : decode cX9_cover 40 = .ok (.bipush (-9), 2) := by decide +kernel
theorem dX9_cover_42 : decode cX9_cover 42 = .ok (.if_icmp .eq 14, 3) := by decide +kernel
theorem dX9_cover_45 : decode cX9_cover 45 = .ok (.iload_n 3, 1) := by decide +kernel
theorem dX9_cover_46 : decode cX9_cover 46 = .ok (.invokestatic 157, 3) := by decide +kernel
theorem dX9_cover_49 : decode cX9_cover 49 = .ok (.iload_n 2, 1) := by decide +kernel
theorem dX9_cover_50 : decode cX9_cover 50 = .ok (.invokestatic 157, 3) := by decide +kernel
theorem dX9_cover_53 : decode cX9_cover 53 = .ok (.if_icmp .ge 16, 3) := by decide +kernel
theorem dX9_cover_56 : decode cX9_cover 56 = .ok (.aload_n 0, 1) := by decide +kernel
theorem dX9_cover_57 : decode cX9_cover 57 = .ok (.iload_n 3, 1) := by decide +kernel
theorem dX9_cover_58 : decode cX9_cover 58 = .ok (.invokevirtual 160, 3) := by decide +kernel
theorem dX9_cover_61 : decode cX9_cover 61 = .ok (.iload_n 1, 1) := by decide +kernel
theorem dX9_cover_62 : decode cX9_cover 62 = .ok (.if_icmp .lt 7, 3) := by decide +kernel
theorem dX9_cover_65 : decode cX9_cover 65 = .ok (.iload_n 3, 1) := by decide +kernel
theorem dX9_cover_66 : decode cX9_cover 66 = .ok (.goto 4, 3) := by decide +kernel
theorem dX9_cover_69 : decode cX9_cover 69 = .ok (.iload_n 2, 1) := by decide +kernel
theorem dX9_cover_70 : decode cX9_cover 70 = .ok (.istore_n 2, 1) := by decide +kernel
theorem dX9_cover_71 : decode cX9_cover 71 = .ok (.iinc 3 1, 3) := by decide +kernel
theorem dX9_cover_74 : decode cX9_cover 74 = .ok (.goto (-45), 3) := by decide +kernel
theorem dX9_cover_77 : decode cX9_cover 77 = .ok (.iload_n 2, 1) := by decide +kernel
theorem dX9_cover_78 : decode cX9_cover 78 = .ok (.ireturn, 1) := by decide +kernel
theorem dX9_covers_0 : decode cX9_covers 0 = .ok (.aload_n 0, 1) := by decide +kernel
theorem dX9_covers_1 : decode cX9_covers 1 = .ok (.iconst 0, 1) := by decide +kernel
theorem dX9_covers_2 : decode cX9_covers 2 = .ok (.putfield 99, 3) := by decide +kernel
theorem dX9_covers_5 : decode cX9_covers 5 = .ok (.aload_n 0, 1) := by decide +kernel
theorem dX9_covers_6 : decode cX9_covers 6 = .ok (.iload_n 1, 1) := by decide +kernel
theorem dX9_covers_7 : decode cX9_covers 7 = .ok (.invokevirtual 163, 3) := by decide +kernel
theorem dX9_covers_10 : decode cX9_covers 10 = .ok (.ifCond .eq 5, 3) := by decide +kernel
theorem dX9_covers_13 : decode cX9_covers 13 = .ok (.iconst (-1), 1) := by decide +kernel
theorem dX9_covers_14 : decode cX9_covers 14 = .ok (.ireturn, 1) := by decide +kernel
theorem dX9_covers_15 : decode cX9_covers 15 = .ok (.iload_n 2, 1) := by decide +kernel
theorem dX9_covers_16 : decode cX9_covers 16 = .ok (.i2l, 1) := by decide +kernel
theorem dX9_covers_17 : decode cX9_covers 17 = .ok (.lconst 1, 1) := by decide +kernel
theorem dX9_covers_18 : decode cX9_covers 18 = .ok (.ldc2_w 152, 3) := by decide +kernel
theorem dX9_covers_21 : decode cX9_covers 21 = .ok (.invokestatic 104, 3) := by decide +kernel
theorem dX9_covers_24 : decode cX9_covers 24 = .ok (.ifCond .ne 6, 3) := by decide +kernel
theorem dX9_covers_27 : decode cX9_covers 27 = .ok (.bipush (-2), 2) := by decide +kernel
theorem dX9_covers_29 : decode cX9_covers 29 = .ok (.ireturn, 1) := by decide +kernel
theorem dX9_covers_30 : decode cX9_covers 30 = .ok (.aload_n 0, 1) := by decide +kernel
theorem dX9_covers_31 : decode cX9_covers 31 = .ok (.invokevirtual 154, 3) := by decide +kernel
theorem dX9_covers_34 : decode cX9_covers 34 = .ok (.aload_n 0, 1) := by decide +kernel
theorem dX9_covers_35 : decode cX9_covers 35 = .ok (.iload_n 1, 1) := by decide +kernel
theorem dX9_covers_36 : decode cX9_covers 36 = .ok (.invokevirtual 160, 3) := by decide +kernel
theorem dX9_covers_39 : decode cX9_covers 39 = .ok (.iload_n 2, 1) := by decide +kernel
theorem dX9_covers_40 : decode cX9_covers 40 = .ok (.if_icmp .lt 7, 3) := by decide +kernel
theorem dX9_covers_43 : decode cX9_covers 43 = .ok (.iconst 1, 1) := by decide +kernel
theorem dX9_covers_44 : decode cX9_covers 44 = .ok (.goto 4, 3) := by decide +kernel
theorem dX9_covers_47 : decode cX9_covers 47 = .ok (.iconst 0, 1) := by decide +kernel
theorem dX9_covers_48 : decode cX9_covers 48 = .ok (.ireturn, 1) := by decide +kernel
theorem dX9_times_0 : decode cX9_times 0 = .ok (.aload_n 0, 1) := by decide +kernel
theorem dX9_times_1 : decode cX9_times 1 = .ok (.iconst 0, 1) := by decide +kernel
theorem dX9_times_2 : decode cX9_times 2 = .ok (.putfield 99, 3) := by decide +kernel
theorem dX9_times_5 : decode cX9_times 5 = .ok (.aload_n 0, 1) := by decide +kernel
theorem dX9_times_6 : decode cX9_times 6 = .ok (.iload_n 1, 1) := by decide +kernel
theorem dX9_times_7 : decode cX9_times 7 = .ok (.invokevirtual 163, 3) := by decide +kernel
theorem dX9_times_10 : decode cX9_times 10 = .ok (.ifCond .eq 5, 3) := by decide +kernel
theorem dX9_times_13 : decode cX9_times 13 = .ok (.iconst (-1), 1) := by decide +kernel
theorem dX9_times_14 : decode cX9_times 14 = .ok (.ireturn, 1) := by decide +kernel
theorem dX9_times_15 : decode cX9_times 15 = .ok (.aload_n 0, 1) := by decide +kernel
theorem dX9_times_16 : decode cX9_times 16 = .ok (.invokevirtual 154, 3) := by decide +kernel
theorem dX9_times_19 : decode cX9_times 19 = .ok (.aload_n 0, 1) := by decide +kernel
theorem dX9_times_20 : decode cX9_times 20 = .ok (.getfield 108, 3) := by decide +kernel
theorem dX9_times_23 : decode cX9_times 23 = .ok (.ifCond .ne 8, 3) := by decide +kernel
theorem dX9_times_26 : decode cX9_times 26 = .ok (.bipush (-9), 2) := by decide +kernel
theorem dX9_times_28 : decode cX9_times 28 = .ok (.goto 8, 3) := by decide +kernel
theorem dX9_times_31 : decode cX9_times 31 = .ok (.aload_n 0, 1) := by decide +kernel
theorem dX9_times_32 : decode cX9_times 32 = .ok (.iload_n 1, 1) := by decide +kernel
theorem dX9_times_33 : decode cX9_times 33 = .ok (.invokevirtual 160, 3) := by decide +kernel
theorem dX9_times_36 : decode cX9_times 36 = .ok (.ireturn, 1) := by decide +kernel
theorem dX9_isInside_0 : decode cX9_isInside 0 = .ok (.iload_n 2, 1) := by decide +kernel
theorem dX9_isInside_1 : decode cX9_isInside 1 = .ok (.iload 4, 2) := by decide +kernel
theorem dX9_isInside_3 : decode cX9_isInside 3 = .ok (.if_icmp .ne 67, 3) := by decide +kernel
theorem dX9_isInside_6 : decode cX9_isInside 6 = .ok (.iload_n 3, 1) := by decide +kernel
theorem dX9_isInside_7 : decode cX9_isInside 7 = .ok (.iload 5, 2) := by decide +kernel
theorem dX9_isInside_9 : decode cX9_isInside 9 = .ok (.if_icmp .ne 61, 3) := by decide +kernel
theorem dX9_isInside_12 : decode cX9_isInside 12 = .ok (.iload_n 2, 1) := by decide +kernel
theorem dX9_isInside_13 : decode cX9_isInside 13 = .ok (.i2l, 1) := by decide +kernel
theorem dX9_isInside_14 : decode cX9_isInside 14 = .ok (.aload_n 0, 1) := by decide +kernel
theorem dX9_isInside_15 : decode cX9_isInside 15 = .ok (.getfield 35, 3) := by decide +kernel
theorem dX9_isInside_18 : decode cX9_isInside 18 = .ok (.iload_n 1, 1) := by decide +kernel
theorem dX9_isInside_19 : decode cX9_isInside 19 = .ok (.iaload, 1) := by decide +kernel
theorem dX9_isInside_20 : decode cX9_isInside 20 = .ok (.iconst 1, 1) := by decide +kernel
theorem dX9_isInside_21 : decode cX9_isInside 21 = .ok (.iadd, 1) := by decide +kernel
theorem dX9_isInside_22 : decode cX9_isInside 22 = .ok (.i2l, 1) := by decide +kernel
theorem dX9_isInside_23 : decode cX9_isInside 23 = .ok (.aload_n 0, 1) := by decide +kernel
theorem dX9_isInside_24 : decode cX9_isInside 24 = .ok (.getfield 41, 3) := by decide +kernel
theorem dX9_isInside_27 : decode cX9_isInside 27 = .ok (.iload_n 1, 1) := by decide +kernel
theorem dX9_isInside_28 : decode cX9_isInside 28 = .ok (.iaload, 1) := by decide +kernel
theorem dX9_isInside_29 : decode cX9_isInside 29 = .ok (.iconst 1, 1) := by decide +kernel
theorem dX9_isInside_30 : decode cX9_isInside 30 = .ok (.isub, 1) := by decide +kernel
theorem dX9_isInside_31 : decode cX9_isInside 31 = .ok (.i2l, 1) := by decide +kernel
theorem dX9_isInside_32 : decode cX9_isInside 32 = .ok (.invokestatic 104, 3) := by decide +kernel
theorem dX9_isInside_35 : decode cX9_isInside 35 = .ok (.ifCond .eq 33, 3) := by decide +kernel
theorem dX9_isInside_38 : decode cX9_isInside 38 = .ok (.iload_n 3, 1) := by decide +kernel
theorem dX9_isInside_39 : decode cX9_isInside 39 = .ok (.i2l, 1) := by decide +kernel
theorem dX9_isInside_40 : decode cX9_isInside 40 = .ok (.aload_n 0, 1) := by decide +kernel
theorem dX9_isInside_41 : decode cX9_isInside 41 = .ok (.getfield 38, 3) := by decide +kernel
theorem dX9_isInside_44 : decode cX9_isInside 44 = .ok (.iload_n 1, 1) := by decide +kernel
theorem dX9_isInside_45 : decode cX9_isInside 45 = .ok (.iaload, 1) := by decide +kernel
theorem dX9_isInside_46 : decode cX9_isInside 46 = .ok (.iconst 1, 1) := by decide +kernel
theorem dX9_isInside_47 : decode cX9_isInside 47 = .ok (.iadd, 1) := by decide +kernel
theorem dX9_isInside_48 : decode cX9_isInside 48 = .ok (.i2l, 1) := by decide +kernel
theorem dX9_isInside_49 : decode cX9_isInside 49 = .ok (.aload_n 0, 1) := by decide +kernel
theorem dX9_isInside_50 : decode cX9_isInside 50 = .ok (.getfield 44, 3) := by decide +kernel
theorem dX9_isInside_53 : decode cX9_isInside 53 = .ok (.iload_n 1, 1) := by decide +kernel
theorem dX9_isInside_54 : decode cX9_isInside 54 = .ok (.iaload, 1) := by decide +kernel
theorem dX9_isInside_55 : decode cX9_isInside 55 = .ok (.iconst 1, 1) := by decide +kernel
theorem dX9_isInside_56 : decode cX9_isInside 56 = .ok (.isub, 1) := by decide +kernel
theorem dX9_isInside_57 : decode cX9_isInside 57 = .ok (.i2l, 1) := by decide +kernel
theorem dX9_isInside_58 : decode cX9_isInside 58 = .ok (.invokestatic 104, 3) := by decide +kernel
theorem dX9_isInside_61 : decode cX9_isInside 61 = .ok (.ifCond .eq 7, 3) := by decide +kernel
theorem dX9_isInside_64 : decode cX9_isInside 64 = .ok (.iconst 1, 1) := by decide +kernel
theorem dX9_isInside_65 : decode cX9_isInside 65 = .ok (.goto 4, 3) := by decide +kernel
theorem dX9_isInside_68 : decode cX9_isInside 68 = .ok (.iconst 0, 1) := by decide +kernel
theorem dX9_isInside_69 : decode cX9_isInside 69 = .ok (.ireturn, 1) := by decide +kernel
theorem dX9_isInside_70 : decode cX9_isInside 70 = .ok (.lconst 0, 1) := by decide +kernel
theorem dX9_isInside_71 : decode cX9_isInside 71 = .ok (.lstore 6, 2) := by decide +kernel
theorem dX9_isInside_73 : decode cX9_isInside 73 = .ok (.lconst 1, 1) := by decide +kernel
theorem dX9_isInside_74 : decode cX9_isInside 74 = .ok (.lstore 8, 2) := by decide +kernel
theorem dX9_isInside_76 : decode cX9_isInside 76 = .ok (.lconst 1, 1) := by decide +kernel
theorem dX9_isInside_77 : decode cX9_isInside 77 = .ok (.lstore 10, 2) := by decide +kernel
theorem dX9_isInside_79 : decode cX9_isInside 79 = .ok (.lconst 1, 1) := by decide +kernel
theorem dX9_isInside_80 : decode cX9_isInside 80 = .ok (.lstore 12, 2) := by decide +kernel
theorem dX9_isInside_82 : decode cX9_isInside 82 = .ok (.iconst 0, 1) := by decide +kernel
theorem dX9_isInside_83 : decode cX9_isInside 83 = .ok (.istore 14, 2) := by decide +kernel
theorem dX9_isInside_85 : decode cX9_isInside 85 = .ok (.iload 14, 2) := by decide +kernel
theorem dX9_isInside_87 : decode cX9_isInside 87 = .ok (.iconst 2, 1) := by decide +kernel
theorem dX9_isInside_88 : decode cX9_isInside 88 = .ok (.if_icmp .ge 209, 3) := by decide +kernel
theorem dX9_isInside_91 : decode cX9_isInside 91 = .ok (.iload 14, 2) := by decide +kernel
theorem dX9_isInside_93 : decode cX9_isInside 93 = .ok (.ifCond .ne 7, 3) := by decide +kernel
theorem dX9_isInside_96 : decode cX9_isInside 96 = .ok (.iload_n 2, 1) := by decide +kernel
theorem dX9_isInside_97 : decode cX9_isInside 97 = .ok (.goto 4, 3) := by decide +kernel
theorem dX9_isInside_100 : decode cX9_isInside 100 = .ok (.iload_n 3, 1) := by decide +kernel
theorem dX9_isInside_101 : decode cX9_isInside 101 = .ok (.istore 15, 2) := by decide +kernel
theorem dX9_isInside_103 : decode cX9_isInside 103 = .ok (.iload 14, 2) := by decide +kernel
theorem dX9_isInside_105 : decode cX9_isInside 105 = .ok (.ifCond .ne 10, 3) := by decide +kernel
theorem dX9_isInside_108 : decode cX9_isInside 108 = .ok (.iload 4, 2) := by decide +kernel
theorem dX9_isInside_110 : decode cX9_isInside 110 = .ok (.iload_n 2, 1) := by decide +kernel
theorem dX9_isInside_111 : decode cX9_isInside 111 = .ok (.isub, 1) := by decide +kernel
theorem dX9_isInside_112 : decode cX9_isInside 112 = .ok (.goto 7, 3) := by decide +kernel
theorem dX9_isInside_115 : decode cX9_isInside 115 = .ok (.iload 5, 2) := by decide +kernel
theorem dX9_isInside_117 : decode cX9_isInside 117 = .ok (.iload_n 3, 1) := by decide +kernel
theorem dX9_isInside_118 : decode cX9_isInside 118 = .ok (.isub, 1) := by decide +kernel
theorem dX9_isInside_119 : decode cX9_isInside 119 = .ok (.istore 16, 2) := by decide +kernel
theorem dX9_isInside_121 : decode cX9_isInside 121 = .ok (.iload 14, 2) := by decide +kernel
theorem dX9_isInside_123 : decode cX9_isInside 123 = .ok (.ifCond .ne 12, 3) := by decide +kernel
theorem dX9_isInside_126 : decode cX9_isInside 126 = .ok (.aload_n 0, 1) := by decide +kernel
theorem dX9_isInside_127 : decode cX9_isInside 127 = .ok (.getfield 35, 3) := by decide +kernel
theorem dX9_isInside_130 : decode cX9_isInside 130 = .ok (.iload_n 1, 1) := by decide +kernel
theorem dX9_isInside_131 : decode cX9_isInside 131 = .ok (.iaload, 1) := by decide +kernel
theorem dX9_isInside_132 : decode cX9_isInside 132 = .ok (.goto 9, 3) := by decide +kernel
theorem dX9_isInside_135 : decode cX9_isInside 135 = .ok (.aload_n 0, 1) := by decide +kernel
theorem dX9_isInside_136 : decode cX9_isInside 136 = .ok (.getfield 38, 3) := by decide +kernel
theorem dX9_isInside_139 : decode cX9_isInside 139 = .ok (.iload_n 1, 1) := by decide +kernel
theorem dX9_isInside_140 : decode cX9_isInside 140 = .ok (.iaload, 1) := by decide +kernel
theorem dX9_isInside_141 : decode cX9_isInside 141 = .ok (.istore 17, 2) := by decide +kernel
theorem dX9_isInside_143 : decode cX9_isInside 143 = .ok (.iload 14, 2) := by decide +kernel
theorem dX9_isInside_145 : decode cX9_isInside 145 = .ok (.ifCond .ne 12, 3) := by decide +kernel
theorem dX9_isInside_148 : decode cX9_isInside 148 = .ok (.aload_n 0, 1) := by decide +kernel
theorem dX9_isInside_149 : decode cX9_isInside 149 = .ok (.getfield 41, 3) := by decide +kernel
theorem dX9_isInside_152 : decode cX9_isInside 152 = .ok (.iload_n 1, 1) := by decide +kernel
theorem dX9_isInside_153 : decode cX9_isInside 153 = .ok (.iaload, 1) := by decide +kernel
theorem dX9_isInside_154 : decode cX9_isInside 154 = .ok (.goto 9, 3) := by decide +kernel
theorem dX9_isInside_157 : decode cX9_isInside 157 = .ok (.aload_n 0, 1) := by decide +kernel
theorem dX9_isInside_158 : decode cX9_isInside 158 = .ok (.getfield 44, 3) := by decide +kernel
theorem dX9_isInside_161 : decode cX9_isInside 161 = .ok (.iload_n 1, 1) := by decide +kernel
theorem dX9_isInside_162 : decode cX9_isInside 162 = .ok (.iaload, 1) := by decide +kernel
theorem dX9_isInside_163 : decode cX9_isInside 163 = .ok (.istore 18, 2) := by decide +kernel
theorem dX9_isInside_165 : decode cX9_isInside 165 = .ok (.iload 16, 2) := by decide +kernel
theorem dX9_isInside_167 : decode cX9_isInside 167 = .ok (.ifCond .ne 19, 3) := by decide +kernel
theorem dX9_isInside_170 : decode cX9_isInside 170 = .ok (.iload 15, 2) := by decide +kernel
theorem dX9_isInside_172 : decode cX9_isInside 172 = .ok (.iload 17, 2) := by decide +kernel
theorem dX9_isInside_174 : decode cX9_isInside 174 = .ok (.if_icmp .le 10, 3) := by decide +kernel
theorem dX9_isInside_177 : decode cX9_isInside 177 = .ok (.iload 15, 2) := by decide +kernel
theorem dX9_isInside_179 : decode cX9_isInside 179 = .ok (.iload 18, 2) := by decide +kernel
theorem dX9_isInside_181 : decode cX9_isInside 181 = .ok (.if_icmp .lt 110, 3) := by decide +kernel
theorem dX9_isInside_184 : decode cX9_isInside 184 = .ok (.iconst 0, 1) := by decide +kernel
theorem dX9_isInside_185 : decode cX9_isInside 185 = .ok (.ireturn, 1) := by decide +kernel
theorem dX9_isInside_186 : decode cX9_isInside 186 = .ok (.iload 16, 2) := by decide +kernel
theorem dX9_isInside_188 : decode cX9_isInside 188 = .ok (.ifCond .le 9, 3) := by decide +kernel
theorem dX9_isInside_191 : decode cX9_isInside 191 = .ok (.iload 16, 2) := by decide +kernel
theorem dX9_isInside_193 : decode cX9_isInside 193 = .ok (.i2l, 1) := by decide +kernel
theorem dX9_isInside_194 : decode cX9_isInside 194 = .ok (.goto 7, 3) := by decide +kernel
theorem dX9_isInside_197 : decode cX9_isInside 197 = .ok (.iload 16, 2) := by decide +kernel
theorem dX9_isInside_199 : decode cX9_isInside 199 = .ok (.ineg, 1) := by decide +kernel
theorem dX9_isInside_200 : decode cX9_isInside 200 = .ok (.i2l, 1) := by decide +kernel
theorem dX9_isInside_201 : decode cX9_isInside 201 = .ok (.lstore 19, 2) := by decide +kernel
theorem dX9_isInside_203 : decode cX9_isInside 203 = .ok (.iload 16, 2) := by decide +kernel
theorem dX9_isInside_205 : decode cX9_isInside 205 = .ok (.ifCond .le 12, 3) := by decide +kernel
theorem dX9_isInside_208 : decode cX9_isInside 208 = .ok (.iload 17, 2) := by decide +kernel
theorem dX9_isInside_210 : decode cX9_isInside 210 = .ok (.iload 15, 2) := by decide +kernel
theorem dX9_isInside_212 : decode cX9_isInside 212 = .ok (.isub, 1) := by decide +kernel
theorem dX9_isInside_213 : decode cX9_isInside 213 = .ok (.i2l, 1) := by decide +kernel
theorem dX9_isInside_214 : decode cX9_isInside 214 = .ok (.goto 9, 3) := by decide +kernel
theorem dX9_isInside_217 : decode cX9_isInside 217 = .ok (.iload 15, 2) := by decide +kernel
theorem dX9_isInside_219 : decode cX9_isInside 219 = .ok (.iload 18, 2) := by decide +kernel
theorem dX9_isInside_221 : decode cX9_isInside 221 = .ok (.isub, 1) := by decide +kernel
theorem dX9_isInside_222 : decode cX9_isInside 222 = .ok (.i2l, 1) := by decide +kernel
theorem dX9_isInside_223 : decode cX9_isInside 223 = .ok (.lstore 21, 2) := by decide +kernel
theorem dX9_isInside_225 : decode cX9_isInside 225 = .ok (.iload 16, 2) := by decide +kernel
theorem dX9_isInside_227 : decode cX9_isInside 227 = .ok (.ifCond .le 12, 3) := by decide +kernel
theorem dX9_isInside_230 : decode cX9_isInside 230 = .ok (.iload 18, 2) := by decide +kernel
theorem dX9_isInside_232 : decode cX9_isInside 232 = .ok (.iload 15, 2) := by decide +kernel
theorem dX9_isInside_234 : decode cX9_isInside 234 = .ok (.isub, 1) := by decide +kernel
theorem dX9_isInside_235 : decode cX9_isInside 235 = .ok (.i2l, 1) := by decide +kernel
theorem dX9_isInside_236 : decode cX9_isInside 236 = .ok (.goto 9, 3) := by decide +kernel
theorem dX9_isInside_239 : decode cX9_isInside 239 = .ok (.iload 15, 2) := by decide +kernel
theorem dX9_isInside_241 : decode cX9_isInside 241 = .ok (.iload 17, 2) := by decide +kernel
theorem dX9_isInside_243 : decode cX9_isInside 243 = .ok (.isub, 1) := by decide +kernel
theorem dX9_isInside_244 : decode cX9_isInside 244 = .ok (.i2l, 1) := by decide +kernel
theorem dX9_isInside_245 : decode cX9_isInside 245 = .ok (.lstore 23, 2) := by decide +kernel
theorem dX9_isInside_247 : decode cX9_isInside 247 = .ok (.lload 21, 2) := by decide +kernel
theorem dX9_isInside_249 : decode cX9_isInside 249 = .ok (.lload 8, 2) := by decide +kernel
theorem dX9_isInside_251 : decode cX9_isInside 251 = .ok (.lmul, 1) := by decide +kernel
theorem dX9_isInside_252 : decode cX9_isInside 252 = .ok (.lload 6, 2) := by decide +kernel
theorem dX9_isInside_254 : decode cX9_isInside 254 = .ok (.lload 19, 2) := by decide +kernel
theorem dX9_isInside_256 : decode cX9_isInside 256 = .ok (.lmul, 1) := by decide +kernel
theorem dX9_isInside_257 : decode cX9_isInside 257 = .ok (.lcmp, 1) := by decide +kernel
theorem dX9_isInside_258 : decode cX9_isInside 258 = .ok (.ifCond .le 11, 3) := by decide +kernel
theorem dX9_isInside_261 : decode cX9_isInside 261 = .ok (.lload 21, 2) := by decide +kernel
theorem dX9_isInside_263 : decode cX9_isInside 263 = .ok (.lstore 6, 2) := by decide +kernel
theorem dX9_isInside_265 : decode cX9_isInside 265 = .ok (.lload 19, 2) := by decide +kernel
theorem dX9_isInside_267 : decode cX9_isInside 267 = .ok (.lstore 8, 2) := by decide +kernel
theorem dX9_isInside_269 : decode cX9_isInside 269 = .ok (.lload 23, 2) := by decide +kernel
theorem dX9_isInside_271 : decode cX9_isInside 271 = .ok (.lload 12, 2) := by decide +kernel
theorem dX9_isInside_273 : decode cX9_isInside 273 = .ok (.lmul, 1) := by decide +kernel
theorem dX9_isInside_274 : decode cX9_isInside 274 = .ok (.lload 10, 2) := by decide +kernel
theorem dX9_isInside_276 : decode cX9_isInside 276 = .ok (.lload 19, 2) := by decide +kernel
theorem dX9_isInside_278 : decode cX9_isInside 278 = .ok (.lmul, 1) := by decide +kernel
theorem dX9_isInside_279 : decode cX9_isInside 279 = .ok (.lcmp, 1) := by decide +kernel
theorem dX9_isInside_280 : decode cX9_isInside 280 = .ok (.ifCond .ge 11, 3) := by decide +kernel
theorem dX9_isInside_283 : decode cX9_isInside 283 = .ok (.lload 23, 2) := by decide +kernel
theorem dX9_isInside_285 : decode cX9_isInside 285 = .ok (.lstore 10, 2) := by decide +kernel
theorem dX9_isInside_287 : decode cX9_isInside 287 = .ok (.lload 19, 2) := by decide +kernel
theorem dX9_isInside_289 : decode cX9_isInside 289 = .ok (.lstore 12, 2) := by decide +kernel
theorem dX9_isInside_291 : decode cX9_isInside 291 = .ok (.iinc 14 1, 3) := by decide +kernel
theorem dX9_isInside_294 : decode cX9_isInside 294 = .ok (.goto (-209), 3) := by decide +kernel
theorem dX9_isInside_297 : decode cX9_isInside 297 = .ok (.lload 6, 2) := by decide +kernel
theorem dX9_isInside_299 : decode cX9_isInside 299 = .ok (.lload 12, 2) := by decide +kernel
theorem dX9_isInside_301 : decode cX9_isInside 301 = .ok (.lmul, 1) := by decide +kernel
theorem dX9_isInside_302 : decode cX9_isInside 302 = .ok (.lload 10, 2) := by decide +kernel
theorem dX9_isInside_304 : decode cX9_isInside 304 = .ok (.lload 8, 2) := by decide +kernel
theorem dX9_isInside_306 : decode cX9_isInside 306 = .ok (.lmul, 1) := by decide +kernel
theorem dX9_isInside_307 : decode cX9_isInside 307 = .ok (.lcmp, 1) := by decide +kernel
theorem dX9_isInside_308 : decode cX9_isInside 308 = .ok (.ifCond .ge 7, 3) := by decide +kernel
theorem dX9_isInside_311 : decode cX9_isInside 311 = .ok (.iconst 1, 1) := by decide +kernel
theorem dX9_isInside_312 : decode cX9_isInside 312 = .ok (.goto 4, 3) := by decide +kernel
theorem dX9_isInside_315 : decode cX9_isInside 315 = .ok (.iconst 0, 1) := by decide +kernel
theorem dX9_isInside_316 : decode cX9_isInside 316 = .ok (.ireturn, 1) := by decide +kernel
theorem dX9_legOf_0 : decode cX9_legOf 0 = .ok (.iconst 0, 1) := by decide +kernel
theorem dX9_legOf_1 : decode cX9_legOf 1 = .ok (.istore 5, 2) := by decide +kernel
theorem dX9_legOf_3 : decode cX9_legOf 3 = .ok (.iload 5, 2) := by decide +kernel
theorem dX9_legOf_5 : decode cX9_legOf 5 = .ok (.aload_n 0, 1) := by decide +kernel
theorem dX9_legOf_6 : decode cX9_legOf 6 = .ok (.getfield 166, 3) := by decide +kernel
theorem dX9_legOf_9 : decode cX9_legOf 9 = .ok (.if_icmp .ge 26, 3) := by decide +kernel
theorem dX9_legOf_12 : decode cX9_legOf 12 = .ok (.aload_n 0, 1) := by decide +kernel
theorem dX9_legOf_13 : decode cX9_legOf 13 = .ok (.iload 5, 2) := by decide +kernel
theorem dX9_legOf_15 : decode cX9_legOf 15 = .ok (.iload_n 1, 1) := by decide +kernel
theorem dX9_legOf_16 : decode cX9_legOf 16 = .ok (.iload_n 2, 1) := by decide +kernel
theorem dX9_legOf_17 : decode cX9_legOf 17 = .ok (.iload_n 3, 1) := by decide +kernel
theorem dX9_legOf_18 : decode cX9_legOf 18 = .ok (.iload 4, 2) := by decide +kernel
theorem dX9_legOf_20 : decode cX9_legOf 20 = .ok (.invokevirtual 169, 3) := by decide +kernel
theorem dX9_legOf_23 : decode cX9_legOf 23 = .ok (.ifCond .eq 6, 3) := by decide +kernel
theorem dX9_legOf_26 : decode cX9_legOf 26 = .ok (.ldc 151, 2) := by decide +kernel
theorem dX9_legOf_28 : decode cX9_legOf 28 = .ok (.ireturn, 1) := by decide +kernel
theorem dX9_legOf_29 : decode cX9_legOf 29 = .ok (.iinc 5 1, 3) := by decide +kernel
theorem dX9_legOf_32 : decode cX9_legOf 32 = .ok (.goto (-29), 3) := by decide +kernel
theorem dX9_legOf_35 : decode cX9_legOf 35 = .ok (.iload_n 3, 1) := by decide +kernel
theorem dX9_legOf_36 : decode cX9_legOf 36 = .ok (.iload_n 1, 1) := by decide +kernel
theorem dX9_legOf_37 : decode cX9_legOf 37 = .ok (.isub, 1) := by decide +kernel
theorem dX9_legOf_38 : decode cX9_legOf 38 = .ok (.istore 5, 2) := by decide +kernel
theorem dX9_legOf_40 : decode cX9_legOf 40 = .ok (.iload 4, 2) := by decide +kernel
theorem dX9_legOf_42 : decode cX9_legOf 42 = .ok (.iload_n 2, 1) := by decide +kernel
theorem dX9_legOf_43 : decode cX9_legOf 43 = .ok (.isub, 1) := by decide +kernel
theorem dX9_legOf_44 : decode cX9_legOf 44 = .ok (.istore 6, 2) := by decide +kernel
theorem dX9_legOf_46 : decode cX9_legOf 46 = .ok (.bipush 100, 2) := by decide +kernel
theorem dX9_legOf_48 : decode cX9_legOf 48 = .ok (.iload 5, 2) := by decide +kernel
theorem dX9_legOf_50 : decode cX9_legOf 50 = .ok (.iload 5, 2) := by decide +kernel
theorem dX9_legOf_52 : decode cX9_legOf 52 = .ok (.imul, 1) := by decide +kernel
theorem dX9_legOf_53 : decode cX9_legOf 53 = .ok (.iload 6, 2) := by decide +kernel
theorem dX9_legOf_55 : decode cX9_legOf 55 = .ok (.iload 6, 2) := by decide +kernel
theorem dX9_legOf_57 : decode cX9_legOf 57 = .ok (.imul, 1) := by decide +kernel
theorem dX9_legOf_58 : decode cX9_legOf 58 = .ok (.iadd, 1) := by decide +kernel
theorem dX9_legOf_59 : decode cX9_legOf 59 = .ok (.imul, 1) := by decide +kernel
theorem dX9_legOf_60 : decode cX9_legOf 60 = .ok (.istore 7, 2) := by decide +kernel
theorem dX9_legOf_62 : decode cX9_legOf 62 = .ok (.iconst 0, 1) := by decide +kernel
theorem dX9_legOf_63 : decode cX9_legOf 63 = .ok (.istore 8, 2) := by decide +kernel
theorem dX9_legOf_65 : decode cX9_legOf 65 = .ok (.iload 8, 2) := by decide +kernel
theorem dX9_legOf_67 : decode cX9_legOf 67 = .ok (.iload 8, 2) := by decide +kernel
theorem dX9_legOf_69 : decode cX9_legOf 69 = .ok (.imul, 1) := by decide +kernel
theorem dX9_legOf_70 : decode cX9_legOf 70 = .ok (.iload 7, 2) := by decide +kernel
theorem dX9_legOf_72 : decode cX9_legOf 72 = .ok (.if_icmp .ge 9, 3) := by decide +kernel
theorem dX9_legOf_75 : decode cX9_legOf 75 = .ok (.iinc 8 1, 3) := by decide +kernel
theorem dX9_legOf_78 : decode cX9_legOf 78 = .ok (.goto (-13), 3) := by decide +kernel
theorem dX9_legOf_81 : decode cX9_legOf 81 = .ok (.aload_n 0, 1) := by decide +kernel
theorem dX9_legOf_82 : decode cX9_legOf 82 = .ok (.getfield 173, 3) := by decide +kernel
theorem dX9_legOf_85 : decode cX9_legOf 85 = .ok (.iload 5, 2) := by decide +kernel
theorem dX9_legOf_87 : decode cX9_legOf 87 = .ok (.imul, 1) := by decide +kernel
theorem dX9_legOf_88 : decode cX9_legOf 88 = .ok (.aload_n 0, 1) := by decide +kernel
theorem dX9_legOf_89 : decode cX9_legOf 89 = .ok (.getfield 176, 3) := by decide +kernel
theorem dX9_legOf_92 : decode cX9_legOf 92 = .ok (.iload 6, 2) := by decide +kernel
theorem dX9_legOf_94 : decode cX9_legOf 94 = .ok (.imul, 1) := by decide +kernel
theorem dX9_legOf_95 : decode cX9_legOf 95 = .ok (.iadd, 1) := by decide +kernel
theorem dX9_legOf_96 : decode cX9_legOf 96 = .ok (.istore 9, 2) := by decide +kernel
theorem dX9_legOf_98 : decode cX9_legOf 98 = .ok (.iload 8, 2) := by decide +kernel
theorem dX9_legOf_100 : decode cX9_legOf 100 = .ok (.iload 9, 2) := by decide +kernel
theorem dX9_legOf_102 : decode cX9_legOf 102 = .ok (.ifCond .ge 12, 3) := by decide +kernel
theorem dX9_legOf_105 : decode cX9_legOf 105 = .ok (.iload 9, 2) := by decide +kernel
theorem dX9_legOf_107 : decode cX9_legOf 107 = .ok (.ineg, 1) := by decide +kernel
theorem dX9_legOf_108 : decode cX9_legOf 108 = .ok (.bipush 10, 2) := by decide +kernel
theorem dX9_legOf_110 : decode cX9_legOf 110 = .ok (.idiv, 1) := by decide +kernel
theorem dX9_legOf_111 : decode cX9_legOf 111 = .ok (.goto 4, 3) := by decide +kernel
theorem dX9_legOf_114 : decode cX9_legOf 114 = .ok (.iconst 0, 1) := by decide +kernel
theorem dX9_legOf_115 : decode cX9_legOf 115 = .ok (.iadd, 1) := by decide +kernel
theorem dX9_legOf_116 : decode cX9_legOf 116 = .ok (.ireturn, 1) := by decide +kernel
theorem dX9_close_0 : decode cX9_close 0 = .ok (.aload_n 0, 1) := by decide +kernel
theorem dX9_close_1 : decode cX9_close 1 = .ok (.iconst 0, 1) := by decide +kernel
theorem dX9_close_2 : decode cX9_close 2 = .ok (.putfield 99, 3) := by decide +kernel
theorem dX9_close_5 : decode cX9_close 5 = .ok (.iload_n 1, 1) := by decide +kernel
theorem dX9_close_6 : decode cX9_close 6 = .ok (.iload_n 2, 1) := by decide +kernel
theorem dX9_close_7 : decode cX9_close 7 = .ok (.invokestatic 134, 3) := by decide +kernel
theorem dX9_close_10 : decode cX9_close 10 = .ok (.ifCond .ne 12, 3) := by decide +kernel
theorem dX9_close_13 : decode cX9_close 13 = .ok (.iload_n 3, 1) := by decide +kernel
theorem dX9_close_14 : decode cX9_close 14 = .ok (.iload 4, 2) := by decide +kernel
theorem dX9_close_16 : decode cX9_close 16 = .ok (.invokestatic 134, 3) := by decide +kernel
theorem dX9_close_19 : decode cX9_close 19 = .ok (.ifCond .eq 6, 3) := by decide +kernel
theorem dX9_close_22 : decode cX9_close 22 = .ok (.bipush (-2), 2) := by decide +kernel
theorem dX9_close_24 : decode cX9_close 24 = .ok (.ireturn, 1) := by decide +kernel
theorem dX9_close_25 : decode cX9_close 25 = .ok (.iload_n 3, 1) := by decide +kernel
theorem dX9_close_26 : decode cX9_close 26 = .ok (.iload_n 1, 1) := by decide +kernel
theorem dX9_close_27 : decode cX9_close 27 = .ok (.if_icmp .le 9, 3) := by decide +kernel
theorem dX9_close_30 : decode cX9_close 30 = .ok (.iload 4, 2) := by decide +kernel
theorem dX9_close_32 : decode cX9_close 32 = .ok (.iload_n 2, 1) := by decide +kernel
theorem dX9_close_33 : decode cX9_close 33 = .ok (.if_icmp .gt 6, 3) := by decide +kernel
theorem dX9_close_36 : decode cX9_close 36 = .ok (.bipush (-3), 2) := by decide +kernel
theorem dX9_close_38 : decode cX9_close 38 = .ok (.ireturn, 1) := by decide +kernel
theorem dX9_close_39 : decode cX9_close 39 = .ok (.aload_n 0, 1) := by decide +kernel
theorem dX9_close_40 : decode cX9_close 40 = .ok (.getfield 166, 3) := by decide +kernel
theorem dX9_close_43 : decode cX9_close 43 = .ok (.iconst 4, 1) := by decide +kernel
theorem dX9_close_44 : decode cX9_close 44 = .ok (.if_icmp .ne 6, 3) := by decide +kernel
theorem dX9_close_47 : decode cX9_close 47 = .ok (.bipush (-4), 2) := by decide +kernel
theorem dX9_close_49 : decode cX9_close 49 = .ok (.ireturn, 1) := by decide +kernel
theorem dX9_close_50 : decode cX9_close 50 = .ok (.aload_n 0, 1) := by decide +kernel
theorem dX9_close_51 : decode cX9_close 51 = .ok (.getfield 35, 3) := by decide +kernel
theorem dX9_close_54 : decode cX9_close 54 = .ok (.aload_n 0, 1) := by decide +kernel
theorem dX9_close_55 : decode cX9_close 55 = .ok (.getfield 166, 3) := by decide +kernel
theorem dX9_close_58 : decode cX9_close 58 = .ok (.iload_n 1, 1) := by decide +kernel
theorem dX9_close_59 : decode cX9_close 59 = .ok (.iastore, 1) := by decide +kernel
theorem dX9_close_60 : decode cX9_close 60 = .ok (.aload_n 0, 1) := by decide +kernel
theorem dX9_close_61 : decode cX9_close 61 = .ok (.getfield 38, 3) := by decide +kernel
theorem dX9_close_64 : decode cX9_close 64 = .ok (.aload_n 0, 1) := by decide +kernel
theorem dX9_close_65 : decode cX9_close 65 = .ok (.getfield 166, 3) := by decide +kernel
theorem dX9_close_68 : decode cX9_close 68 = .ok (.iload_n 2, 1) := by decide +kernel
theorem dX9_close_69 : decode cX9_close 69 = .ok (.iastore, 1) := by decide +kernel
theorem dX9_close_70 : decode cX9_close 70 = .ok (.aload_n 0, 1) := by decide +kernel
theorem dX9_close_71 : decode cX9_close 71 = .ok (.getfield 41, 3) := by decide +kernel
theorem dX9_close_74 : decode cX9_close 74 = .ok (.aload_n 0, 1) := by decide +kernel
theorem dX9_close_75 : decode cX9_close 75 = .ok (.getfield 166, 3) := by decide +kernel
theorem dX9_close_78 : decode cX9_close 78 = .ok (.iload_n 3, 1) := by decide +kernel
theorem dX9_close_79 : decode cX9_close 79 = .ok (.iastore, 1) := by decide +kernel
theorem dX9_close_80 : decode cX9_close 80 = .ok (.aload_n 0, 1) := by decide +kernel
theorem dX9_close_81 : decode cX9_close 81 = .ok (.getfield 44, 3) := by decide +kernel
theorem dX9_close_84 : decode cX9_close 84 = .ok (.aload_n 0, 1) := by decide +kernel
theorem dX9_close_85 : decode cX9_close 85 = .ok (.getfield 166, 3) := by decide +kernel
theorem dX9_close_88 : decode cX9_close 88 = .ok (.iload 4, 2) := by decide +kernel
theorem dX9_close_90 : decode cX9_close 90 = .ok (.iastore, 1) := by decide +kernel
theorem dX9_close_91 : decode cX9_close 91 = .ok (.aload_n 0, 1) := by decide +kernel
theorem dX9_close_92 : decode cX9_close 92 = .ok (.dup, 1) := by decide +kernel
theorem dX9_close_93 : decode cX9_close 93 = .ok (.getfield 166, 3) := by decide +kernel
theorem dX9_close_96 : decode cX9_close 96 = .ok (.iconst 1, 1) := by decide +kernel
theorem dX9_close_97 : decode cX9_close 97 = .ok (.iadd, 1) := by decide +kernel
theorem dX9_close_98 : decode cX9_close 98 = .ok (.putfield 166, 3) := by decide +kernel
theorem dX9_close_101 : decode cX9_close 101 = .ok (.aload_n 0, 1) := by decide +kernel
theorem dX9_close_102 : decode cX9_close 102 = .ok (.getfield 166, 3) := by decide +kernel
theorem dX9_close_105 : decode cX9_close 105 = .ok (.ireturn, 1) := by decide +kernel
theorem dX9_open_0 : decode cX9_open 0 = .ok (.aload_n 0, 1) := by decide +kernel
theorem dX9_open_1 : decode cX9_open 1 = .ok (.iconst 0, 1) := by decide +kernel
theorem dX9_open_2 : decode cX9_open 2 = .ok (.putfield 99, 3) := by decide +kernel
theorem dX9_open_5 : decode cX9_open 5 = .ok (.aload_n 0, 1) := by decide +kernel
theorem dX9_open_6 : decode cX9_open 6 = .ok (.getfield 166, 3) := by decide +kernel
theorem dX9_open_9 : decode cX9_open 9 = .ok (.ifCond .ne 6, 3) := by decide +kernel
theorem dX9_open_12 : decode cX9_open 12 = .ok (.bipush (-3), 2) := by decide +kernel
theorem dX9_open_14 : decode cX9_open 14 = .ok (.ireturn, 1) := by decide +kernel
theorem dX9_open_15 : decode cX9_open 15 = .ok (.aload_n 0, 1) := by decide +kernel
theorem dX9_open_16 : decode cX9_open 16 = .ok (.dup, 1) := by decide +kernel
theorem dX9_open_17 : decode cX9_open 17 = .ok (.getfield 166, 3) := by decide +kernel
theorem dX9_open_20 : decode cX9_open 20 = .ok (.iconst 1, 1) := by decide +kernel
theorem dX9_open_21 : decode cX9_open 21 = .ok (.isub, 1) := by decide +kernel
theorem dX9_open_22 : decode cX9_open 22 = .ok (.putfield 166, 3) := by decide +kernel
theorem dX9_open_25 : decode cX9_open 25 = .ok (.aload_n 0, 1) := by decide +kernel
theorem dX9_open_26 : decode cX9_open 26 = .ok (.getfield 166, 3) := by decide +kernel
theorem dX9_open_29 : decode cX9_open 29 = .ok (.ireturn, 1) := by decide +kernel
theorem dX9_wind_0 : decode cX9_wind 0 = .ok (.aload_n 0, 1) := by decide +kernel
theorem dX9_wind_1 : decode cX9_wind 1 = .ok (.iconst 0, 1) := by decide +kernel
theorem dX9_wind_2 : decode cX9_wind 2 = .ok (.putfield 99, 3) := by decide +kernel
theorem dX9_wind_5 : decode cX9_wind 5 = .ok (.iload_n 1, 1) := by decide +kernel
theorem dX9_wind_6 : decode cX9_wind 6 = .ok (.i2l, 1) := by decide +kernel
theorem dX9_wind_7 : decode cX9_wind 7 = .ok (.ldc2_w 179, 3) := by decide +kernel
theorem dX9_wind_10 : decode cX9_wind 10 = .ok (.ldc2_w 181, 3) := by decide +kernel
theorem dX9_wind_13 : decode cX9_wind 13 = .ok (.invokestatic 104, 3) := by decide +kernel
theorem dX9_wind_16 : decode cX9_wind 16 = .ok (.ifCond .eq 17, 3) := by decide +kernel
theorem dX9_wind_19 : decode cX9_wind 19 = .ok (.iload_n 2, 1) := by decide +kernel
theorem dX9_wind_20 : decode cX9_wind 20 = .ok (.i2l, 1) := by decide +kernel
theorem dX9_wind_21 : decode cX9_wind 21 = .ok (.ldc2_w 179, 3) := by decide +kernel
theorem dX9_wind_24 : decode cX9_wind 24 = .ok (.ldc2_w 181, 3) := by decide +kernel
theorem dX9_wind_27 : decode cX9_wind 27 = .ok (.invokestatic 104, 3) := by decide +kernel
theorem dX9_wind_30 : decode cX9_wind 30 = .ok (.ifCond .ne 6, 3) := by decide +kernel
theorem dX9_wind_33 : decode cX9_wind 33 = .ok (.bipush (-2), 2) := by decide +kernel
theorem dX9_wind_35 : decode cX9_wind 35 = .ok (.ireturn, 1) := by decide +kernel
theorem dX9_wind_36 : decode cX9_wind 36 = .ok (.bipush 100, 2) := by decide +kernel
theorem dX9_wind_38 : decode cX9_wind 38 = .ok (.aload_n 0, 1) := by decide +kernel
theorem dX9_wind_39 : decode cX9_wind 39 = .ok (.getfield 173, 3) := by decide +kernel
theorem dX9_wind_42 : decode cX9_wind 42 = .ok (.imul, 1) := by decide +kernel
theorem dX9_wind_43 : decode cX9_wind 43 = .ok (.aload_n 0, 1) := by decide +kernel
theorem dX9_wind_44 : decode cX9_wind 44 = .ok (.getfield 176, 3) := by decide +kernel
theorem dX9_wind_47 : decode cX9_wind 47 = .ok (.iadd, 1) := by decide +kernel
theorem dX9_wind_48 : decode cX9_wind 48 = .ok (.sipush 909, 3) := by decide +kernel
theorem dX9_wind_51 : decode cX9_wind 51 = .ok (.iadd, 1) := by decide +kernel
theorem dX9_wind_52 : decode cX9_wind 52 = .ok (.istore_n 3, 1) := by decide +kernel
theorem dX9_wind_53 : decode cX9_wind 53 = .ok (.aload_n 0, 1) := by decide +kernel
theorem dX9_wind_54 : decode cX9_wind 54 = .ok (.iload_n 1, 1) := by decide +kernel
theorem dX9_wind_55 : decode cX9_wind 55 = .ok (.putfield 173, 3) := by decide +kernel
theorem dX9_wind_58 : decode cX9_wind 58 = .ok (.aload_n 0, 1) := by decide +kernel
theorem dX9_wind_59 : decode cX9_wind 59 = .ok (.iload_n 2, 1) := by decide +kernel
theorem dX9_wind_60 : decode cX9_wind 60 = .ok (.putfield 176, 3) := by decide +kernel
theorem dX9_wind_63 : decode cX9_wind 63 = .ok (.iload_n 3, 1) := by decide +kernel
theorem dX9_wind_64 : decode cX9_wind 64 = .ok (.ireturn, 1) := by decide +kernel
theorem dX9_base_0 : decode cX9_base 0 = .ok (.aload_n 0, 1) := by decide +kernel
theorem dX9_base_1 : decode cX9_base 1 = .ok (.iconst 0, 1) := by decide +kernel
theorem dX9_base_2 : decode cX9_base 2 = .ok (.putfield 99, 3) := by decide +kernel
theorem dX9_base_5 : decode cX9_base 5 = .ok (.iload_n 1, 1) := by decide +kernel
theorem dX9_base_6 : decode cX9_base 6 = .ok (.iload_n 2, 1) := by decide +kernel
theorem dX9_base_7 : decode cX9_base 7 = .ok (.invokestatic 134, 3) := by decide +kernel
theorem dX9_base_10 : decode cX9_base 10 = .ok (.ifCond .eq 6, 3) := by decide +kernel
theorem dX9_base_13 : decode cX9_base 13 = .ok (.bipush (-2), 2) := by decide +kernel
theorem dX9_base_15 : decode cX9_base 15 = .ok (.ireturn, 1) := by decide +kernel
theorem dX9_base_16 : decode cX9_base 16 = .ok (.bipush 100, 2) := by decide +kernel
theorem dX9_base_18 : decode cX9_base 18 = .ok (.aload_n 0, 1) := by decide +kernel
theorem dX9_base_19 : decode cX9_base 19 = .ok (.getfield 29, 3) := by decide +kernel
theorem dX9_base_22 : decode cX9_base 22 = .ok (.bipush 10, 2) := by decide +kernel
theorem dX9_base_24 : decode cX9_base 24 = .ok (.iaload, 1) := by decide +kernel
theorem dX9_base_25 : decode cX9_base 25 = .ok (.imul, 1) := by decide +kernel
theorem dX9_base_26 : decode cX9_base 26 = .ok (.aload_n 0, 1) := by decide +kernel
theorem dX9_base_27 : decode cX9_base 27 = .ok (.getfield 32, 3) := by decide +kernel
theorem dX9_base_30 : decode cX9_base 30 = .ok (.bipush 10, 2) := by decide +kernel
theorem dX9_base_32 : decode cX9_base 32 = .ok (.iaload, 1) := by decide +kernel
theorem dX9_base_33 : decode cX9_base 33 = .ok (.iadd, 1) := by decide +kernel
theorem dX9_base_34 : decode cX9_base 34 = .ok (.istore_n 3, 1) := by decide +kernel
theorem dX9_base_35 : decode cX9_base 35 = .ok (.aload_n 0, 1) := by decide +kernel
theorem dX9_base_36 : decode cX9_base 36 = .ok (.getfield 29, 3) := by decide +kernel
theorem dX9_base_39 : decode cX9_base 39 = .ok (.bipush 10, 2) := by decide +kernel
theorem dX9_base_41 : decode cX9_base 41 = .ok (.iload_n 1, 1) := by decide +kernel
theorem dX9_base_42 : decode cX9_base 42 = .ok (.iastore, 1) := by decide +kernel
theorem dX9_base_43 : decode cX9_base 43 = .ok (.aload_n 0, 1) := by decide +kernel
theorem dX9_base_44 : decode cX9_base 44 = .ok (.getfield 32, 3) := by decide +kernel
theorem dX9_base_47 : decode cX9_base 47 = .ok (.bipush 10, 2) := by decide +kernel
theorem dX9_base_49 : decode cX9_base 49 = .ok (.iload_n 2, 1) := by decide +kernel
theorem dX9_base_50 : decode cX9_base 50 = .ok (.iastore, 1) := by decide +kernel
theorem dX9_base_51 : decode cX9_base 51 = .ok (.iload_n 3, 1) := by decide +kernel
theorem dX9_base_52 : decode cX9_base 52 = .ok (.ireturn, 1) := by decide +kernel
theorem dX9_store_0 : decode cX9_store 0 = .ok (.aload_n 0, 1) := by decide +kernel
theorem dX9_store_1 : decode cX9_store 1 = .ok (.iconst 0, 1) := by decide +kernel
theorem dX9_store_2 : decode cX9_store 2 = .ok (.putfield 99, 3) := by decide +kernel
theorem dX9_store_5 : decode cX9_store 5 = .ok (.iload_n 1, 1) := by decide +kernel
theorem dX9_store_6 : decode cX9_store 6 = .ok (.i2l, 1) := by decide +kernel
theorem dX9_store_7 : decode cX9_store 7 = .ok (.lconst 0, 1) := by decide +kernel
theorem dX9_store_8 : decode cX9_store 8 = .ok (.lconst 1, 1) := by decide +kernel
theorem dX9_store_9 : decode cX9_store 9 = .ok (.invokestatic 104, 3) := by decide +kernel
theorem dX9_store_12 : decode cX9_store 12 = .ok (.ifCond .eq 33, 3) := by decide +kernel
theorem dX9_store_15 : decode cX9_store 15 = .ok (.iload_n 2, 1) := by decide +kernel
theorem dX9_store_16 : decode cX9_store 16 = .ok (.i2l, 1) := by decide +kernel
theorem dX9_store_17 : decode cX9_store 17 = .ok (.iload_n 1, 1) := by decide +kernel
theorem dX9_store_18 : decode cX9_store 18 = .ok (.ifCond .ne 7, 3) := by decide +kernel
theorem dX9_store_21 : decode cX9_store 21 = .ok (.lconst 1, 1) := by decide +kernel
theorem dX9_store_22 : decode cX9_store 22 = .ok (.goto 4, 3) := by decide +kernel
theorem dX9_store_25 : decode cX9_store 25 = .ok (.lconst 0, 1) := by decide +kernel
theorem dX9_store_26 : decode cX9_store 26 = .ok (.iload_n 1, 1) := by decide +kernel
theorem dX9_store_27 : decode cX9_store 27 = .ok (.ifCond .ne 9, 3) := by decide +kernel
theorem dX9_store_30 : decode cX9_store 30 = .ok (.ldc2_w 183, 3) := by decide +kernel
theorem dX9_store_33 : decode cX9_store 33 = .ok (.goto 6, 3) := by decide +kernel
theorem dX9_store_36 : decode cX9_store 36 = .ok (.ldc2_w 185, 3) := by decide +kernel
theorem dX9_store_39 : decode cX9_store 39 = .ok (.invokestatic 104, 3) := by decide +kernel
theorem dX9_store_42 : decode cX9_store 42 = .ok (.ifCond .ne 6, 3) := by decide +kernel
theorem dX9_store_45 : decode cX9_store 45 = .ok (.bipush (-2), 2) := by decide +kernel
theorem dX9_store_47 : decode cX9_store 47 = .ok (.ireturn, 1) := by decide +kernel
theorem dX9_store_48 : decode cX9_store 48 = .ok (.iload_n 1, 1) := by decide +kernel
theorem dX9_store_49 : decode cX9_store 49 = .ok (.ifCond .ne 10, 3) := by decide +kernel
theorem dX9_store_52 : decode cX9_store 52 = .ok (.aload_n 0, 1) := by decide +kernel
theorem dX9_store_53 : decode cX9_store 53 = .ok (.getfield 47, 3) := by decide +kernel
theorem dX9_store_56 : decode cX9_store 56 = .ok (.goto 7, 3) := by decide +kernel
theorem dX9_store_59 : decode cX9_store 59 = .ok (.aload_n 0, 1) := by decide +kernel
theorem dX9_store_60 : decode cX9_store 60 = .ok (.getfield 187, 3) := by decide +kernel
theorem dX9_store_63 : decode cX9_store 63 = .ok (.istore_n 3, 1) := by decide +kernel
theorem dX9_store_64 : decode cX9_store 64 = .ok (.aload_n 0, 1) := by decide +kernel
theorem dX9_store_65 : decode cX9_store 65 = .ok (.iload_n 1, 1) := by decide +kernel
theorem dX9_store_66 : decode cX9_store 66 = .ok (.ifCond .ne 7, 3) := by decide +kernel
theorem dX9_store_69 : decode cX9_store 69 = .ok (.iload_n 2, 1) := by decide +kernel
theorem dX9_store_70 : decode cX9_store 70 = .ok (.goto 7, 3) := by decide +kernel
theorem dX9_store_73 : decode cX9_store 73 = .ok (.aload_n 0, 1) := by decide +kernel
theorem dX9_store_74 : decode cX9_store 74 = .ok (.getfield 47, 3) := by decide +kernel
theorem dX9_store_77 : decode cX9_store 77 = .ok (.putfield 47, 3) := by decide +kernel
theorem dX9_store_80 : decode cX9_store 80 = .ok (.aload_n 0, 1) := by decide +kernel
theorem dX9_store_81 : decode cX9_store 81 = .ok (.iload_n 1, 1) := by decide +kernel
theorem dX9_store_82 : decode cX9_store 82 = .ok (.ifCond .ne 10, 3) := by decide +kernel
theorem dX9_store_85 : decode cX9_store 85 = .ok (.aload_n 0, 1) := by decide +kernel
theorem dX9_store_86 : decode cX9_store 86 = .ok (.getfield 187, 3) := by decide +kernel
theorem dX9_store_89 : decode cX9_store 89 = .ok (.goto 4, 3) := by decide +kernel
theorem dX9_store_92 : decode cX9_store 92 = .ok (.iload_n 2, 1) := by decide +kernel
theorem dX9_store_93 : decode cX9_store 93 = .ok (.putfield 187, 3) := by decide +kernel
theorem dX9_store_96 : decode cX9_store 96 = .ok (.iload_n 3, 1) := by decide +kernel
theorem dX9_store_97 : decode cX9_store 97 = .ok (.ireturn, 1) := by decide +kernel
theorem dX9_leg_0 : decode cX9_leg 0 = .ok (.aload_n 0, 1) := by decide +kernel
theorem dX9_leg_1 : decode cX9_leg 1 = .ok (.iconst 0, 1) := by decide +kernel
theorem dX9_leg_2 : decode cX9_leg 2 = .ok (.putfield 99, 3) := by decide +kernel
theorem dX9_leg_5 : decode cX9_leg 5 = .ok (.iload_n 1, 1) := by decide +kernel
theorem dX9_leg_6 : decode cX9_leg 6 = .ok (.iload_n 2, 1) := by decide +kernel
theorem dX9_leg_7 : decode cX9_leg 7 = .ok (.invokestatic 134, 3) := by decide +kernel
theorem dX9_leg_10 : decode cX9_leg 10 = .ok (.ifCond .ne 12, 3) := by decide +kernel
theorem dX9_leg_13 : decode cX9_leg 13 = .ok (.iload_n 3, 1) := by decide +kernel
theorem dX9_leg_14 : decode cX9_leg 14 = .ok (.iload 4, 2) := by decide +kernel
theorem dX9_leg_16 : decode cX9_leg 16 = .ok (.invokestatic 134, 3) := by decide +kernel
theorem dX9_leg_19 : decode cX9_leg 19 = .ok (.ifCond .eq 6, 3) := by decide +kernel
theorem dX9_leg_22 : decode cX9_leg 22 = .ok (.bipush (-2), 2) := by decide +kernel
theorem dX9_leg_24 : decode cX9_leg 24 = .ok (.ireturn, 1) := by decide +kernel
theorem dX9_leg_25 : decode cX9_leg 25 = .ok (.aload_n 0, 1) := by decide +kernel
theorem dX9_leg_26 : decode cX9_leg 26 = .ok (.iload_n 1, 1) := by decide +kernel
theorem dX9_leg_27 : decode cX9_leg 27 = .ok (.iload_n 2, 1) := by decide +kernel
theorem dX9_leg_28 : decode cX9_leg 28 = .ok (.iload_n 3, 1) := by decide +kernel
theorem dX9_leg_29 : decode cX9_leg 29 = .ok (.iload 4, 2) := by decide +kernel
theorem dX9_leg_31 : decode cX9_leg 31 = .ok (.invokevirtual 190, 3) := by decide +kernel
theorem dX9_leg_34 : decode cX9_leg 34 = .ok (.istore 5, 2) := by decide +kernel
theorem dX9_leg_36 : decode cX9_leg 36 = .ok (.iload 5, 2) := by decide +kernel
theorem dX9_leg_38 : decode cX9_leg 38 = .ok (.ldc 151, 2) := by decide +kernel
theorem dX9_leg_40 : decode cX9_leg 40 = .ok (.if_icmp .ne 8, 3) := by decide +kernel
theorem dX9_leg_43 : decode cX9_leg 43 = .ok (.bipush (-9), 2) := by decide +kernel
theorem dX9_leg_45 : decode cX9_leg 45 = .ok (.goto 5, 3) := by decide +kernel
theorem dX9_leg_48 : decode cX9_leg 48 = .ok (.iload 5, 2) := by decide +kernel
theorem dX9_leg_50 : decode cX9_leg 50 = .ok (.ireturn, 1) := by decide +kernel
theorem dX9_fly_0 : decode cX9_fly 0 = .ok (.iconst 0, 1) := by decide +kernel
theorem dX9_fly_1 : decode cX9_fly 1 = .ok (.istore_n 1, 1) := by decide +kernel
theorem dX9_fly_2 : decode cX9_fly 2 = .ok (.iload_n 1, 1) := by decide +kernel
theorem dX9_fly_3 : decode cX9_fly 3 = .ok (.bipush 11, 2) := by decide +kernel
theorem dX9_fly_5 : decode cX9_fly 5 = .ok (.if_icmp .ge 105, 3) := by decide +kernel
theorem dX9_fly_8 : decode cX9_fly 8 = .ok (.iconst 0, 1) := by decide +kernel
theorem dX9_fly_9 : decode cX9_fly 9 = .ok (.istore_n 2, 1) := by decide +kernel
theorem dX9_fly_10 : decode cX9_fly 10 = .ok (.iload_n 2, 1) := by decide +kernel
theorem dX9_fly_11 : decode cX9_fly 11 = .ok (.bipush 11, 2) := by decide +kernel
theorem dX9_fly_13 : decode cX9_fly 13 = .ok (.if_icmp .ge 91, 3) := by decide +kernel
theorem dX9_fly_16 : decode cX9_fly 16 = .ok (.iload_n 1, 1) := by decide +kernel
theorem dX9_fly_17 : decode cX9_fly 17 = .ok (.aload_n 0, 1) := by decide +kernel
theorem dX9_fly_18 : decode cX9_fly 18 = .ok (.getfield 111, 3) := by decide +kernel
theorem dX9_fly_21 : decode cX9_fly 21 = .ok (.if_icmp .lt 9, 3) := by decide +kernel
theorem dX9_fly_24 : decode cX9_fly 24 = .ok (.iload_n 1, 1) := by decide +kernel
theorem dX9_fly_25 : decode cX9_fly 25 = .ok (.bipush 10, 2) := by decide +kernel
theorem dX9_fly_27 : decode cX9_fly 27 = .ok (.if_icmp .ne 21, 3) := by decide +kernel
theorem dX9_fly_30 : decode cX9_fly 30 = .ok (.iload_n 2, 1) := by decide +kernel
theorem dX9_fly_31 : decode cX9_fly 31 = .ok (.aload_n 0, 1) := by decide +kernel
theorem dX9_fly_32 : decode cX9_fly 32 = .ok (.getfield 111, 3) := by decide +kernel
theorem dX9_fly_35 : decode cX9_fly 35 = .ok (.if_icmp .lt 9, 3) := by decide +kernel
theorem dX9_fly_38 : decode cX9_fly 38 = .ok (.iload_n 2, 1) := by decide +kernel
theorem dX9_fly_39 : decode cX9_fly 39 = .ok (.bipush 10, 2) := by decide +kernel
theorem dX9_fly_41 : decode cX9_fly 41 = .ok (.if_icmp .ne 7, 3) := by decide +kernel
theorem dX9_fly_44 : decode cX9_fly 44 = .ok (.iconst 1, 1) := by decide +kernel
theorem dX9_fly_45 : decode cX9_fly 45 = .ok (.goto 4, 3) := by decide +kernel
theorem dX9_fly_48 : decode cX9_fly 48 = .ok (.iconst 0, 1) := by decide +kernel
theorem dX9_fly_49 : decode cX9_fly 49 = .ok (.istore_n 3, 1) := by decide +kernel
theorem dX9_fly_50 : decode cX9_fly 50 = .ok (.aload_n 0, 1) := by decide +kernel
theorem dX9_fly_51 : decode cX9_fly 51 = .ok (.getfield 75, 3) := by decide +kernel
theorem dX9_fly_54 : decode cX9_fly 54 = .ok (.bipush 11, 2) := by decide +kernel
theorem dX9_fly_56 : decode cX9_fly 56 = .ok (.iload_n 1, 1) := by decide +kernel
theorem dX9_fly_57 : decode cX9_fly 57 = .ok (.imul, 1) := by decide +kernel
theorem dX9_fly_58 : decode cX9_fly 58 = .ok (.iload_n 2, 1) := by decide +kernel
theorem dX9_fly_59 : decode cX9_fly 59 = .ok (.iadd, 1) := by decide +kernel
theorem dX9_fly_60 : decode cX9_fly 60 = .ok (.iload_n 3, 1) := by decide +kernel
theorem dX9_fly_61 : decode cX9_fly 61 = .ok (.ifCond .eq 34, 3) := by decide +kernel
theorem dX9_fly_64 : decode cX9_fly 64 = .ok (.aload_n 0, 1) := by decide +kernel
theorem dX9_fly_65 : decode cX9_fly 65 = .ok (.aload_n 0, 1) := by decide +kernel
theorem dX9_fly_66 : decode cX9_fly 66 = .ok (.getfield 29, 3) := by decide +kernel
theorem dX9_fly_69 : decode cX9_fly 69 = .ok (.iload_n 1, 1) := by decide +kernel
theorem dX9_fly_70 : decode cX9_fly 70 = .ok (.iaload, 1) := by decide +kernel
theorem dX9_fly_71 : decode cX9_fly 71 = .ok (.aload_n 0, 1) := by decide +kernel
theorem dX9_fly_72 : decode cX9_fly 72 = .ok (.getfield 32, 3) := by decide +kernel
theorem dX9_fly_75 : decode cX9_fly 75 = .ok (.iload_n 1, 1) := by decide +kernel
theorem dX9_fly_76 : decode cX9_fly 76 = .ok (.iaload, 1) := by decide +kernel
theorem dX9_fly_77 : decode cX9_fly 77 = .ok (.aload_n 0, 1) := by decide +kernel
theorem dX9_fly_78 : decode cX9_fly 78 = .ok (.getfield 29, 3) := by decide +kernel
theorem dX9_fly_81 : decode cX9_fly 81 = .ok (.iload_n 2, 1) := by decide +kernel
theorem dX9_fly_82 : decode cX9_fly 82 = .ok (.iaload, 1) := by decide +kernel
theorem dX9_fly_83 : decode cX9_fly 83 = .ok (.aload_n 0, 1) := by decide +kernel
theorem dX9_fly_84 : decode cX9_fly 84 = .ok (.getfield 32, 3) := by decide +kernel
theorem dX9_fly_87 : decode cX9_fly 87 = .ok (.iload_n 2, 1) := by decide +kernel
theorem dX9_fly_88 : decode cX9_fly 88 = .ok (.iaload, 1) := by decide +kernel
theorem dX9_fly_89 : decode cX9_fly 89 = .ok (.invokevirtual 190, 3) := by decide +kernel
theorem dX9_fly_92 : decode cX9_fly 92 = .ok (.goto 5, 3) := by decide +kernel
theorem dX9_fly_95 : decode cX9_fly 95 = .ok (.ldc 151, 2) := by decide +kernel
theorem dX9_fly_97 : decode cX9_fly 97 = .ok (.iastore, 1) := by decide +kernel
theorem dX9_fly_98 : decode cX9_fly 98 = .ok (.iinc 2 1, 3) := by decide +kernel
theorem dX9_fly_101 : decode cX9_fly 101 = .ok (.goto (-91), 3) := by decide +kernel
theorem dX9_fly_104 : decode cX9_fly 104 = .ok (.iinc 1 1, 3) := by decide +kernel
theorem dX9_fly_107 : decode cX9_fly 107 = .ok (.goto (-105), 3) := by decide +kernel
theorem dX9_fly_110 : decode cX9_fly 110 = .ok (.iconst 0, 1) := by decide +kernel
theorem dX9_fly_111 : decode cX9_fly 111 = .ok (.istore_n 1, 1) := by decide +kernel
theorem dX9_fly_112 : decode cX9_fly 112 = .ok (.iload_n 1, 1) := by decide +kernel
theorem dX9_fly_113 : decode cX9_fly 113 = .ok (.iconst 1, 1) := by decide +kernel
theorem dX9_fly_114 : decode cX9_fly 114 = .ok (.aload_n 0, 1) := by decide +kernel
theorem dX9_fly_115 : decode cX9_fly 115 = .ok (.getfield 111, 3) := by decide +kernel
theorem dX9_fly_118 : decode cX9_fly 118 = .ok (.ishl, 1) := by decide +kernel
theorem dX9_fly_119 : decode cX9_fly 119 = .ok (.if_icmp .ge 135, 3) := by decide +kernel
theorem dX9_fly_122 : decode cX9_fly 122 = .ok (.iconst 0, 1) := by decide +kernel
theorem dX9_fly_123 : decode cX9_fly 123 = .ok (.istore_n 2, 1) := by decide +kernel
theorem dX9_fly_124 : decode cX9_fly 124 = .ok (.iload_n 2, 1) := by decide +kernel
theorem dX9_fly_125 : decode cX9_fly 125 = .ok (.bipush 11, 2) := by decide +kernel
theorem dX9_fly_127 : decode cX9_fly 127 = .ok (.if_icmp .ge 121, 3) := by decide +kernel
theorem dX9_fly_130 : decode cX9_fly 130 = .ok (.iload_n 1, 1) := by decide +kernel
theorem dX9_fly_131 : decode cX9_fly 131 = .ok (.ifCond .ne 18, 3) := by decide +kernel
theorem dX9_fly_134 : decode cX9_fly 134 = .ok (.aload_n 0, 1) := by decide +kernel
theorem dX9_fly_135 : decode cX9_fly 135 = .ok (.getfield 75, 3) := by decide +kernel
theorem dX9_fly_138 : decode cX9_fly 138 = .ok (.bipush 11, 2) := by decide +kernel
theorem dX9_fly_140 : decode cX9_fly 140 = .ok (.iload_n 2, 1) := by decide +kernel
theorem dX9_fly_141 : decode cX9_fly 141 = .ok (.imul, 1) := by decide +kernel
theorem dX9_fly_142 : decode cX9_fly 142 = .ok (.bipush 10, 2) := by decide +kernel
theorem dX9_fly_144 : decode cX9_fly 144 = .ok (.iadd, 1) := by decide +kernel
theorem dX9_fly_145 : decode cX9_fly 145 = .ok (.iaload, 1) := by decide +kernel
theorem dX9_fly_146 : decode cX9_fly 146 = .ok (.goto 5, 3) := by decide +kernel
theorem dX9_fly_149 : decode cX9_fly 149 = .ok (.ldc 151, 2) := by decide +kernel
theorem dX9_fly_151 : decode cX9_fly 151 = .ok (.istore_n 3, 1) := by decide +kernel
theorem dX9_fly_152 : decode cX9_fly 152 = .ok (.iconst 0, 1) := by decide +kernel
theorem dX9_fly_153 : decode cX9_fly 153 = .ok (.istore 4, 2) := by decide +kernel
theorem dX9_fly_155 : decode cX9_fly 155 = .ok (.iload 4, 2) := by decide +kernel
theorem dX9_fly_157 : decode cX9_fly 157 = .ok (.aload_n 0, 1) := by decide +kernel
theorem dX9_fly_158 : decode cX9_fly 158 = .ok (.getfield 111, 3) := by decide +kernel
theorem dX9_fly_161 : decode cX9_fly 161 = .ok (.if_icmp .ge 69, 3) := by decide +kernel
theorem dX9_fly_164 : decode cX9_fly 164 = .ok (.iload_n 1, 1) := by decide +kernel
theorem dX9_fly_165 : decode cX9_fly 165 = .ok (.iload 4, 2) := by decide +kernel
theorem dX9_fly_167 : decode cX9_fly 167 = .ok (.ishr, 1) := by decide +kernel
theorem dX9_fly_168 : decode cX9_fly 168 = .ok (.iconst 1, 1) := by decide +kernel
theorem dX9_fly_169 : decode cX9_fly 169 = .ok (.iand, 1) := by decide +kernel
theorem dX9_fly_170 : decode cX9_fly 170 = .ok (.iconst 1, 1) := by decide +kernel
theorem dX9_fly_171 : decode cX9_fly 171 = .ok (.if_icmp .ne 53, 3) := by decide +kernel
theorem dX9_fly_174 : decode cX9_fly 174 = .ok (.aload_n 0, 1) := by decide +kernel
theorem dX9_fly_175 : decode cX9_fly 175 = .ok (.getfield 75, 3) := by decide +kernel
theorem dX9_fly_178 : decode cX9_fly 178 = .ok (.bipush 11, 2) := by decide +kernel
theorem dX9_fly_180 : decode cX9_fly 180 = .ok (.iload_n 2, 1) := by decide +kernel
theorem dX9_fly_181 : decode cX9_fly 181 = .ok (.imul, 1) := by decide +kernel
theorem dX9_fly_182 : decode cX9_fly 182 = .ok (.iload 4, 2) := by decide +kernel
theorem dX9_fly_184 : decode cX9_fly 184 = .ok (.iadd, 1) := by decide +kernel
theorem dX9_fly_185 : decode cX9_fly 185 = .ok (.iaload, 1) := by decide +kernel
theorem dX9_fly_186 : decode cX9_fly 186 = .ok (.aload_n 0, 1) := by decide +kernel
theorem dX9_fly_187 : decode cX9_fly 187 = .ok (.getfield 187, 3) := by decide +kernel
theorem dX9_fly_190 : decode cX9_fly 190 = .ok (.iadd, 1) := by decide +kernel
theorem dX9_fly_191 : decode cX9_fly 191 = .ok (.aload_n 0, 1) := by decide +kernel
theorem dX9_fly_192 : decode cX9_fly 192 = .ok (.getfield 78, 3) := by decide +kernel
theorem dX9_fly_195 : decode cX9_fly 195 = .ok (.bipush 11, 2) := by decide +kernel
theorem dX9_fly_197 : decode cX9_fly 197 = .ok (.iload_n 1, 1) := by decide +kernel
theorem dX9_fly_198 : decode cX9_fly 198 = .ok (.iconst 1, 1) := by decide +kernel
theorem dX9_fly_199 : decode cX9_fly 199 = .ok (.iload 4, 2) := by decide +kernel
theorem dX9_fly_201 : decode cX9_fly 201 = .ok (.ishl, 1) := by decide +kernel
theorem dX9_fly_202 : decode cX9_fly 202 = .ok (.ixor, 1) := by decide +kernel
theorem dX9_fly_203 : decode cX9_fly 203 = .ok (.imul, 1) := by decide +kernel
theorem dX9_fly_204 : decode cX9_fly 204 = .ok (.iload 4, 2) := by decide +kernel
theorem dX9_fly_206 : decode cX9_fly 206 = .ok (.iadd, 1) := by decide +kernel
theorem dX9_fly_207 : decode cX9_fly 207 = .ok (.iaload, 1) := by decide +kernel
theorem dX9_fly_208 : decode cX9_fly 208 = .ok (.iadd, 1) := by decide +kernel
theorem dX9_fly_209 : decode cX9_fly 209 = .ok (.istore 5, 2) := by decide +kernel
theorem dX9_fly_211 : decode cX9_fly 211 = .ok (.iload 5, 2) := by decide +kernel
theorem dX9_fly_213 : decode cX9_fly 213 = .ok (.iload_n 3, 1) := by decide +kernel
theorem dX9_fly_214 : decode cX9_fly 214 = .ok (.if_icmp .ge 8, 3) := by decide +kernel
theorem dX9_fly_217 : decode cX9_fly 217 = .ok (.iload 5, 2) := by decide +kernel
theorem dX9_fly_219 : decode cX9_fly 219 = .ok (.goto 4, 3) := by decide +kernel
theorem dX9_fly_222 : decode cX9_fly 222 = .ok (.iload_n 3, 1) := by decide +kernel
theorem dX9_fly_223 : decode cX9_fly 223 = .ok (.istore_n 3, 1) := by decide +kernel
theorem dX9_fly_224 : decode cX9_fly 224 = .ok (.iinc 4 1, 3) := by decide +kernel
theorem dX9_fly_227 : decode cX9_fly 227 = .ok (.goto (-72), 3) := by decide +kernel
theorem dX9_fly_230 : decode cX9_fly 230 = .ok (.aload_n 0, 1) := by decide +kernel
theorem dX9_fly_231 : decode cX9_fly 231 = .ok (.getfield 78, 3) := by decide +kernel
theorem dX9_fly_234 : decode cX9_fly 234 = .ok (.bipush 11, 2) := by decide +kernel
theorem dX9_fly_236 : decode cX9_fly 236 = .ok (.iload_n 1, 1) := by decide +kernel
theorem dX9_fly_237 : decode cX9_fly 237 = .ok (.imul, 1) := by decide +kernel
theorem dX9_fly_238 : decode cX9_fly 238 = .ok (.iload_n 2, 1) := by decide +kernel
theorem dX9_fly_239 : decode cX9_fly 239 = .ok (.iadd, 1) := by decide +kernel
theorem dX9_fly_240 : decode cX9_fly 240 = .ok (.iload_n 3, 1) := by decide +kernel
theorem dX9_fly_241 : decode cX9_fly 241 = .ok (.iastore, 1) := by decide +kernel
theorem dX9_fly_242 : decode cX9_fly 242 = .ok (.iinc 2 1, 3) := by decide +kernel
theorem dX9_fly_245 : decode cX9_fly 245 = .ok (.goto (-121), 3) := by decide +kernel
theorem dX9_fly_248 : decode cX9_fly 248 = .ok (.iinc 1 1, 3) := by decide +kernel
theorem dX9_fly_251 : decode cX9_fly 251 = .ok (.goto (-139), 3) := by decide +kernel
theorem dX9_fly_254 : decode cX9_fly 254 = .ok (.return_, 1) := by decide +kernel
theorem dX9_roundOf_0 : decode cX9_roundOf 0 = .ok (.iload_n 1, 1) := by decide +kernel
theorem dX9_roundOf_1 : decode cX9_roundOf 1 = .ok (.ifCond .ne 8, 3) := by decide +kernel
theorem dX9_roundOf_4 : decode cX9_roundOf 4 = .ok (.ldc 151, 2) := by decide +kernel
theorem dX9_roundOf_6 : decode cX9_roundOf 6 = .ok (.goto 15, 3) := by decide +kernel
theorem dX9_roundOf_9 : decode cX9_roundOf 9 = .ok (.aload_n 0, 1) := by decide +kernel
theorem dX9_roundOf_10 : decode cX9_roundOf 10 = .ok (.getfield 78, 3) := by decide +kernel
theorem dX9_roundOf_13 : decode cX9_roundOf 13 = .ok (.bipush 11, 2) := by decide +kernel
theorem dX9_roundOf_15 : decode cX9_roundOf 15 = .ok (.iload_n 1, 1) := by decide +kernel
theorem dX9_roundOf_16 : decode cX9_roundOf 16 = .ok (.imul, 1) := by decide +kernel
theorem dX9_roundOf_17 : decode cX9_roundOf 17 = .ok (.bipush 10, 2) := by decide +kernel
theorem dX9_roundOf_19 : decode cX9_roundOf 19 = .ok (.iadd, 1) := by decide +kernel
theorem dX9_roundOf_20 : decode cX9_roundOf 20 = .ok (.iaload, 1) := by decide +kernel
theorem dX9_roundOf_21 : decode cX9_roundOf 21 = .ok (.ireturn, 1) := by decide +kernel
theorem dX9_round_0 : decode cX9_round 0 = .ok (.aload_n 0, 1) := by decide +kernel
theorem dX9_round_1 : decode cX9_round 1 = .ok (.iconst 0, 1) := by decide +kernel
theorem dX9_round_2 : decode cX9_round 2 = .ok (.putfield 99, 3) := by decide +kernel
theorem dX9_round_5 : decode cX9_round 5 = .ok (.aload_n 0, 1) := by decide +kernel
theorem dX9_round_6 : decode cX9_round 6 = .ok (.iload_n 1, 1) := by decide +kernel
theorem dX9_round_7 : decode cX9_round 7 = .ok (.invokevirtual 163, 3) := by decide +kernel
theorem dX9_round_10 : decode cX9_round 10 = .ok (.ifCond .eq 5, 3) := by decide +kernel
theorem dX9_round_13 : decode cX9_round 13 = .ok (.iconst (-1), 1) := by decide +kernel
theorem dX9_round_14 : decode cX9_round 14 = .ok (.ireturn, 1) := by decide +kernel
theorem dX9_round_15 : decode cX9_round 15 = .ok (.aload_n 0, 1) := by decide +kernel
theorem dX9_round_16 : decode cX9_round 16 = .ok (.invokevirtual 193, 3) := by decide +kernel
theorem dX9_round_19 : decode cX9_round 19 = .ok (.aload_n 0, 1) := by decide +kernel
theorem dX9_round_20 : decode cX9_round 20 = .ok (.iload_n 1, 1) := by decide +kernel
theorem dX9_round_21 : decode cX9_round 21 = .ok (.invokevirtual 196, 3) := by decide +kernel
theorem dX9_round_24 : decode cX9_round 24 = .ok (.ldc 151, 2) := by decide +kernel
theorem dX9_round_26 : decode cX9_round 26 = .ok (.if_icmp .lt 8, 3) := by decide +kernel
theorem dX9_round_29 : decode cX9_round 29 = .ok (.bipush (-9), 2) := by decide +kernel
theorem dX9_round_31 : decode cX9_round 31 = .ok (.goto 8, 3) := by decide +kernel
theorem dX9_round_34 : decode cX9_round 34 = .ok (.aload_n 0, 1) := by decide +kernel
theorem dX9_round_35 : decode cX9_round 35 = .ok (.iload_n 1, 1) := by decide +kernel
theorem dX9_round_36 : decode cX9_round 36 = .ok (.invokevirtual 196, 3) := by decide +kernel
theorem dX9_round_39 : decode cX9_round 39 = .ok (.ireturn, 1) := by decide +kernel
theorem dX9_stop_0 : decode cX9_stop 0 = .ok (.aload_n 0, 1) := by decide +kernel
theorem dX9_stop_1 : decode cX9_stop 1 = .ok (.iconst 0, 1) := by decide +kernel
theorem dX9_stop_2 : decode cX9_stop 2 = .ok (.putfield 99, 3) := by decide +kernel
theorem dX9_stop_5 : decode cX9_stop 5 = .ok (.aload_n 0, 1) := by decide +kernel
theorem dX9_stop_6 : decode cX9_stop 6 = .ok (.iload_n 1, 1) := by decide +kernel
theorem dX9_stop_7 : decode cX9_stop 7 = .ok (.invokevirtual 163, 3) := by decide +kernel
theorem dX9_stop_10 : decode cX9_stop 10 = .ok (.ifCond .eq 5, 3) := by decide +kernel
theorem dX9_stop_13 : decode cX9_stop 13 = .ok (.iconst (-1), 1) := by decide +kernel
theorem dX9_stop_14 : decode cX9_stop 14 = .ok (.ireturn, 1) := by decide +kernel
theorem dX9_stop_15 : decode cX9_stop 15 = .ok (.aload_n 0, 1) := by decide +kernel
theorem dX9_stop_16 : decode cX9_stop 16 = .ok (.invokevirtual 193, 3) := by decide +kernel
theorem dX9_stop_19 : decode cX9_stop 19 = .ok (.aload_n 0, 1) := by decide +kernel
theorem dX9_stop_20 : decode cX9_stop 20 = .ok (.iload_n 1, 1) := by decide +kernel
theorem dX9_stop_21 : decode cX9_stop 21 = .ok (.invokevirtual 196, 3) := by decide +kernel
theorem dX9_stop_24 : decode cX9_stop 24 = .ok (.ldc 151, 2) := by decide +kernel
theorem dX9_stop_26 : decode cX9_stop 26 = .ok (.if_icmp .ge 19, 3) := by decide +kernel
theorem dX9_stop_29 : decode cX9_stop 29 = .ok (.iload_n 2, 1) := by decide +kernel
theorem dX9_stop_30 : decode cX9_stop 30 = .ok (.i2l, 1) := by decide +kernel
theorem dX9_stop_31 : decode cX9_stop 31 = .ok (.lconst 0, 1) := by decide +kernel
theorem dX9_stop_32 : decode cX9_stop 32 = .ok (.iload_n 1, 1) := by decide +kernel
theorem dX9_stop_33 : decode cX9_stop 33 = .ok (.invokestatic 157, 3) := by decide +kernel
theorem dX9_stop_36 : decode cX9_stop 36 = .ok (.iconst 1, 1) := by decide +kernel
theorem dX9_stop_37 : decode cX9_stop 37 = .ok (.isub, 1) := by decide +kernel
theorem dX9_stop_38 : decode cX9_stop 38 = .ok (.i2l, 1) := by decide +kernel
theorem dX9_stop_39 : decode cX9_stop 39 = .ok (.invokestatic 104, 3) := by decide +kernel
theorem dX9_stop_42 : decode cX9_stop 42 = .ok (.ifCond .ne 6, 3) := by decide +kernel
theorem dX9_stop_45 : decode cX9_stop 45 = .ok (.bipush (-9), 2) := by decide +kernel
theorem dX9_stop_47 : decode cX9_stop 47 = .ok (.ireturn, 1) := by decide +kernel
theorem dX9_stop_48 : decode cX9_stop 48 = .ok (.iload_n 1, 1) := by decide +kernel
theorem dX9_stop_49 : decode cX9_stop 49 = .ok (.istore_n 3, 1) := by decide +kernel
theorem dX9_stop_50 : decode cX9_stop 50 = .ok (.bipush 10, 2) := by decide +kernel
theorem dX9_stop_52 : decode cX9_stop 52 = .ok (.istore 4, 2) := by decide +kernel
theorem dX9_stop_54 : decode cX9_stop 54 = .ok (.iconst 0, 1) := by decide +kernel
theorem dX9_stop_55 : decode cX9_stop 55 = .ok (.istore 5, 2) := by decide +kernel
theorem dX9_stop_57 : decode cX9_stop 57 = .ok (.iload 5, 2) := by decide +kernel
theorem dX9_stop_59 : decode cX9_stop 59 = .ok (.iload_n 2, 1) := by decide +kernel
theorem dX9_stop_60 : decode cX9_stop 60 = .ok (.if_icmp .gt 125, 3) := by decide +kernel
theorem dX9_stop_63 : decode cX9_stop 63 = .ok (.bipush (-9), 2) := by decide +kernel
theorem dX9_stop_65 : decode cX9_stop 65 = .ok (.istore 6, 2) := by decide +kernel
theorem dX9_stop_67 : decode cX9_stop 67 = .ok (.aload_n 0, 1) := by decide +kernel
theorem dX9_stop_68 : decode cX9_stop 68 = .ok (.getfield 111, 3) := by decide +kernel
theorem dX9_stop_71 : decode cX9_stop 71 = .ok (.iconst 1, 1) := by decide +kernel
theorem dX9_stop_72 : decode cX9_stop 72 = .ok (.isub, 1) := by decide +kernel
theorem dX9_stop_73 : decode cX9_stop 73 = .ok (.istore 7, 2) := by decide +kernel
theorem dX9_stop_75 : decode cX9_stop 75 = .ok (.iload 7, 2) := by decide +kernel
theorem dX9_stop_77 : decode cX9_stop 77 = .ok (.ifCond .lt 91, 3) := by decide +kernel
theorem dX9_stop_80 : decode cX9_stop 80 = .ok (.iload_n 3, 1) := by decide +kernel
theorem dX9_stop_81 : decode cX9_stop 81 = .ok (.iload 7, 2) := by decide +kernel
theorem dX9_stop_83 : decode cX9_stop 83 = .ok (.ishr, 1) := by decide +kernel
theorem dX9_stop_84 : decode cX9_stop 84 = .ok (.iconst 1, 1) := by decide +kernel
theorem dX9_stop_85 : decode cX9_stop 85 = .ok (.iand, 1) := by decide +kernel
theorem dX9_stop_86 : decode cX9_stop 86 = .ok (.iconst 1, 1) := by decide +kernel
theorem dX9_stop_87 : decode cX9_stop 87 = .ok (.if_icmp .ne 58, 3) := by decide +kernel
theorem dX9_stop_90 : decode cX9_stop 90 = .ok (.aload_n 0, 1) := by decide +kernel
theorem dX9_stop_91 : decode cX9_stop 91 = .ok (.getfield 75, 3) := by decide +kernel
theorem dX9_stop_94 : decode cX9_stop 94 = .ok (.bipush 11, 2) := by decide +kernel
theorem dX9_stop_96 : decode cX9_stop 96 = .ok (.iload 4, 2) := by decide +kernel
theorem dX9_stop_98 : decode cX9_stop 98 = .ok (.imul, 1) := by decide +kernel
theorem dX9_stop_99 : decode cX9_stop 99 = .ok (.iload 7, 2) := by decide +kernel
theorem dX9_stop_101 : decode cX9_stop 101 = .ok (.iadd, 1) := by decide +kernel
theorem dX9_stop_102 : decode cX9_stop 102 = .ok (.iaload, 1) := by decide +kernel
theorem dX9_stop_103 : decode cX9_stop 103 = .ok (.aload_n 0, 1) := by decide +kernel
theorem dX9_stop_104 : decode cX9_stop 104 = .ok (.getfield 187, 3) := by decide +kernel
theorem dX9_stop_107 : decode cX9_stop 107 = .ok (.iadd, 1) := by decide +kernel
theorem dX9_stop_108 : decode cX9_stop 108 = .ok (.aload_n 0, 1) := by decide +kernel
theorem dX9_stop_109 : decode cX9_stop 109 = .ok (.getfield 78, 3) := by decide +kernel
theorem dX9_stop_112 : decode cX9_stop 112 = .ok (.bipush 11, 2) := by decide +kernel
theorem dX9_stop_114 : decode cX9_stop 114 = .ok (.iload_n 3, 1) := by decide +kernel
theorem dX9_stop_115 : decode cX9_stop 115 = .ok (.iconst 1, 1) := by decide +kernel
theorem dX9_stop_116 : decode cX9_stop 116 = .ok (.iload 7, 2) := by decide +kernel
theorem dX9_stop_118 : decode cX9_stop 118 = .ok (.ishl, 1) := by decide +kernel
theorem dX9_stop_119 : decode cX9_stop 119 = .ok (.ixor, 1) := by decide +kernel
theorem dX9_stop_120 : decode cX9_stop 120 = .ok (.imul, 1) := by decide +kernel
theorem dX9_stop_121 : decode cX9_stop 121 = .ok (.iload 7, 2) := by decide +kernel
theorem dX9_stop_123 : decode cX9_stop 123 = .ok (.iadd, 1) := by decide +kernel
theorem dX9_stop_124 : decode cX9_stop 124 = .ok (.iaload, 1) := by decide +kernel
theorem dX9_stop_125 : decode cX9_stop 125 = .ok (.iadd, 1) := by decide +kernel
theorem dX9_stop_126 : decode cX9_stop 126 = .ok (.aload_n 0, 1) := by decide +kernel
theorem dX9_stop_127 : decode cX9_stop 127 = .ok (.getfield 78, 3) := by decide +kernel
theorem dX9_stop_130 : decode cX9_stop 130 = .ok (.bipush 11, 2) := by decide +kernel
theorem dX9_stop_132 : decode cX9_stop 132 = .ok (.iload_n 3, 1) := by decide +kernel
theorem dX9_stop_133 : decode cX9_stop 133 = .ok (.imul, 1) := by decide +kernel
theorem dX9_stop_134 : decode cX9_stop 134 = .ok (.iload 4, 2) := by decide +kernel
theorem dX9_stop_136 : decode cX9_stop 136 = .ok (.iadd, 1) := by decide +kernel
theorem dX9_stop_137 : decode cX9_stop 137 = .ok (.iaload, 1) := by decide +kernel
theorem dX9_stop_138 : decode cX9_stop 138 = .ok (.if_icmp .ne 7, 3) := by decide +kernel
theorem dX9_stop_141 : decode cX9_stop 141 = .ok (.iconst 1, 1) := by decide +kernel
theorem dX9_stop_142 : decode cX9_stop 142 = .ok (.goto 4, 3) := by decide +kernel
theorem dX9_stop_145 : decode cX9_stop 145 = .ok (.iconst 0, 1) := by decide +kernel
theorem dX9_stop_146 : decode cX9_stop 146 = .ok (.istore 8, 2) := by decide +kernel
theorem dX9_stop_148 : decode cX9_stop 148 = .ok (.iload 8, 2) := by decide +kernel
theorem dX9_stop_150 : decode cX9_stop 150 = .ok (.ifCond .eq 8, 3) := by decide +kernel
theorem dX9_stop_153 : decode cX9_stop 153 = .ok (.iload 7, 2) := by decide +kernel
theorem dX9_stop_155 : decode cX9_stop 155 = .ok (.goto 5, 3) := by decide +kernel
theorem dX9_stop_158 : decode cX9_stop 158 = .ok (.iload 6, 2) := by decide +kernel
theorem dX9_stop_160 : decode cX9_stop 160 = .ok (.istore 6, 2) := by decide +kernel
theorem dX9_stop_162 : decode cX9_stop 162 = .ok (.iinc 7 (-1), 3) := by decide +kernel
theorem dX9_stop_165 : decode cX9_stop 165 = .ok (.goto (-90), 3) := by decide +kernel
theorem dX9_stop_168 : decode cX9_stop 168 = .ok (.iload_n 3, 1) := by decide +kernel
theorem dX9_stop_169 : decode cX9_stop 169 = .ok (.iconst 1, 1) := by decide +kernel
theorem dX9_stop_170 : decode cX9_stop 170 = .ok (.iload 6, 2) := by decide +kernel
theorem dX9_stop_172 : decode cX9_stop 172 = .ok (.ishl, 1) := by decide +kernel
theorem dX9_stop_173 : decode cX9_stop 173 = .ok (.ixor, 1) := by decide +kernel
theorem dX9_stop_174 : decode cX9_stop 174 = .ok (.istore_n 3, 1) := by decide +kernel
theorem dX9_stop_175 : decode cX9_stop 175 = .ok (.iload 6, 2) := by decide +kernel
theorem dX9_stop_177 : decode cX9_stop 177 = .ok (.istore 4, 2) := by decide +kernel
theorem dX9_stop_179 : decode cX9_stop 179 = .ok (.iinc 5 1, 3) := by decide +kernel
theorem dX9_stop_182 : decode cX9_stop 182 = .ok (.goto (-125), 3) := by decide +kernel
theorem dX9_stop_185 : decode cX9_stop 185 = .ok (.iload 4, 2) := by decide +kernel
theorem dX9_stop_187 : decode cX9_stop 187 = .ok (.ireturn, 1) := by decide +kernel
theorem dX9_part_0 : decode cX9_part 0 = .ok (.aload_n 0, 1) := by decide +kernel
theorem dX9_part_1 : decode cX9_part 1 = .ok (.invokevirtual 193, 3) := by decide +kernel
theorem dX9_part_4 : decode cX9_part 4 = .ok (.iconst 0, 1) := by decide +kernel
theorem dX9_part_5 : decode cX9_part 5 = .ok (.istore_n 1, 1) := by decide +kernel
theorem dX9_part_6 : decode cX9_part 6 = .ok (.iload_n 1, 1) := by decide +kernel
theorem dX9_part_7 : decode cX9_part 7 = .ok (.iconst 1, 1) := by decide +kernel
theorem dX9_part_8 : decode cX9_part 8 = .ok (.aload_n 0, 1) := by decide +kernel
theorem dX9_part_9 : decode cX9_part 9 = .ok (.getfield 111, 3) := by decide +kernel
theorem dX9_part_12 : decode cX9_part 12 = .ok (.ishl, 1) := by decide +kernel
theorem dX9_part_13 : decode cX9_part 13 = .ok (.if_icmp .ge 161, 3) := by decide +kernel
theorem dX9_part_16 : decode cX9_part 16 = .ok (.aload_n 0, 1) := by decide +kernel
theorem dX9_part_17 : decode cX9_part 17 = .ok (.getfield 81, 3) := by decide +kernel
theorem dX9_part_20 : decode cX9_part 20 = .ok (.iload_n 1, 1) := by decide +kernel
theorem dX9_part_21 : decode cX9_part 21 = .ok (.iload_n 1, 1) := by decide +kernel
theorem dX9_part_22 : decode cX9_part 22 = .ok (.ifCond .ne 7, 3) := by decide +kernel
theorem dX9_part_25 : decode cX9_part 25 = .ok (.iconst 0, 1) := by decide +kernel
theorem dX9_part_26 : decode cX9_part 26 = .ok (.goto 5, 3) := by decide +kernel
theorem dX9_part_29 : decode cX9_part 29 = .ok (.ldc 151, 2) := by decide +kernel
theorem dX9_part_31 : decode cX9_part 31 = .ok (.iastore, 1) := by decide +kernel
theorem dX9_part_32 : decode cX9_part 32 = .ok (.aload_n 0, 1) := by decide +kernel
theorem dX9_part_33 : decode cX9_part 33 = .ok (.getfield 84, 3) := by decide +kernel
theorem dX9_part_36 : decode cX9_part 36 = .ok (.iload_n 1, 1) := by decide +kernel
theorem dX9_part_37 : decode cX9_part 37 = .ok (.iconst 0, 1) := by decide +kernel
theorem dX9_part_38 : decode cX9_part 38 = .ok (.iastore, 1) := by decide +kernel
theorem dX9_part_39 : decode cX9_part 39 = .ok (.iload_n 1, 1) := by decide +kernel
theorem dX9_part_40 : decode cX9_part 40 = .ok (.iload_n 1, 1) := by decide +kernel
theorem dX9_part_41 : decode cX9_part 41 = .ok (.ineg, 1) := by decide +kernel
theorem dX9_part_42 : decode cX9_part 42 = .ok (.iand, 1) := by decide +kernel
theorem dX9_part_43 : decode cX9_part 43 = .ok (.istore_n 2, 1) := by decide +kernel
theorem dX9_part_44 : decode cX9_part 44 = .ok (.iload_n 1, 1) := by decide +kernel
theorem dX9_part_45 : decode cX9_part 45 = .ok (.istore_n 3, 1) := by decide +kernel
theorem dX9_part_46 : decode cX9_part 46 = .ok (.iload_n 3, 1) := by decide +kernel
theorem dX9_part_47 : decode cX9_part 47 = .ok (.ifCond .le 121, 3) := by decide +kernel
theorem dX9_part_50 : decode cX9_part 50 = .ok (.aload_n 0, 1) := by decide +kernel
theorem dX9_part_51 : decode cX9_part 51 = .ok (.iload_n 3, 1) := by decide +kernel
theorem dX9_part_52 : decode cX9_part 52 = .ok (.invokevirtual 196, 3) := by decide +kernel
theorem dX9_part_55 : decode cX9_part 55 = .ok (.istore 4, 2) := by decide +kernel
theorem dX9_part_57 : decode cX9_part 57 = .ok (.iload_n 3, 1) := by decide +kernel
theorem dX9_part_58 : decode cX9_part 58 = .ok (.iload_n 2, 1) := by decide +kernel
theorem dX9_part_59 : decode cX9_part 59 = .ok (.iand, 1) := by decide +kernel
theorem dX9_part_60 : decode cX9_part 60 = .ok (.ifCond .eq 99, 3) := by decide +kernel
theorem dX9_part_63 : decode cX9_part 63 = .ok (.iload 4, 2) := by decide +kernel
theorem dX9_part_65 : decode cX9_part 65 = .ok (.aload_n 0, 1) := by decide +kernel
theorem dX9_part_66 : decode cX9_part 66 = .ok (.getfield 47, 3) := by decide +kernel
theorem dX9_part_69 : decode cX9_part 69 = .ok (.if_icmp .gt 90, 3) := by decide +kernel
theorem dX9_part_72 : decode cX9_part 72 = .ok (.aload_n 0, 1) := by decide +kernel
theorem dX9_part_73 : decode cX9_part 73 = .ok (.getfield 81, 3) := by decide +kernel
theorem dX9_part_76 : decode cX9_part 76 = .ok (.iload_n 1, 1) := by decide +kernel
theorem dX9_part_77 : decode cX9_part 77 = .ok (.iload_n 3, 1) := by decide +kernel
theorem dX9_part_78 : decode cX9_part 78 = .ok (.ixor, 1) := by decide +kernel
theorem dX9_part_79 : decode cX9_part 79 = .ok (.iaload, 1) := by decide +kernel
theorem dX9_part_80 : decode cX9_part 80 = .ok (.ldc 151, 2) := by decide +kernel
theorem dX9_part_82 : decode cX9_part 82 = .ok (.if_icmp .ge 77, 3) := by decide +kernel
theorem dX9_part_85 : decode cX9_part 85 = .ok (.aload_n 0, 1) := by decide +kernel
theorem dX9_part_86 : decode cX9_part 86 = .ok (.getfield 81, 3) := by decide +kernel
theorem dX9_part_89 : decode cX9_part 89 = .ok (.iload_n 1, 1) := by decide +kernel
theorem dX9_part_90 : decode cX9_part 90 = .ok (.iload_n 3, 1) := by decide +kernel
theorem dX9_part_91 : decode cX9_part 91 = .ok (.ixor, 1) := by decide +kernel
theorem dX9_part_92 : decode cX9_part 92 = .ok (.iaload, 1) := by decide +kernel
theorem dX9_part_93 : decode cX9_part 93 = .ok (.iconst 1, 1) := by decide +kernel
theorem dX9_part_94 : decode cX9_part 94 = .ok (.iadd, 1) := by decide +kernel
theorem dX9_part_95 : decode cX9_part 95 = .ok (.istore 5, 2) := by decide +kernel
theorem dX9_part_97 : decode cX9_part 97 = .ok (.aload_n 0, 1) := by decide +kernel
theorem dX9_part_98 : decode cX9_part 98 = .ok (.getfield 84, 3) := by decide +kernel
theorem dX9_part_101 : decode cX9_part 101 = .ok (.iload_n 1, 1) := by decide +kernel
theorem dX9_part_102 : decode cX9_part 102 = .ok (.iload_n 3, 1) := by decide +kernel
theorem dX9_part_103 : decode cX9_part 103 = .ok (.ixor, 1) := by decide +kernel
theorem dX9_part_104 : decode cX9_part 104 = .ok (.iaload, 1) := by decide +kernel
theorem dX9_part_105 : decode cX9_part 105 = .ok (.iload 4, 2) := by decide +kernel
theorem dX9_part_107 : decode cX9_part 107 = .ok (.iadd, 1) := by decide +kernel
theorem dX9_part_108 : decode cX9_part 108 = .ok (.istore 6, 2) := by decide +kernel
theorem dX9_part_110 : decode cX9_part 110 = .ok (.iload 5, 2) := by decide +kernel
theorem dX9_part_112 : decode cX9_part 112 = .ok (.aload_n 0, 1) := by decide +kernel
theorem dX9_part_113 : decode cX9_part 113 = .ok (.getfield 81, 3) := by decide +kernel
theorem dX9_part_116 : decode cX9_part 116 = .ok (.iload_n 1, 1) := by decide +kernel
theorem dX9_part_117 : decode cX9_part 117 = .ok (.iaload, 1) := by decide +kernel
theorem dX9_part_118 : decode cX9_part 118 = .ok (.if_icmp .lt 25, 3) := by decide +kernel
theorem dX9_part_121 : decode cX9_part 121 = .ok (.iload 5, 2) := by decide +kernel
theorem dX9_part_123 : decode cX9_part 123 = .ok (.aload_n 0, 1) := by decide +kernel
theorem dX9_part_124 : decode cX9_part 124 = .ok (.getfield 81, 3) := by decide +kernel
theorem dX9_part_127 : decode cX9_part 127 = .ok (.iload_n 1, 1) := by decide +kernel
theorem dX9_part_128 : decode cX9_part 128 = .ok (.iaload, 1) := by decide +kernel
theorem dX9_part_129 : decode cX9_part 129 = .ok (.if_icmp .ne 30, 3) := by decide +kernel
theorem dX9_part_132 : decode cX9_part 132 = .ok (.iload 6, 2) := by decide +kernel
theorem dX9_part_134 : decode cX9_part 134 = .ok (.aload_n 0, 1) := by decide +kernel
theorem dX9_part_135 : decode cX9_part 135 = .ok (.getfield 84, 3) := by decide +kernel
theorem dX9_part_138 : decode cX9_part 138 = .ok (.iload_n 1, 1) := by decide +kernel
theorem dX9_part_139 : decode cX9_part 139 = .ok (.iaload, 1) := by decide +kernel
theorem dX9_part_140 : decode cX9_part 140 = .ok (.if_icmp .ge 19, 3) := by decide +kernel
theorem dX9_part_143 : decode cX9_part 143 = .ok (.aload_n 0, 1) := by decide +kernel
theorem dX9_part_144 : decode cX9_part 144 = .ok (.getfield 81, 3) := by decide +kernel
theorem dX9_part_147 : decode cX9_part 147 = .ok (.iload_n 1, 1) := by decide +kernel
theorem dX9_part_148 : decode cX9_part 148 = .ok (.iload 5, 2) := by decide +kernel
theorem dX9_part_150 : decode cX9_part 150 = .ok (.iastore, 1) := by decide +kernel
theorem dX9_part_151 : decode cX9_part 151 = .ok (.aload_n 0, 1) := by decide +kernel
theorem dX9_part_152 : decode cX9_part 152 = .ok (.getfield 84, 3) := by decide +kernel
theorem dX9_part_155 : decode cX9_part 155 = .ok (.iload_n 1, 1) := by decide +kernel
theorem dX9_part_156 : decode cX9_part 156 = .ok (.iload 6, 2) := by decide +kernel
theorem dX9_part_158 : decode cX9_part 158 = .ok (.iastore, 1) := by decide +kernel
theorem dX9_part_159 : decode cX9_part 159 = .ok (.iload_n 3, 1) := by decide +kernel
theorem dX9_part_160 : decode cX9_part 160 = .ok (.iconst 1, 1) := by decide +kernel
theorem dX9_part_161 : decode cX9_part 161 = .ok (.isub, 1) := by decide +kernel
theorem dX9_part_162 : decode cX9_part 162 = .ok (.iload_n 1, 1) := by decide +kernel
theorem dX9_part_163 : decode cX9_part 163 = .ok (.iand, 1) := by decide +kernel
theorem dX9_part_164 : decode cX9_part 164 = .ok (.istore_n 3, 1) := by decide +kernel
theorem dX9_part_165 : decode cX9_part 165 = .ok (.goto (-119), 3) := by decide +kernel
theorem dX9_part_168 : decode cX9_part 168 = .ok (.iinc 1 1, 3) := by decide +kernel
theorem dX9_part_171 : decode cX9_part 171 = .ok (.goto (-165), 3) := by decide +kernel
theorem dX9_part_174 : decode cX9_part 174 = .ok (.return_, 1) := by decide +kernel
theorem dX9_flights_0 : decode cX9_flights 0 = .ok (.aload_n 0, 1) := by decide +kernel
theorem dX9_flights_1 : decode cX9_flights 1 = .ok (.iconst 0, 1) := by decide +kernel
theorem dX9_flights_2 : decode cX9_flights 2 = .ok (.putfield 99, 3) := by decide +kernel
theorem dX9_flights_5 : decode cX9_flights 5 = .ok (.aload_n 0, 1) := by decide +kernel
theorem dX9_flights_6 : decode cX9_flights 6 = .ok (.iload_n 1, 1) := by decide +kernel
theorem dX9_flights_7 : decode cX9_flights 7 = .ok (.invokevirtual 163, 3) := by decide +kernel
theorem dX9_flights_10 : decode cX9_flights 10 = .ok (.ifCond .eq 5, 3) := by decide +kernel
theorem dX9_flights_13 : decode cX9_flights 13 = .ok (.iconst (-1), 1) := by decide +kernel
theorem dX9_flights_14 : decode cX9_flights 14 = .ok (.ireturn, 1) := by decide +kernel
theorem dX9_flights_15 : decode cX9_flights 15 = .ok (.aload_n 0, 1) := by decide +kernel
theorem dX9_flights_16 : decode cX9_flights 16 = .ok (.invokevirtual 199, 3) := by decide +kernel
theorem dX9_flights_19 : decode cX9_flights 19 = .ok (.aload_n 0, 1) := by decide +kernel
theorem dX9_flights_20 : decode cX9_flights 20 = .ok (.getfield 81, 3) := by decide +kernel
theorem dX9_flights_23 : decode cX9_flights 23 = .ok (.iload_n 1, 1) := by decide +kernel
theorem dX9_flights_24 : decode cX9_flights 24 = .ok (.iaload, 1) := by decide +kernel
theorem dX9_flights_25 : decode cX9_flights 25 = .ok (.ldc 151, 2) := by decide +kernel
theorem dX9_flights_27 : decode cX9_flights 27 = .ok (.if_icmp .lt 8, 3) := by decide +kernel
theorem dX9_flights_30 : decode cX9_flights 30 = .ok (.bipush (-9), 2) := by decide +kernel
theorem dX9_flights_32 : decode cX9_flights 32 = .ok (.goto 9, 3) := by decide +kernel
theorem dX9_flights_35 : decode cX9_flights 35 = .ok (.aload_n 0, 1) := by decide +kernel
theorem dX9_flights_36 : decode cX9_flights 36 = .ok (.getfield 81, 3) := by decide +kernel
theorem dX9_flights_39 : decode cX9_flights 39 = .ok (.iload_n 1, 1) := by decide +kernel
theorem dX9_flights_40 : decode cX9_flights 40 = .ok (.iaload, 1) := by decide +kernel
theorem dX9_flights_41 : decode cX9_flights 41 = .ok (.ireturn, 1) := by decide +kernel
theorem dX9_energy_0 : decode cX9_energy 0 = .ok (.aload_n 0, 1) := by decide +kernel
theorem dX9_energy_1 : decode cX9_energy 1 = .ok (.iconst 0, 1) := by decide +kernel
theorem dX9_energy_2 : decode cX9_energy 2 = .ok (.putfield 99, 3) := by decide +kernel
theorem dX9_energy_5 : decode cX9_energy 5 = .ok (.aload_n 0, 1) := by decide +kernel
theorem dX9_energy_6 : decode cX9_energy 6 = .ok (.iload_n 1, 1) := by decide +kernel
theorem dX9_energy_7 : decode cX9_energy 7 = .ok (.invokevirtual 163, 3) := by decide +kernel
theorem dX9_energy_10 : decode cX9_energy 10 = .ok (.ifCond .eq 5, 3) := by decide +kernel
theorem dX9_energy_13 : decode cX9_energy 13 = .ok (.iconst (-1), 1) := by decide +kernel
theorem dX9_energy_14 : decode cX9_energy 14 = .ok (.ireturn, 1) := by decide +kernel
theorem dX9_energy_15 : decode cX9_energy 15 = .ok (.aload_n 0, 1) := by decide +kernel
theorem dX9_energy_16 : decode cX9_energy 16 = .ok (.invokevirtual 199, 3) := by decide +kernel
theorem dX9_energy_19 : decode cX9_energy 19 = .ok (.aload_n 0, 1) := by decide +kernel
theorem dX9_energy_20 : decode cX9_energy 20 = .ok (.getfield 81, 3) := by decide +kernel
theorem dX9_energy_23 : decode cX9_energy 23 = .ok (.iload_n 1, 1) := by decide +kernel
theorem dX9_energy_24 : decode cX9_energy 24 = .ok (.iaload, 1) := by decide +kernel
theorem dX9_energy_25 : decode cX9_energy 25 = .ok (.ldc 151, 2) := by decide +kernel
theorem dX9_energy_27 : decode cX9_energy 27 = .ok (.if_icmp .lt 8, 3) := by decide +kernel
theorem dX9_energy_30 : decode cX9_energy 30 = .ok (.bipush (-9), 2) := by decide +kernel
theorem dX9_energy_32 : decode cX9_energy 32 = .ok (.goto 9, 3) := by decide +kernel
theorem dX9_energy_35 : decode cX9_energy 35 = .ok (.aload_n 0, 1) := by decide +kernel
theorem dX9_energy_36 : decode cX9_energy 36 = .ok (.getfield 84, 3) := by decide +kernel
theorem dX9_energy_39 : decode cX9_energy 39 = .ok (.iload_n 1, 1) := by decide +kernel
theorem dX9_energy_40 : decode cX9_energy 40 = .ok (.iaload, 1) := by decide +kernel
theorem dX9_energy_41 : decode cX9_energy 41 = .ok (.ireturn, 1) := by decide +kernel
theorem dX9_log_0 : decode cX9_log 0 = .ok (.aload_n 0, 1) := by decide +kernel
theorem dX9_log_1 : decode cX9_log 1 = .ok (.iconst 0, 1) := by decide +kernel
theorem dX9_log_2 : decode cX9_log 2 = .ok (.putfield 99, 3) := by decide +kernel
theorem dX9_log_5 : decode cX9_log 5 = .ok (.iload_n 1, 1) := by decide +kernel
theorem dX9_log_6 : decode cX9_log 6 = .ok (.iload_n 2, 1) := by decide +kernel
theorem dX9_log_7 : decode cX9_log 7 = .ok (.invokestatic 134, 3) := by decide +kernel
theorem dX9_log_10 : decode cX9_log 10 = .ok (.ifCond .ne 15, 3) := by decide +kernel
theorem dX9_log_13 : decode cX9_log 13 = .ok (.iload_n 3, 1) := by decide +kernel
theorem dX9_log_14 : decode cX9_log 14 = .ok (.i2l, 1) := by decide +kernel
theorem dX9_log_15 : decode cX9_log 15 = .ok (.lconst 0, 1) := by decide +kernel
theorem dX9_log_16 : decode cX9_log 16 = .ok (.ldc2_w 202, 3) := by decide +kernel
theorem dX9_log_19 : decode cX9_log 19 = .ok (.invokestatic 104, 3) := by decide +kernel
theorem dX9_log_22 : decode cX9_log 22 = .ok (.ifCond .ne 6, 3) := by decide +kernel
theorem dX9_log_25 : decode cX9_log 25 = .ok (.bipush (-2), 2) := by decide +kernel
theorem dX9_log_27 : decode cX9_log 27 = .ok (.ireturn, 1) := by decide +kernel
theorem dX9_log_28 : decode cX9_log 28 = .ok (.aload_n 0, 1) := by decide +kernel
theorem dX9_log_29 : decode cX9_log 29 = .ok (.getfield 204, 3) := by decide +kernel
theorem dX9_log_32 : decode cX9_log 32 = .ok (.bipush 20, 2) := by decide +kernel
theorem dX9_log_34 : decode cX9_log 34 = .ok (.if_icmp .ne 6, 3) := by decide +kernel
theorem dX9_log_37 : decode cX9_log 37 = .ok (.bipush (-4), 2) := by decide +kernel
theorem dX9_log_39 : decode cX9_log 39 = .ok (.ireturn, 1) := by decide +kernel
theorem dX9_log_40 : decode cX9_log 40 = .ok (.aload_n 0, 1) := by decide +kernel
theorem dX9_log_41 : decode cX9_log 41 = .ok (.getfield 50, 3) := by decide +kernel
theorem dX9_log_44 : decode cX9_log 44 = .ok (.aload_n 0, 1) := by decide +kernel
theorem dX9_log_45 : decode cX9_log 45 = .ok (.getfield 204, 3) := by decide +kernel
theorem dX9_log_48 : decode cX9_log 48 = .ok (.iload_n 1, 1) := by decide +kernel
theorem dX9_log_49 : decode cX9_log 49 = .ok (.iastore, 1) := by decide +kernel
theorem dX9_log_50 : decode cX9_log 50 = .ok (.aload_n 0, 1) := by decide +kernel
theorem dX9_log_51 : decode cX9_log 51 = .ok (.getfield 53, 3) := by decide +kernel
theorem dX9_log_54 : decode cX9_log 54 = .ok (.aload_n 0, 1) := by decide +kernel
theorem dX9_log_55 : decode cX9_log 55 = .ok (.getfield 204, 3) := by decide +kernel
theorem dX9_log_58 : decode cX9_log 58 = .ok (.iload_n 2, 1) := by decide +kernel
theorem dX9_log_59 : decode cX9_log 59 = .ok (.iastore, 1) := by decide +kernel
theorem dX9_log_60 : decode cX9_log 60 = .ok (.aload_n 0, 1) := by decide +kernel
theorem dX9_log_61 : decode cX9_log 61 = .ok (.getfield 56, 3) := by decide +kernel
theorem dX9_log_64 : decode cX9_log 64 = .ok (.aload_n 0, 1) := by decide +kernel
theorem dX9_log_65 : decode cX9_log 65 = .ok (.getfield 204, 3) := by decide +kernel
theorem dX9_log_68 : decode cX9_log 68 = .ok (.iload_n 3, 1) := by decide +kernel
theorem dX9_log_69 : decode cX9_log 69 = .ok (.iastore, 1) := by decide +kernel
theorem dX9_log_70 : decode cX9_log 70 = .ok (.aload_n 0, 1) := by decide +kernel
theorem dX9_log_71 : decode cX9_log 71 = .ok (.dup, 1) := by decide +kernel
theorem dX9_log_72 : decode cX9_log 72 = .ok (.getfield 204, 3) := by decide +kernel
theorem dX9_log_75 : decode cX9_log 75 = .ok (.iconst 1, 1) := by decide +kernel
theorem dX9_log_76 : decode cX9_log 76 = .ok (.iadd, 1) := by decide +kernel
theorem dX9_log_77 : decode cX9_log 77 = .ok (.putfield 204, 3) := by decide +kernel
theorem dX9_log_80 : decode cX9_log 80 = .ok (.aload_n 0, 1) := by decide +kernel
theorem dX9_log_81 : decode cX9_log 81 = .ok (.getfield 204, 3) := by decide +kernel
theorem dX9_log_84 : decode cX9_log 84 = .ok (.iconst 1, 1) := by decide +kernel
theorem dX9_log_85 : decode cX9_log 85 = .ok (.isub, 1) := by decide +kernel
theorem dX9_log_86 : decode cX9_log 86 = .ok (.ireturn, 1) := by decide +kernel
theorem dX9_isProved_0 : decode cX9_isProved 0 = .ok (.iconst 1, 1) := by decide +kernel
theorem dX9_isProved_1 : decode cX9_isProved 1 = .ok (.istore_n 3, 1) := by decide +kernel
theorem dX9_isProved_2 : decode cX9_isProved 2 = .ok (.iconst 0, 1) := by decide +kernel
theorem dX9_isProved_3 : decode cX9_isProved 3 = .ok (.istore 4, 2) := by decide +kernel
theorem dX9_isProved_5 : decode cX9_isProved 5 = .ok (.iload 4, 2) := by decide +kernel
theorem dX9_isProved_7 : decode cX9_isProved 7 = .ok (.iconst 4, 1) := by decide +kernel
theorem dX9_isProved_8 : decode cX9_isProved 8 = .ok (.if_icmp .ge 86, 3) := by decide +kernel
theorem dX9_isProved_11 : decode cX9_isProved 11 = .ok (.iload_n 3, 1) := by decide +kernel
theorem dX9_isProved_12 : decode cX9_isProved 12 = .ok (.ifCond .eq 74, 3) := by decide +kernel
theorem dX9_isProved_15 : decode cX9_isProved 15 = .ok (.aload_n 0, 1) := by decide +kernel
theorem dX9_isProved_16 : decode cX9_isProved 16 = .ok (.aload_n 0, 1) := by decide +kernel
theorem dX9_isProved_17 : decode cX9_isProved 17 = .ok (.getfield 50, 3) := by decide +kernel
theorem dX9_isProved_20 : decode cX9_isProved 20 = .ok (.iload_n 1, 1) := by decide +kernel
theorem dX9_isProved_21 : decode cX9_isProved 21 = .ok (.iaload, 1) := by decide +kernel
theorem dX9_isProved_22 : decode cX9_isProved 22 = .ok (.iload 4, 2) := by decide +kernel
theorem dX9_isProved_24 : decode cX9_isProved 24 = .ok (.iconst 2, 1) := by decide +kernel
theorem dX9_isProved_25 : decode cX9_isProved 25 = .ok (.irem, 1) := by decide +kernel
theorem dX9_isProved_26 : decode cX9_isProved 26 = .ok (.ifCond .ne 12, 3) := by decide +kernel
theorem dX9_isProved_29 : decode cX9_isProved 29 = .ok (.aload_n 0, 1) := by decide +kernel
theorem dX9_isProved_30 : decode cX9_isProved 30 = .ok (.getfield 56, 3) := by decide +kernel
theorem dX9_isProved_33 : decode cX9_isProved 33 = .ok (.iload_n 1, 1) := by decide +kernel
theorem dX9_isProved_34 : decode cX9_isProved 34 = .ok (.iaload, 1) := by decide +kernel
theorem dX9_isProved_35 : decode cX9_isProved 35 = .ok (.goto 10, 3) := by decide +kernel
theorem dX9_isProved_38 : decode cX9_isProved 38 = .ok (.aload_n 0, 1) := by decide +kernel
theorem dX9_isProved_39 : decode cX9_isProved 39 = .ok (.getfield 56, 3) := by decide +kernel
theorem dX9_isProved_42 : decode cX9_isProved 42 = .ok (.iload_n 1, 1) := by decide +kernel
theorem dX9_isProved_43 : decode cX9_isProved 43 = .ok (.iaload, 1) := by decide +kernel
theorem dX9_isProved_44 : decode cX9_isProved 44 = .ok (.ineg, 1) := by decide +kernel
theorem dX9_isProved_45 : decode cX9_isProved 45 = .ok (.iadd, 1) := by decide +kernel
theorem dX9_isProved_46 : decode cX9_isProved 46 = .ok (.aload_n 0, 1) := by decide +kernel
theorem dX9_isProved_47 : decode cX9_isProved 47 = .ok (.getfield 53, 3) := by decide +kernel
theorem dX9_isProved_50 : decode cX9_isProved 50 = .ok (.iload_n 1, 1) := by decide +kernel
theorem dX9_isProved_51 : decode cX9_isProved 51 = .ok (.iaload, 1) := by decide +kernel
theorem dX9_isProved_52 : decode cX9_isProved 52 = .ok (.iload 4, 2) := by decide +kernel
theorem dX9_isProved_54 : decode cX9_isProved 54 = .ok (.iconst 2, 1) := by decide +kernel
theorem dX9_isProved_55 : decode cX9_isProved 55 = .ok (.if_icmp .ge 12, 3) := by decide +kernel
theorem dX9_isProved_58 : decode cX9_isProved 58 = .ok (.aload_n 0, 1) := by decide +kernel
theorem dX9_isProved_59 : decode cX9_isProved 59 = .ok (.getfield 56, 3) := by decide +kernel
theorem dX9_isProved_62 : decode cX9_isProved 62 = .ok (.iload_n 1, 1) := by decide +kernel
theorem dX9_isProved_63 : decode cX9_isProved 63 = .ok (.iaload, 1) := by decide +kernel
theorem dX9_isProved_64 : decode cX9_isProved 64 = .ok (.goto 10, 3) := by decide +kernel
theorem dX9_isProved_67 : decode cX9_isProved 67 = .ok (.aload_n 0, 1) := by decide +kernel
theorem dX9_isProved_68 : decode cX9_isProved 68 = .ok (.getfield 56, 3) := by decide +kernel
theorem dX9_isProved_71 : decode cX9_isProved 71 = .ok (.iload_n 1, 1) := by decide +kernel
theorem dX9_isProved_72 : decode cX9_isProved 72 = .ok (.iaload, 1) := by decide +kernel
theorem dX9_isProved_73 : decode cX9_isProved 73 = .ok (.ineg, 1) := by decide +kernel
theorem dX9_isProved_74 : decode cX9_isProved 74 = .ok (.iadd, 1) := by decide +kernel
theorem dX9_isProved_75 : decode cX9_isProved 75 = .ok (.iload_n 2, 1) := by decide +kernel
theorem dX9_isProved_76 : decode cX9_isProved 76 = .ok (.invokevirtual 144, 3) := by decide +kernel
theorem dX9_isProved_79 : decode cX9_isProved 79 = .ok (.ifCond .eq 7, 3) := by decide +kernel
theorem dX9_isProved_82 : decode cX9_isProved 82 = .ok (.iconst 1, 1) := by decide +kernel
theorem dX9_isProved_83 : decode cX9_isProved 83 = .ok (.goto 4, 3) := by decide +kernel
theorem dX9_isProved_86 : decode cX9_isProved 86 = .ok (.iconst 0, 1) := by decide +kernel
theorem dX9_isProved_87 : decode cX9_isProved 87 = .ok (.istore_n 3, 1) := by decide +kernel
theorem dX9_isProved_88 : decode cX9_isProved 88 = .ok (.iinc 4 1, 3) := by decide +kernel
theorem dX9_isProved_91 : decode cX9_isProved 91 = .ok (.goto (-86), 3) := by decide +kernel
theorem dX9_isProved_94 : decode cX9_isProved 94 = .ok (.iload_n 3, 1) := by decide +kernel
theorem dX9_isProved_95 : decode cX9_isProved 95 = .ok (.ireturn, 1) := by decide +kernel
theorem dX9_proves_0 : decode cX9_proves 0 = .ok (.aload_n 0, 1) := by decide +kernel
theorem dX9_proves_1 : decode cX9_proves 1 = .ok (.iconst 0, 1) := by decide +kernel
theorem dX9_proves_2 : decode cX9_proves 2 = .ok (.putfield 99, 3) := by decide +kernel
theorem dX9_proves_5 : decode cX9_proves 5 = .ok (.iload_n 1, 1) := by decide +kernel
theorem dX9_proves_6 : decode cX9_proves 6 = .ok (.i2l, 1) := by decide +kernel
theorem dX9_proves_7 : decode cX9_proves 7 = .ok (.lconst 0, 1) := by decide +kernel
theorem dX9_proves_8 : decode cX9_proves 8 = .ok (.aload_n 0, 1) := by decide +kernel
theorem dX9_proves_9 : decode cX9_proves 9 = .ok (.getfield 204, 3) := by decide +kernel
theorem dX9_proves_12 : decode cX9_proves 12 = .ok (.iconst 1, 1) := by decide +kernel
theorem dX9_proves_13 : decode cX9_proves 13 = .ok (.isub, 1) := by decide +kernel
theorem dX9_proves_14 : decode cX9_proves 14 = .ok (.i2l, 1) := by decide +kernel
theorem dX9_proves_15 : decode cX9_proves 15 = .ok (.invokestatic 104, 3) := by decide +kernel
theorem dX9_proves_18 : decode cX9_proves 18 = .ok (.ifCond .eq 11, 3) := by decide +kernel
theorem dX9_proves_21 : decode cX9_proves 21 = .ok (.aload_n 0, 1) := by decide +kernel
theorem dX9_proves_22 : decode cX9_proves 22 = .ok (.iload_n 2, 1) := by decide +kernel
theorem dX9_proves_23 : decode cX9_proves 23 = .ok (.invokevirtual 140, 3) := by decide +kernel
theorem dX9_proves_26 : decode cX9_proves 26 = .ok (.ifCond .eq 7, 3) := by decide +kernel
theorem dX9_proves_29 : decode cX9_proves 29 = .ok (.iconst (-1), 1) := by decide +kernel
theorem dX9_proves_30 : decode cX9_proves 30 = .ok (.goto 17, 3) := by decide +kernel
theorem dX9_proves_33 : decode cX9_proves 33 = .ok (.aload_n 0, 1) := by decide +kernel
theorem dX9_proves_34 : decode cX9_proves 34 = .ok (.iload_n 1, 1) := by decide +kernel
theorem dX9_proves_35 : decode cX9_proves 35 = .ok (.iload_n 2, 1) := by decide +kernel
theorem dX9_proves_36 : decode cX9_proves 36 = .ok (.invokevirtual 207, 3) := by decide +kernel
theorem dX9_proves_39 : decode cX9_proves 39 = .ok (.ifCond .eq 7, 3) := by decide +kernel
theorem dX9_proves_42 : decode cX9_proves 42 = .ok (.iconst 1, 1) := by decide +kernel
theorem dX9_proves_43 : decode cX9_proves 43 = .ok (.goto 4, 3) := by decide +kernel
theorem dX9_proves_46 : decode cX9_proves 46 = .ok (.iconst 0, 1) := by decide +kernel
theorem dX9_proves_47 : decode cX9_proves 47 = .ok (.ireturn, 1) := by decide +kernel
theorem dX9_provedOf_0 : decode cX9_provedOf 0 = .ok (.iconst 0, 1) := by decide +kernel
theorem dX9_provedOf_1 : decode cX9_provedOf 1 = .ok (.istore_n 2, 1) := by decide +kernel
theorem dX9_provedOf_2 : decode cX9_provedOf 2 = .ok (.iconst 0, 1) := by decide +kernel
theorem dX9_provedOf_3 : decode cX9_provedOf 3 = .ok (.istore_n 3, 1) := by decide +kernel
theorem dX9_provedOf_4 : decode cX9_provedOf 4 = .ok (.iload_n 3, 1) := by decide +kernel
theorem dX9_provedOf_5 : decode cX9_provedOf 5 = .ok (.aload_n 0, 1) := by decide +kernel
theorem dX9_provedOf_6 : decode cX9_provedOf 6 = .ok (.getfield 204, 3) := by decide +kernel
theorem dX9_provedOf_9 : decode cX9_provedOf 9 = .ok (.if_icmp .ge 26, 3) := by decide +kernel
theorem dX9_provedOf_12 : decode cX9_provedOf 12 = .ok (.iload_n 2, 1) := by decide +kernel
theorem dX9_provedOf_13 : decode cX9_provedOf 13 = .ok (.aload_n 0, 1) := by decide +kernel
theorem dX9_provedOf_14 : decode cX9_provedOf 14 = .ok (.iload_n 3, 1) := by decide +kernel
theorem dX9_provedOf_15 : decode cX9_provedOf 15 = .ok (.iload_n 1, 1) := by decide +kernel
theorem dX9_provedOf_16 : decode cX9_provedOf 16 = .ok (.invokevirtual 207, 3) := by decide +kernel
theorem dX9_provedOf_19 : decode cX9_provedOf 19 = .ok (.ifCond .eq 7, 3) := by decide +kernel
theorem dX9_provedOf_22 : decode cX9_provedOf 22 = .ok (.iconst 1, 1) := by decide +kernel
theorem dX9_provedOf_23 : decode cX9_provedOf 23 = .ok (.goto 4, 3) := by decide +kernel
theorem dX9_provedOf_26 : decode cX9_provedOf 26 = .ok (.iconst 0, 1) := by decide +kernel
theorem dX9_provedOf_27 : decode cX9_provedOf 27 = .ok (.iadd, 1) := by decide +kernel
theorem dX9_provedOf_28 : decode cX9_provedOf 28 = .ok (.istore_n 2, 1) := by decide +kernel
theorem dX9_provedOf_29 : decode cX9_provedOf 29 = .ok (.iinc 3 1, 3) := by decide +kernel
theorem dX9_provedOf_32 : decode cX9_provedOf 32 = .ok (.goto (-28), 3) := by decide +kernel
theorem dX9_provedOf_35 : decode cX9_provedOf 35 = .ok (.iload_n 2, 1) := by decide +kernel
theorem dX9_provedOf_36 : decode cX9_provedOf 36 = .ok (.ireturn, 1) := by decide +kernel
theorem dX9_proved_0 : decode cX9_proved 0 = .ok (.aload_n 0, 1) := by decide +kernel
theorem dX9_proved_1 : decode cX9_proved 1 = .ok (.iconst 0, 1) := by decide +kernel
theorem dX9_proved_2 : decode cX9_proved 2 = .ok (.putfield 99, 3) := by decide +kernel
theorem dX9_proved_5 : decode cX9_proved 5 = .ok (.aload_n 0, 1) := by decide +kernel
theorem dX9_proved_6 : decode cX9_proved 6 = .ok (.iload_n 1, 1) := by decide +kernel
theorem dX9_proved_7 : decode cX9_proved 7 = .ok (.invokevirtual 140, 3) := by decide +kernel
theorem dX9_proved_10 : decode cX9_proved 10 = .ok (.ifCond .eq 7, 3) := by decide +kernel
theorem dX9_proved_13 : decode cX9_proved 13 = .ok (.iconst (-1), 1) := by decide +kernel
theorem dX9_proved_14 : decode cX9_proved 14 = .ok (.goto 8, 3) := by decide +kernel
theorem dX9_proved_17 : decode cX9_proved 17 = .ok (.aload_n 0, 1) := by decide +kernel
theorem dX9_proved_18 : decode cX9_proved 18 = .ok (.iload_n 1, 1) := by decide +kernel
theorem dX9_proved_19 : decode cX9_proved 19 = .ok (.invokevirtual 210, 3) := by decide +kernel
theorem dX9_proved_22 : decode cX9_proved 22 = .ok (.ireturn, 1) := by decide +kernel
theorem dX9_missing_0 : decode cX9_missing 0 = .ok (.aload_n 0, 1) := by decide +kernel
theorem dX9_missing_1 : decode cX9_missing 1 = .ok (.iconst 0, 1) := by decide +kernel
theorem dX9_missing_2 : decode cX9_missing 2 = .ok (.putfield 99, 3) := by decide +kernel
theorem dX9_missing_5 : decode cX9_missing 5 = .ok (.iload_n 2, 1) := by decide +kernel
theorem dX9_missing_6 : decode cX9_missing 6 = .ok (.i2l, 1) := by decide +kernel
theorem dX9_missing_7 : decode cX9_missing 7 = .ok (.lconst 1, 1) := by decide +kernel
theorem dX9_missing_8 : decode cX9_missing 8 = .ok (.ldc2_w 152, 3) := by decide +kernel
theorem dX9_missing_11 : decode cX9_missing 11 = .ok (.invokestatic 104, 3) := by decide +kernel
theorem dX9_missing_14 : decode cX9_missing 14 = .ok (.ifCond .ne 6, 3) := by decide +kernel
theorem dX9_missing_17 : decode cX9_missing 17 = .ok (.bipush (-2), 2) := by decide +kernel
theorem dX9_missing_19 : decode cX9_missing 19 = .ok (.ireturn, 1) := by decide +kernel
theorem dX9_missing_20 : decode cX9_missing 20 = .ok (.iconst 0, 1) := by decide +kernel
theorem dX9_missing_21 : decode cX9_missing 21 = .ok (.istore_n 3, 1) := by decide +kernel
theorem dX9_missing_22 : decode cX9_missing 22 = .ok (.iconst 0, 1) := by decide +kernel
theorem dX9_missing_23 : decode cX9_missing 23 = .ok (.istore 4, 2) := by decide +kernel
theorem dX9_missing_25 : decode cX9_missing 25 = .ok (.iload 4, 2) := by decide +kernel
theorem dX9_missing_27 : decode cX9_missing 27 = .ok (.aload_n 0, 1) := by decide +kernel
theorem dX9_missing_28 : decode cX9_missing 28 = .ok (.getfield 108, 3) := by decide +kernel
theorem dX9_missing_31 : decode cX9_missing 31 = .ok (.if_icmp .ge 30, 3) := by decide +kernel
theorem dX9_missing_34 : decode cX9_missing 34 = .ok (.aload_n 0, 1) := by decide +kernel
theorem dX9_missing_35 : decode cX9_missing 35 = .ok (.iload 4, 2) := by decide +kernel
theorem dX9_missing_37 : decode cX9_missing 37 = .ok (.invokevirtual 210, 3) := by decide +kernel
theorem dX9_missing_40 : decode cX9_missing 40 = .ok (.iload_n 2, 1) := by decide +kernel
theorem dX9_missing_41 : decode cX9_missing 41 = .ok (.if_icmp .ge 14, 3) := by decide +kernel
theorem dX9_missing_44 : decode cX9_missing 44 = .ok (.iload_n 3, 1) := by decide +kernel
theorem dX9_missing_45 : decode cX9_missing 45 = .ok (.iload_n 1, 1) := by decide +kernel
theorem dX9_missing_46 : decode cX9_missing 46 = .ok (.if_icmp .ne 6, 3) := by decide +kernel
theorem dX9_missing_49 : decode cX9_missing 49 = .ok (.iload 4, 2) := by decide +kernel
theorem dX9_missing_51 : decode cX9_missing 51 = .ok (.ireturn, 1) := by decide +kernel
theorem dX9_missing_52 : decode cX9_missing 52 = .ok (.iinc 3 1, 3) := by decide +kernel
theorem dX9_missing_55 : decode cX9_missing 55 = .ok (.iinc 4 1, 3) := by decide +kernel
theorem dX9_missing_58 : decode cX9_missing 58 = .ok (.goto (-33), 3) := by decide +kernel
theorem dX9_missing_61 : decode cX9_missing 61 = .ok (.bipush (-9), 2) := by decide +kernel
theorem dX9_missing_63 : decode cX9_missing 63 = .ok (.ireturn, 1) := by decide +kernel
theorem dX9_mark_0 : decode cX9_mark 0 = .ok (.aload_n 0, 1) := by decide +kernel
theorem dX9_mark_1 : decode cX9_mark 1 = .ok (.iconst 0, 1) := by decide +kernel
theorem dX9_mark_2 : decode cX9_mark 2 = .ok (.putfield 99, 3) := by decide +kernel
theorem dX9_mark_5 : decode cX9_mark 5 = .ok (.aload_n 0, 1) := by decide +kernel
theorem dX9_mark_6 : decode cX9_mark 6 = .ok (.iload_n 1, 1) := by decide +kernel
theorem dX9_mark_7 : decode cX9_mark 7 = .ok (.invokevirtual 140, 3) := by decide +kernel
theorem dX9_mark_10 : decode cX9_mark 10 = .ok (.ifCond .eq 5, 3) := by decide +kernel
theorem dX9_mark_13 : decode cX9_mark 13 = .ok (.iconst (-1), 1) := by decide +kernel
theorem dX9_mark_14 : decode cX9_mark 14 = .ok (.ireturn, 1) := by decide +kernel
theorem dX9_mark_15 : decode cX9_mark 15 = .ok (.iload_n 2, 1) := by decide +kernel
theorem dX9_mark_16 : decode cX9_mark 16 = .ok (.i2l, 1) := by decide +kernel
theorem dX9_mark_17 : decode cX9_mark 17 = .ok (.lconst 0, 1) := by decide +kernel
theorem dX9_mark_18 : decode cX9_mark 18 = .ok (.ldc2_w 213, 3) := by decide +kernel
theorem dX9_mark_21 : decode cX9_mark 21 = .ok (.invokestatic 104, 3) := by decide +kernel
theorem dX9_mark_24 : decode cX9_mark 24 = .ok (.ifCond .eq 28, 3) := by decide +kernel
theorem dX9_mark_27 : decode cX9_mark 27 = .ok (.iload_n 3, 1) := by decide +kernel
theorem dX9_mark_28 : decode cX9_mark 28 = .ok (.i2l, 1) := by decide +kernel
theorem dX9_mark_29 : decode cX9_mark 29 = .ok (.lconst 0, 1) := by decide +kernel
theorem dX9_mark_30 : decode cX9_mark 30 = .ok (.ldc2_w 185, 3) := by decide +kernel
theorem dX9_mark_33 : decode cX9_mark 33 = .ok (.invokestatic 104, 3) := by decide +kernel
theorem dX9_mark_36 : decode cX9_mark 36 = .ok (.ifCond .eq 16, 3) := by decide +kernel
theorem dX9_mark_39 : decode cX9_mark 39 = .ok (.iload 4, 2) := by decide +kernel
theorem dX9_mark_41 : decode cX9_mark 41 = .ok (.i2l, 1) := by decide +kernel
theorem dX9_mark_42 : decode cX9_mark 42 = .ok (.lconst 0, 1) := by decide +kernel
theorem dX9_mark_43 : decode cX9_mark 43 = .ok (.ldc2_w 181, 3) := by decide +kernel
theorem dX9_mark_46 : decode cX9_mark 46 = .ok (.invokestatic 104, 3) := by decide +kernel
theorem dX9_mark_49 : decode cX9_mark 49 = .ok (.ifCond .ne 6, 3) := by decide +kernel
theorem dX9_mark_52 : decode cX9_mark 52 = .ok (.bipush (-2), 2) := by decide +kernel
theorem dX9_mark_54 : decode cX9_mark 54 = .ok (.ireturn, 1) := by decide +kernel
theorem dX9_mark_55 : decode cX9_mark 55 = .ok (.aload_n 0, 1) := by decide +kernel
theorem dX9_mark_56 : decode cX9_mark 56 = .ok (.getfield 215, 3) := by decide +kernel
theorem dX9_mark_59 : decode cX9_mark 59 = .ok (.bipush 40, 2) := by decide +kernel
theorem dX9_mark_61 : decode cX9_mark 61 = .ok (.if_icmp .ne 6, 3) := by decide +kernel
theorem dX9_mark_64 : decode cX9_mark 64 = .ok (.bipush (-4), 2) := by decide +kernel
theorem dX9_mark_66 : decode cX9_mark 66 = .ok (.ireturn, 1) := by decide +kernel
theorem dX9_mark_67 : decode cX9_mark 67 = .ok (.aload_n 0, 1) := by decide +kernel
theorem dX9_mark_68 : decode cX9_mark 68 = .ok (.getfield 59, 3) := by decide +kernel
theorem dX9_mark_71 : decode cX9_mark 71 = .ok (.aload_n 0, 1) := by decide +kernel
theorem dX9_mark_72 : decode cX9_mark 72 = .ok (.getfield 215, 3) := by decide +kernel
theorem dX9_mark_75 : decode cX9_mark 75 = .ok (.iload_n 1, 1) := by decide +kernel
theorem dX9_mark_76 : decode cX9_mark 76 = .ok (.iastore, 1) := by decide +kernel
theorem dX9_mark_77 : decode cX9_mark 77 = .ok (.aload_n 0, 1) := by decide +kernel
theorem dX9_mark_78 : decode cX9_mark 78 = .ok (.getfield 62, 3) := by decide +kernel
theorem dX9_mark_81 : decode cX9_mark 81 = .ok (.aload_n 0, 1) := by decide +kernel
theorem dX9_mark_82 : decode cX9_mark 82 = .ok (.getfield 215, 3) := by decide +kernel
theorem dX9_mark_85 : decode cX9_mark 85 = .ok (.iload_n 2, 1) := by decide +kernel
theorem dX9_mark_86 : decode cX9_mark 86 = .ok (.iastore, 1) := by decide +kernel
theorem dX9_mark_87 : decode cX9_mark 87 = .ok (.aload_n 0, 1) := by decide +kernel
theorem dX9_mark_88 : decode cX9_mark 88 = .ok (.getfield 65, 3) := by decide +kernel
theorem dX9_mark_91 : decode cX9_mark 91 = .ok (.aload_n 0, 1) := by decide +kernel
theorem dX9_mark_92 : decode cX9_mark 92 = .ok (.getfield 215, 3) := by decide +kernel
theorem dX9_mark_95 : decode cX9_mark 95 = .ok (.iload_n 3, 1) := by decide +kernel
theorem dX9_mark_96 : decode cX9_mark 96 = .ok (.iastore, 1) := by decide +kernel
theorem dX9_mark_97 : decode cX9_mark 97 = .ok (.aload_n 0, 1) := by decide +kernel
theorem dX9_mark_98 : decode cX9_mark 98 = .ok (.getfield 68, 3) := by decide +kernel
theorem dX9_mark_101 : decode cX9_mark 101 = .ok (.aload_n 0, 1) := by decide +kernel
theorem dX9_mark_102 : decode cX9_mark 102 = .ok (.getfield 215, 3) := by decide +kernel
theorem dX9_mark_105 : decode cX9_mark 105 = .ok (.iload 4, 2) := by decide +kernel
theorem dX9_mark_107 : decode cX9_mark 107 = .ok (.iastore, 1) := by decide +kernel
theorem dX9_mark_108 : decode cX9_mark 108 = .ok (.aload_n 0, 1) := by decide +kernel
theorem dX9_mark_109 : decode cX9_mark 109 = .ok (.dup, 1) := by decide +kernel
theorem dX9_mark_110 : decode cX9_mark 110 = .ok (.getfield 215, 3) := by decide +kernel
theorem dX9_mark_113 : decode cX9_mark 113 = .ok (.iconst 1, 1) := by decide +kernel
theorem dX9_mark_114 : decode cX9_mark 114 = .ok (.iadd, 1) := by decide +kernel
theorem dX9_mark_115 : decode cX9_mark 115 = .ok (.putfield 215, 3) := by decide +kernel
theorem dX9_mark_118 : decode cX9_mark 118 = .ok (.aload_n 0, 1) := by decide +kernel
theorem dX9_mark_119 : decode cX9_mark 119 = .ok (.getfield 215, 3) := by decide +kernel
theorem dX9_mark_122 : decode cX9_mark 122 = .ok (.iconst 1, 1) := by decide +kernel
theorem dX9_mark_123 : decode cX9_mark 123 = .ok (.isub, 1) := by decide +kernel
theorem dX9_mark_124 : decode cX9_mark 124 = .ok (.ireturn, 1) := by decide +kernel
theorem dX9_wipe_0 : decode cX9_wipe 0 = .ok (.aload_n 0, 1) := by decide +kernel
theorem dX9_wipe_1 : decode cX9_wipe 1 = .ok (.iconst 0, 1) := by decide +kernel
theorem dX9_wipe_2 : decode cX9_wipe 2 = .ok (.putfield 99, 3) := by decide +kernel
theorem dX9_wipe_5 : decode cX9_wipe 5 = .ok (.iload_n 1, 1) := by decide +kernel
theorem dX9_wipe_6 : decode cX9_wipe 6 = .ok (.i2l, 1) := by decide +kernel
theorem dX9_wipe_7 : decode cX9_wipe 7 = .ok (.lconst 0, 1) := by decide +kernel
theorem dX9_wipe_8 : decode cX9_wipe 8 = .ok (.aload_n 0, 1) := by decide +kernel
theorem dX9_wipe_9 : decode cX9_wipe 9 = .ok (.getfield 215, 3) := by decide +kernel
theorem dX9_wipe_12 : decode cX9_wipe 12 = .ok (.iconst 1, 1) := by decide +kernel
theorem dX9_wipe_13 : decode cX9_wipe 13 = .ok (.isub, 1) := by decide +kernel
theorem dX9_wipe_14 : decode cX9_wipe 14 = .ok (.i2l, 1) := by decide +kernel
theorem dX9_wipe_15 : decode cX9_wipe 15 = .ok (.invokestatic 104, 3) := by decide +kernel
theorem dX9_wipe_18 : decode cX9_wipe 18 = .ok (.ifCond .ne 5, 3) := by decide +kernel
theorem dX9_wipe_21 : decode cX9_wipe 21 = .ok (.iconst (-1), 1) := by decide +kernel
theorem dX9_wipe_22 : decode cX9_wipe 22 = .ok (.ireturn, 1) := by decide +kernel
theorem dX9_wipe_23 : decode cX9_wipe 23 = .ok (.aload_n 0, 1) := by decide +kernel
theorem dX9_wipe_24 : decode cX9_wipe 24 = .ok (.getfield 71, 3) := by decide +kernel
theorem dX9_wipe_27 : decode cX9_wipe 27 = .ok (.iload_n 1, 1) := by decide +kernel
theorem dX9_wipe_28 : decode cX9_wipe 28 = .ok (.baload, 1) := by decide +kernel
theorem dX9_wipe_29 : decode cX9_wipe 29 = .ok (.ifCond .eq 6, 3) := by decide +kernel
theorem dX9_wipe_32 : decode cX9_wipe 32 = .ok (.bipush (-3), 2) := by decide +kernel
theorem dX9_wipe_34 : decode cX9_wipe 34 = .ok (.ireturn, 1) := by decide +kernel
theorem dX9_wipe_35 : decode cX9_wipe 35 = .ok (.aload_n 0, 1) := by decide +kernel
theorem dX9_wipe_36 : decode cX9_wipe 36 = .ok (.getfield 71, 3) := by decide +kernel
theorem dX9_wipe_39 : decode cX9_wipe 39 = .ok (.iload_n 1, 1) := by decide +kernel
theorem dX9_wipe_40 : decode cX9_wipe 40 = .ok (.iconst 1, 1) := by decide +kernel
theorem dX9_wipe_41 : decode cX9_wipe 41 = .ok (.bastore, 1) := by decide +kernel
theorem dX9_wipe_42 : decode cX9_wipe 42 = .ok (.iconst 1, 1) := by decide +kernel
theorem dX9_wipe_43 : decode cX9_wipe 43 = .ok (.ireturn, 1) := by decide +kernel
theorem dX9_isOn_0 : decode cX9_isOn 0 = .ok (.aload_n 0, 1) := by decide +kernel
theorem dX9_isOn_1 : decode cX9_isOn 1 = .ok (.getfield 71, 3) := by decide +kernel
theorem dX9_isOn_4 : decode cX9_isOn 4 = .ok (.iload_n 1, 1) := by decide +kernel
theorem dX9_isOn_5 : decode cX9_isOn 5 = .ok (.baload, 1) := by decide +kernel
theorem dX9_isOn_6 : decode cX9_isOn 6 = .ok (.ifCond .ne 27, 3) := by decide +kernel
theorem dX9_isOn_9 : decode cX9_isOn 9 = .ok (.aload_n 0, 1) := by decide +kernel
theorem dX9_isOn_10 : decode cX9_isOn 10 = .ok (.getfield 59, 3) := by decide +kernel
theorem dX9_isOn_13 : decode cX9_isOn 13 = .ok (.iload_n 1, 1) := by decide +kernel
theorem dX9_isOn_14 : decode cX9_isOn 14 = .ok (.iaload, 1) := by decide +kernel
theorem dX9_isOn_15 : decode cX9_isOn 15 = .ok (.iload_n 2, 1) := by decide +kernel
theorem dX9_isOn_16 : decode cX9_isOn 16 = .ok (.if_icmp .ne 17, 3) := by decide +kernel
theorem dX9_isOn_19 : decode cX9_isOn 19 = .ok (.aload_n 0, 1) := by decide +kernel
theorem dX9_isOn_20 : decode cX9_isOn 20 = .ok (.getfield 68, 3) := by decide +kernel
theorem dX9_isOn_23 : decode cX9_isOn 23 = .ok (.iload_n 1, 1) := by decide +kernel
theorem dX9_isOn_24 : decode cX9_isOn 24 = .ok (.iaload, 1) := by decide +kernel
theorem dX9_isOn_25 : decode cX9_isOn 25 = .ok (.iload_n 3, 1) := by decide +kernel
theorem dX9_isOn_26 : decode cX9_isOn 26 = .ok (.if_icmp .ne 7, 3) := by decide +kernel
theorem dX9_isOn_29 : decode cX9_isOn 29 = .ok (.iconst 1, 1) := by decide +kernel
theorem dX9_isOn_30 : decode cX9_isOn 30 = .ok (.goto 4, 3) := by decide +kernel
theorem dX9_isOn_33 : decode cX9_isOn 33 = .ok (.iconst 0, 1) := by decide +kernel
theorem dX9_isOn_34 : decode cX9_isOn 34 = .ok (.ireturn, 1) := by decide +kernel
theorem dX9_marks_0 : decode cX9_marks 0 = .ok (.aload_n 0, 1) := by decide +kernel
theorem dX9_marks_1 : decode cX9_marks 1 = .ok (.iconst 0, 1) := by decide +kernel
theorem dX9_marks_2 : decode cX9_marks 2 = .ok (.putfield 99, 3) := by decide +kernel
theorem dX9_marks_5 : decode cX9_marks 5 = .ok (.aload_n 0, 1) := by decide +kernel
theorem dX9_marks_6 : decode cX9_marks 6 = .ok (.iload_n 1, 1) := by decide +kernel
theorem dX9_marks_7 : decode cX9_marks 7 = .ok (.invokevirtual 140, 3) := by decide +kernel
theorem dX9_marks_10 : decode cX9_marks 10 = .ok (.ifCond .eq 5, 3) := by decide +kernel
theorem dX9_marks_13 : decode cX9_marks 13 = .ok (.iconst (-1), 1) := by decide +kernel
theorem dX9_marks_14 : decode cX9_marks 14 = .ok (.ireturn, 1) := by decide +kernel
theorem dX9_marks_15 : decode cX9_marks 15 = .ok (.iload_n 2, 1) := by decide +kernel
theorem dX9_marks_16 : decode cX9_marks 16 = .ok (.i2l, 1) := by decide +kernel
theorem dX9_marks_17 : decode cX9_marks 17 = .ok (.lconst 0, 1) := by decide +kernel
theorem dX9_marks_18 : decode cX9_marks 18 = .ok (.ldc2_w 181, 3) := by decide +kernel
theorem dX9_marks_21 : decode cX9_marks 21 = .ok (.invokestatic 104, 3) := by decide +kernel
theorem dX9_marks_24 : decode cX9_marks 24 = .ok (.ifCond .ne 6, 3) := by decide +kernel
theorem dX9_marks_27 : decode cX9_marks 27 = .ok (.bipush (-2), 2) := by decide +kernel
theorem dX9_marks_29 : decode cX9_marks 29 = .ok (.ireturn, 1) := by decide +kernel
theorem dX9_marks_30 : decode cX9_marks 30 = .ok (.iconst 0, 1) := by decide +kernel
theorem dX9_marks_31 : decode cX9_marks 31 = .ok (.istore 4, 2) := by decide +kernel
theorem dX9_marks_33 : decode cX9_marks 33 = .ok (.iconst 0, 1) := by decide +kernel
theorem dX9_marks_34 : decode cX9_marks 34 = .ok (.istore 5, 2) := by decide +kernel
theorem dX9_marks_36 : decode cX9_marks 36 = .ok (.iload 5, 2) := by decide +kernel
theorem dX9_marks_38 : decode cX9_marks 38 = .ok (.aload_n 0, 1) := by decide +kernel
theorem dX9_marks_39 : decode cX9_marks 39 = .ok (.getfield 215, 3) := by decide +kernel
theorem dX9_marks_42 : decode cX9_marks 42 = .ok (.if_icmp .ge 44, 3) := by decide +kernel
theorem dX9_marks_45 : decode cX9_marks 45 = .ok (.iload 4, 2) := by decide +kernel
theorem dX9_marks_47 : decode cX9_marks 47 = .ok (.aload_n 0, 1) := by decide +kernel
theorem dX9_marks_48 : decode cX9_marks 48 = .ok (.iload 5, 2) := by decide +kernel
theorem dX9_marks_50 : decode cX9_marks 50 = .ok (.iload_n 1, 1) := by decide +kernel
theorem dX9_marks_51 : decode cX9_marks 51 = .ok (.iload_n 2, 1) := by decide +kernel
theorem dX9_marks_52 : decode cX9_marks 52 = .ok (.invokevirtual 218, 3) := by decide +kernel
theorem dX9_marks_55 : decode cX9_marks 55 = .ok (.ifCond .eq 21, 3) := by decide +kernel
theorem dX9_marks_58 : decode cX9_marks 58 = .ok (.iload_n 3, 1) := by decide +kernel
theorem dX9_marks_59 : decode cX9_marks 59 = .ok (.ifCond .eq 13, 3) := by decide +kernel
theorem dX9_marks_62 : decode cX9_marks 62 = .ok (.aload_n 0, 1) := by decide +kernel
theorem dX9_marks_63 : decode cX9_marks 63 = .ok (.getfield 65, 3) := by decide +kernel
theorem dX9_marks_66 : decode cX9_marks 66 = .ok (.iload 5, 2) := by decide +kernel
theorem dX9_marks_68 : decode cX9_marks 68 = .ok (.iaload, 1) := by decide +kernel
theorem dX9_marks_69 : decode cX9_marks 69 = .ok (.goto 8, 3) := by decide +kernel
theorem dX9_marks_72 : decode cX9_marks 72 = .ok (.iconst 1, 1) := by decide +kernel
theorem dX9_marks_73 : decode cX9_marks 73 = .ok (.goto 4, 3) := by decide +kernel
theorem dX9_marks_76 : decode cX9_marks 76 = .ok (.iconst 0, 1) := by decide +kernel
theorem dX9_marks_77 : decode cX9_marks 77 = .ok (.iadd, 1) := by decide +kernel
theorem dX9_marks_78 : decode cX9_marks 78 = .ok (.istore 4, 2) := by decide +kernel
theorem dX9_marks_80 : decode cX9_marks 80 = .ok (.iinc 5 1, 3) := by decide +kernel
theorem dX9_marks_83 : decode cX9_marks 83 = .ok (.goto (-47), 3) := by decide +kernel
theorem dX9_marks_86 : decode cX9_marks 86 = .ok (.iload 4, 2) := by decide +kernel
theorem dX9_marks_88 : decode cX9_marks 88 = .ok (.ireturn, 1) := by decide +kernel
theorem dX9_placed_0 : decode cX9_placed 0 = .ok (.iconst 0, 1) := by decide +kernel
theorem dX9_placed_1 : decode cX9_placed 1 = .ok (.istore 4, 2) := by decide +kernel
theorem dX9_placed_3 : decode cX9_placed 3 = .ok (.iconst 0, 1) := by decide +kernel
theorem dX9_placed_4 : decode cX9_placed 4 = .ok (.istore 5, 2) := by decide +kernel
theorem dX9_placed_6 : decode cX9_placed 6 = .ok (.iload 5, 2) := by decide +kernel
theorem dX9_placed_8 : decode cX9_placed 8 = .ok (.aload_n 0, 1) := by decide +kernel
theorem dX9_placed_9 : decode cX9_placed 9 = .ok (.getfield 215, 3) := by decide +kernel
theorem dX9_placed_12 : decode cX9_placed 12 = .ok (.if_icmp .ge 75, 3) := by decide +kernel
theorem dX9_placed_15 : decode cX9_placed 15 = .ok (.aload_n 0, 1) := by decide +kernel
theorem dX9_placed_16 : decode cX9_placed 16 = .ok (.iload 5, 2) := by decide +kernel
theorem dX9_placed_18 : decode cX9_placed 18 = .ok (.iload_n 1, 1) := by decide +kernel
theorem dX9_placed_19 : decode cX9_placed 19 = .ok (.iload_n 2, 1) := by decide +kernel
theorem dX9_placed_20 : decode cX9_placed 20 = .ok (.invokevirtual 218, 3) := by decide +kernel
theorem dX9_placed_23 : decode cX9_placed 23 = .ok (.ifCond .eq 58, 3) := by decide +kernel
theorem dX9_placed_26 : decode cX9_placed 26 = .ok (.iload 4, 2) := by decide +kernel
theorem dX9_placed_28 : decode cX9_placed 28 = .ok (.istore 6, 2) := by decide +kernel
theorem dX9_placed_30 : decode cX9_placed 30 = .ok (.iload 6, 2) := by decide +kernel
theorem dX9_placed_32 : decode cX9_placed 32 = .ok (.ifCond .le 35, 3) := by decide +kernel
theorem dX9_placed_35 : decode cX9_placed 35 = .ok (.aload_n 3, 1) := by decide +kernel
theorem dX9_placed_36 : decode cX9_placed 36 = .ok (.iload 6, 2) := by decide +kernel
theorem dX9_placed_38 : decode cX9_placed 38 = .ok (.iconst 1, 1) := by decide +kernel
theorem dX9_placed_39 : decode cX9_placed 39 = .ok (.isub, 1) := by decide +kernel
theorem dX9_placed_40 : decode cX9_placed 40 = .ok (.iaload, 1) := by decide +kernel
theorem dX9_placed_41 : decode cX9_placed 41 = .ok (.aload_n 0, 1) := by decide +kernel
theorem dX9_placed_42 : decode cX9_placed 42 = .ok (.getfield 62, 3) := by decide +kernel
theorem dX9_placed_45 : decode cX9_placed 45 = .ok (.iload 5, 2) := by decide +kernel
theorem dX9_placed_47 : decode cX9_placed 47 = .ok (.iaload, 1) := by decide +kernel
theorem dX9_placed_48 : decode cX9_placed 48 = .ok (.if_icmp .le 19, 3) := by decide +kernel
theorem dX9_placed_51 : decode cX9_placed 51 = .ok (.aload_n 3, 1) := by decide +kernel
theorem dX9_placed_52 : decode cX9_placed 52 = .ok (.iload 6, 2) := by decide +kernel
theorem dX9_placed_54 : decode cX9_placed 54 = .ok (.aload_n 3, 1) := by decide +kernel
theorem dX9_placed_55 : decode cX9_placed 55 = .ok (.iload 6, 2) := by decide +kernel
theorem dX9_placed_57 : decode cX9_placed 57 = .ok (.iconst 1, 1) := by decide +kernel
theorem dX9_placed_58 : decode cX9_placed 58 = .ok (.isub, 1) := by decide +kernel
theorem dX9_placed_59 : decode cX9_placed 59 = .ok (.iaload, 1) := by decide +kernel
theorem dX9_placed_60 : decode cX9_placed 60 = .ok (.iastore, 1) := by decide +kernel
theorem dX9_placed_61 : decode cX9_placed 61 = .ok (.iinc 6 (-1), 3) := by decide +kernel
theorem dX9_placed_64 : decode cX9_placed 64 = .ok (.goto (-34), 3) := by decide +kernel
theorem dX9_placed_67 : decode cX9_placed 67 = .ok (.aload_n 3, 1) := by decide +kernel
theorem dX9_placed_68 : decode cX9_placed 68 = .ok (.iload 6, 2) := by decide +kernel
theorem dX9_placed_70 : decode cX9_placed 70 = .ok (.aload_n 0, 1) := by decide +kernel
theorem dX9_placed_71 : decode cX9_placed 71 = .ok (.getfield 62, 3) := by decide +kernel
theorem dX9_placed_74 : decode cX9_placed 74 = .ok (.iload 5, 2) := by decide +kernel
theorem dX9_placed_76 : decode cX9_placed 76 = .ok (.iaload, 1) := by decide +kernel
theorem dX9_placed_77 : decode cX9_placed 77 = .ok (.iastore, 1) := by decide +kernel
theorem dX9_placed_78 : decode cX9_placed 78 = .ok (.iinc 4 1, 3) := by decide +kernel
theorem dX9_placed_81 : decode cX9_placed 81 = .ok (.iinc 5 1, 3) := by decide +kernel
theorem dX9_placed_84 : decode cX9_placed 84 = .ok (.goto (-78), 3) := by decide +kernel
theorem dX9_placed_87 : decode cX9_placed 87 = .ok (.iload 4, 2) := by decide +kernel
theorem dX9_placed_89 : decode cX9_placed 89 = .ok (.ireturn, 1) := by decide +kernel
theorem dX9_match_0 : decode cX9_match 0 = .ok (.aload_n 0, 1) := by decide +kernel
theorem dX9_match_1 : decode cX9_match 1 = .ok (.iconst 0, 1) := by decide +kernel
theorem dX9_match_2 : decode cX9_match 2 = .ok (.putfield 99, 3) := by decide +kernel
theorem dX9_match_5 : decode cX9_match 5 = .ok (.aload_n 0, 1) := by decide +kernel
theorem dX9_match_6 : decode cX9_match 6 = .ok (.iload_n 1, 1) := by decide +kernel
theorem dX9_match_7 : decode cX9_match 7 = .ok (.invokevirtual 140, 3) := by decide +kernel
theorem dX9_match_10 : decode cX9_match 10 = .ok (.ifCond .eq 5, 3) := by decide +kernel
theorem dX9_match_13 : decode cX9_match 13 = .ok (.iconst (-1), 1) := by decide +kernel
theorem dX9_match_14 : decode cX9_match 14 = .ok (.ireturn, 1) := by decide +kernel
theorem dX9_match_15 : decode cX9_match 15 = .ok (.iload_n 2, 1) := by decide +kernel
theorem dX9_match_16 : decode cX9_match 16 = .ok (.i2l, 1) := by decide +kernel
theorem dX9_match_17 : decode cX9_match 17 = .ok (.lconst 0, 1) := by decide +kernel
theorem dX9_match_18 : decode cX9_match 18 = .ok (.ldc2_w 181, 3) := by decide +kernel
theorem dX9_match_21 : decode cX9_match 21 = .ok (.invokestatic 104, 3) := by decide +kernel
theorem dX9_match_24 : decode cX9_match 24 = .ok (.ifCond .eq 28, 3) := by decide +kernel
theorem dX9_match_27 : decode cX9_match 27 = .ok (.iload_n 3, 1) := by decide +kernel
theorem dX9_match_28 : decode cX9_match 28 = .ok (.i2l, 1) := by decide +kernel
theorem dX9_match_29 : decode cX9_match 29 = .ok (.lconst 0, 1) := by decide +kernel
theorem dX9_match_30 : decode cX9_match 30 = .ok (.ldc2_w 181, 3) := by decide +kernel
theorem dX9_match_33 : decode cX9_match 33 = .ok (.invokestatic 104, 3) := by decide +kernel
theorem dX9_match_36 : decode cX9_match 36 = .ok (.ifCond .eq 16, 3) := by decide +kernel
theorem dX9_match_39 : decode cX9_match 39 = .ok (.iload 4, 2) := by decide +kernel
theorem dX9_match_41 : decode cX9_match 41 = .ok (.i2l, 1) := by decide +kernel
theorem dX9_match_42 : decode cX9_match 42 = .ok (.lconst 0, 1) := by decide +kernel
theorem dX9_match_43 : decode cX9_match 43 = .ok (.ldc2_w 213, 3) := by decide +kernel
theorem dX9_match_46 : decode cX9_match 46 = .ok (.invokestatic 104, 3) := by decide +kernel
theorem dX9_match_49 : decode cX9_match 49 = .ok (.ifCond .ne 6, 3) := by decide +kernel
theorem dX9_match_52 : decode cX9_match 52 = .ok (.bipush (-2), 2) := by decide +kernel
theorem dX9_match_54 : decode cX9_match 54 = .ok (.ireturn, 1) := by decide +kernel
theorem dX9_match_55 : decode cX9_match 55 = .ok (.iload_n 2, 1) := by decide +kernel
theorem dX9_match_56 : decode cX9_match 56 = .ok (.iload_n 3, 1) := by decide +kernel
theorem dX9_match_57 : decode cX9_match 57 = .ok (.if_icmp .ne 6, 3) := by decide +kernel
theorem dX9_match_60 : decode cX9_match 60 = .ok (.bipush (-3), 2) := by decide +kernel
theorem dX9_match_62 : decode cX9_match 62 = .ok (.ireturn, 1) := by decide +kernel
theorem dX9_match_63 : decode cX9_match 63 = .ok (.aload_n 0, 1) := by decide +kernel
theorem dX9_match_64 : decode cX9_match 64 = .ok (.iload_n 1, 1) := by decide +kernel
theorem dX9_match_65 : decode cX9_match 65 = .ok (.iload_n 2, 1) := by decide +kernel
theorem dX9_match_66 : decode cX9_match 66 = .ok (.aload_n 0, 1) := by decide +kernel
theorem dX9_match_67 : decode cX9_match 67 = .ok (.getfield 87, 3) := by decide +kernel
theorem dX9_match_70 : decode cX9_match 70 = .ok (.invokevirtual 221, 3) := by decide +kernel
theorem dX9_match_73 : decode cX9_match 73 = .ok (.istore 6, 2) := by decide +kernel
theorem dX9_match_75 : decode cX9_match 75 = .ok (.aload_n 0, 1) := by decide +kernel
theorem dX9_match_76 : decode cX9_match 76 = .ok (.iload_n 1, 1) := by decide +kernel
theorem dX9_match_77 : decode cX9_match 77 = .ok (.iload_n 3, 1) := by decide +kernel
theorem dX9_match_78 : decode cX9_match 78 = .ok (.aload_n 0, 1) := by decide +kernel
theorem dX9_match_79 : decode cX9_match 79 = .ok (.getfield 90, 3) := by decide +kernel
theorem dX9_match_82 : decode cX9_match 82 = .ok (.invokevirtual 221, 3) := by decide +kernel
theorem dX9_match_85 : decode cX9_match 85 = .ok (.istore 7, 2) := by decide +kernel
theorem dX9_match_87 : decode cX9_match 87 = .ok (.iconst 0, 1) := by decide +kernel
theorem dX9_match_88 : decode cX9_match 88 = .ok (.istore 8, 2) := by decide +kernel
theorem dX9_match_90 : decode cX9_match 90 = .ok (.iload 8, 2) := by decide +kernel
theorem dX9_match_92 : decode cX9_match 92 = .ok (.iload 6, 2) := by decide +kernel
theorem dX9_match_94 : decode cX9_match 94 = .ok (.if_icmp .gt 158, 3) := by decide +kernel
theorem dX9_match_97 : decode cX9_match 97 = .ok (.iconst 0, 1) := by decide +kernel
theorem dX9_match_98 : decode cX9_match 98 = .ok (.istore 9, 2) := by decide +kernel
theorem dX9_match_100 : decode cX9_match 100 = .ok (.iload 9, 2) := by decide +kernel
theorem dX9_match_102 : decode cX9_match 102 = .ok (.iload 7, 2) := by decide +kernel
theorem dX9_match_104 : decode cX9_match 104 = .ok (.if_icmp .gt 142, 3) := by decide +kernel
theorem dX9_match_107 : decode cX9_match 107 = .ok (.bipush 41, 2) := by decide +kernel
theorem dX9_match_109 : decode cX9_match 109 = .ok (.iload 8, 2) := by decide +kernel
theorem dX9_match_111 : decode cX9_match 111 = .ok (.imul, 1) := by decide +kernel
theorem dX9_match_112 : decode cX9_match 112 = .ok (.iload 9, 2) := by decide +kernel
theorem dX9_match_114 : decode cX9_match 114 = .ok (.iadd, 1) := by decide +kernel
theorem dX9_match_115 : decode cX9_match 115 = .ok (.istore 10, 2) := by decide +kernel
theorem dX9_match_117 : decode cX9_match 117 = .ok (.aload_n 0, 1) := by decide +kernel
theorem dX9_match_118 : decode cX9_match 118 = .ok (.getfield 93, 3) := by decide +kernel
theorem dX9_match_121 : decode cX9_match 121 = .ok (.iload 10, 2) := by decide +kernel
theorem dX9_match_123 : decode cX9_match 123 = .ok (.iconst 0, 1) := by decide +kernel
theorem dX9_match_124 : decode cX9_match 124 = .ok (.iastore, 1) := by decide +kernel
theorem dX9_match_125 : decode cX9_match 125 = .ok (.aload_n 0, 1) := by decide +kernel
theorem dX9_match_126 : decode cX9_match 126 = .ok (.getfield 96, 3) := by decide +kernel
theorem dX9_match_129 : decode cX9_match 129 = .ok (.iload 10, 2) := by decide +kernel
theorem dX9_match_131 : decode cX9_match 131 = .ok (.iconst 0, 1) := by decide +kernel
theorem dX9_match_132 : decode cX9_match 132 = .ok (.iastore, 1) := by decide +kernel
theorem dX9_match_133 : decode cX9_match 133 = .ok (.iload 8, 2) := by decide +kernel
theorem dX9_match_135 : decode cX9_match 135 = .ok (.ifCond .le 16, 3) := by decide +kernel
theorem dX9_match_138 : decode cX9_match 138 = .ok (.aload_n 0, 1) := by decide +kernel
theorem dX9_match_139 : decode cX9_match 139 = .ok (.iload 10, 2) := by decide +kernel
theorem dX9_match_141 : decode cX9_match 141 = .ok (.iload 10, 2) := by decide +kernel
theorem dX9_match_143 : decode cX9_match 143 = .ok (.bipush 41, 2) := by decide +kernel
theorem dX9_match_145 : decode cX9_match 145 = .ok (.isub, 1) := by decide +kernel
theorem dX9_match_146 : decode cX9_match 146 = .ok (.iconst 0, 1) := by decide +kernel
theorem dX9_match_147 : decode cX9_match 147 = .ok (.iconst 0, 1) := by decide +kernel
theorem dX9_match_148 : decode cX9_match 148 = .ok (.invokevirtual 225, 3) := by decide +kernel
theorem dX9_match_151 : decode cX9_match 151 = .ok (.iload 9, 2) := by decide +kernel
theorem dX9_match_153 : decode cX9_match 153 = .ok (.ifCond .le 15, 3) := by decide +kernel
theorem dX9_match_156 : decode cX9_match 156 = .ok (.aload_n 0, 1) := by decide +kernel
theorem dX9_match_157 : decode cX9_match 157 = .ok (.iload 10, 2) := by decide +kernel
theorem dX9_match_159 : decode cX9_match 159 = .ok (.iload 10, 2) := by decide +kernel
theorem dX9_match_161 : decode cX9_match 161 = .ok (.iconst 1, 1) := by decide +kernel
theorem dX9_match_162 : decode cX9_match 162 = .ok (.isub, 1) := by decide +kernel
theorem dX9_match_163 : decode cX9_match 163 = .ok (.iconst 0, 1) := by decide +kernel
theorem dX9_match_164 : decode cX9_match 164 = .ok (.iconst 0, 1) := by decide +kernel
theorem dX9_match_165 : decode cX9_match 165 = .ok (.invokevirtual 225, 3) := by decide +kernel
theorem dX9_match_168 : decode cX9_match 168 = .ok (.iload 8, 2) := by decide +kernel
theorem dX9_match_170 : decode cX9_match 170 = .ok (.ifCond .le 30, 3) := by decide +kernel
theorem dX9_match_173 : decode cX9_match 173 = .ok (.iload 9, 2) := by decide +kernel
theorem dX9_match_175 : decode cX9_match 175 = .ok (.ifCond .le 25, 3) := by decide +kernel
theorem dX9_match_178 : decode cX9_match 178 = .ok (.aload_n 0, 1) := by decide +kernel
theorem dX9_match_179 : decode cX9_match 179 = .ok (.getfield 87, 3) := by decide +kernel
theorem dX9_match_182 : decode cX9_match 182 = .ok (.iload 8, 2) := by decide +kernel
theorem dX9_match_184 : decode cX9_match 184 = .ok (.iconst 1, 1) := by decide +kernel
theorem dX9_match_185 : decode cX9_match 185 = .ok (.isub, 1) := by decide +kernel
theorem dX9_match_186 : decode cX9_match 186 = .ok (.iaload, 1) := by decide +kernel
theorem dX9_match_187 : decode cX9_match 187 = .ok (.aload_n 0, 1) := by decide +kernel
theorem dX9_match_188 : decode cX9_match 188 = .ok (.getfield 90, 3) := by decide +kernel
theorem dX9_match_191 : decode cX9_match 191 = .ok (.iload 9, 2) := by decide +kernel
theorem dX9_match_193 : decode cX9_match 193 = .ok (.iconst 1, 1) := by decide +kernel
theorem dX9_match_194 : decode cX9_match 194 = .ok (.isub, 1) := by decide +kernel
theorem dX9_match_195 : decode cX9_match 195 = .ok (.iaload, 1) := by decide +kernel
theorem dX9_match_196 : decode cX9_match 196 = .ok (.isub, 1) := by decide +kernel
theorem dX9_match_197 : decode cX9_match 197 = .ok (.goto 5, 3) := by decide +kernel
theorem dX9_match_200 : decode cX9_match 200 = .ok (.ldc 151, 2) := by decide +kernel
theorem dX9_match_202 : decode cX9_match 202 = .ok (.istore 11, 2) := by decide +kernel
theorem dX9_match_204 : decode cX9_match 204 = .ok (.iload 11, 2) := by decide +kernel
theorem dX9_match_206 : decode cX9_match 206 = .ok (.ifCond .ge 9, 3) := by decide +kernel
theorem dX9_match_209 : decode cX9_match 209 = .ok (.iload 11, 2) := by decide +kernel
theorem dX9_match_211 : decode cX9_match 211 = .ok (.ineg, 1) := by decide +kernel
theorem dX9_match_212 : decode cX9_match 212 = .ok (.goto 5, 3) := by decide +kernel
theorem dX9_match_215 : decode cX9_match 215 = .ok (.iload 11, 2) := by decide +kernel
theorem dX9_match_217 : decode cX9_match 217 = .ok (.istore 11, 2) := by decide +kernel
theorem dX9_match_219 : decode cX9_match 219 = .ok (.iload 11, 2) := by decide +kernel
theorem dX9_match_221 : decode cX9_match 221 = .ok (.iload 4, 2) := by decide +kernel
theorem dX9_match_223 : decode cX9_match 223 = .ok (.if_icmp .gt 17, 3) := by decide +kernel
theorem dX9_match_226 : decode cX9_match 226 = .ok (.aload_n 0, 1) := by decide +kernel
theorem dX9_match_227 : decode cX9_match 227 = .ok (.iload 10, 2) := by decide +kernel
theorem dX9_match_229 : decode cX9_match 229 = .ok (.iload 10, 2) := by decide +kernel
theorem dX9_match_231 : decode cX9_match 231 = .ok (.bipush 42, 2) := by decide +kernel
theorem dX9_match_233 : decode cX9_match 233 = .ok (.isub, 1) := by decide +kernel
theorem dX9_match_234 : decode cX9_match 234 = .ok (.iconst 1, 1) := by decide +kernel
theorem dX9_match_235 : decode cX9_match 235 = .ok (.iload 11, 2) := by decide +kernel
theorem dX9_match_237 : decode cX9_match 237 = .ok (.invokevirtual 225, 3) := by decide +kernel
theorem dX9_match_240 : decode cX9_match 240 = .ok (.iinc 9 1, 3) := by decide +kernel
theorem dX9_match_243 : decode cX9_match 243 = .ok (.goto (-143), 3) := by decide +kernel
theorem dX9_match_246 : decode cX9_match 246 = .ok (.iinc 8 1, 3) := by decide +kernel
theorem dX9_match_249 : decode cX9_match 249 = .ok (.goto (-159), 3) := by decide +kernel
theorem dX9_match_252 : decode cX9_match 252 = .ok (.iload 5, 2) := by decide +kernel
theorem dX9_match_254 : decode cX9_match 254 = .ok (.ifCond .eq 19, 3) := by decide +kernel
theorem dX9_match_257 : decode cX9_match 257 = .ok (.aload_n 0, 1) := by decide +kernel
theorem dX9_match_258 : decode cX9_match 258 = .ok (.getfield 96, 3) := by decide +kernel
theorem dX9_match_261 : decode cX9_match 261 = .ok (.bipush 41, 2) := by decide +kernel
theorem dX9_match_263 : decode cX9_match 263 = .ok (.iload 6, 2) := by decide +kernel
theorem dX9_match_265 : decode cX9_match 265 = .ok (.imul, 1) := by decide +kernel
theorem dX9_match_266 : decode cX9_match 266 = .ok (.iload 7, 2) := by decide +kernel
theorem dX9_match_268 : decode cX9_match 268 = .ok (.iadd, 1) := by decide +kernel
theorem dX9_match_269 : decode cX9_match 269 = .ok (.iaload, 1) := by decide +kernel
theorem dX9_match_270 : decode cX9_match 270 = .ok (.goto 16, 3) := by decide +kernel
theorem dX9_match_273 : decode cX9_match 273 = .ok (.aload_n 0, 1) := by decide +kernel
theorem dX9_match_274 : decode cX9_match 274 = .ok (.getfield 93, 3) := by decide +kernel
theorem dX9_match_277 : decode cX9_match 277 = .ok (.bipush 41, 2) := by decide +kernel
theorem dX9_match_279 : decode cX9_match 279 = .ok (.iload 6, 2) := by decide +kernel
theorem dX9_match_281 : decode cX9_match 281 = .ok (.imul, 1) := by decide +kernel
theorem dX9_match_282 : decode cX9_match 282 = .ok (.iload 7, 2) := by decide +kernel
theorem dX9_match_284 : decode cX9_match 284 = .ok (.iadd, 1) := by decide +kernel
theorem dX9_match_285 : decode cX9_match 285 = .ok (.iaload, 1) := by decide +kernel
theorem dX9_match_286 : decode cX9_match 286 = .ok (.ireturn, 1) := by decide +kernel
theorem dX9_take_0 : decode cX9_take 0 = .ok (.aload_n 0, 1) := by decide +kernel
theorem dX9_take_1 : decode cX9_take 1 = .ok (.getfield 93, 3) := by decide +kernel
theorem dX9_take_4 : decode cX9_take 4 = .ok (.iload_n 2, 1) := by decide +kernel
theorem dX9_take_5 : decode cX9_take 5 = .ok (.iaload, 1) := by decide +kernel
theorem dX9_take_6 : decode cX9_take 6 = .ok (.iload_n 3, 1) := by decide +kernel
theorem dX9_take_7 : decode cX9_take 7 = .ok (.iadd, 1) := by decide +kernel
theorem dX9_take_8 : decode cX9_take 8 = .ok (.istore 5, 2) := by decide +kernel
theorem dX9_take_10 : decode cX9_take 10 = .ok (.aload_n 0, 1) := by decide +kernel
theorem dX9_take_11 : decode cX9_take 11 = .ok (.getfield 96, 3) := by decide +kernel
theorem dX9_take_14 : decode cX9_take 14 = .ok (.iload_n 2, 1) := by decide +kernel
theorem dX9_take_15 : decode cX9_take 15 = .ok (.iaload, 1) := by decide +kernel
theorem dX9_take_16 : decode cX9_take 16 = .ok (.iload 4, 2) := by decide +kernel
theorem dX9_take_18 : decode cX9_take 18 = .ok (.iadd, 1) := by decide +kernel
theorem dX9_take_19 : decode cX9_take 19 = .ok (.istore 6, 2) := by decide +kernel
theorem dX9_take_21 : decode cX9_take 21 = .ok (.iload 5, 2) := by decide +kernel
theorem dX9_take_23 : decode cX9_take 23 = .ok (.aload_n 0, 1) := by decide +kernel
theorem dX9_take_24 : decode cX9_take 24 = .ok (.getfield 93, 3) := by decide +kernel
theorem dX9_take_27 : decode cX9_take 27 = .ok (.iload_n 1, 1) := by decide +kernel
theorem dX9_take_28 : decode cX9_take 28 = .ok (.iaload, 1) := by decide +kernel
theorem dX9_take_29 : decode cX9_take 29 = .ok (.if_icmp .gt 25, 3) := by decide +kernel
theorem dX9_take_32 : decode cX9_take 32 = .ok (.iload 5, 2) := by decide +kernel
theorem dX9_take_34 : decode cX9_take 34 = .ok (.aload_n 0, 1) := by decide +kernel
theorem dX9_take_35 : decode cX9_take 35 = .ok (.getfield 93, 3) := by decide +kernel
theorem dX9_take_38 : decode cX9_take 38 = .ok (.iload_n 1, 1) := by decide +kernel
theorem dX9_take_39 : decode cX9_take 39 = .ok (.iaload, 1) := by decide +kernel
theorem dX9_take_40 : decode cX9_take 40 = .ok (.if_icmp .ne 30, 3) := by decide +kernel
theorem dX9_take_43 : decode cX9_take 43 = .ok (.iload 6, 2) := by decide +kernel
theorem dX9_take_45 : decode cX9_take 45 = .ok (.aload_n 0, 1) := by decide +kernel
theorem dX9_take_46 : decode cX9_take 46 = .ok (.getfield 96, 3) := by decide +kernel
theorem dX9_take_49 : decode cX9_take 49 = .ok (.iload_n 1, 1) := by decide +kernel
theorem dX9_take_50 : decode cX9_take 50 = .ok (.iaload, 1) := by decide +kernel
theorem dX9_take_51 : decode cX9_take 51 = .ok (.if_icmp .ge 19, 3) := by decide +kernel
theorem dX9_take_54 : decode cX9_take 54 = .ok (.aload_n 0, 1) := by decide +kernel
theorem dX9_take_55 : decode cX9_take 55 = .ok (.getfield 93, 3) := by decide +kernel
theorem dX9_take_58 : decode cX9_take 58 = .ok (.iload_n 1, 1) := by decide +kernel
theorem dX9_take_59 : decode cX9_take 59 = .ok (.iload 5, 2) := by decide +kernel
theorem dX9_take_61 : decode cX9_take 61 = .ok (.iastore, 1) := by decide +kernel
theorem dX9_take_62 : decode cX9_take 62 = .ok (.aload_n 0, 1) := by decide +kernel
theorem dX9_take_63 : decode cX9_take 63 = .ok (.getfield 96, 3) := by decide +kernel
theorem dX9_take_66 : decode cX9_take 66 = .ok (.iload_n 1, 1) := by decide +kernel
theorem dX9_take_67 : decode cX9_take 67 = .ok (.iload 6, 2) := by decide +kernel
theorem dX9_take_69 : decode cX9_take 69 = .ok (.iastore, 1) := by decide +kernel
theorem dX9_take_70 : decode cX9_take 70 = .ok (.return_, 1) := by decide +kernel
theorem dX9_count_0 : decode cX9_count 0 = .ok (.aload_n 0, 1) := by decide +kernel
theorem dX9_count_1 : decode cX9_count 1 = .ok (.iconst 0, 1) := by decide +kernel
theorem dX9_count_2 : decode cX9_count 2 = .ok (.putfield 99, 3) := by decide +kernel
theorem dX9_count_5 : decode cX9_count 5 = .ok (.iconst 0, 1) := by decide +kernel
theorem dX9_count_6 : decode cX9_count 6 = .ok (.istore_n 2, 1) := by decide +kernel
theorem dX9_count_7 : decode cX9_count 7 = .ok (.iconst 0, 1) := by decide +kernel
theorem dX9_count_8 : decode cX9_count 8 = .ok (.istore_n 3, 1) := by decide +kernel
theorem dX9_count_9 : decode cX9_count 9 = .ok (.iload_n 3, 1) := by decide +kernel
theorem dX9_count_10 : decode cX9_count 10 = .ok (.aload_n 0, 1) := by decide +kernel
theorem dX9_count_11 : decode cX9_count 11 = .ok (.getfield 215, 3) := by decide +kernel
theorem dX9_count_14 : decode cX9_count 14 = .ok (.if_icmp .ge 26, 3) := by decide +kernel
theorem dX9_count_17 : decode cX9_count 17 = .ok (.iload_n 2, 1) := by decide +kernel
theorem dX9_count_18 : decode cX9_count 18 = .ok (.aload_n 0, 1) := by decide +kernel
theorem dX9_count_19 : decode cX9_count 19 = .ok (.getfield 71, 3) := by decide +kernel
theorem dX9_count_22 : decode cX9_count 22 = .ok (.iload_n 3, 1) := by decide +kernel
theorem dX9_count_23 : decode cX9_count 23 = .ok (.baload, 1) := by decide +kernel
theorem dX9_count_24 : decode cX9_count 24 = .ok (.ifCond .eq 7, 3) := by decide +kernel
theorem dX9_count_27 : decode cX9_count 27 = .ok (.iconst 0, 1) := by decide +kernel
theorem dX9_count_28 : decode cX9_count 28 = .ok (.goto 4, 3) := by decide +kernel
theorem dX9_count_31 : decode cX9_count 31 = .ok (.iconst 1, 1) := by decide +kernel
theorem dX9_count_32 : decode cX9_count 32 = .ok (.iadd, 1) := by decide +kernel
theorem dX9_count_33 : decode cX9_count 33 = .ok (.istore_n 2, 1) := by decide +kernel
theorem dX9_count_34 : decode cX9_count 34 = .ok (.iinc 3 1, 3) := by decide +kernel
theorem dX9_count_37 : decode cX9_count 37 = .ok (.goto (-28), 3) := by decide +kernel
theorem dX9_count_40 : decode cX9_count 40 = .ok (.iload_n 1, 1) := by decide +kernel
theorem dX9_count_41 : decode cX9_count 41 = .ok (.ifCond .ne 10, 3) := by decide +kernel
theorem dX9_count_44 : decode cX9_count 44 = .ok (.aload_n 0, 1) := by decide +kernel
theorem dX9_count_45 : decode cX9_count 45 = .ok (.getfield 108, 3) := by decide +kernel
theorem dX9_count_48 : decode cX9_count 48 = .ok (.goto 50, 3) := by decide +kernel
theorem dX9_count_51 : decode cX9_count 51 = .ok (.iload_n 1, 1) := by decide +kernel
theorem dX9_count_52 : decode cX9_count 52 = .ok (.iconst 1, 1) := by decide +kernel
theorem dX9_count_53 : decode cX9_count 53 = .ok (.if_icmp .ne 10, 3) := by decide +kernel
theorem dX9_count_56 : decode cX9_count 56 = .ok (.aload_n 0, 1) := by decide +kernel
theorem dX9_count_57 : decode cX9_count 57 = .ok (.getfield 111, 3) := by decide +kernel
theorem dX9_count_60 : decode cX9_count 60 = .ok (.goto 38, 3) := by decide +kernel
theorem dX9_count_63 : decode cX9_count 63 = .ok (.iload_n 1, 1) := by decide +kernel
theorem dX9_count_64 : decode cX9_count 64 = .ok (.iconst 2, 1) := by decide +kernel
theorem dX9_count_65 : decode cX9_count 65 = .ok (.if_icmp .ne 10, 3) := by decide +kernel
theorem dX9_count_68 : decode cX9_count 68 = .ok (.aload_n 0, 1) := by decide +kernel
theorem dX9_count_69 : decode cX9_count 69 = .ok (.getfield 166, 3) := by decide +kernel
theorem dX9_count_72 : decode cX9_count 72 = .ok (.goto 26, 3) := by decide +kernel
theorem dX9_count_75 : decode cX9_count 75 = .ok (.iload_n 1, 1) := by decide +kernel
theorem dX9_count_76 : decode cX9_count 76 = .ok (.iconst 3, 1) := by decide +kernel
theorem dX9_count_77 : decode cX9_count 77 = .ok (.if_icmp .ne 10, 3) := by decide +kernel
theorem dX9_count_80 : decode cX9_count 80 = .ok (.aload_n 0, 1) := by decide +kernel
theorem dX9_count_81 : decode cX9_count 81 = .ok (.getfield 204, 3) := by decide +kernel
theorem dX9_count_84 : decode cX9_count 84 = .ok (.goto 14, 3) := by decide +kernel
theorem dX9_count_87 : decode cX9_count 87 = .ok (.iload_n 1, 1) := by decide +kernel
theorem dX9_count_88 : decode cX9_count 88 = .ok (.iconst 4, 1) := by decide +kernel
theorem dX9_count_89 : decode cX9_count 89 = .ok (.if_icmp .ne 7, 3) := by decide +kernel
theorem dX9_count_92 : decode cX9_count 92 = .ok (.iload_n 2, 1) := by decide +kernel
theorem dX9_count_93 : decode cX9_count 93 = .ok (.goto 5, 3) := by decide +kernel
theorem dX9_count_96 : decode cX9_count 96 = .ok (.bipush (-2), 2) := by decide +kernel
theorem dX9_count_98 : decode cX9_count 98 = .ok (.ireturn, 1) := by decide +kernel
