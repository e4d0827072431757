theorem dX0_init_0 : decode cX0_init 0 = .ok (.aload_n 0, 1) := by decide +kernel
theorem dX0_init_1 : decode cX0_init 1 = .ok (.invokespecial 3, 3) := by decide +kernel
theorem dX0_init_4 : decode cX0_init 4 = .ok (.aload_n 0, 1) := by decide +kernel
theorem dX0_init_5 : decode cX0_init 5 = .ok (.iconst 4, 1) := by decide +kernel
theorem dX0_init_6 : decode cX0_init 6 = .ok (.newarray .int, 2) := by decide +kernel
theorem dX0_init_8 : decode cX0_init 8 = .ok (.putfield 9, 3) := by decide +kernel
theorem dX0_init_11 : decode cX0_init 11 = .ok (.aload_n 0, 1) := by decide +kernel
theorem dX0_init_12 : decode cX0_init 12 = .ok (.iconst 4, 1) := by decide +kernel
theorem dX0_init_13 : decode cX0_init 13 = .ok (.newarray .int, 2) := by decide +kernel
theorem dX0_init_15 : decode cX0_init 15 = .ok (.putfield 15, 3) := by decide +kernel
theorem dX0_init_18 : decode cX0_init 18 = .ok (.aload_n 0, 1) := by decide +kernel
theorem dX0_init_19 : decode cX0_init 19 = .ok (.iconst 4, 1) := by decide +kernel
theorem dX0_init_20 : decode cX0_init 20 = .ok (.newarray .int, 2) := by decide +kernel
theorem dX0_init_22 : decode cX0_init 22 = .ok (.putfield 18, 3) := by decide +kernel
theorem dX0_init_25 : decode cX0_init 25 = .ok (.aload_n 0, 1) := by decide +kernel
theorem dX0_init_26 : decode cX0_init 26 = .ok (.iconst 4, 1) := by decide +kernel
theorem dX0_init_27 : decode cX0_init 27 = .ok (.newarray .int, 2) := by decide +kernel
theorem dX0_init_29 : decode cX0_init 29 = .ok (.putfield 21, 3) := by decide +kernel
theorem dX0_init_32 : decode cX0_init 32 = .ok (.return_, 1) := by decide +kernel
theorem dX0_add_0 : decode cX0_add 0 = .ok (.aload_n 0, 1) := by decide +kernel
theorem dX0_add_1 : decode cX0_add 1 = .ok (.getfield 9, 3) := by decide +kernel
theorem dX0_add_4 : decode cX0_add 4 = .ok (.aload_n 0, 1) := by decide +kernel
theorem dX0_add_5 : decode cX0_add 5 = .ok (.getfield 24, 3) := by decide +kernel
theorem dX0_add_8 : decode cX0_add 8 = .ok (.iload_n 1, 1) := by decide +kernel
theorem dX0_add_9 : decode cX0_add 9 = .ok (.iastore, 1) := by decide +kernel
theorem dX0_add_10 : decode cX0_add 10 = .ok (.aload_n 0, 1) := by decide +kernel
theorem dX0_add_11 : decode cX0_add 11 = .ok (.getfield 15, 3) := by decide +kernel
theorem dX0_add_14 : decode cX0_add 14 = .ok (.aload_n 0, 1) := by decide +kernel
theorem dX0_add_15 : decode cX0_add 15 = .ok (.getfield 24, 3) := by decide +kernel
theorem dX0_add_18 : decode cX0_add 18 = .ok (.iload_n 2, 1) := by decide +kernel
theorem dX0_add_19 : decode cX0_add 19 = .ok (.iastore, 1) := by decide +kernel
theorem dX0_add_20 : decode cX0_add 20 = .ok (.aload_n 0, 1) := by decide +kernel
theorem dX0_add_21 : decode cX0_add 21 = .ok (.getfield 18, 3) := by decide +kernel
theorem dX0_add_24 : decode cX0_add 24 = .ok (.aload_n 0, 1) := by decide +kernel
theorem dX0_add_25 : decode cX0_add 25 = .ok (.getfield 24, 3) := by decide +kernel
theorem dX0_add_28 : decode cX0_add 28 = .ok (.iload_n 3, 1) := by decide +kernel
theorem dX0_add_29 : decode cX0_add 29 = .ok (.iastore, 1) := by decide +kernel
theorem dX0_add_30 : decode cX0_add 30 = .ok (.aload_n 0, 1) := by decide +kernel
theorem dX0_add_31 : decode cX0_add 31 = .ok (.getfield 21, 3) := by decide +kernel
theorem dX0_add_34 : decode cX0_add 34 = .ok (.aload_n 0, 1) := by decide +kernel
theorem dX0_add_35 : decode cX0_add 35 = .ok (.getfield 24, 3) := by decide +kernel
theorem dX0_add_38 : decode cX0_add 38 = .ok (.iload 4, 2) := by decide +kernel
theorem dX0_add_40 : decode cX0_add 40 = .ok (.iastore, 1) := by decide +kernel
theorem dX0_add_41 : decode cX0_add 41 = .ok (.aload_n 0, 1) := by decide +kernel
theorem dX0_add_42 : decode cX0_add 42 = .ok (.dup, 1) := by decide +kernel
theorem dX0_add_43 : decode cX0_add 43 = .ok (.getfield 24, 3) := by decide +kernel
theorem dX0_add_46 : decode cX0_add 46 = .ok (.iconst 1, 1) := by decide +kernel
theorem dX0_add_47 : decode cX0_add 47 = .ok (.iadd, 1) := by decide +kernel
theorem dX0_add_48 : decode cX0_add 48 = .ok (.putfield 24, 3) := by decide +kernel
theorem dX0_add_51 : decode cX0_add 51 = .ok (.return_, 1) := by decide +kernel
theorem dX0_isShut_0 : decode cX0_isShut 0 = .ok (.iconst 0, 1) := by decide +kernel
theorem dX0_isShut_1 : decode cX0_isShut 1 = .ok (.istore 5, 2) := by decide +kernel
theorem dX0_isShut_3 : decode cX0_isShut 3 = .ok (.iload 5, 2) := by decide +kernel
theorem dX0_isShut_5 : decode cX0_isShut 5 = .ok (.aload_n 0, 1) := by decide +kernel
theorem dX0_isShut_6 : decode cX0_isShut 6 = .ok (.getfield 24, 3) := by decide +kernel
theorem dX0_isShut_9 : decode cX0_isShut 9 = .ok (.if_icmp .ge 25, 3) := by decide +kernel
theorem dX0_isShut_12 : decode cX0_isShut 12 = .ok (.aload_n 0, 1) := by decide +kernel
theorem dX0_isShut_13 : decode cX0_isShut 13 = .ok (.iload 5, 2) := by decide +kernel
theorem dX0_isShut_15 : decode cX0_isShut 15 = .ok (.iload_n 1, 1) := by decide +kernel
theorem dX0_isShut_16 : decode cX0_isShut 16 = .ok (.iload_n 2, 1) := by decide +kernel
theorem dX0_isShut_17 : decode cX0_isShut 17 = .ok (.iload_n 3, 1) := by decide +kernel
theorem dX0_isShut_18 : decode cX0_isShut 18 = .ok (.iload 4, 2) := by decide +kernel
theorem dX0_isShut_20 : decode cX0_isShut 20 = .ok (.invokevirtual 28, 3) := by decide +kernel
theorem dX0_isShut_23 : decode cX0_isShut 23 = .ok (.ifCond .eq 5, 3) := by decide +kernel
theorem dX0_isShut_26 : decode cX0_isShut 26 = .ok (.iconst 1, 1) := by decide +kernel
theorem dX0_isShut_27 : decode cX0_isShut 27 = .ok (.ireturn, 1) := by decide +kernel
theorem dX0_isShut_28 : decode cX0_isShut 28 = .ok (.iinc 5 1, 3) := by decide +kernel
theorem dX0_isShut_31 : decode cX0_isShut 31 = .ok (.goto (-28), 3) := by decide +kernel
theorem dX0_isShut_34 : decode cX0_isShut 34 = .ok (.iconst 0, 1) := by decide +kernel
theorem dX0_isShut_35 : decode cX0_isShut 35 = .ok (.ireturn, 1) := by decide +kernel
theorem dX0_goesInto_0 : decode cX0_goesInto 0 = .ok (.iload_n 2, 1) := by decide +kernel
theorem dX0_goesInto_1 : decode cX0_goesInto 1 = .ok (.iload 4, 2) := by decide +kernel
theorem dX0_goesInto_3 : decode cX0_goesInto 3 = .ok (.invokestatic 32, 3) := by decide +kernel
theorem dX0_goesInto_6 : decode cX0_goesInto 6 = .ok (.aload_n 0, 1) := by decide +kernel
theorem dX0_goesInto_7 : decode cX0_goesInto 7 = .ok (.getfield 9, 3) := by decide +kernel
theorem dX0_goesInto_10 : decode cX0_goesInto 10 = .ok (.iload_n 1, 1) := by decide +kernel
theorem dX0_goesInto_11 : decode cX0_goesInto 11 = .ok (.iaload, 1) := by decide +kernel
theorem dX0_goesInto_12 : decode cX0_goesInto 12 = .ok (.if_icmp .le 48, 3) := by decide +kernel
theorem dX0_goesInto_15 : decode cX0_goesInto 15 = .ok (.iload_n 2, 1) := by decide +kernel
theorem dX0_goesInto_16 : decode cX0_goesInto 16 = .ok (.iload 4, 2) := by decide +kernel
theorem dX0_goesInto_18 : decode cX0_goesInto 18 = .ok (.invokestatic 38, 3) := by decide +kernel
theorem dX0_goesInto_21 : decode cX0_goesInto 21 = .ok (.aload_n 0, 1) := by decide +kernel
theorem dX0_goesInto_22 : decode cX0_goesInto 22 = .ok (.getfield 18, 3) := by decide +kernel
theorem dX0_goesInto_25 : decode cX0_goesInto 25 = .ok (.iload_n 1, 1) := by decide +kernel
theorem dX0_goesInto_26 : decode cX0_goesInto 26 = .ok (.iaload, 1) := by decide +kernel
theorem dX0_goesInto_27 : decode cX0_goesInto 27 = .ok (.if_icmp .ge 33, 3) := by decide +kernel
theorem dX0_goesInto_30 : decode cX0_goesInto 30 = .ok (.iload_n 3, 1) := by decide +kernel
theorem dX0_goesInto_31 : decode cX0_goesInto 31 = .ok (.iload 5, 2) := by decide +kernel
theorem dX0_goesInto_33 : decode cX0_goesInto 33 = .ok (.invokestatic 32, 3) := by decide +kernel
theorem dX0_goesInto_36 : decode cX0_goesInto 36 = .ok (.aload_n 0, 1) := by decide +kernel
theorem dX0_goesInto_37 : decode cX0_goesInto 37 = .ok (.getfield 15, 3) := by decide +kernel
theorem dX0_goesInto_40 : decode cX0_goesInto 40 = .ok (.iload_n 1, 1) := by decide +kernel
theorem dX0_goesInto_41 : decode cX0_goesInto 41 = .ok (.iaload, 1) := by decide +kernel
theorem dX0_goesInto_42 : decode cX0_goesInto 42 = .ok (.if_icmp .le 18, 3) := by decide +kernel
theorem dX0_goesInto_45 : decode cX0_goesInto 45 = .ok (.iload_n 3, 1) := by decide +kernel
theorem dX0_goesInto_46 : decode cX0_goesInto 46 = .ok (.iload 5, 2) := by decide +kernel
theorem dX0_goesInto_48 : decode cX0_goesInto 48 = .ok (.invokestatic 38, 3) := by decide +kernel
theorem dX0_goesInto_51 : decode cX0_goesInto 51 = .ok (.aload_n 0, 1) := by decide +kernel
theorem dX0_goesInto_52 : decode cX0_goesInto 52 = .ok (.getfield 21, 3) := by decide +kernel
theorem dX0_goesInto_55 : decode cX0_goesInto 55 = .ok (.iload_n 1, 1) := by decide +kernel
theorem dX0_goesInto_56 : decode cX0_goesInto 56 = .ok (.iaload, 1) := by decide +kernel
theorem dX0_goesInto_57 : decode cX0_goesInto 57 = .ok (.if_icmp .lt 5, 3) := by decide +kernel
theorem dX0_goesInto_60 : decode cX0_goesInto 60 = .ok (.iconst 0, 1) := by decide +kernel
theorem dX0_goesInto_61 : decode cX0_goesInto 61 = .ok (.ireturn, 1) := by decide +kernel
theorem dX0_goesInto_62 : decode cX0_goesInto 62 = .ok (.iload_n 2, 1) := by decide +kernel
theorem dX0_goesInto_63 : decode cX0_goesInto 63 = .ok (.iload 4, 2) := by decide +kernel
theorem dX0_goesInto_65 : decode cX0_goesInto 65 = .ok (.if_icmp .ne 11, 3) := by decide +kernel
theorem dX0_goesInto_68 : decode cX0_goesInto 68 = .ok (.iload_n 3, 1) := by decide +kernel
theorem dX0_goesInto_69 : decode cX0_goesInto 69 = .ok (.iload 5, 2) := by decide +kernel
theorem dX0_goesInto_71 : decode cX0_goesInto 71 = .ok (.if_icmp .ne 5, 3) := by decide +kernel
theorem dX0_goesInto_74 : decode cX0_goesInto 74 = .ok (.iconst 1, 1) := by decide +kernel
theorem dX0_goesInto_75 : decode cX0_goesInto 75 = .ok (.ireturn, 1) := by decide +kernel
theorem dX0_goesInto_76 : decode cX0_goesInto 76 = .ok (.iload_n 2, 1) := by decide +kernel
theorem dX0_goesInto_77 : decode cX0_goesInto 77 = .ok (.iload_n 3, 1) := by decide +kernel
theorem dX0_goesInto_78 : decode cX0_goesInto 78 = .ok (.iload 4, 2) := by decide +kernel
theorem dX0_goesInto_80 : decode cX0_goesInto 80 = .ok (.iload 5, 2) := by decide +kernel
theorem dX0_goesInto_82 : decode cX0_goesInto 82 = .ok (.aload_n 0, 1) := by decide +kernel
theorem dX0_goesInto_83 : decode cX0_goesInto 83 = .ok (.getfield 9, 3) := by decide +kernel
theorem dX0_goesInto_86 : decode cX0_goesInto 86 = .ok (.iload_n 1, 1) := by decide +kernel
theorem dX0_goesInto_87 : decode cX0_goesInto 87 = .ok (.iaload, 1) := by decide +kernel
theorem dX0_goesInto_88 : decode cX0_goesInto 88 = .ok (.aload_n 0, 1) := by decide +kernel
theorem dX0_goesInto_89 : decode cX0_goesInto 89 = .ok (.getfield 15, 3) := by decide +kernel
theorem dX0_goesInto_92 : decode cX0_goesInto 92 = .ok (.iload_n 1, 1) := by decide +kernel
theorem dX0_goesInto_93 : decode cX0_goesInto 93 = .ok (.iaload, 1) := by decide +kernel
theorem dX0_goesInto_94 : decode cX0_goesInto 94 = .ok (.invokestatic 41, 3) := by decide +kernel
theorem dX0_goesInto_97 : decode cX0_goesInto 97 = .ok (.istore 6, 2) := by decide +kernel
theorem dX0_goesInto_99 : decode cX0_goesInto 99 = .ok (.iload_n 2, 1) := by decide +kernel
theorem dX0_goesInto_100 : decode cX0_goesInto 100 = .ok (.iload_n 3, 1) := by decide +kernel
theorem dX0_goesInto_101 : decode cX0_goesInto 101 = .ok (.iload 4, 2) := by decide +kernel
theorem dX0_goesInto_103 : decode cX0_goesInto 103 = .ok (.iload 5, 2) := by decide +kernel
theorem dX0_goesInto_105 : decode cX0_goesInto 105 = .ok (.aload_n 0, 1) := by decide +kernel
theorem dX0_goesInto_106 : decode cX0_goesInto 106 = .ok (.getfield 18, 3) := by decide +kernel
theorem dX0_goesInto_109 : decode cX0_goesInto 109 = .ok (.iload_n 1, 1) := by decide +kernel
theorem dX0_goesInto_110 : decode cX0_goesInto 110 = .ok (.iaload, 1) := by decide +kernel
theorem dX0_goesInto_111 : decode cX0_goesInto 111 = .ok (.aload_n 0, 1) := by decide +kernel
theorem dX0_goesInto_112 : decode cX0_goesInto 112 = .ok (.getfield 15, 3) := by decide +kernel
theorem dX0_goesInto_115 : decode cX0_goesInto 115 = .ok (.iload_n 1, 1) := by decide +kernel
theorem dX0_goesInto_116 : decode cX0_goesInto 116 = .ok (.iaload, 1) := by decide +kernel
theorem dX0_goesInto_117 : decode cX0_goesInto 117 = .ok (.invokestatic 41, 3) := by decide +kernel
theorem dX0_goesInto_120 : decode cX0_goesInto 120 = .ok (.istore 7, 2) := by decide +kernel
theorem dX0_goesInto_122 : decode cX0_goesInto 122 = .ok (.iload_n 2, 1) := by decide +kernel
theorem dX0_goesInto_123 : decode cX0_goesInto 123 = .ok (.iload_n 3, 1) := by decide +kernel
theorem dX0_goesInto_124 : decode cX0_goesInto 124 = .ok (.iload 4, 2) := by decide +kernel
theorem dX0_goesInto_126 : decode cX0_goesInto 126 = .ok (.iload 5, 2) := by decide +kernel
theorem dX0_goesInto_128 : decode cX0_goesInto 128 = .ok (.aload_n 0, 1) := by decide +kernel
theorem dX0_goesInto_129 : decode cX0_goesInto 129 = .ok (.getfield 18, 3) := by decide +kernel
theorem dX0_goesInto_132 : decode cX0_goesInto 132 = .ok (.iload_n 1, 1) := by decide +kernel
theorem dX0_goesInto_133 : decode cX0_goesInto 133 = .ok (.iaload, 1) := by decide +kernel
theorem dX0_goesInto_134 : decode cX0_goesInto 134 = .ok (.aload_n 0, 1) := by decide +kernel
theorem dX0_goesInto_135 : decode cX0_goesInto 135 = .ok (.getfield 21, 3) := by decide +kernel
theorem dX0_goesInto_138 : decode cX0_goesInto 138 = .ok (.iload_n 1, 1) := by decide +kernel
theorem dX0_goesInto_139 : decode cX0_goesInto 139 = .ok (.iaload, 1) := by decide +kernel
theorem dX0_goesInto_140 : decode cX0_goesInto 140 = .ok (.invokestatic 41, 3) := by decide +kernel
theorem dX0_goesInto_143 : decode cX0_goesInto 143 = .ok (.istore 8, 2) := by decide +kernel
theorem dX0_goesInto_145 : decode cX0_goesInto 145 = .ok (.iload_n 2, 1) := by decide +kernel
theorem dX0_goesInto_146 : decode cX0_goesInto 146 = .ok (.iload_n 3, 1) := by decide +kernel
theorem dX0_goesInto_147 : decode cX0_goesInto 147 = .ok (.iload 4, 2) := by decide +kernel
theorem dX0_goesInto_149 : decode cX0_goesInto 149 = .ok (.iload 5, 2) := by decide +kernel
theorem dX0_goesInto_151 : decode cX0_goesInto 151 = .ok (.aload_n 0, 1) := by decide +kernel
theorem dX0_goesInto_152 : decode cX0_goesInto 152 = .ok (.getfield 9, 3) := by decide +kernel
theorem dX0_goesInto_155 : decode cX0_goesInto 155 = .ok (.iload_n 1, 1) := by decide +kernel
theorem dX0_goesInto_156 : decode cX0_goesInto 156 = .ok (.iaload, 1) := by decide +kernel
theorem dX0_goesInto_157 : decode cX0_goesInto 157 = .ok (.aload_n 0, 1) := by decide +kernel
theorem dX0_goesInto_158 : decode cX0_goesInto 158 = .ok (.getfield 21, 3) := by decide +kernel
theorem dX0_goesInto_161 : decode cX0_goesInto 161 = .ok (.iload_n 1, 1) := by decide +kernel
theorem dX0_goesInto_162 : decode cX0_goesInto 162 = .ok (.iaload, 1) := by decide +kernel
theorem dX0_goesInto_163 : decode cX0_goesInto 163 = .ok (.invokestatic 41, 3) := by decide +kernel
theorem dX0_goesInto_166 : decode cX0_goesInto 166 = .ok (.istore 9, 2) := by decide +kernel
theorem dX0_goesInto_168 : decode cX0_goesInto 168 = .ok (.iload 6, 2) := by decide +kernel
theorem dX0_goesInto_170 : decode cX0_goesInto 170 = .ok (.iload 7, 2) := by decide +kernel
theorem dX0_goesInto_172 : decode cX0_goesInto 172 = .ok (.invokestatic 38, 3) := by decide +kernel
theorem dX0_goesInto_175 : decode cX0_goesInto 175 = .ok (.iload 8, 2) := by decide +kernel
theorem dX0_goesInto_177 : decode cX0_goesInto 177 = .ok (.iload 9, 2) := by decide +kernel
theorem dX0_goesInto_179 : decode cX0_goesInto 179 = .ok (.invokestatic 38, 3) := by decide +kernel
theorem dX0_goesInto_182 : decode cX0_goesInto 182 = .ok (.invokestatic 38, 3) := by decide +kernel
theorem dX0_goesInto_185 : decode cX0_goesInto 185 = .ok (.ifCond .ge 27, 3) := by decide +kernel
theorem dX0_goesInto_188 : decode cX0_goesInto 188 = .ok (.iload 6, 2) := by decide +kernel
theorem dX0_goesInto_190 : decode cX0_goesInto 190 = .ok (.iload 7, 2) := by decide +kernel
theorem dX0_goesInto_192 : decode cX0_goesInto 192 = .ok (.invokestatic 32, 3) := by decide +kernel
theorem dX0_goesInto_195 : decode cX0_goesInto 195 = .ok (.iload 8, 2) := by decide +kernel
theorem dX0_goesInto_197 : decode cX0_goesInto 197 = .ok (.iload 9, 2) := by decide +kernel
theorem dX0_goesInto_199 : decode cX0_goesInto 199 = .ok (.invokestatic 32, 3) := by decide +kernel
theorem dX0_goesInto_202 : decode cX0_goesInto 202 = .ok (.invokestatic 32, 3) := by decide +kernel
theorem dX0_goesInto_205 : decode cX0_goesInto 205 = .ok (.ifCond .le 7, 3) := by decide +kernel
theorem dX0_goesInto_208 : decode cX0_goesInto 208 = .ok (.iconst 1, 1) := by decide +kernel
theorem dX0_goesInto_209 : decode cX0_goesInto 209 = .ok (.goto 4, 3) := by decide +kernel
theorem dX0_goesInto_212 : decode cX0_goesInto 212 = .ok (.iconst 0, 1) := by decide +kernel
theorem dX0_goesInto_213 : decode cX0_goesInto 213 = .ok (.ireturn, 1) := by decide +kernel
theorem dX0_cost_0 : decode cX0_cost 0 = .ok (.bipush 100, 2) := by decide +kernel
theorem dX0_cost_2 : decode cX0_cost 2 = .ok (.iload_n 1, 1) := by decide +kernel
theorem dX0_cost_3 : decode cX0_cost 3 = .ok (.iload_n 1, 1) := by decide +kernel
theorem dX0_cost_4 : decode cX0_cost 4 = .ok (.imul, 1) := by decide +kernel
theorem dX0_cost_5 : decode cX0_cost 5 = .ok (.iload_n 2, 1) := by decide +kernel
theorem dX0_cost_6 : decode cX0_cost 6 = .ok (.iload_n 2, 1) := by decide +kernel
theorem dX0_cost_7 : decode cX0_cost 7 = .ok (.imul, 1) := by decide +kernel
theorem dX0_cost_8 : decode cX0_cost 8 = .ok (.iadd, 1) := by decide +kernel
theorem dX0_cost_9 : decode cX0_cost 9 = .ok (.imul, 1) := by decide +kernel
theorem dX0_cost_10 : decode cX0_cost 10 = .ok (.invokestatic 45, 3) := by decide +kernel
theorem dX0_cost_13 : decode cX0_cost 13 = .ok (.istore_n 3, 1) := by decide +kernel
theorem dX0_cost_14 : decode cX0_cost 14 = .ok (.aload_n 0, 1) := by decide +kernel
theorem dX0_cost_15 : decode cX0_cost 15 = .ok (.getfield 49, 3) := by decide +kernel
theorem dX0_cost_18 : decode cX0_cost 18 = .ok (.iload_n 1, 1) := by decide +kernel
theorem dX0_cost_19 : decode cX0_cost 19 = .ok (.imul, 1) := by decide +kernel
theorem dX0_cost_20 : decode cX0_cost 20 = .ok (.aload_n 0, 1) := by decide +kernel
theorem dX0_cost_21 : decode cX0_cost 21 = .ok (.getfield 52, 3) := by decide +kernel
theorem dX0_cost_24 : decode cX0_cost 24 = .ok (.iload_n 2, 1) := by decide +kernel
theorem dX0_cost_25 : decode cX0_cost 25 = .ok (.imul, 1) := by decide +kernel
theorem dX0_cost_26 : decode cX0_cost 26 = .ok (.iadd, 1) := by decide +kernel
theorem dX0_cost_27 : decode cX0_cost 27 = .ok (.istore 4, 2) := by decide +kernel
theorem dX0_cost_29 : decode cX0_cost 29 = .ok (.iload 4, 2) := by decide +kernel
theorem dX0_cost_31 : decode cX0_cost 31 = .ok (.ifCond .ge 14, 3) := by decide +kernel
theorem dX0_cost_34 : decode cX0_cost 34 = .ok (.iload_n 3, 1) := by decide +kernel
theorem dX0_cost_35 : decode cX0_cost 35 = .ok (.iload 4, 2) := by decide +kernel
theorem dX0_cost_37 : decode cX0_cost 37 = .ok (.ineg, 1) := by decide +kernel
theorem dX0_cost_38 : decode cX0_cost 38 = .ok (.bipush 10, 2) := by decide +kernel
theorem dX0_cost_40 : decode cX0_cost 40 = .ok (.idiv, 1) := by decide +kernel
theorem dX0_cost_41 : decode cX0_cost 41 = .ok (.iadd, 1) := by decide +kernel
theorem dX0_cost_42 : decode cX0_cost 42 = .ok (.goto 4, 3) := by decide +kernel
theorem dX0_cost_45 : decode cX0_cost 45 = .ok (.iload_n 3, 1) := by decide +kernel
theorem dX0_cost_46 : decode cX0_cost 46 = .ok (.ireturn, 1) := by decide +kernel
theorem dX0_rootUp_0 : decode cX0_rootUp 0 = .ok (.iconst 0, 1) := by decide +kernel
theorem dX0_rootUp_1 : decode cX0_rootUp 1 = .ok (.istore_n 1, 1) := by decide +kernel
theorem dX0_rootUp_2 : decode cX0_rootUp 2 = .ok (.sipush 512, 3) := by decide +kernel
theorem dX0_rootUp_5 : decode cX0_rootUp 5 = .ok (.istore_n 2, 1) := by decide +kernel
theorem dX0_rootUp_6 : decode cX0_rootUp 6 = .ok (.iload_n 2, 1) := by decide +kernel
theorem dX0_rootUp_7 : decode cX0_rootUp 7 = .ok (.ifCond .le 23, 3) := by decide +kernel
theorem dX0_rootUp_10 : decode cX0_rootUp 10 = .ok (.iload_n 1, 1) := by decide +kernel
theorem dX0_rootUp_11 : decode cX0_rootUp 11 = .ok (.iload_n 2, 1) := by decide +kernel
theorem dX0_rootUp_12 : decode cX0_rootUp 12 = .ok (.iadd, 1) := by decide +kernel
theorem dX0_rootUp_13 : decode cX0_rootUp 13 = .ok (.istore_n 3, 1) := by decide +kernel
theorem dX0_rootUp_14 : decode cX0_rootUp 14 = .ok (.iload_n 3, 1) := by decide +kernel
theorem dX0_rootUp_15 : decode cX0_rootUp 15 = .ok (.iload_n 3, 1) := by decide +kernel
theorem dX0_rootUp_16 : decode cX0_rootUp 16 = .ok (.imul, 1) := by decide +kernel
theorem dX0_rootUp_17 : decode cX0_rootUp 17 = .ok (.iload_n 0, 1) := by decide +kernel
theorem dX0_rootUp_18 : decode cX0_rootUp 18 = .ok (.if_icmp .ge 5, 3) := by decide +kernel
theorem dX0_rootUp_21 : decode cX0_rootUp 21 = .ok (.iload_n 3, 1) := by decide +kernel
theorem dX0_rootUp_22 : decode cX0_rootUp 22 = .ok (.istore_n 1, 1) := by decide +kernel
theorem dX0_rootUp_23 : decode cX0_rootUp 23 = .ok (.iload_n 2, 1) := by decide +kernel
theorem dX0_rootUp_24 : decode cX0_rootUp 24 = .ok (.iconst 2, 1) := by decide +kernel
theorem dX0_rootUp_25 : decode cX0_rootUp 25 = .ok (.idiv, 1) := by decide +kernel
theorem dX0_rootUp_26 : decode cX0_rootUp 26 = .ok (.istore_n 2, 1) := by decide +kernel
theorem dX0_rootUp_27 : decode cX0_rootUp 27 = .ok (.goto (-21), 3) := by decide +kernel
theorem dX0_rootUp_30 : decode cX0_rootUp 30 = .ok (.iload_n 0, 1) := by decide +kernel
theorem dX0_rootUp_31 : decode cX0_rootUp 31 = .ok (.ifCond .le 9, 3) := by decide +kernel
theorem dX0_rootUp_34 : decode cX0_rootUp 34 = .ok (.iload_n 1, 1) := by decide +kernel
theorem dX0_rootUp_35 : decode cX0_rootUp 35 = .ok (.iconst 1, 1) := by decide +kernel
theorem dX0_rootUp_36 : decode cX0_rootUp 36 = .ok (.iadd, 1) := by decide +kernel
theorem dX0_rootUp_37 : decode cX0_rootUp 37 = .ok (.goto 4, 3) := by decide +kernel
theorem dX0_rootUp_40 : decode cX0_rootUp 40 = .ok (.iconst 0, 1) := by decide +kernel
theorem dX0_rootUp_41 : decode cX0_rootUp 41 = .ok (.ireturn, 1) := by decide +kernel
theorem dX1_init_0 : decode cX1_init 0 = .ok (.aload_n 0, 1) := by decide +kernel
theorem dX1_init_1 : decode cX1_init 1 = .ok (.invokespecial 1, 3) := by decide +kernel
theorem dX1_init_4 : decode cX1_init 4 = .ok (.aload_n 0, 1) := by decide +kernel
theorem dX1_init_5 : decode cX1_init 5 = .ok (.sipush 1000, 3) := by decide +kernel
theorem dX1_init_8 : decode cX1_init 8 = .ok (.putfield 7, 3) := by decide +kernel
theorem dX1_init_11 : decode cX1_init 11 = .ok (.return_, 1) := by decide +kernel
theorem dX2_init_0 : decode cX2_init 0 = .ok (.aload_n 0, 1) := by decide +kernel
theorem dX2_init_1 : decode cX2_init 1 = .ok (.invokespecial 3, 3) := by decide +kernel
theorem dX2_init_4 : decode cX2_init 4 = .ok (.aload_n 0, 1) := by decide +kernel
theorem dX2_init_5 : decode cX2_init 5 = .ok (.new 9, 3) := by decide +kernel
theorem dX2_init_8 : decode cX2_init 8 = .ok (.dup, 1) := by decide +kernel
theorem dX2_init_9 : decode cX2_init 9 = .ok (.bipush 20, 2) := by decide +kernel
theorem dX2_init_11 : decode cX2_init 11 = .ok (.invokespecial 11, 3) := by decide +kernel
theorem dX2_init_14 : decode cX2_init 14 = .ok (.putfield 14, 3) := by decide +kernel
theorem dX2_init_17 : decode cX2_init 17 = .ok (.aload_n 0, 1) := by decide +kernel
theorem dX2_init_18 : decode cX2_init 18 = .ok (.bipush 20, 2) := by decide +kernel
theorem dX2_init_20 : decode cX2_init 20 = .ok (.newarray .int, 2) := by decide +kernel
theorem dX2_init_22 : decode cX2_init 22 = .ok (.putfield 20, 3) := by decide +kernel
theorem dX2_init_25 : decode cX2_init 25 = .ok (.return_, 1) := by decide +kernel
theorem dX2_add_0 : decode cX2_add 0 = .ok (.aload_n 0, 1) := by decide +kernel
theorem dX2_add_1 : decode cX2_add 1 = .ok (.getfield 20, 3) := by decide +kernel
theorem dX2_add_4 : decode cX2_add 4 = .ok (.aload_n 0, 1) := by decide +kernel
theorem dX2_add_5 : decode cX2_add 5 = .ok (.getfield 14, 3) := by decide +kernel
theorem dX2_add_8 : decode cX2_add 8 = .ok (.getfield 24, 3) := by decide +kernel
theorem dX2_add_11 : decode cX2_add 11 = .ok (.iload_n 3, 1) := by decide +kernel
theorem dX2_add_12 : decode cX2_add 12 = .ok (.iastore, 1) := by decide +kernel
theorem dX2_add_13 : decode cX2_add 13 = .ok (.aload_n 0, 1) := by decide +kernel
theorem dX2_add_14 : decode cX2_add 14 = .ok (.getfield 14, 3) := by decide +kernel
theorem dX2_add_17 : decode cX2_add 17 = .ok (.iload_n 1, 1) := by decide +kernel
theorem dX2_add_18 : decode cX2_add 18 = .ok (.iload_n 2, 1) := by decide +kernel
theorem dX2_add_19 : decode cX2_add 19 = .ok (.invokevirtual 28, 3) := by decide +kernel
theorem dX2_add_22 : decode cX2_add 22 = .ok (.ireturn, 1) := by decide +kernel
theorem dX2_isProof_0 : decode cX2_isProof 0 = .ok (.aload_n 0, 1) := by decide +kernel
theorem dX2_isProof_1 : decode cX2_isProof 1 = .ok (.getfield 14, 3) := by decide +kernel
theorem dX2_isProof_4 : decode cX2_isProof 4 = .ok (.getfield 32, 3) := by decide +kernel
theorem dX2_isProof_7 : decode cX2_isProof 7 = .ok (.iload_n 1, 1) := by decide +kernel
theorem dX2_isProof_8 : decode cX2_isProof 8 = .ok (.iaload, 1) := by decide +kernel
theorem dX2_isProof_9 : decode cX2_isProof 9 = .ok (.istore 4, 2) := by decide +kernel
theorem dX2_isProof_11 : decode cX2_isProof 11 = .ok (.aload_n 0, 1) := by decide +kernel
theorem dX2_isProof_12 : decode cX2_isProof 12 = .ok (.getfield 14, 3) := by decide +kernel
theorem dX2_isProof_15 : decode cX2_isProof 15 = .ok (.getfield 35, 3) := by decide +kernel
theorem dX2_isProof_18 : decode cX2_isProof 18 = .ok (.iload_n 1, 1) := by decide +kernel
theorem dX2_isProof_19 : decode cX2_isProof 19 = .ok (.iaload, 1) := by decide +kernel
theorem dX2_isProof_20 : decode cX2_isProof 20 = .ok (.istore 5, 2) := by decide +kernel
theorem dX2_isProof_22 : decode cX2_isProof 22 = .ok (.aload_n 0, 1) := by decide +kernel
theorem dX2_isProof_23 : decode cX2_isProof 23 = .ok (.getfield 20, 3) := by decide +kernel
theorem dX2_isProof_26 : decode cX2_isProof 26 = .ok (.iload_n 1, 1) := by decide +kernel
theorem dX2_isProof_27 : decode cX2_isProof 27 = .ok (.iaload, 1) := by decide +kernel
theorem dX2_isProof_28 : decode cX2_isProof 28 = .ok (.istore 6, 2) := by decide +kernel
theorem dX2_isProof_30 : decode cX2_isProof 30 = .ok (.aload_n 2, 1) := by decide +kernel
theorem dX2_isProof_31 : decode cX2_isProof 31 = .ok (.iload 4, 2) := by decide +kernel
theorem dX2_isProof_33 : decode cX2_isProof 33 = .ok (.iload 6, 2) := by decide +kernel
theorem dX2_isProof_35 : decode cX2_isProof 35 = .ok (.isub, 1) := by decide +kernel
theorem dX2_isProof_36 : decode cX2_isProof 36 = .ok (.iload 5, 2) := by decide +kernel
theorem dX2_isProof_38 : decode cX2_isProof 38 = .ok (.iload 6, 2) := by decide +kernel
theorem dX2_isProof_40 : decode cX2_isProof 40 = .ok (.isub, 1) := by decide +kernel
theorem dX2_isProof_41 : decode cX2_isProof 41 = .ok (.iload_n 3, 1) := by decide +kernel
theorem dX2_isProof_42 : decode cX2_isProof 42 = .ok (.invokevirtual 38, 3) := by decide +kernel
theorem dX2_isProof_45 : decode cX2_isProof 45 = .ok (.ifCond .eq 61, 3) := by decide +kernel
theorem dX2_isProof_48 : decode cX2_isProof 48 = .ok (.aload_n 2, 1) := by decide +kernel
theorem dX2_isProof_49 : decode cX2_isProof 49 = .ok (.iload 4, 2) := by decide +kernel
theorem dX2_isProof_51 : decode cX2_isProof 51 = .ok (.iload 6, 2) := by decide +kernel
theorem dX2_isProof_53 : decode cX2_isProof 53 = .ok (.iadd, 1) := by decide +kernel
theorem dX2_isProof_54 : decode cX2_isProof 54 = .ok (.iload 5, 2) := by decide +kernel
theorem dX2_isProof_56 : decode cX2_isProof 56 = .ok (.iload 6, 2) := by decide +kernel
theorem dX2_isProof_58 : decode cX2_isProof 58 = .ok (.isub, 1) := by decide +kernel
theorem dX2_isProof_59 : decode cX2_isProof 59 = .ok (.iload_n 3, 1) := by decide +kernel
theorem dX2_isProof_60 : decode cX2_isProof 60 = .ok (.invokevirtual 38, 3) := by decide +kernel
theorem dX2_isProof_63 : decode cX2_isProof 63 = .ok (.ifCond .eq 43, 3) := by decide +kernel
theorem dX2_isProof_66 : decode cX2_isProof 66 = .ok (.aload_n 2, 1) := by decide +kernel
theorem dX2_isProof_67 : decode cX2_isProof 67 = .ok (.iload 4, 2) := by decide +kernel
theorem dX2_isProof_69 : decode cX2_isProof 69 = .ok (.iload 6, 2) := by decide +kernel
theorem dX2_isProof_71 : decode cX2_isProof 71 = .ok (.isub, 1) := by decide +kernel
theorem dX2_isProof_72 : decode cX2_isProof 72 = .ok (.iload 5, 2) := by decide +kernel
theorem dX2_isProof_74 : decode cX2_isProof 74 = .ok (.iload 6, 2) := by decide +kernel
theorem dX2_isProof_76 : decode cX2_isProof 76 = .ok (.iadd, 1) := by decide +kernel
theorem dX2_isProof_77 : decode cX2_isProof 77 = .ok (.iload_n 3, 1) := by decide +kernel
theorem dX2_isProof_78 : decode cX2_isProof 78 = .ok (.invokevirtual 38, 3) := by decide +kernel
theorem dX2_isProof_81 : decode cX2_isProof 81 = .ok (.ifCond .eq 25, 3) := by decide +kernel
theorem dX2_isProof_84 : decode cX2_isProof 84 = .ok (.aload_n 2, 1) := by decide +kernel
theorem dX2_isProof_85 : decode cX2_isProof 85 = .ok (.iload 4, 2) := by decide +kernel
theorem dX2_isProof_87 : decode cX2_isProof 87 = .ok (.iload 6, 2) := by decide +kernel
theorem dX2_isProof_89 : decode cX2_isProof 89 = .ok (.iadd, 1) := by decide +kernel
theorem dX2_isProof_90 : decode cX2_isProof 90 = .ok (.iload 5, 2) := by decide +kernel
theorem dX2_isProof_92 : decode cX2_isProof 92 = .ok (.iload 6, 2) := by decide +kernel
theorem dX2_isProof_94 : decode cX2_isProof 94 = .ok (.iadd, 1) := by decide +kernel
theorem dX2_isProof_95 : decode cX2_isProof 95 = .ok (.iload_n 3, 1) := by decide +kernel
theorem dX2_isProof_96 : decode cX2_isProof 96 = .ok (.invokevirtual 38, 3) := by decide +kernel
theorem dX2_isProof_99 : decode cX2_isProof 99 = .ok (.ifCond .eq 7, 3) := by decide +kernel
theorem dX2_isProof_102 : decode cX2_isProof 102 = .ok (.iconst 1, 1) := by decide +kernel
theorem dX2_isProof_103 : decode cX2_isProof 103 = .ok (.goto 4, 3) := by decide +kernel
theorem dX2_isProof_106 : decode cX2_isProof 106 = .ok (.iconst 0, 1) := by decide +kernel
theorem dX2_isProof_107 : decode cX2_isProof 107 = .ok (.ireturn, 1) := by decide +kernel
theorem dX2_proofs_0 : decode cX2_proofs 0 = .ok (.iconst 0, 1) := by decide +kernel
theorem dX2_proofs_1 : decode cX2_proofs 1 = .ok (.istore 4, 2) := by decide +kernel
theorem dX2_proofs_3 : decode cX2_proofs 3 = .ok (.iconst 0, 1) := by decide +kernel
theorem dX2_proofs_4 : decode cX2_proofs 4 = .ok (.istore 5, 2) := by decide +kernel
theorem dX2_proofs_6 : decode cX2_proofs 6 = .ok (.iload 5, 2) := by decide +kernel
theorem dX2_proofs_8 : decode cX2_proofs 8 = .ok (.aload_n 0, 1) := by decide +kernel
theorem dX2_proofs_9 : decode cX2_proofs 9 = .ok (.getfield 14, 3) := by decide +kernel
theorem dX2_proofs_12 : decode cX2_proofs 12 = .ok (.getfield 24, 3) := by decide +kernel
theorem dX2_proofs_15 : decode cX2_proofs 15 = .ok (.if_icmp .ge 29, 3) := by decide +kernel
theorem dX2_proofs_18 : decode cX2_proofs 18 = .ok (.iload 4, 2) := by decide +kernel
theorem dX2_proofs_20 : decode cX2_proofs 20 = .ok (.iload_n 3, 1) := by decide +kernel
theorem dX2_proofs_21 : decode cX2_proofs 21 = .ok (.if_icmp .ge 23, 3) := by decide +kernel
theorem dX2_proofs_24 : decode cX2_proofs 24 = .ok (.aload_n 0, 1) := by decide +kernel
theorem dX2_proofs_25 : decode cX2_proofs 25 = .ok (.iload 5, 2) := by decide +kernel
theorem dX2_proofs_27 : decode cX2_proofs 27 = .ok (.aload_n 1, 1) := by decide +kernel
theorem dX2_proofs_28 : decode cX2_proofs 28 = .ok (.iload_n 2, 1) := by decide +kernel
theorem dX2_proofs_29 : decode cX2_proofs 29 = .ok (.invokevirtual 44, 3) := by decide +kernel
theorem dX2_proofs_32 : decode cX2_proofs 32 = .ok (.ifCond .eq 6, 3) := by decide +kernel
theorem dX2_proofs_35 : decode cX2_proofs 35 = .ok (.iinc 4 1, 3) := by decide +kernel
theorem dX2_proofs_38 : decode cX2_proofs 38 = .ok (.iinc 5 1, 3) := by decide +kernel
theorem dX2_proofs_41 : decode cX2_proofs 41 = .ok (.goto (-35), 3) := by decide +kernel
theorem dX2_proofs_44 : decode cX2_proofs 44 = .ok (.iload 4, 2) := by decide +kernel
theorem dX2_proofs_46 : decode cX2_proofs 46 = .ok (.ireturn, 1) := by decide +kernel
theorem dX3_init_0 : decode cX3_init 0 = .ok (.aload_n 0, 1) := by decide +kernel
theorem dX3_init_1 : decode cX3_init 1 = .ok (.invokespecial 3, 3) := by decide +kernel
theorem dX3_init_4 : decode cX3_init 4 = .ok (.aload_n 0, 1) := by decide +kernel
theorem dX3_init_5 : decode cX3_init 5 = .ok (.bipush 12, 2) := by decide +kernel
theorem dX3_init_7 : decode cX3_init 7 = .ok (.newarray .int, 2) := by decide +kernel
theorem dX3_init_9 : decode cX3_init 9 = .ok (.putfield 9, 3) := by decide +kernel
theorem dX3_init_12 : decode cX3_init 12 = .ok (.return_, 1) := by decide +kernel
theorem dX3_watch_0 : decode cX3_watch 0 = .ok (.aload_n 0, 1) := by decide +kernel
theorem dX3_watch_1 : decode cX3_watch 1 = .ok (.aload_n 1, 1) := by decide +kernel
theorem dX3_watch_2 : decode cX3_watch 2 = .ok (.getfield 15, 3) := by decide +kernel
theorem dX3_watch_5 : decode cX3_watch 5 = .ok (.putfield 21, 3) := by decide +kernel
theorem dX3_watch_8 : decode cX3_watch 8 = .ok (.iconst 0, 1) := by decide +kernel
theorem dX3_watch_9 : decode cX3_watch 9 = .ok (.istore_n 3, 1) := by decide +kernel
theorem dX3_watch_10 : decode cX3_watch 10 = .ok (.iload_n 3, 1) := by decide +kernel
theorem dX3_watch_11 : decode cX3_watch 11 = .ok (.aload_n 0, 1) := by decide +kernel
theorem dX3_watch_12 : decode cX3_watch 12 = .ok (.getfield 21, 3) := by decide +kernel
theorem dX3_watch_15 : decode cX3_watch 15 = .ok (.if_icmp .ge 69, 3) := by decide +kernel
theorem dX3_watch_18 : decode cX3_watch 18 = .ok (.iconst 0, 1) := by decide +kernel
theorem dX3_watch_19 : decode cX3_watch 19 = .ok (.istore 4, 2) := by decide +kernel
theorem dX3_watch_21 : decode cX3_watch 21 = .ok (.iconst 0, 1) := by decide +kernel
theorem dX3_watch_22 : decode cX3_watch 22 = .ok (.istore 5, 2) := by decide +kernel
theorem dX3_watch_24 : decode cX3_watch 24 = .ok (.iload 5, 2) := by decide +kernel
theorem dX3_watch_26 : decode cX3_watch 26 = .ok (.aload_n 2, 1) := by decide +kernel
theorem dX3_watch_27 : decode cX3_watch 27 = .ok (.getfield 24, 3) := by decide +kernel
theorem dX3_watch_30 : decode cX3_watch 30 = .ok (.if_icmp .ge 40, 3) := by decide +kernel
theorem dX3_watch_33 : decode cX3_watch 33 = .ok (.aload_n 1, 1) := by decide +kernel
theorem dX3_watch_34 : decode cX3_watch 34 = .ok (.aload_n 2, 1) := by decide +kernel
theorem dX3_watch_35 : decode cX3_watch 35 = .ok (.getfield 27, 3) := by decide +kernel
theorem dX3_watch_38 : decode cX3_watch 38 = .ok (.iload 5, 2) := by decide +kernel
theorem dX3_watch_40 : decode cX3_watch 40 = .ok (.iaload, 1) := by decide +kernel
theorem dX3_watch_41 : decode cX3_watch 41 = .ok (.aload_n 2, 1) := by decide +kernel
theorem dX3_watch_42 : decode cX3_watch 42 = .ok (.getfield 30, 3) := by decide +kernel
theorem dX3_watch_45 : decode cX3_watch 45 = .ok (.iload 5, 2) := by decide +kernel
theorem dX3_watch_47 : decode cX3_watch 47 = .ok (.iaload, 1) := by decide +kernel
theorem dX3_watch_48 : decode cX3_watch 48 = .ok (.iload_n 3, 1) := by decide +kernel
theorem dX3_watch_49 : decode cX3_watch 49 = .ok (.invokevirtual 33, 3) := by decide +kernel
theorem dX3_watch_52 : decode cX3_watch 52 = .ok (.ifCond .eq 12, 3) := by decide +kernel
theorem dX3_watch_55 : decode cX3_watch 55 = .ok (.iload 4, 2) := by decide +kernel
theorem dX3_watch_57 : decode cX3_watch 57 = .ok (.iconst 1, 1) := by decide +kernel
theorem dX3_watch_58 : decode cX3_watch 58 = .ok (.iload 5, 2) := by decide +kernel
theorem dX3_watch_60 : decode cX3_watch 60 = .ok (.ishl, 1) := by decide +kernel
theorem dX3_watch_61 : decode cX3_watch 61 = .ok (.ior, 1) := by decide +kernel
theorem dX3_watch_62 : decode cX3_watch 62 = .ok (.istore 4, 2) := by decide +kernel
theorem dX3_watch_64 : decode cX3_watch 64 = .ok (.iinc 5 1, 3) := by decide +kernel
theorem dX3_watch_67 : decode cX3_watch 67 = .ok (.goto (-43), 3) := by decide +kernel
theorem dX3_watch_70 : decode cX3_watch 70 = .ok (.aload_n 0, 1) := by decide +kernel
theorem dX3_watch_71 : decode cX3_watch 71 = .ok (.getfield 9, 3) := by decide +kernel
theorem dX3_watch_74 : decode cX3_watch 74 = .ok (.iload_n 3, 1) := by decide +kernel
theorem dX3_watch_75 : decode cX3_watch 75 = .ok (.iload 4, 2) := by decide +kernel
theorem dX3_watch_77 : decode cX3_watch 77 = .ok (.iastore, 1) := by decide +kernel
theorem dX3_watch_78 : decode cX3_watch 78 = .ok (.iinc 3 1, 3) := by decide +kernel
theorem dX3_watch_81 : decode cX3_watch 81 = .ok (.goto (-71), 3) := by decide +kernel
theorem dX3_watch_84 : decode cX3_watch 84 = .ok (.return_, 1) := by decide +kernel
theorem dX3_leastTimes_0 : decode cX3_leastTimes 0 = .ok (.bipush 10, 2) := by decide +kernel
theorem dX3_leastTimes_2 : decode cX3_leastTimes 2 = .ok (.istore_n 2, 1) := by decide +kernel
theorem dX3_leastTimes_3 : decode cX3_leastTimes 3 = .ok (.iconst 0, 1) := by decide +kernel
theorem dX3_leastTimes_4 : decode cX3_leastTimes 4 = .ok (.istore_n 3, 1) := by decide +kernel
theorem dX3_leastTimes_5 : decode cX3_leastTimes 5 = .ok (.iload_n 3, 1) := by decide +kernel
theorem dX3_leastTimes_6 : decode cX3_leastTimes 6 = .ok (.aload_n 0, 1) := by decide +kernel
theorem dX3_leastTimes_7 : decode cX3_leastTimes 7 = .ok (.getfield 21, 3) := by decide +kernel
theorem dX3_leastTimes_10 : decode cX3_leastTimes 10 = .ok (.if_icmp .ge 25, 3) := by decide +kernel
theorem dX3_leastTimes_13 : decode cX3_leastTimes 13 = .ok (.iload_n 2, 1) := by decide +kernel
theorem dX3_leastTimes_14 : decode cX3_leastTimes 14 = .ok (.aload_n 0, 1) := by decide +kernel
theorem dX3_leastTimes_15 : decode cX3_leastTimes 15 = .ok (.getfield 9, 3) := by decide +kernel
theorem dX3_leastTimes_18 : decode cX3_leastTimes 18 = .ok (.iload_n 3, 1) := by decide +kernel
theorem dX3_leastTimes_19 : decode cX3_leastTimes 19 = .ok (.iaload, 1) := by decide +kernel
theorem dX3_leastTimes_20 : decode cX3_leastTimes 20 = .ok (.iload_n 1, 1) := by decide +kernel
theorem dX3_leastTimes_21 : decode cX3_leastTimes 21 = .ok (.iand, 1) := by decide +kernel
theorem dX3_leastTimes_22 : decode cX3_leastTimes 22 = .ok (.invokestatic 37, 3) := by decide +kernel
theorem dX3_leastTimes_25 : decode cX3_leastTimes 25 = .ok (.invokestatic 43, 3) := by decide +kernel
theorem dX3_leastTimes_28 : decode cX3_leastTimes 28 = .ok (.istore_n 2, 1) := by decide +kernel
theorem dX3_leastTimes_29 : decode cX3_leastTimes 29 = .ok (.iinc 3 1, 3) := by decide +kernel
theorem dX3_leastTimes_32 : decode cX3_leastTimes 32 = .ok (.goto (-27), 3) := by decide +kernel
theorem dX3_leastTimes_35 : decode cX3_leastTimes 35 = .ok (.iload_n 2, 1) := by decide +kernel
theorem dX3_leastTimes_36 : decode cX3_leastTimes 36 = .ok (.ireturn, 1) := by decide +kernel
theorem dX3_smallestCover_0 : decode cX3_smallestCover 0 = .ok (.bipush (-9), 2) := by decide +kernel
theorem dX3_smallestCover_2 : decode cX3_smallestCover 2 = .ok (.istore_n 3, 1) := by decide +kernel
theorem dX3_smallestCover_3 : decode cX3_smallestCover 3 = .ok (.bipush 11, 2) := by decide +kernel
theorem dX3_smallestCover_5 : decode cX3_smallestCover 5 = .ok (.istore 4, 2) := by decide +kernel
theorem dX3_smallestCover_7 : decode cX3_smallestCover 7 = .ok (.iconst 0, 1) := by decide +kernel
theorem dX3_smallestCover_8 : decode cX3_smallestCover 8 = .ok (.istore 5, 2) := by decide +kernel
theorem dX3_smallestCover_10 : decode cX3_smallestCover 10 = .ok (.iload 5, 2) := by decide +kernel
theorem dX3_smallestCover_12 : decode cX3_smallestCover 12 = .ok (.iload_n 2, 1) := by decide +kernel
theorem dX3_smallestCover_13 : decode cX3_smallestCover 13 = .ok (.if_icmp .ge 40, 3) := by decide +kernel
theorem dX3_smallestCover_16 : decode cX3_smallestCover 16 = .ok (.iload 5, 2) := by decide +kernel
theorem dX3_smallestCover_18 : decode cX3_smallestCover 18 = .ok (.invokestatic 37, 3) := by decide +kernel
theorem dX3_smallestCover_21 : decode cX3_smallestCover 21 = .ok (.istore 6, 2) := by decide +kernel
theorem dX3_smallestCover_23 : decode cX3_smallestCover 23 = .ok (.iload 6, 2) := by decide +kernel
theorem dX3_smallestCover_25 : decode cX3_smallestCover 25 = .ok (.iload 4, 2) := by decide +kernel
theorem dX3_smallestCover_27 : decode cX3_smallestCover 27 = .ok (.if_icmp .ge 20, 3) := by decide +kernel
theorem dX3_smallestCover_30 : decode cX3_smallestCover 30 = .ok (.aload_n 0, 1) := by decide +kernel
theorem dX3_smallestCover_31 : decode cX3_smallestCover 31 = .ok (.iload 5, 2) := by decide +kernel
theorem dX3_smallestCover_33 : decode cX3_smallestCover 33 = .ok (.invokevirtual 49, 3) := by decide +kernel
theorem dX3_smallestCover_36 : decode cX3_smallestCover 36 = .ok (.iload_n 1, 1) := by decide +kernel
theorem dX3_smallestCover_37 : decode cX3_smallestCover 37 = .ok (.if_icmp .lt 10, 3) := by decide +kernel
theorem dX3_smallestCover_40 : decode cX3_smallestCover 40 = .ok (.iload 5, 2) := by decide +kernel
theorem dX3_smallestCover_42 : decode cX3_smallestCover 42 = .ok (.istore_n 3, 1) := by decide +kernel
theorem dX3_smallestCover_43 : decode cX3_smallestCover 43 = .ok (.iload 6, 2) := by decide +kernel
theorem dX3_smallestCover_45 : decode cX3_smallestCover 45 = .ok (.istore 4, 2) := by decide +kernel
theorem dX3_smallestCover_47 : decode cX3_smallestCover 47 = .ok (.iinc 5 1, 3) := by decide +kernel
theorem dX3_smallestCover_50 : decode cX3_smallestCover 50 = .ok (.goto (-40), 3) := by decide +kernel
theorem dX3_smallestCover_53 : decode cX3_smallestCover 53 = .ok (.iload_n 3, 1) := by decide +kernel
theorem dX3_smallestCover_54 : decode cX3_smallestCover 54 = .ok (.ireturn, 1) := by decide +kernel
theorem dX4_init_0 : decode cX4_init 0 = .ok (.aload_n 0, 1) := by decide +kernel
theorem dX4_init_1 : decode cX4_init 1 = .ok (.invokespecial 3, 3) := by decide +kernel
theorem dX4_init_4 : decode cX4_init 4 = .ok (.aload_n 0, 1) := by decide +kernel
theorem dX4_init_5 : decode cX4_init 5 = .ok (.bipush 40, 2) := by decide +kernel
theorem dX4_init_7 : decode cX4_init 7 = .ok (.newarray .int, 2) := by decide +kernel
theorem dX4_init_9 : decode cX4_init 9 = .ok (.putfield 9, 3) := by decide +kernel
theorem dX4_init_12 : decode cX4_init 12 = .ok (.aload_n 0, 1) := by decide +kernel
theorem dX4_init_13 : decode cX4_init 13 = .ok (.bipush 40, 2) := by decide +kernel
theorem dX4_init_15 : decode cX4_init 15 = .ok (.newarray .int, 2) := by decide +kernel
theorem dX4_init_17 : decode cX4_init 17 = .ok (.putfield 15, 3) := by decide +kernel
theorem dX4_init_20 : decode cX4_init 20 = .ok (.aload_n 0, 1) := by decide +kernel
theorem dX4_init_21 : decode cX4_init 21 = .ok (.bipush 40, 2) := by decide +kernel
theorem dX4_init_23 : decode cX4_init 23 = .ok (.newarray .int, 2) := by decide +kernel
theorem dX4_init_25 : decode cX4_init 25 = .ok (.putfield 18, 3) := by decide +kernel
theorem dX4_init_28 : decode cX4_init 28 = .ok (.aload_n 0, 1) := by decide +kernel
theorem dX4_init_29 : decode cX4_init 29 = .ok (.bipush 40, 2) := by decide +kernel
theorem dX4_init_31 : decode cX4_init 31 = .ok (.newarray .int, 2) := by decide +kernel
theorem dX4_init_33 : decode cX4_init 33 = .ok (.putfield 21, 3) := by decide +kernel
theorem dX4_init_36 : decode cX4_init 36 = .ok (.aload_n 0, 1) := by decide +kernel
theorem dX4_init_37 : decode cX4_init 37 = .ok (.bipush 40, 2) := by decide +kernel
theorem dX4_init_39 : decode cX4_init 39 = .ok (.newarray .boolean, 2) := by decide +kernel
theorem dX4_init_41 : decode cX4_init 41 = .ok (.putfield 24, 3) := by decide +kernel
theorem dX4_init_44 : decode cX4_init 44 = .ok (.aload_n 0, 1) := by decide +kernel
theorem dX4_init_45 : decode cX4_init 45 = .ok (.bipush 40, 2) := by decide +kernel
theorem dX4_init_47 : decode cX4_init 47 = .ok (.newarray .int, 2) := by decide +kernel
theorem dX4_init_49 : decode cX4_init 49 = .ok (.putfield 28, 3) := by decide +kernel
theorem dX4_init_52 : decode cX4_init 52 = .ok (.aload_n 0, 1) := by decide +kernel
theorem dX4_init_53 : decode cX4_init 53 = .ok (.bipush 40, 2) := by decide +kernel
theorem dX4_init_55 : decode cX4_init 55 = .ok (.newarray .int, 2) := by decide +kernel
theorem dX4_init_57 : decode cX4_init 57 = .ok (.putfield 31, 3) := by decide +kernel
theorem dX4_init_60 : decode cX4_init 60 = .ok (.aload_n 0, 1) := by decide +kernel
theorem dX4_init_61 : decode cX4_init 61 = .ok (.bipush 41, 2) := by decide +kernel
theorem dX4_init_63 : decode cX4_init 63 = .ok (.newarray .int, 2) := by decide +kernel
theorem dX4_init_65 : decode cX4_init 65 = .ok (.putfield 34, 3) := by decide +kernel
theorem dX4_init_68 : decode cX4_init 68 = .ok (.return_, 1) := by decide +kernel
theorem dX4_add_0 : decode cX4_add 0 = .ok (.aload_n 0, 1) := by decide +kernel
theorem dX4_add_1 : decode cX4_add 1 = .ok (.getfield 9, 3) := by decide +kernel
theorem dX4_add_4 : decode cX4_add 4 = .ok (.aload_n 0, 1) := by decide +kernel
theorem dX4_add_5 : decode cX4_add 5 = .ok (.getfield 37, 3) := by decide +kernel
theorem dX4_add_8 : decode cX4_add 8 = .ok (.iload_n 1, 1) := by decide +kernel
theorem dX4_add_9 : decode cX4_add 9 = .ok (.iastore, 1) := by decide +kernel
theorem dX4_add_10 : decode cX4_add 10 = .ok (.aload_n 0, 1) := by decide +kernel
theorem dX4_add_11 : decode cX4_add 11 = .ok (.getfield 15, 3) := by decide +kernel
theorem dX4_add_14 : decode cX4_add 14 = .ok (.aload_n 0, 1) := by decide +kernel
theorem dX4_add_15 : decode cX4_add 15 = .ok (.getfield 37, 3) := by decide +kernel
theorem dX4_add_18 : decode cX4_add 18 = .ok (.iload_n 2, 1) := by decide +kernel
theorem dX4_add_19 : decode cX4_add 19 = .ok (.iastore, 1) := by decide +kernel
theorem dX4_add_20 : decode cX4_add 20 = .ok (.aload_n 0, 1) := by decide +kernel
theorem dX4_add_21 : decode cX4_add 21 = .ok (.getfield 18, 3) := by decide +kernel
theorem dX4_add_24 : decode cX4_add 24 = .ok (.aload_n 0, 1) := by decide +kernel
theorem dX4_add_25 : decode cX4_add 25 = .ok (.getfield 37, 3) := by decide +kernel
theorem dX4_add_28 : decode cX4_add 28 = .ok (.iload_n 3, 1) := by decide +kernel
theorem dX4_add_29 : decode cX4_add 29 = .ok (.iastore, 1) := by decide +kernel
theorem dX4_add_30 : decode cX4_add 30 = .ok (.aload_n 0, 1) := by decide +kernel
theorem dX4_add_31 : decode cX4_add 31 = .ok (.getfield 21, 3) := by decide +kernel
theorem dX4_add_34 : decode cX4_add 34 = .ok (.aload_n 0, 1) := by decide +kernel
theorem dX4_add_35 : decode cX4_add 35 = .ok (.getfield 37, 3) := by decide +kernel
theorem dX4_add_38 : decode cX4_add 38 = .ok (.iload 4, 2) := by decide +kernel
theorem dX4_add_40 : decode cX4_add 40 = .ok (.iastore, 1) := by decide +kernel
theorem dX4_add_41 : decode cX4_add 41 = .ok (.aload_n 0, 1) := by decide +kernel
theorem dX4_add_42 : decode cX4_add 42 = .ok (.dup, 1) := by decide +kernel
theorem dX4_add_43 : decode cX4_add 43 = .ok (.getfield 37, 3) := by decide +kernel
theorem dX4_add_46 : decode cX4_add 46 = .ok (.iconst 1, 1) := by decide +kernel
theorem dX4_add_47 : decode cX4_add 47 = .ok (.iadd, 1) := by decide +kernel
theorem dX4_add_48 : decode cX4_add 48 = .ok (.putfield 37, 3) := by decide +kernel
theorem dX4_add_51 : decode cX4_add 51 = .ok (.aload_n 0, 1) := by decide +kernel
theorem dX4_add_52 : decode cX4_add 52 = .ok (.getfield 37, 3) := by decide +kernel
theorem dX4_add_55 : decode cX4_add 55 = .ok (.iconst 1, 1) := by decide +kernel
theorem dX4_add_56 : decode cX4_add 56 = .ok (.isub, 1) := by decide +kernel
theorem dX4_add_57 : decode cX4_add 57 = .ok (.ireturn, 1) := by decide +kernel
theorem dX4_present_0 : decode cX4_present 0 = .ok (.iconst 0, 1) := by decide +kernel
theorem dX4_present_1 : decode cX4_present 1 = .ok (.istore_n 1, 1) := by decide +kernel
theorem dX4_present_2 : decode cX4_present 2 = .ok (.iconst 0, 1) := by decide +kernel
theorem dX4_present_3 : decode cX4_present 3 = .ok (.istore_n 2, 1) := by decide +kernel
theorem dX4_present_4 : decode cX4_present 4 = .ok (.iload_n 2, 1) := by decide +kernel
theorem dX4_present_5 : decode cX4_present 5 = .ok (.aload_n 0, 1) := by decide +kernel
theorem dX4_present_6 : decode cX4_present 6 = .ok (.getfield 37, 3) := by decide +kernel
theorem dX4_present_9 : decode cX4_present 9 = .ok (.if_icmp .ge 21, 3) := by decide +kernel
theorem dX4_present_12 : decode cX4_present 12 = .ok (.aload_n 0, 1) := by decide +kernel
theorem dX4_present_13 : decode cX4_present 13 = .ok (.getfield 24, 3) := by decide +kernel
theorem dX4_present_16 : decode cX4_present 16 = .ok (.iload_n 2, 1) := by decide +kernel
theorem dX4_present_17 : decode cX4_present 17 = .ok (.baload, 1) := by decide +kernel
theorem dX4_present_18 : decode cX4_present 18 = .ok (.ifCond .ne 6, 3) := by decide +kernel
theorem dX4_present_21 : decode cX4_present 21 = .ok (.iinc 1 1, 3) := by decide +kernel
theorem dX4_present_24 : decode cX4_present 24 = .ok (.iinc 2 1, 3) := by decide +kernel
theorem dX4_present_27 : decode cX4_present 27 = .ok (.goto (-23), 3) := by decide +kernel
theorem dX4_present_30 : decode cX4_present 30 = .ok (.iload_n 1, 1) := by decide +kernel
theorem dX4_present_31 : decode cX4_present 31 = .ok (.ireturn, 1) := by decide +kernel
theorem dX4_isOf_0 : decode cX4_isOf 0 = .ok (.aload_n 0, 1) := by decide +kernel
theorem dX4_isOf_1 : decode cX4_isOf 1 = .ok (.getfield 24, 3) := by decide +kernel
theorem dX4_isOf_4 : decode cX4_isOf 4 = .ok (.iload_n 1, 1) := by decide +kernel
theorem dX4_isOf_5 : decode cX4_isOf 5 = .ok (.baload, 1) := by decide +kernel
theorem dX4_isOf_6 : decode cX4_isOf 6 = .ok (.ifCond .ne 27, 3) := by decide +kernel
theorem dX4_isOf_9 : decode cX4_isOf 9 = .ok (.aload_n 0, 1) := by decide +kernel
theorem dX4_isOf_10 : decode cX4_isOf 10 = .ok (.getfield 9, 3) := by decide +kernel
theorem dX4_isOf_13 : decode cX4_isOf 13 = .ok (.iload_n 1, 1) := by decide +kernel
theorem dX4_isOf_14 : decode cX4_isOf 14 = .ok (.iaload, 1) := by decide +kernel
theorem dX4_isOf_15 : decode cX4_isOf 15 = .ok (.iload_n 2, 1) := by decide +kernel
theorem dX4_isOf_16 : decode cX4_isOf 16 = .ok (.if_icmp .ne 17, 3) := by decide +kernel
theorem dX4_isOf_19 : decode cX4_isOf 19 = .ok (.aload_n 0, 1) := by decide +kernel
theorem dX4_isOf_20 : decode cX4_isOf 20 = .ok (.getfield 21, 3) := by decide +kernel
theorem dX4_isOf_23 : decode cX4_isOf 23 = .ok (.iload_n 1, 1) := by decide +kernel
theorem dX4_isOf_24 : decode cX4_isOf 24 = .ok (.iaload, 1) := by decide +kernel
theorem dX4_isOf_25 : decode cX4_isOf 25 = .ok (.iload_n 3, 1) := by decide +kernel
theorem dX4_isOf_26 : decode cX4_isOf 26 = .ok (.if_icmp .ne 7, 3) := by decide +kernel
theorem dX4_isOf_29 : decode cX4_isOf 29 = .ok (.iconst 1, 1) := by decide +kernel
theorem dX4_isOf_30 : decode cX4_isOf 30 = .ok (.goto 4, 3) := by decide +kernel
theorem dX4_isOf_33 : decode cX4_isOf 33 = .ok (.iconst 0, 1) := by decide +kernel
theorem dX4_isOf_34 : decode cX4_isOf 34 = .ok (.ireturn, 1) := by decide +kernel
theorem dX4_sum_0 : decode cX4_sum 0 = .ok (.iconst 0, 1) := by decide +kernel
theorem dX4_sum_1 : decode cX4_sum 1 = .ok (.istore 4, 2) := by decide +kernel
theorem dX4_sum_3 : decode cX4_sum 3 = .ok (.iconst 0, 1) := by decide +kernel
theorem dX4_sum_4 : decode cX4_sum 4 = .ok (.istore 5, 2) := by decide +kernel
theorem dX4_sum_6 : decode cX4_sum 6 = .ok (.iload 5, 2) := by decide +kernel
theorem dX4_sum_8 : decode cX4_sum 8 = .ok (.aload_n 0, 1) := by decide +kernel
theorem dX4_sum_9 : decode cX4_sum 9 = .ok (.getfield 37, 3) := by decide +kernel
theorem dX4_sum_12 : decode cX4_sum 12 = .ok (.if_icmp .ge 40, 3) := by decide +kernel
theorem dX4_sum_15 : decode cX4_sum 15 = .ok (.aload_n 0, 1) := by decide +kernel
theorem dX4_sum_16 : decode cX4_sum 16 = .ok (.iload 5, 2) := by decide +kernel
theorem dX4_sum_18 : decode cX4_sum 18 = .ok (.iload_n 1, 1) := by decide +kernel
theorem dX4_sum_19 : decode cX4_sum 19 = .ok (.iload_n 2, 1) := by decide +kernel
theorem dX4_sum_20 : decode cX4_sum 20 = .ok (.invokevirtual 41, 3) := by decide +kernel
theorem dX4_sum_23 : decode cX4_sum 23 = .ok (.ifCond .eq 23, 3) := by decide +kernel
theorem dX4_sum_26 : decode cX4_sum 26 = .ok (.iload 4, 2) := by decide +kernel
theorem dX4_sum_28 : decode cX4_sum 28 = .ok (.iload_n 3, 1) := by decide +kernel
theorem dX4_sum_29 : decode cX4_sum 29 = .ok (.ifCond .eq 13, 3) := by decide +kernel
theorem dX4_sum_32 : decode cX4_sum 32 = .ok (.aload_n 0, 1) := by decide +kernel
theorem dX4_sum_33 : decode cX4_sum 33 = .ok (.getfield 18, 3) := by decide +kernel
theorem dX4_sum_36 : decode cX4_sum 36 = .ok (.iload 5, 2) := by decide +kernel
theorem dX4_sum_38 : decode cX4_sum 38 = .ok (.iaload, 1) := by decide +kernel
theorem dX4_sum_39 : decode cX4_sum 39 = .ok (.goto 4, 3) := by decide +kernel
theorem dX4_sum_42 : decode cX4_sum 42 = .ok (.iconst 1, 1) := by decide +kernel
theorem dX4_sum_43 : decode cX4_sum 43 = .ok (.iadd, 1) := by decide +kernel
theorem dX4_sum_44 : decode cX4_sum 44 = .ok (.istore 4, 2) := by decide +kernel
theorem dX4_sum_46 : decode cX4_sum 46 = .ok (.iinc 5 1, 3) := by decide +kernel
theorem dX4_sum_49 : decode cX4_sum 49 = .ok (.goto (-43), 3) := by decide +kernel
theorem dX4_sum_52 : decode cX4_sum 52 = .ok (.iload 4, 2) := by decide +kernel
theorem dX4_sum_54 : decode cX4_sum 54 = .ok (.ireturn, 1) := by decide +kernel
theorem dX4_pairUp_0 : decode cX4_pairUp 0 = .ok (.aload_n 0, 1) := by decide +kernel
theorem dX4_pairUp_1 : decode cX4_pairUp 1 = .ok (.iload_n 1, 1) := by decide +kernel
theorem dX4_pairUp_2 : decode cX4_pairUp 2 = .ok (.iload_n 2, 1) := by decide +kernel
theorem dX4_pairUp_3 : decode cX4_pairUp 3 = .ok (.aload_n 0, 1) := by decide +kernel
theorem dX4_pairUp_4 : decode cX4_pairUp 4 = .ok (.getfield 28, 3) := by decide +kernel
theorem dX4_pairUp_7 : decode cX4_pairUp 7 = .ok (.invokevirtual 45, 3) := by decide +kernel
theorem dX4_pairUp_10 : decode cX4_pairUp 10 = .ok (.istore 5, 2) := by decide +kernel
theorem dX4_pairUp_12 : decode cX4_pairUp 12 = .ok (.aload_n 0, 1) := by decide +kernel
theorem dX4_pairUp_13 : decode cX4_pairUp 13 = .ok (.iload_n 1, 1) := by decide +kernel
theorem dX4_pairUp_14 : decode cX4_pairUp 14 = .ok (.iload_n 3, 1) := by decide +kernel
theorem dX4_pairUp_15 : decode cX4_pairUp 15 = .ok (.aload_n 0, 1) := by decide +kernel
theorem dX4_pairUp_16 : decode cX4_pairUp 16 = .ok (.getfield 31, 3) := by decide +kernel
theorem dX4_pairUp_19 : decode cX4_pairUp 19 = .ok (.invokevirtual 45, 3) := by decide +kernel
theorem dX4_pairUp_22 : decode cX4_pairUp 22 = .ok (.istore 6, 2) := by decide +kernel
theorem dX4_pairUp_24 : decode cX4_pairUp 24 = .ok (.iconst 0, 1) := by decide +kernel
theorem dX4_pairUp_25 : decode cX4_pairUp 25 = .ok (.istore 7, 2) := by decide +kernel
theorem dX4_pairUp_27 : decode cX4_pairUp 27 = .ok (.iload 7, 2) := by decide +kernel
theorem dX4_pairUp_29 : decode cX4_pairUp 29 = .ok (.iload 6, 2) := by decide +kernel
theorem dX4_pairUp_31 : decode cX4_pairUp 31 = .ok (.if_icmp .gt 17, 3) := by decide +kernel
theorem dX4_pairUp_34 : decode cX4_pairUp 34 = .ok (.aload_n 0, 1) := by decide +kernel
theorem dX4_pairUp_35 : decode cX4_pairUp 35 = .ok (.getfield 34, 3) := by decide +kernel
theorem dX4_pairUp_38 : decode cX4_pairUp 38 = .ok (.iload 7, 2) := by decide +kernel
theorem dX4_pairUp_40 : decode cX4_pairUp 40 = .ok (.iconst 0, 1) := by decide +kernel
theorem dX4_pairUp_41 : decode cX4_pairUp 41 = .ok (.iastore, 1) := by decide +kernel
theorem dX4_pairUp_42 : decode cX4_pairUp 42 = .ok (.iinc 7 1, 3) := by decide +kernel
theorem dX4_pairUp_45 : decode cX4_pairUp 45 = .ok (.goto (-18), 3) := by decide +kernel
theorem dX4_pairUp_48 : decode cX4_pairUp 48 = .ok (.iconst 0, 1) := by decide +kernel
theorem dX4_pairUp_49 : decode cX4_pairUp 49 = .ok (.istore 7, 2) := by decide +kernel
theorem dX4_pairUp_51 : decode cX4_pairUp 51 = .ok (.iload 7, 2) := by decide +kernel
theorem dX4_pairUp_53 : decode cX4_pairUp 53 = .ok (.iload 5, 2) := by decide +kernel
theorem dX4_pairUp_55 : decode cX4_pairUp 55 = .ok (.if_icmp .ge 24, 3) := by decide +kernel
theorem dX4_pairUp_58 : decode cX4_pairUp 58 = .ok (.aload_n 0, 1) := by decide +kernel
theorem dX4_pairUp_59 : decode cX4_pairUp 59 = .ok (.aload_n 0, 1) := by decide +kernel
theorem dX4_pairUp_60 : decode cX4_pairUp 60 = .ok (.getfield 28, 3) := by decide +kernel
theorem dX4_pairUp_63 : decode cX4_pairUp 63 = .ok (.iload 7, 2) := by decide +kernel
theorem dX4_pairUp_65 : decode cX4_pairUp 65 = .ok (.iaload, 1) := by decide +kernel
theorem dX4_pairUp_66 : decode cX4_pairUp 66 = .ok (.iload 6, 2) := by decide +kernel
theorem dX4_pairUp_68 : decode cX4_pairUp 68 = .ok (.iload 4, 2) := by decide +kernel
theorem dX4_pairUp_70 : decode cX4_pairUp 70 = .ok (.invokevirtual 49, 3) := by decide +kernel
theorem dX4_pairUp_73 : decode cX4_pairUp 73 = .ok (.iinc 7 1, 3) := by decide +kernel
theorem dX4_pairUp_76 : decode cX4_pairUp 76 = .ok (.goto (-25), 3) := by decide +kernel
theorem dX4_pairUp_79 : decode cX4_pairUp 79 = .ok (.aload_n 0, 1) := by decide +kernel
theorem dX4_pairUp_80 : decode cX4_pairUp 80 = .ok (.aload_n 0, 1) := by decide +kernel
theorem dX4_pairUp_81 : decode cX4_pairUp 81 = .ok (.getfield 34, 3) := by decide +kernel
theorem dX4_pairUp_84 : decode cX4_pairUp 84 = .ok (.iload 6, 2) := by decide +kernel
theorem dX4_pairUp_86 : decode cX4_pairUp 86 = .ok (.iaload, 1) := by decide +kernel
theorem dX4_pairUp_87 : decode cX4_pairUp 87 = .ok (.ldc 53, 2) := by decide +kernel
theorem dX4_pairUp_89 : decode cX4_pairUp 89 = .ok (.iadd, 1) := by decide +kernel
theorem dX4_pairUp_90 : decode cX4_pairUp 90 = .ok (.iconst 1, 1) := by decide +kernel
theorem dX4_pairUp_91 : decode cX4_pairUp 91 = .ok (.isub, 1) := by decide +kernel
theorem dX4_pairUp_92 : decode cX4_pairUp 92 = .ok (.ldc 53, 2) := by decide +kernel
theorem dX4_pairUp_94 : decode cX4_pairUp 94 = .ok (.idiv, 1) := by decide +kernel
theorem dX4_pairUp_95 : decode cX4_pairUp 95 = .ok (.putfield 54, 3) := by decide +kernel
theorem dX4_pairUp_98 : decode cX4_pairUp 98 = .ok (.aload_n 0, 1) := by decide +kernel
theorem dX4_pairUp_99 : decode cX4_pairUp 99 = .ok (.aload_n 0, 1) := by decide +kernel
theorem dX4_pairUp_100 : decode cX4_pairUp 100 = .ok (.getfield 54, 3) := by decide +kernel
theorem dX4_pairUp_103 : decode cX4_pairUp 103 = .ok (.ldc 53, 2) := by decide +kernel
theorem dX4_pairUp_105 : decode cX4_pairUp 105 = .ok (.imul, 1) := by decide +kernel
theorem dX4_pairUp_106 : decode cX4_pairUp 106 = .ok (.aload_n 0, 1) := by decide +kernel
theorem dX4_pairUp_107 : decode cX4_pairUp 107 = .ok (.getfield 34, 3) := by decide +kernel
theorem dX4_pairUp_110 : decode cX4_pairUp 110 = .ok (.iload 6, 2) := by decide +kernel
theorem dX4_pairUp_112 : decode cX4_pairUp 112 = .ok (.iaload, 1) := by decide +kernel
theorem dX4_pairUp_113 : decode cX4_pairUp 113 = .ok (.isub, 1) := by decide +kernel
theorem dX4_pairUp_114 : decode cX4_pairUp 114 = .ok (.putfield 57, 3) := by decide +kernel
theorem dX4_pairUp_117 : decode cX4_pairUp 117 = .ok (.return_, 1) := by decide +kernel
theorem dX4_sortPlaces_0 : decode cX4_sortPlaces 0 = .ok (.iconst 0, 1) := by decide +kernel
theorem dX4_sortPlaces_1 : decode cX4_sortPlaces 1 = .ok (.istore 4, 2) := by decide +kernel
theorem dX4_sortPlaces_3 : decode cX4_sortPlaces 3 = .ok (.iconst 0, 1) := by decide +kernel
theorem dX4_sortPlaces_4 : decode cX4_sortPlaces 4 = .ok (.istore 5, 2) := by decide +kernel
theorem dX4_sortPlaces_6 : decode cX4_sortPlaces 6 = .ok (.iload 5, 2) := by decide +kernel
theorem dX4_sortPlaces_8 : decode cX4_sortPlaces 8 = .ok (.aload_n 0, 1) := by decide +kernel
theorem dX4_sortPlaces_9 : decode cX4_sortPlaces 9 = .ok (.getfield 37, 3) := by decide +kernel
theorem dX4_sortPlaces_12 : decode cX4_sortPlaces 12 = .ok (.if_icmp .ge 75, 3) := by decide +kernel
theorem dX4_sortPlaces_15 : decode cX4_sortPlaces 15 = .ok (.aload_n 0, 1) := by decide +kernel
theorem dX4_sortPlaces_16 : decode cX4_sortPlaces 16 = .ok (.iload 5, 2) := by decide +kernel
theorem dX4_sortPlaces_18 : decode cX4_sortPlaces 18 = .ok (.iload_n 1, 1) := by decide +kernel
theorem dX4_sortPlaces_19 : decode cX4_sortPlaces 19 = .ok (.iload_n 2, 1) := by decide +kernel
theorem dX4_sortPlaces_20 : decode cX4_sortPlaces 20 = .ok (.invokevirtual 41, 3) := by decide +kernel
theorem dX4_sortPlaces_23 : decode cX4_sortPlaces 23 = .ok (.ifCond .eq 58, 3) := by decide +kernel
theorem dX4_sortPlaces_26 : decode cX4_sortPlaces 26 = .ok (.iload 4, 2) := by decide +kernel
theorem dX4_sortPlaces_28 : decode cX4_sortPlaces 28 = .ok (.istore 6, 2) := by decide +kernel
theorem dX4_sortPlaces_30 : decode cX4_sortPlaces 30 = .ok (.iload 6, 2) := by decide +kernel
theorem dX4_sortPlaces_32 : decode cX4_sortPlaces 32 = .ok (.ifCond .le 35, 3) := by decide +kernel
theorem dX4_sortPlaces_35 : decode cX4_sortPlaces 35 = .ok (.aload_n 3, 1) := by decide +kernel
theorem dX4_sortPlaces_36 : decode cX4_sortPlaces 36 = .ok (.iload 6, 2) := by decide +kernel
theorem dX4_sortPlaces_38 : decode cX4_sortPlaces 38 = .ok (.iconst 1, 1) := by decide +kernel
theorem dX4_sortPlaces_39 : decode cX4_sortPlaces 39 = .ok (.isub, 1) := by decide +kernel
theorem dX4_sortPlaces_40 : decode cX4_sortPlaces 40 = .ok (.iaload, 1) := by decide +kernel
theorem dX4_sortPlaces_41 : decode cX4_sortPlaces 41 = .ok (.aload_n 0, 1) := by decide +kernel
theorem dX4_sortPlaces_42 : decode cX4_sortPlaces 42 = .ok (.getfield 15, 3) := by decide +kernel
theorem dX4_sortPlaces_45 : decode cX4_sortPlaces 45 = .ok (.iload 5, 2) := by decide +kernel
theorem dX4_sortPlaces_47 : decode cX4_sortPlaces 47 = .ok (.iaload, 1) := by decide +kernel
theorem dX4_sortPlaces_48 : decode cX4_sortPlaces 48 = .ok (.if_icmp .le 19, 3) := by decide +kernel
theorem dX4_sortPlaces_51 : decode cX4_sortPlaces 51 = .ok (.aload_n 3, 1) := by decide +kernel
theorem dX4_sortPlaces_52 : decode cX4_sortPlaces 52 = .ok (.iload 6, 2) := by decide +kernel
theorem dX4_sortPlaces_54 : decode cX4_sortPlaces 54 = .ok (.aload_n 3, 1) := by decide +kernel
theorem dX4_sortPlaces_55 : decode cX4_sortPlaces 55 = .ok (.iload 6, 2) := by decide +kernel
theorem dX4_sortPlaces_57 : decode cX4_sortPlaces 57 = .ok (.iconst 1, 1) := by decide +kernel
theorem dX4_sortPlaces_58 : decode cX4_sortPlaces 58 = .ok (.isub, 1) := by decide +kernel
theorem dX4_sortPlaces_59 : decode cX4_sortPlaces 59 = .ok (.iaload, 1) := by decide +kernel
theorem dX4_sortPlaces_60 : decode cX4_sortPlaces 60 = .ok (.iastore, 1) := by decide +kernel
theorem dX4_sortPlaces_61 : decode cX4_sortPlaces 61 = .ok (.iinc 6 (-1), 3) := by decide +kernel
theorem dX4_sortPlaces_64 : decode cX4_sortPlaces 64 = .ok (.goto (-34), 3) := by decide +kernel
theorem dX4_sortPlaces_67 : decode cX4_sortPlaces 67 = .ok (.aload_n 3, 1) := by decide +kernel
theorem dX4_sortPlaces_68 : decode cX4_sortPlaces 68 = .ok (.iload 6, 2) := by decide +kernel
theorem dX4_sortPlaces_70 : decode cX4_sortPlaces 70 = .ok (.aload_n 0, 1) := by decide +kernel
theorem dX4_sortPlaces_71 : decode cX4_sortPlaces 71 = .ok (.getfield 15, 3) := by decide +kernel
theorem dX4_sortPlaces_74 : decode cX4_sortPlaces 74 = .ok (.iload 5, 2) := by decide +kernel
theorem dX4_sortPlaces_76 : decode cX4_sortPlaces 76 = .ok (.iaload, 1) := by decide +kernel
theorem dX4_sortPlaces_77 : decode cX4_sortPlaces 77 = .ok (.iastore, 1) := by decide +kernel
theorem dX4_sortPlaces_78 : decode cX4_sortPlaces 78 = .ok (.iinc 4 1, 3) := by decide +kernel
theorem dX4_sortPlaces_81 : decode cX4_sortPlaces 81 = .ok (.iinc 5 1, 3) := by decide +kernel
theorem dX4_sortPlaces_84 : decode cX4_sortPlaces 84 = .ok (.goto (-78), 3) := by decide +kernel
theorem dX4_sortPlaces_87 : decode cX4_sortPlaces 87 = .ok (.iload 4, 2) := by decide +kernel
theorem dX4_sortPlaces_89 : decode cX4_sortPlaces 89 = .ok (.ireturn, 1) := by decide +kernel
theorem dX4_addPlace_0 : decode cX4_addPlace 0 = .ok (.aload_n 0, 1) := by decide +kernel
theorem dX4_addPlace_1 : decode cX4_addPlace 1 = .ok (.getfield 34, 3) := by decide +kernel
theorem dX4_addPlace_4 : decode cX4_addPlace 4 = .ok (.iconst 0, 1) := by decide +kernel
theorem dX4_addPlace_5 : decode cX4_addPlace 5 = .ok (.iaload, 1) := by decide +kernel
theorem dX4_addPlace_6 : decode cX4_addPlace 6 = .ok (.istore 4, 2) := by decide +kernel
theorem dX4_addPlace_8 : decode cX4_addPlace 8 = .ok (.iconst 1, 1) := by decide +kernel
theorem dX4_addPlace_9 : decode cX4_addPlace 9 = .ok (.istore 5, 2) := by decide +kernel
theorem dX4_addPlace_11 : decode cX4_addPlace 11 = .ok (.iload 5, 2) := by decide +kernel
theorem dX4_addPlace_13 : decode cX4_addPlace 13 = .ok (.iload_n 2, 1) := by decide +kernel
theorem dX4_addPlace_14 : decode cX4_addPlace 14 = .ok (.if_icmp .gt 90, 3) := by decide +kernel
theorem dX4_addPlace_17 : decode cX4_addPlace 17 = .ok (.aload_n 0, 1) := by decide +kernel
theorem dX4_addPlace_18 : decode cX4_addPlace 18 = .ok (.getfield 34, 3) := by decide +kernel
theorem dX4_addPlace_21 : decode cX4_addPlace 21 = .ok (.iload 5, 2) := by decide +kernel
theorem dX4_addPlace_23 : decode cX4_addPlace 23 = .ok (.iaload, 1) := by decide +kernel
theorem dX4_addPlace_24 : decode cX4_addPlace 24 = .ok (.istore 6, 2) := by decide +kernel
theorem dX4_addPlace_26 : decode cX4_addPlace 26 = .ok (.iload_n 1, 1) := by decide +kernel
theorem dX4_addPlace_27 : decode cX4_addPlace 27 = .ok (.aload_n 0, 1) := by decide +kernel
theorem dX4_addPlace_28 : decode cX4_addPlace 28 = .ok (.getfield 31, 3) := by decide +kernel
theorem dX4_addPlace_31 : decode cX4_addPlace 31 = .ok (.iload 5, 2) := by decide +kernel
theorem dX4_addPlace_33 : decode cX4_addPlace 33 = .ok (.iconst 1, 1) := by decide +kernel
theorem dX4_addPlace_34 : decode cX4_addPlace 34 = .ok (.isub, 1) := by decide +kernel
theorem dX4_addPlace_35 : decode cX4_addPlace 35 = .ok (.iaload, 1) := by decide +kernel
theorem dX4_addPlace_36 : decode cX4_addPlace 36 = .ok (.isub, 1) := by decide +kernel
theorem dX4_addPlace_37 : decode cX4_addPlace 37 = .ok (.invokestatic 60, 3) := by decide +kernel
theorem dX4_addPlace_40 : decode cX4_addPlace 40 = .ok (.istore 7, 2) := by decide +kernel
theorem dX4_addPlace_42 : decode cX4_addPlace 42 = .ok (.aload_n 0, 1) := by decide +kernel
theorem dX4_addPlace_43 : decode cX4_addPlace 43 = .ok (.getfield 34, 3) := by decide +kernel
theorem dX4_addPlace_46 : decode cX4_addPlace 46 = .ok (.iload 5, 2) := by decide +kernel
theorem dX4_addPlace_48 : decode cX4_addPlace 48 = .ok (.iload 6, 2) := by decide +kernel
theorem dX4_addPlace_50 : decode cX4_addPlace 50 = .ok (.aload_n 0, 1) := by decide +kernel
theorem dX4_addPlace_51 : decode cX4_addPlace 51 = .ok (.getfield 34, 3) := by decide +kernel
theorem dX4_addPlace_54 : decode cX4_addPlace 54 = .ok (.iload 5, 2) := by decide +kernel
theorem dX4_addPlace_56 : decode cX4_addPlace 56 = .ok (.iconst 1, 1) := by decide +kernel
theorem dX4_addPlace_57 : decode cX4_addPlace 57 = .ok (.isub, 1) := by decide +kernel
theorem dX4_addPlace_58 : decode cX4_addPlace 58 = .ok (.iaload, 1) := by decide +kernel
theorem dX4_addPlace_59 : decode cX4_addPlace 59 = .ok (.invokestatic 66, 3) := by decide +kernel
theorem dX4_addPlace_62 : decode cX4_addPlace 62 = .ok (.iastore, 1) := by decide +kernel
theorem dX4_addPlace_63 : decode cX4_addPlace 63 = .ok (.iload 7, 2) := by decide +kernel
theorem dX4_addPlace_65 : decode cX4_addPlace 65 = .ok (.iload_n 3, 1) := by decide +kernel
theorem dX4_addPlace_66 : decode cX4_addPlace 66 = .ok (.if_icmp .gt 28, 3) := by decide +kernel
theorem dX4_addPlace_69 : decode cX4_addPlace 69 = .ok (.aload_n 0, 1) := by decide +kernel
theorem dX4_addPlace_70 : decode cX4_addPlace 70 = .ok (.getfield 34, 3) := by decide +kernel
theorem dX4_addPlace_73 : decode cX4_addPlace 73 = .ok (.iload 5, 2) := by decide +kernel
theorem dX4_addPlace_75 : decode cX4_addPlace 75 = .ok (.aload_n 0, 1) := by decide +kernel
theorem dX4_addPlace_76 : decode cX4_addPlace 76 = .ok (.getfield 34, 3) := by decide +kernel
theorem dX4_addPlace_79 : decode cX4_addPlace 79 = .ok (.iload 5, 2) := by decide +kernel
theorem dX4_addPlace_81 : decode cX4_addPlace 81 = .ok (.iaload, 1) := by decide +kernel
theorem dX4_addPlace_82 : decode cX4_addPlace 82 = .ok (.iload 4, 2) := by decide +kernel
theorem dX4_addPlace_84 : decode cX4_addPlace 84 = .ok (.ldc 53, 2) := by decide +kernel
theorem dX4_addPlace_86 : decode cX4_addPlace 86 = .ok (.iadd, 1) := by decide +kernel
theorem dX4_addPlace_87 : decode cX4_addPlace 87 = .ok (.iload 7, 2) := by decide +kernel
theorem dX4_addPlace_89 : decode cX4_addPlace 89 = .ok (.isub, 1) := by decide +kernel
theorem dX4_addPlace_90 : decode cX4_addPlace 90 = .ok (.invokestatic 66, 3) := by decide +kernel
theorem dX4_addPlace_93 : decode cX4_addPlace 93 = .ok (.iastore, 1) := by decide +kernel
theorem dX4_addPlace_94 : decode cX4_addPlace 94 = .ok (.iload 6, 2) := by decide +kernel
theorem dX4_addPlace_96 : decode cX4_addPlace 96 = .ok (.istore 4, 2) := by decide +kernel
theorem dX4_addPlace_98 : decode cX4_addPlace 98 = .ok (.iinc 5 1, 3) := by decide +kernel
theorem dX4_addPlace_101 : decode cX4_addPlace 101 = .ok (.goto (-90), 3) := by decide +kernel
theorem dX4_addPlace_104 : decode cX4_addPlace 104 = .ok (.return_, 1) := by decide +kernel
theorem dX5_init_0 : decode cX5_init 0 = .ok (.aload_n 0, 1) := by decide +kernel
theorem dX5_init_1 : decode cX5_init 1 = .ok (.invokespecial 1, 3) := by decide +kernel
theorem dX5_init_4 : decode cX5_init 4 = .ok (.aload_n 0, 1) := by decide +kernel
theorem dX5_init_5 : decode cX5_init 5 = .ok (.iload_n 1, 1) := by decide +kernel
theorem dX5_init_6 : decode cX5_init 6 = .ok (.newarray .int, 2) := by decide +kernel
theorem dX5_init_8 : decode cX5_init 8 = .ok (.putfield 7, 3) := by decide +kernel
theorem dX5_init_11 : decode cX5_init 11 = .ok (.aload_n 0, 1) := by decide +kernel
theorem dX5_init_12 : decode cX5_init 12 = .ok (.iload_n 1, 1) := by decide +kernel
theorem dX5_init_13 : decode cX5_init 13 = .ok (.newarray .int, 2) := by decide +kernel
theorem dX5_init_15 : decode cX5_init 15 = .ok (.putfield 13, 3) := by decide +kernel
theorem dX5_init_18 : decode cX5_init 18 = .ok (.return_, 1) := by decide +kernel
theorem dX5_add_0 : decode cX5_add 0 = .ok (.aload_n 0, 1) := by decide +kernel
theorem dX5_add_1 : decode cX5_add 1 = .ok (.getfield 7, 3) := by decide +kernel
theorem dX5_add_4 : decode cX5_add 4 = .ok (.aload_n 0, 1) := by decide +kernel
theorem dX5_add_5 : decode cX5_add 5 = .ok (.getfield 16, 3) := by decide +kernel
theorem dX5_add_8 : decode cX5_add 8 = .ok (.iload_n 1, 1) := by decide +kernel
theorem dX5_add_9 : decode cX5_add 9 = .ok (.iastore, 1) := by decide +kernel
theorem dX5_add_10 : decode cX5_add 10 = .ok (.aload_n 0, 1) := by decide +kernel
theorem dX5_add_11 : decode cX5_add 11 = .ok (.getfield 13, 3) := by decide +kernel
theorem dX5_add_14 : decode cX5_add 14 = .ok (.aload_n 0, 1) := by decide +kernel
theorem dX5_add_15 : decode cX5_add 15 = .ok (.getfield 16, 3) := by decide +kernel
theorem dX5_add_18 : decode cX5_add 18 = .ok (.iload_n 2, 1) := by decide +kernel
theorem dX5_add_19 : decode cX5_add 19 = .ok (.iastore, 1) := by decide +kernel
theorem dX5_add_20 : decode cX5_add 20 = .ok (.aload_n 0, 1) := by decide +kernel
theorem dX5_add_21 : decode cX5_add 21 = .ok (.dup, 1) := by decide +kernel
theorem dX5_add_22 : decode cX5_add 22 = .ok (.getfield 16, 3) := by decide +kernel
theorem dX5_add_25 : decode cX5_add 25 = .ok (.iconst 1, 1) := by decide +kernel
theorem dX5_add_26 : decode cX5_add 26 = .ok (.iadd, 1) := by decide +kernel
theorem dX5_add_27 : decode cX5_add 27 = .ok (.putfield 16, 3) := by decide +kernel
theorem dX5_add_30 : decode cX5_add 30 = .ok (.aload_n 0, 1) := by decide +kernel
theorem dX5_add_31 : decode cX5_add 31 = .ok (.getfield 16, 3) := by decide +kernel
theorem dX5_add_34 : decode cX5_add 34 = .ok (.iconst 1, 1) := by decide +kernel
theorem dX5_add_35 : decode cX5_add 35 = .ok (.isub, 1) := by decide +kernel
theorem dX5_add_36 : decode cX5_add 36 = .ok (.ireturn, 1) := by decide +kernel
theorem dX6_init_0 : decode cX6_init 0 = .ok (.aload_n 0, 1) := by decide +kernel
theorem dX6_init_1 : decode cX6_init 1 = .ok (.invokespecial 5, 3) := by decide +kernel
theorem dX6_init_4 : decode cX6_init 4 = .ok (.aload_n 0, 1) := by decide +kernel
theorem dX6_init_5 : decode cX6_init 5 = .ok (.bipush 121, 2) := by decide +kernel
theorem dX6_init_7 : decode cX6_init 7 = .ok (.newarray .int, 2) := by decide +kernel
theorem dX6_init_9 : decode cX6_init 9 = .ok (.putfield 11, 3) := by decide +kernel
theorem dX6_init_12 : decode cX6_init 12 = .ok (.aload_n 0, 1) := by decide +kernel
theorem dX6_init_13 : decode cX6_init 13 = .ok (.sipush 10240, 3) := by decide +kernel
theorem dX6_init_16 : decode cX6_init 16 = .ok (.newarray .int, 2) := by decide +kernel
theorem dX6_init_18 : decode cX6_init 18 = .ok (.putfield 15, 3) := by decide +kernel
theorem dX6_init_21 : decode cX6_init 21 = .ok (.aload_n 0, 1) := by decide +kernel
theorem dX6_init_22 : decode cX6_init 22 = .ok (.sipush 1024, 3) := by decide +kernel
theorem dX6_init_25 : decode cX6_init 25 = .ok (.newarray .int, 2) := by decide +kernel
theorem dX6_init_27 : decode cX6_init 27 = .ok (.putfield 18, 3) := by decide +kernel
theorem dX6_init_30 : decode cX6_init 30 = .ok (.aload_n 0, 1) := by decide +kernel
theorem dX6_init_31 : decode cX6_init 31 = .ok (.sipush 1024, 3) := by decide +kernel
theorem dX6_init_34 : decode cX6_init 34 = .ok (.newarray .int, 2) := by decide +kernel
theorem dX6_init_36 : decode cX6_init 36 = .ok (.putfield 21, 3) := by decide +kernel
theorem dX6_init_39 : decode cX6_init 39 = .ok (.aload_n 0, 1) := by decide +kernel
theorem dX6_init_40 : decode cX6_init 40 = .ok (.aload_n 1, 1) := by decide +kernel
theorem dX6_init_41 : decode cX6_init 41 = .ok (.putfield 24, 3) := by decide +kernel
theorem dX6_init_44 : decode cX6_init 44 = .ok (.aload_n 0, 1) := by decide +kernel
theorem dX6_init_45 : decode cX6_init 45 = .ok (.aload_n 2, 1) := by decide +kernel
theorem dX6_init_46 : decode cX6_init 46 = .ok (.putfield 28, 3) := by decide +kernel
theorem dX6_init_49 : decode cX6_init 49 = .ok (.aload_n 0, 1) := by decide +kernel
theorem dX6_init_50 : decode cX6_init 50 = .ok (.aload_n 3, 1) := by decide +kernel
theorem dX6_init_51 : decode cX6_init 51 = .ok (.putfield 32, 3) := by decide +kernel
theorem dX6_init_54 : decode cX6_init 54 = .ok (.return_, 1) := by decide +kernel
theorem dX6_forget_0 : decode cX6_forget 0 = .ok (.aload_n 0, 1) := by decide +kernel
theorem dX6_forget_1 : decode cX6_forget 1 = .ok (.iconst 0, 1) := by decide +kernel
theorem dX6_forget_2 : decode cX6_forget 2 = .ok (.putfield 36, 3) := by decide +kernel
theorem dX6_forget_5 : decode cX6_forget 5 = .ok (.aload_n 0, 1) := by decide +kernel
theorem dX6_forget_6 : decode cX6_forget 6 = .ok (.iconst 0, 1) := by decide +kernel
theorem dX6_forget_7 : decode cX6_forget 7 = .ok (.putfield 40, 3) := by decide +kernel
theorem dX6_forget_10 : decode cX6_forget 10 = .ok (.return_, 1) := by decide +kernel
theorem dX6_learn_0 : decode cX6_learn 0 = .ok (.iload_n 1, 1) := by decide +kernel
theorem dX6_learn_1 : decode cX6_learn 1 = .ok (.aload_n 0, 1) := by decide +kernel
theorem dX6_learn_2 : decode cX6_learn 2 = .ok (.getfield 36, 3) := by decide +kernel
theorem dX6_learn_5 : decode cX6_learn 5 = .ok (.iconst (-1), 1) := by decide +kernel
theorem dX6_learn_6 : decode cX6_learn 6 = .ok (.ixor, 1) := by decide +kernel
theorem dX6_learn_7 : decode cX6_learn 7 = .ok (.iand, 1) := by decide +kernel
theorem dX6_learn_8 : decode cX6_learn 8 = .ok (.ifCond .ne 4, 3) := by decide +kernel
theorem dX6_learn_11 : decode cX6_learn 11 = .ok (.return_, 1) := by decide +kernel
theorem dX6_learn_12 : decode cX6_learn 12 = .ok (.aload_n 0, 1) := by decide +kernel
theorem dX6_learn_13 : decode cX6_learn 13 = .ok (.iload_n 1, 1) := by decide +kernel
theorem dX6_learn_14 : decode cX6_learn 14 = .ok (.sipush 1024, 3) := by decide +kernel
theorem dX6_learn_17 : decode cX6_learn 17 = .ok (.ior, 1) := by decide +kernel
theorem dX6_learn_18 : decode cX6_learn 18 = .ok (.invokevirtual 43, 3) := by decide +kernel
theorem dX6_learn_21 : decode cX6_learn 21 = .ok (.iconst 1, 1) := by decide +kernel
theorem dX6_learn_22 : decode cX6_learn 22 = .ok (.istore_n 2, 1) := by decide +kernel
theorem dX6_learn_23 : decode cX6_learn 23 = .ok (.iload_n 2, 1) := by decide +kernel
theorem dX6_learn_24 : decode cX6_learn 24 = .ok (.iload_n 1, 1) := by decide +kernel
theorem dX6_learn_25 : decode cX6_learn 25 = .ok (.if_icmp .gt 35, 3) := by decide +kernel
theorem dX6_learn_28 : decode cX6_learn 28 = .ok (.iload_n 2, 1) := by decide +kernel
theorem dX6_learn_29 : decode cX6_learn 29 = .ok (.iload_n 1, 1) := by decide +kernel
theorem dX6_learn_30 : decode cX6_learn 30 = .ok (.iconst (-1), 1) := by decide +kernel
theorem dX6_learn_31 : decode cX6_learn 31 = .ok (.ixor, 1) := by decide +kernel
theorem dX6_learn_32 : decode cX6_learn 32 = .ok (.iand, 1) := by decide +kernel
theorem dX6_learn_33 : decode cX6_learn 33 = .ok (.ifCond .ne 21, 3) := by decide +kernel
theorem dX6_learn_36 : decode cX6_learn 36 = .ok (.aload_n 0, 1) := by decide +kernel
theorem dX6_learn_37 : decode cX6_learn 37 = .ok (.iload_n 2, 1) := by decide +kernel
theorem dX6_learn_38 : decode cX6_learn 38 = .ok (.invokevirtual 47, 3) := by decide +kernel
theorem dX6_learn_41 : decode cX6_learn 41 = .ok (.aload_n 0, 1) := by decide +kernel
theorem dX6_learn_42 : decode cX6_learn 42 = .ok (.getfield 18, 3) := by decide +kernel
theorem dX6_learn_45 : decode cX6_learn 45 = .ok (.iload_n 2, 1) := by decide +kernel
theorem dX6_learn_46 : decode cX6_learn 46 = .ok (.aload_n 0, 1) := by decide +kernel
theorem dX6_learn_47 : decode cX6_learn 47 = .ok (.bipush 10, 2) := by decide +kernel
theorem dX6_learn_49 : decode cX6_learn 49 = .ok (.iload_n 2, 1) := by decide +kernel
theorem dX6_learn_50 : decode cX6_learn 50 = .ok (.invokevirtual 50, 3) := by decide +kernel
theorem dX6_learn_53 : decode cX6_learn 53 = .ok (.iastore, 1) := by decide +kernel
theorem dX6_learn_54 : decode cX6_learn 54 = .ok (.iinc 2 1, 3) := by decide +kernel
theorem dX6_learn_57 : decode cX6_learn 57 = .ok (.goto (-34), 3) := by decide +kernel
theorem dX6_learn_60 : decode cX6_learn 60 = .ok (.aload_n 0, 1) := by decide +kernel
theorem dX6_learn_61 : decode cX6_learn 61 = .ok (.iload_n 1, 1) := by decide +kernel
theorem dX6_learn_62 : decode cX6_learn 62 = .ok (.putfield 36, 3) := by decide +kernel
theorem dX6_learn_65 : decode cX6_learn 65 = .ok (.return_, 1) := by decide +kernel
theorem dX6_measureLegs_0 : decode cX6_measureLegs 0 = .ok (.iconst 0, 1) := by decide +kernel
theorem dX6_measureLegs_1 : decode cX6_measureLegs 1 = .ok (.istore_n 2, 1) := by decide +kernel
theorem dX6_measureLegs_2 : decode cX6_measureLegs 2 = .ok (.iload_n 2, 1) := by decide +kernel
theorem dX6_measureLegs_3 : decode cX6_measureLegs 3 = .ok (.bipush 11, 2) := by decide +kernel
theorem dX6_measureLegs_5 : decode cX6_measureLegs 5 = .ok (.if_icmp .ge 125, 3) := by decide +kernel
theorem dX6_measureLegs_8 : decode cX6_measureLegs 8 = .ok (.iconst 0, 1) := by decide +kernel
theorem dX6_measureLegs_9 : decode cX6_measureLegs 9 = .ok (.istore_n 3, 1) := by decide +kernel
theorem dX6_measureLegs_10 : decode cX6_measureLegs 10 = .ok (.iload_n 3, 1) := by decide +kernel
theorem dX6_measureLegs_11 : decode cX6_measureLegs 11 = .ok (.bipush 11, 2) := by decide +kernel
theorem dX6_measureLegs_13 : decode cX6_measureLegs 13 = .ok (.if_icmp .ge 111, 3) := by decide +kernel
theorem dX6_measureLegs_16 : decode cX6_measureLegs 16 = .ok (.iload_n 2, 1) := by decide +kernel
theorem dX6_measureLegs_17 : decode cX6_measureLegs 17 = .ok (.iload_n 3, 1) := by decide +kernel
theorem dX6_measureLegs_18 : decode cX6_measureLegs 18 = .ok (.if_icmp .eq 100, 3) := by decide +kernel
theorem dX6_measureLegs_21 : decode cX6_measureLegs 21 = .ok (.iload_n 1, 1) := by decide +kernel
theorem dX6_measureLegs_22 : decode cX6_measureLegs 22 = .ok (.iload_n 2, 1) := by decide +kernel
theorem dX6_measureLegs_23 : decode cX6_measureLegs 23 = .ok (.invokestatic 54, 3) := by decide +kernel
theorem dX6_measureLegs_26 : decode cX6_measureLegs 26 = .ok (.ifCond .eq 92, 3) := by decide +kernel
theorem dX6_measureLegs_29 : decode cX6_measureLegs 29 = .ok (.iload_n 1, 1) := by decide +kernel
theorem dX6_measureLegs_30 : decode cX6_measureLegs 30 = .ok (.iload_n 3, 1) := by decide +kernel
theorem dX6_measureLegs_31 : decode cX6_measureLegs 31 = .ok (.invokestatic 54, 3) := by decide +kernel
theorem dX6_measureLegs_34 : decode cX6_measureLegs 34 = .ok (.ifCond .eq 84, 3) := by decide +kernel
theorem dX6_measureLegs_37 : decode cX6_measureLegs 37 = .ok (.aload_n 0, 1) := by decide +kernel
theorem dX6_measureLegs_38 : decode cX6_measureLegs 38 = .ok (.iload_n 2, 1) := by decide +kernel
theorem dX6_measureLegs_39 : decode cX6_measureLegs 39 = .ok (.invokevirtual 58, 3) := by decide +kernel
theorem dX6_measureLegs_42 : decode cX6_measureLegs 42 = .ok (.istore 4, 2) := by decide +kernel
theorem dX6_measureLegs_44 : decode cX6_measureLegs 44 = .ok (.aload_n 0, 1) := by decide +kernel
theorem dX6_measureLegs_45 : decode cX6_measureLegs 45 = .ok (.iload_n 2, 1) := by decide +kernel
theorem dX6_measureLegs_46 : decode cX6_measureLegs 46 = .ok (.invokevirtual 62, 3) := by decide +kernel
theorem dX6_measureLegs_49 : decode cX6_measureLegs 49 = .ok (.istore 5, 2) := by decide +kernel
theorem dX6_measureLegs_51 : decode cX6_measureLegs 51 = .ok (.aload_n 0, 1) := by decide +kernel
theorem dX6_measureLegs_52 : decode cX6_measureLegs 52 = .ok (.getfield 28, 3) := by decide +kernel
theorem dX6_measureLegs_55 : decode cX6_measureLegs 55 = .ok (.iload 4, 2) := by decide +kernel
theorem dX6_measureLegs_57 : decode cX6_measureLegs 57 = .ok (.iload 5, 2) := by decide +kernel
theorem dX6_measureLegs_59 : decode cX6_measureLegs 59 = .ok (.aload_n 0, 1) := by decide +kernel
theorem dX6_measureLegs_60 : decode cX6_measureLegs 60 = .ok (.iload_n 3, 1) := by decide +kernel
theorem dX6_measureLegs_61 : decode cX6_measureLegs 61 = .ok (.invokevirtual 58, 3) := by decide +kernel
theorem dX6_measureLegs_64 : decode cX6_measureLegs 64 = .ok (.aload_n 0, 1) := by decide +kernel
theorem dX6_measureLegs_65 : decode cX6_measureLegs 65 = .ok (.iload_n 3, 1) := by decide +kernel
theorem dX6_measureLegs_66 : decode cX6_measureLegs 66 = .ok (.invokevirtual 62, 3) := by decide +kernel
theorem dX6_measureLegs_69 : decode cX6_measureLegs 69 = .ok (.invokevirtual 65, 3) := by decide +kernel
theorem dX6_measureLegs_72 : decode cX6_measureLegs 72 = .ok (.istore 6, 2) := by decide +kernel
theorem dX6_measureLegs_74 : decode cX6_measureLegs 74 = .ok (.aload_n 0, 1) := by decide +kernel
theorem dX6_measureLegs_75 : decode cX6_measureLegs 75 = .ok (.getfield 11, 3) := by decide +kernel
theorem dX6_measureLegs_78 : decode cX6_measureLegs 78 = .ok (.iload_n 2, 1) := by decide +kernel
theorem dX6_measureLegs_79 : decode cX6_measureLegs 79 = .ok (.bipush 11, 2) := by decide +kernel
theorem dX6_measureLegs_81 : decode cX6_measureLegs 81 = .ok (.imul, 1) := by decide +kernel
theorem dX6_measureLegs_82 : decode cX6_measureLegs 82 = .ok (.iload_n 3, 1) := by decide +kernel
theorem dX6_measureLegs_83 : decode cX6_measureLegs 83 = .ok (.iadd, 1) := by decide +kernel
theorem dX6_measureLegs_84 : decode cX6_measureLegs 84 = .ok (.iload 6, 2) := by decide +kernel
theorem dX6_measureLegs_86 : decode cX6_measureLegs 86 = .ok (.ifCond .eq 8, 3) := by decide +kernel
theorem dX6_measureLegs_89 : decode cX6_measureLegs 89 = .ok (.ldc 71, 2) := by decide +kernel
theorem dX6_measureLegs_91 : decode cX6_measureLegs 91 = .ok (.goto 26, 3) := by decide +kernel
theorem dX6_measureLegs_94 : decode cX6_measureLegs 94 = .ok (.aload_n 0, 1) := by decide +kernel
theorem dX6_measureLegs_95 : decode cX6_measureLegs 95 = .ok (.getfield 28, 3) := by decide +kernel
theorem dX6_measureLegs_98 : decode cX6_measureLegs 98 = .ok (.aload_n 0, 1) := by decide +kernel
theorem dX6_measureLegs_99 : decode cX6_measureLegs 99 = .ok (.iload_n 3, 1) := by decide +kernel
theorem dX6_measureLegs_100 : decode cX6_measureLegs 100 = .ok (.invokevirtual 58, 3) := by decide +kernel
theorem dX6_measureLegs_103 : decode cX6_measureLegs 103 = .ok (.iload 4, 2) := by decide +kernel
theorem dX6_measureLegs_105 : decode cX6_measureLegs 105 = .ok (.isub, 1) := by decide +kernel
theorem dX6_measureLegs_106 : decode cX6_measureLegs 106 = .ok (.aload_n 0, 1) := by decide +kernel
theorem dX6_measureLegs_107 : decode cX6_measureLegs 107 = .ok (.iload_n 3, 1) := by decide +kernel
theorem dX6_measureLegs_108 : decode cX6_measureLegs 108 = .ok (.invokevirtual 62, 3) := by decide +kernel
theorem dX6_measureLegs_111 : decode cX6_measureLegs 111 = .ok (.iload 5, 2) := by decide +kernel
theorem dX6_measureLegs_113 : decode cX6_measureLegs 113 = .ok (.isub, 1) := by decide +kernel
theorem dX6_measureLegs_114 : decode cX6_measureLegs 114 = .ok (.invokevirtual 72, 3) := by decide +kernel
theorem dX6_measureLegs_117 : decode cX6_measureLegs 117 = .ok (.iastore, 1) := by decide +kernel
theorem dX6_measureLegs_118 : decode cX6_measureLegs 118 = .ok (.iinc 3 1, 3) := by decide +kernel
theorem dX6_measureLegs_121 : decode cX6_measureLegs 121 = .ok (.goto (-111), 3) := by decide +kernel
theorem dX6_measureLegs_124 : decode cX6_measureLegs 124 = .ok (.iinc 2 1, 3) := by decide +kernel
theorem dX6_measureLegs_127 : decode cX6_measureLegs 127 = .ok (.goto (-125), 3) := by decide +kernel
theorem dX6_measureLegs_130 : decode cX6_measureLegs 130 = .ok (.return_, 1) := by decide +kernel
theorem dX6_xOf_0 : decode cX6_xOf 0 = .ok (.iload_n 1, 1) := by decide +kernel
theorem dX6_xOf_1 : decode cX6_xOf 1 = .ok (.bipush 10, 2) := by decide +kernel
theorem dX6_xOf_3 : decode cX6_xOf 3 = .ok (.if_icmp .ne 13, 3) := by decide +kernel
theorem dX6_xOf_6 : decode cX6_xOf 6 = .ok (.aload_n 0, 1) := by decide +kernel
theorem dX6_xOf_7 : decode cX6_xOf 7 = .ok (.getfield 32, 3) := by decide +kernel
theorem dX6_xOf_10 : decode cX6_xOf 10 = .ok (.getfield 75, 3) := by decide +kernel
theorem dX6_xOf_13 : decode cX6_xOf 13 = .ok (.goto 12, 3) := by decide +kernel
theorem dX6_xOf_16 : decode cX6_xOf 16 = .ok (.aload_n 0, 1) := by decide +kernel
theorem dX6_xOf_17 : decode cX6_xOf 17 = .ok (.getfield 24, 3) := by decide +kernel
theorem dX6_xOf_20 : decode cX6_xOf 20 = .ok (.getfield 80, 3) := by decide +kernel
theorem dX6_xOf_23 : decode cX6_xOf 23 = .ok (.iload_n 1, 1) := by decide +kernel
theorem dX6_xOf_24 : decode cX6_xOf 24 = .ok (.iaload, 1) := by decide +kernel
theorem dX6_xOf_25 : decode cX6_xOf 25 = .ok (.ireturn, 1) := by decide +kernel
theorem dX6_yOf_0 : decode cX6_yOf 0 = .ok (.iload_n 1, 1) := by decide +kernel
theorem dX6_yOf_1 : decode cX6_yOf 1 = .ok (.bipush 10, 2) := by decide +kernel
theorem dX6_yOf_3 : decode cX6_yOf 3 = .ok (.if_icmp .ne 13, 3) := by decide +kernel
theorem dX6_yOf_6 : decode cX6_yOf 6 = .ok (.aload_n 0, 1) := by decide +kernel
theorem dX6_yOf_7 : decode cX6_yOf 7 = .ok (.getfield 32, 3) := by decide +kernel
theorem dX6_yOf_10 : decode cX6_yOf 10 = .ok (.getfield 85, 3) := by decide +kernel
theorem dX6_yOf_13 : decode cX6_yOf 13 = .ok (.goto 12, 3) := by decide +kernel
theorem dX6_yOf_16 : decode cX6_yOf 16 = .ok (.aload_n 0, 1) := by decide +kernel
theorem dX6_yOf_17 : decode cX6_yOf 17 = .ok (.getfield 24, 3) := by decide +kernel
theorem dX6_yOf_20 : decode cX6_yOf 20 = .ok (.getfield 88, 3) := by decide +kernel
theorem dX6_yOf_23 : decode cX6_yOf 23 = .ok (.iload_n 1, 1) := by decide +kernel
theorem dX6_yOf_24 : decode cX6_yOf 24 = .ok (.iaload, 1) := by decide +kernel
theorem dX6_yOf_25 : decode cX6_yOf 25 = .ok (.ireturn, 1) := by decide +kernel
theorem dX6_fillTails_0 : decode cX6_fillTails 0 = .ok (.iconst 0, 1) := by decide +kernel
theorem dX6_fillTails_1 : decode cX6_fillTails 1 = .ok (.istore_n 2, 1) := by decide +kernel
theorem dX6_fillTails_2 : decode cX6_fillTails 2 = .ok (.iload_n 2, 1) := by decide +kernel
theorem dX6_fillTails_3 : decode cX6_fillTails 3 = .ok (.bipush 10, 2) := by decide +kernel
theorem dX6_fillTails_5 : decode cX6_fillTails 5 = .ok (.if_icmp .ge 48, 3) := by decide +kernel
theorem dX6_fillTails_8 : decode cX6_fillTails 8 = .ok (.iload_n 1, 1) := by decide +kernel
theorem dX6_fillTails_9 : decode cX6_fillTails 9 = .ok (.iload_n 2, 1) := by decide +kernel
theorem dX6_fillTails_10 : decode cX6_fillTails 10 = .ok (.invokestatic 54, 3) := by decide +kernel
theorem dX6_fillTails_13 : decode cX6_fillTails 13 = .ok (.ifCond .eq 34, 3) := by decide +kernel
theorem dX6_fillTails_16 : decode cX6_fillTails 16 = .ok (.aload_n 0, 1) := by decide +kernel
theorem dX6_fillTails_17 : decode cX6_fillTails 17 = .ok (.getfield 15, 3) := by decide +kernel
theorem dX6_fillTails_20 : decode cX6_fillTails 20 = .ok (.iload_n 1, 1) := by decide +kernel
theorem dX6_fillTails_21 : decode cX6_fillTails 21 = .ok (.bipush 10, 2) := by decide +kernel
theorem dX6_fillTails_23 : decode cX6_fillTails 23 = .ok (.imul, 1) := by decide +kernel
theorem dX6_fillTails_24 : decode cX6_fillTails 24 = .ok (.iload_n 2, 1) := by decide +kernel
theorem dX6_fillTails_25 : decode cX6_fillTails 25 = .ok (.iadd, 1) := by decide +kernel
theorem dX6_fillTails_26 : decode cX6_fillTails 26 = .ok (.aload_n 0, 1) := by decide +kernel
theorem dX6_fillTails_27 : decode cX6_fillTails 27 = .ok (.getfield 32, 3) := by decide +kernel
theorem dX6_fillTails_30 : decode cX6_fillTails 30 = .ok (.getfield 91, 3) := by decide +kernel
theorem dX6_fillTails_33 : decode cX6_fillTails 33 = .ok (.aload_n 0, 1) := by decide +kernel
theorem dX6_fillTails_34 : decode cX6_fillTails 34 = .ok (.iload_n 2, 1) := by decide +kernel
theorem dX6_fillTails_35 : decode cX6_fillTails 35 = .ok (.iload_n 1, 1) := by decide +kernel
theorem dX6_fillTails_36 : decode cX6_fillTails 36 = .ok (.iconst 1, 1) := by decide +kernel
theorem dX6_fillTails_37 : decode cX6_fillTails 37 = .ok (.iload_n 2, 1) := by decide +kernel
theorem dX6_fillTails_38 : decode cX6_fillTails 38 = .ok (.ishl, 1) := by decide +kernel
theorem dX6_fillTails_39 : decode cX6_fillTails 39 = .ok (.iconst (-1), 1) := by decide +kernel
theorem dX6_fillTails_40 : decode cX6_fillTails 40 = .ok (.ixor, 1) := by decide +kernel
theorem dX6_fillTails_41 : decode cX6_fillTails 41 = .ok (.iand, 1) := by decide +kernel
theorem dX6_fillTails_42 : decode cX6_fillTails 42 = .ok (.invokevirtual 50, 3) := by decide +kernel
theorem dX6_fillTails_45 : decode cX6_fillTails 45 = .ok (.iadd, 1) := by decide +kernel
theorem dX6_fillTails_46 : decode cX6_fillTails 46 = .ok (.iastore, 1) := by decide +kernel
theorem dX6_fillTails_47 : decode cX6_fillTails 47 = .ok (.iinc 2 1, 3) := by decide +kernel
theorem dX6_fillTails_50 : decode cX6_fillTails 50 = .ok (.goto (-48), 3) := by decide +kernel
theorem dX6_fillTails_53 : decode cX6_fillTails 53 = .ok (.return_, 1) := by decide +kernel
theorem dX6_costFrom_0 : decode cX6_costFrom 0 = .ok (.iload_n 2, 1) := by decide +kernel
theorem dX6_costFrom_1 : decode cX6_costFrom 1 = .ok (.ifCond .ne 16, 3) := by decide +kernel
theorem dX6_costFrom_4 : decode cX6_costFrom 4 = .ok (.aload_n 0, 1) := by decide +kernel
theorem dX6_costFrom_5 : decode cX6_costFrom 5 = .ok (.getfield 11, 3) := by decide +kernel
theorem dX6_costFrom_8 : decode cX6_costFrom 8 = .ok (.iload_n 1, 1) := by decide +kernel
theorem dX6_costFrom_9 : decode cX6_costFrom 9 = .ok (.bipush 11, 2) := by decide +kernel
theorem dX6_costFrom_11 : decode cX6_costFrom 11 = .ok (.imul, 1) := by decide +kernel
theorem dX6_costFrom_12 : decode cX6_costFrom 12 = .ok (.bipush 10, 2) := by decide +kernel
theorem dX6_costFrom_14 : decode cX6_costFrom 14 = .ok (.iadd, 1) := by decide +kernel
theorem dX6_costFrom_15 : decode cX6_costFrom 15 = .ok (.iaload, 1) := by decide +kernel
theorem dX6_costFrom_16 : decode cX6_costFrom 16 = .ok (.ireturn, 1) := by decide +kernel
theorem dX6_costFrom_17 : decode cX6_costFrom 17 = .ok (.ldc 71, 2) := by decide +kernel
theorem dX6_costFrom_19 : decode cX6_costFrom 19 = .ok (.istore_n 3, 1) := by decide +kernel
theorem dX6_costFrom_20 : decode cX6_costFrom 20 = .ok (.iconst 0, 1) := by decide +kernel
theorem dX6_costFrom_21 : decode cX6_costFrom 21 = .ok (.istore 4, 2) := by decide +kernel
theorem dX6_costFrom_23 : decode cX6_costFrom 23 = .ok (.iload 4, 2) := by decide +kernel
theorem dX6_costFrom_25 : decode cX6_costFrom 25 = .ok (.bipush 10, 2) := by decide +kernel
theorem dX6_costFrom_27 : decode cX6_costFrom 27 = .ok (.if_icmp .ge 31, 3) := by decide +kernel
theorem dX6_costFrom_30 : decode cX6_costFrom 30 = .ok (.iload_n 2, 1) := by decide +kernel
theorem dX6_costFrom_31 : decode cX6_costFrom 31 = .ok (.iload 4, 2) := by decide +kernel
theorem dX6_costFrom_33 : decode cX6_costFrom 33 = .ok (.invokestatic 54, 3) := by decide +kernel
theorem dX6_costFrom_36 : decode cX6_costFrom 36 = .ok (.ifCond .eq 16, 3) := by decide +kernel
theorem dX6_costFrom_39 : decode cX6_costFrom 39 = .ok (.iload_n 3, 1) := by decide +kernel
theorem dX6_costFrom_40 : decode cX6_costFrom 40 = .ok (.aload_n 0, 1) := by decide +kernel
theorem dX6_costFrom_41 : decode cX6_costFrom 41 = .ok (.iload_n 1, 1) := by decide +kernel
theorem dX6_costFrom_42 : decode cX6_costFrom 42 = .ok (.iload_n 2, 1) := by decide +kernel
theorem dX6_costFrom_43 : decode cX6_costFrom 43 = .ok (.iload 4, 2) := by decide +kernel
theorem dX6_costFrom_45 : decode cX6_costFrom 45 = .ok (.invokevirtual 94, 3) := by decide +kernel
theorem dX6_costFrom_48 : decode cX6_costFrom 48 = .ok (.invokestatic 98, 3) := by decide +kernel
theorem dX6_costFrom_51 : decode cX6_costFrom 51 = .ok (.istore_n 3, 1) := by decide +kernel
theorem dX6_costFrom_52 : decode cX6_costFrom 52 = .ok (.iinc 4 1, 3) := by decide +kernel
theorem dX6_costFrom_55 : decode cX6_costFrom 55 = .ok (.goto (-32), 3) := by decide +kernel
theorem dX6_costFrom_58 : decode cX6_costFrom 58 = .ok (.iload_n 3, 1) := by decide +kernel
theorem dX6_costFrom_59 : decode cX6_costFrom 59 = .ok (.ireturn, 1) := by decide +kernel
theorem dX6_costBy_0 : decode cX6_costBy 0 = .ok (.aload_n 0, 1) := by decide +kernel
theorem dX6_costBy_1 : decode cX6_costBy 1 = .ok (.getfield 11, 3) := by decide +kernel
theorem dX6_costBy_4 : decode cX6_costBy 4 = .ok (.iload_n 1, 1) := by decide +kernel
theorem dX6_costBy_5 : decode cX6_costBy 5 = .ok (.bipush 11, 2) := by decide +kernel
theorem dX6_costBy_7 : decode cX6_costBy 7 = .ok (.imul, 1) := by decide +kernel
theorem dX6_costBy_8 : decode cX6_costBy 8 = .ok (.iload_n 3, 1) := by decide +kernel
theorem dX6_costBy_9 : decode cX6_costBy 9 = .ok (.iadd, 1) := by decide +kernel
theorem dX6_costBy_10 : decode cX6_costBy 10 = .ok (.iaload, 1) := by decide +kernel
theorem dX6_costBy_11 : decode cX6_costBy 11 = .ok (.aload_n 0, 1) := by decide +kernel
theorem dX6_costBy_12 : decode cX6_costBy 12 = .ok (.getfield 15, 3) := by decide +kernel
theorem dX6_costBy_15 : decode cX6_costBy 15 = .ok (.iload_n 2, 1) := by decide +kernel
theorem dX6_costBy_16 : decode cX6_costBy 16 = .ok (.bipush 10, 2) := by decide +kernel
theorem dX6_costBy_18 : decode cX6_costBy 18 = .ok (.imul, 1) := by decide +kernel
theorem dX6_costBy_19 : decode cX6_costBy 19 = .ok (.iload_n 3, 1) := by decide +kernel
theorem dX6_costBy_20 : decode cX6_costBy 20 = .ok (.iadd, 1) := by decide +kernel
theorem dX6_costBy_21 : decode cX6_costBy 21 = .ok (.iaload, 1) := by decide +kernel
theorem dX6_costBy_22 : decode cX6_costBy 22 = .ok (.iadd, 1) := by decide +kernel
theorem dX6_costBy_23 : decode cX6_costBy 23 = .ok (.ireturn, 1) := by decide +kernel
theorem dX6_roundCost_0 : decode cX6_roundCost 0 = .ok (.aload_n 0, 1) := by decide +kernel
theorem dX6_roundCost_1 : decode cX6_roundCost 1 = .ok (.iload_n 1, 1) := by decide +kernel
theorem dX6_roundCost_2 : decode cX6_roundCost 2 = .ok (.invokevirtual 103, 3) := by decide +kernel
theorem dX6_roundCost_5 : decode cX6_roundCost 5 = .ok (.ifCond .eq 12, 3) := by decide +kernel
theorem dX6_roundCost_8 : decode cX6_roundCost 8 = .ok (.aload_n 0, 1) := by decide +kernel
theorem dX6_roundCost_9 : decode cX6_roundCost 9 = .ok (.getfield 18, 3) := by decide +kernel
theorem dX6_roundCost_12 : decode cX6_roundCost 12 = .ok (.iload_n 1, 1) := by decide +kernel
theorem dX6_roundCost_13 : decode cX6_roundCost 13 = .ok (.iaload, 1) := by decide +kernel
theorem dX6_roundCost_14 : decode cX6_roundCost 14 = .ok (.goto 5, 3) := by decide +kernel
theorem dX6_roundCost_17 : decode cX6_roundCost 17 = .ok (.bipush (-9), 2) := by decide +kernel
theorem dX6_roundCost_19 : decode cX6_roundCost 19 = .ok (.ireturn, 1) := by decide +kernel
theorem dX6_hasRound_0 : decode cX6_hasRound 0 = .ok (.iload_n 1, 1) := by decide +kernel
theorem dX6_hasRound_1 : decode cX6_hasRound 1 = .ok (.ifCond .eq 18, 3) := by decide +kernel
theorem dX6_hasRound_4 : decode cX6_hasRound 4 = .ok (.aload_n 0, 1) := by decide +kernel
theorem dX6_hasRound_5 : decode cX6_hasRound 5 = .ok (.getfield 18, 3) := by decide +kernel
theorem dX6_hasRound_8 : decode cX6_hasRound 8 = .ok (.iload_n 1, 1) := by decide +kernel
theorem dX6_hasRound_9 : decode cX6_hasRound 9 = .ok (.iaload, 1) := by decide +kernel
theorem dX6_hasRound_10 : decode cX6_hasRound 10 = .ok (.ldc 71, 2) := by decide +kernel
theorem dX6_hasRound_12 : decode cX6_hasRound 12 = .ok (.if_icmp .ge 7, 3) := by decide +kernel
theorem dX6_hasRound_15 : decode cX6_hasRound 15 = .ok (.iconst 1, 1) := by decide +kernel
theorem dX6_hasRound_16 : decode cX6_hasRound 16 = .ok (.goto 4, 3) := by decide +kernel
theorem dX6_hasRound_19 : decode cX6_hasRound 19 = .ok (.iconst 0, 1) := by decide +kernel
theorem dX6_hasRound_20 : decode cX6_hasRound 20 = .ok (.ireturn, 1) := by decide +kernel
theorem dX6_viewAt_0 : decode cX6_viewAt 0 = .ok (.aload_n 0, 1) := by decide +kernel
theorem dX6_viewAt_1 : decode cX6_viewAt 1 = .ok (.iload_n 1, 1) := by decide +kernel
theorem dX6_viewAt_2 : decode cX6_viewAt 2 = .ok (.invokevirtual 103, 3) := by decide +kernel
theorem dX6_viewAt_5 : decode cX6_viewAt 5 = .ok (.ifCond .eq 15, 3) := by decide +kernel
theorem dX6_viewAt_8 : decode cX6_viewAt 8 = .ok (.iload_n 2, 1) := by decide +kernel
theorem dX6_viewAt_9 : decode cX6_viewAt 9 = .ok (.ifCond .lt 11, 3) := by decide +kernel
theorem dX6_viewAt_12 : decode cX6_viewAt 12 = .ok (.iload_n 2, 1) := by decide +kernel
theorem dX6_viewAt_13 : decode cX6_viewAt 13 = .ok (.iload_n 1, 1) := by decide +kernel
theorem dX6_viewAt_14 : decode cX6_viewAt 14 = .ok (.invokestatic 107, 3) := by decide +kernel
theorem dX6_viewAt_17 : decode cX6_viewAt 17 = .ok (.if_icmp .lt 6, 3) := by decide +kernel
theorem dX6_viewAt_20 : decode cX6_viewAt 20 = .ok (.bipush (-9), 2) := by decide +kernel
theorem dX6_viewAt_22 : decode cX6_viewAt 22 = .ok (.ireturn, 1) := by decide +kernel
theorem dX6_viewAt_23 : decode cX6_viewAt 23 = .ok (.bipush 10, 2) := by decide +kernel
theorem dX6_viewAt_25 : decode cX6_viewAt 25 = .ok (.istore_n 3, 1) := by decide +kernel
theorem dX6_viewAt_26 : decode cX6_viewAt 26 = .ok (.iload_n 1, 1) := by decide +kernel
theorem dX6_viewAt_27 : decode cX6_viewAt 27 = .ok (.istore 4, 2) := by decide +kernel
theorem dX6_viewAt_29 : decode cX6_viewAt 29 = .ok (.iconst 0, 1) := by decide +kernel
theorem dX6_viewAt_30 : decode cX6_viewAt 30 = .ok (.istore 5, 2) := by decide +kernel
theorem dX6_viewAt_32 : decode cX6_viewAt 32 = .ok (.iload 5, 2) := by decide +kernel
theorem dX6_viewAt_34 : decode cX6_viewAt 34 = .ok (.iload_n 2, 1) := by decide +kernel
theorem dX6_viewAt_35 : decode cX6_viewAt 35 = .ok (.if_icmp .gt 27, 3) := by decide +kernel
theorem dX6_viewAt_38 : decode cX6_viewAt 38 = .ok (.aload_n 0, 1) := by decide +kernel
theorem dX6_viewAt_39 : decode cX6_viewAt 39 = .ok (.iload_n 3, 1) := by decide +kernel
theorem dX6_viewAt_40 : decode cX6_viewAt 40 = .ok (.iload 4, 2) := by decide +kernel
theorem dX6_viewAt_42 : decode cX6_viewAt 42 = .ok (.invokevirtual 112, 3) := by decide +kernel
theorem dX6_viewAt_45 : decode cX6_viewAt 45 = .ok (.istore_n 3, 1) := by decide +kernel
theorem dX6_viewAt_46 : decode cX6_viewAt 46 = .ok (.iload 4, 2) := by decide +kernel
theorem dX6_viewAt_48 : decode cX6_viewAt 48 = .ok (.iconst 1, 1) := by decide +kernel
theorem dX6_viewAt_49 : decode cX6_viewAt 49 = .ok (.iload_n 3, 1) := by decide +kernel
theorem dX6_viewAt_50 : decode cX6_viewAt 50 = .ok (.ishl, 1) := by decide +kernel
theorem dX6_viewAt_51 : decode cX6_viewAt 51 = .ok (.iconst (-1), 1) := by decide +kernel
theorem dX6_viewAt_52 : decode cX6_viewAt 52 = .ok (.ixor, 1) := by decide +kernel
theorem dX6_viewAt_53 : decode cX6_viewAt 53 = .ok (.iand, 1) := by decide +kernel
theorem dX6_viewAt_54 : decode cX6_viewAt 54 = .ok (.istore 4, 2) := by decide +kernel
theorem dX6_viewAt_56 : decode cX6_viewAt 56 = .ok (.iinc 5 1, 3) := by decide +kernel
theorem dX6_viewAt_59 : decode cX6_viewAt 59 = .ok (.goto (-27), 3) := by decide +kernel
theorem dX6_viewAt_62 : decode cX6_viewAt 62 = .ok (.iload_n 3, 1) := by decide +kernel
theorem dX6_viewAt_63 : decode cX6_viewAt 63 = .ok (.ireturn, 1) := by decide +kernel
theorem dX6_nextView_0 : decode cX6_nextView 0 = .ok (.iconst 0, 1) := by decide +kernel
theorem dX6_nextView_1 : decode cX6_nextView 1 = .ok (.istore_n 3, 1) := by decide +kernel
theorem dX6_nextView_2 : decode cX6_nextView 2 = .ok (.ldc 71, 2) := by decide +kernel
theorem dX6_nextView_4 : decode cX6_nextView 4 = .ok (.istore 4, 2) := by decide +kernel
theorem dX6_nextView_6 : decode cX6_nextView 6 = .ok (.iconst 0, 1) := by decide +kernel
theorem dX6_nextView_7 : decode cX6_nextView 7 = .ok (.istore 5, 2) := by decide +kernel
theorem dX6_nextView_9 : decode cX6_nextView 9 = .ok (.iload 5, 2) := by decide +kernel
theorem dX6_nextView_11 : decode cX6_nextView 11 = .ok (.bipush 10, 2) := by decide +kernel
theorem dX6_nextView_13 : decode cX6_nextView 13 = .ok (.if_icmp .ge 44, 3) := by decide +kernel
theorem dX6_nextView_16 : decode cX6_nextView 16 = .ok (.iload_n 2, 1) := by decide +kernel
theorem dX6_nextView_17 : decode cX6_nextView 17 = .ok (.iload 5, 2) := by decide +kernel
theorem dX6_nextView_19 : decode cX6_nextView 19 = .ok (.invokestatic 54, 3) := by decide +kernel
theorem dX6_nextView_22 : decode cX6_nextView 22 = .ok (.ifCond .eq 29, 3) := by decide +kernel
theorem dX6_nextView_25 : decode cX6_nextView 25 = .ok (.aload_n 0, 1) := by decide +kernel
theorem dX6_nextView_26 : decode cX6_nextView 26 = .ok (.iload_n 1, 1) := by decide +kernel
theorem dX6_nextView_27 : decode cX6_nextView 27 = .ok (.iload_n 2, 1) := by decide +kernel
theorem dX6_nextView_28 : decode cX6_nextView 28 = .ok (.iload 5, 2) := by decide +kernel
theorem dX6_nextView_30 : decode cX6_nextView 30 = .ok (.invokevirtual 94, 3) := by decide +kernel
theorem dX6_nextView_33 : decode cX6_nextView 33 = .ok (.iload 4, 2) := by decide +kernel
theorem dX6_nextView_35 : decode cX6_nextView 35 = .ok (.if_icmp .ge 16, 3) := by decide +kernel
theorem dX6_nextView_38 : decode cX6_nextView 38 = .ok (.iload 5, 2) := by decide +kernel
theorem dX6_nextView_40 : decode cX6_nextView 40 = .ok (.istore_n 3, 1) := by decide +kernel
theorem dX6_nextView_41 : decode cX6_nextView 41 = .ok (.aload_n 0, 1) := by decide +kernel
theorem dX6_nextView_42 : decode cX6_nextView 42 = .ok (.iload_n 1, 1) := by decide +kernel
theorem dX6_nextView_43 : decode cX6_nextView 43 = .ok (.iload_n 2, 1) := by decide +kernel
theorem dX6_nextView_44 : decode cX6_nextView 44 = .ok (.iload 5, 2) := by decide +kernel
theorem dX6_nextView_46 : decode cX6_nextView 46 = .ok (.invokevirtual 94, 3) := by decide +kernel
theorem dX6_nextView_49 : decode cX6_nextView 49 = .ok (.istore 4, 2) := by decide +kernel
theorem dX6_nextView_51 : decode cX6_nextView 51 = .ok (.iinc 5 1, 3) := by decide +kernel
theorem dX6_nextView_54 : decode cX6_nextView 54 = .ok (.goto (-45), 3) := by decide +kernel
theorem dX6_nextView_57 : decode cX6_nextView 57 = .ok (.iload_n 3, 1) := by decide +kernel
theorem dX6_nextView_58 : decode cX6_nextView 58 = .ok (.ireturn, 1) := by decide +kernel
theorem dX6_fewestTrips_0 : decode cX6_fewestTrips 0 = .ok (.aload_n 0, 1) := by decide +kernel
theorem dX6_fewestTrips_1 : decode cX6_fewestTrips 1 = .ok (.iload_n 1, 1) := by decide +kernel
theorem dX6_fewestTrips_2 : decode cX6_fewestTrips 2 = .ok (.invokevirtual 115, 3) := by decide +kernel
theorem dX6_fewestTrips_5 : decode cX6_fewestTrips 5 = .ok (.aload_n 0, 1) := by decide +kernel
theorem dX6_fewestTrips_6 : decode cX6_fewestTrips 6 = .ok (.getfield 21, 3) := by decide +kernel
theorem dX6_fewestTrips_9 : decode cX6_fewestTrips 9 = .ok (.iload_n 1, 1) := by decide +kernel
theorem dX6_fewestTrips_10 : decode cX6_fewestTrips 10 = .ok (.iaload, 1) := by decide +kernel
theorem dX6_fewestTrips_11 : decode cX6_fewestTrips 11 = .ok (.ldc 118, 2) := by decide +kernel
theorem dX6_fewestTrips_13 : decode cX6_fewestTrips 13 = .ok (.if_icmp .ge 15, 3) := by decide +kernel
theorem dX6_fewestTrips_16 : decode cX6_fewestTrips 16 = .ok (.aload_n 0, 1) := by decide +kernel
theorem dX6_fewestTrips_17 : decode cX6_fewestTrips 17 = .ok (.getfield 21, 3) := by decide +kernel
theorem dX6_fewestTrips_20 : decode cX6_fewestTrips 20 = .ok (.iload_n 1, 1) := by decide +kernel
theorem dX6_fewestTrips_21 : decode cX6_fewestTrips 21 = .ok (.iaload, 1) := by decide +kernel
theorem dX6_fewestTrips_22 : decode cX6_fewestTrips 22 = .ok (.ldc 71, 2) := by decide +kernel
theorem dX6_fewestTrips_24 : decode cX6_fewestTrips 24 = .ok (.idiv, 1) := by decide +kernel
theorem dX6_fewestTrips_25 : decode cX6_fewestTrips 25 = .ok (.goto 5, 3) := by decide +kernel
theorem dX6_fewestTrips_28 : decode cX6_fewestTrips 28 = .ok (.bipush (-9), 2) := by decide +kernel
theorem dX6_fewestTrips_30 : decode cX6_fewestTrips 30 = .ok (.ireturn, 1) := by decide +kernel
theorem dX6_cheapestTrips_0 : decode cX6_cheapestTrips 0 = .ok (.aload_n 0, 1) := by decide +kernel
theorem dX6_cheapestTrips_1 : decode cX6_cheapestTrips 1 = .ok (.iload_n 1, 1) := by decide +kernel
theorem dX6_cheapestTrips_2 : decode cX6_cheapestTrips 2 = .ok (.invokevirtual 115, 3) := by decide +kernel
theorem dX6_cheapestTrips_5 : decode cX6_cheapestTrips 5 = .ok (.aload_n 0, 1) := by decide +kernel
theorem dX6_cheapestTrips_6 : decode cX6_cheapestTrips 6 = .ok (.getfield 21, 3) := by decide +kernel
theorem dX6_cheapestTrips_9 : decode cX6_cheapestTrips 9 = .ok (.iload_n 1, 1) := by decide +kernel
theorem dX6_cheapestTrips_10 : decode cX6_cheapestTrips 10 = .ok (.iaload, 1) := by decide +kernel
theorem dX6_cheapestTrips_11 : decode cX6_cheapestTrips 11 = .ok (.ldc 118, 2) := by decide +kernel
theorem dX6_cheapestTrips_13 : decode cX6_cheapestTrips 13 = .ok (.if_icmp .ge 15, 3) := by decide +kernel
theorem dX6_cheapestTrips_16 : decode cX6_cheapestTrips 16 = .ok (.aload_n 0, 1) := by decide +kernel
theorem dX6_cheapestTrips_17 : decode cX6_cheapestTrips 17 = .ok (.getfield 21, 3) := by decide +kernel
theorem dX6_cheapestTrips_20 : decode cX6_cheapestTrips 20 = .ok (.iload_n 1, 1) := by decide +kernel
theorem dX6_cheapestTrips_21 : decode cX6_cheapestTrips 21 = .ok (.iaload, 1) := by decide +kernel
theorem dX6_cheapestTrips_22 : decode cX6_cheapestTrips 22 = .ok (.ldc 71, 2) := by decide +kernel
theorem dX6_cheapestTrips_24 : decode cX6_cheapestTrips 24 = .ok (.irem, 1) := by decide +kernel
theorem dX6_cheapestTrips_25 : decode cX6_cheapestTrips 25 = .ok (.goto 5, 3) := by decide +kernel
theorem dX6_cheapestTrips_28 : decode cX6_cheapestTrips 28 = .ok (.bipush (-9), 2) := by decide +kernel
theorem dX6_cheapestTrips_30 : decode cX6_cheapestTrips 30 = .ok (.ireturn, 1) := by decide +kernel
theorem dX6_splitUp_0 : decode cX6_splitUp 0 = .ok (.iload_n 1, 1) := by decide +kernel
theorem dX6_splitUp_1 : decode cX6_splitUp 1 = .ok (.aload_n 0, 1) := by decide +kernel
theorem dX6_splitUp_2 : decode cX6_splitUp 2 = .ok (.getfield 40, 3) := by decide +kernel
theorem dX6_splitUp_5 : decode cX6_splitUp 5 = .ok (.iconst (-1), 1) := by decide +kernel
theorem dX6_splitUp_6 : decode cX6_splitUp 6 = .ok (.ixor, 1) := by decide +kernel
theorem dX6_splitUp_7 : decode cX6_splitUp 7 = .ok (.iand, 1) := by decide +kernel
theorem dX6_splitUp_8 : decode cX6_splitUp 8 = .ok (.ifCond .ne 4, 3) := by decide +kernel
theorem dX6_splitUp_11 : decode cX6_splitUp 11 = .ok (.return_, 1) := by decide +kernel
theorem dX6_splitUp_12 : decode cX6_splitUp 12 = .ok (.iconst 1, 1) := by decide +kernel
theorem dX6_splitUp_13 : decode cX6_splitUp 13 = .ok (.istore_n 2, 1) := by decide +kernel
theorem dX6_splitUp_14 : decode cX6_splitUp 14 = .ok (.iload_n 2, 1) := by decide +kernel
theorem dX6_splitUp_15 : decode cX6_splitUp 15 = .ok (.iload_n 1, 1) := by decide +kernel
theorem dX6_splitUp_16 : decode cX6_splitUp 16 = .ok (.if_icmp .gt 28, 3) := by decide +kernel
theorem dX6_splitUp_19 : decode cX6_splitUp 19 = .ok (.iload_n 2, 1) := by decide +kernel
theorem dX6_splitUp_20 : decode cX6_splitUp 20 = .ok (.iload_n 1, 1) := by decide +kernel
theorem dX6_splitUp_21 : decode cX6_splitUp 21 = .ok (.iconst (-1), 1) := by decide +kernel
theorem dX6_splitUp_22 : decode cX6_splitUp 22 = .ok (.ixor, 1) := by decide +kernel
theorem dX6_splitUp_23 : decode cX6_splitUp 23 = .ok (.iand, 1) := by decide +kernel
theorem dX6_splitUp_24 : decode cX6_splitUp 24 = .ok (.ifCond .ne 14, 3) := by decide +kernel
theorem dX6_splitUp_27 : decode cX6_splitUp 27 = .ok (.aload_n 0, 1) := by decide +kernel
theorem dX6_splitUp_28 : decode cX6_splitUp 28 = .ok (.getfield 21, 3) := by decide +kernel
theorem dX6_splitUp_31 : decode cX6_splitUp 31 = .ok (.iload_n 2, 1) := by decide +kernel
theorem dX6_splitUp_32 : decode cX6_splitUp 32 = .ok (.aload_n 0, 1) := by decide +kernel
theorem dX6_splitUp_33 : decode cX6_splitUp 33 = .ok (.iload_n 2, 1) := by decide +kernel
theorem dX6_splitUp_34 : decode cX6_splitUp 34 = .ok (.invokevirtual 119, 3) := by decide +kernel
theorem dX6_splitUp_37 : decode cX6_splitUp 37 = .ok (.iastore, 1) := by decide +kernel
theorem dX6_splitUp_38 : decode cX6_splitUp 38 = .ok (.iinc 2 1, 3) := by decide +kernel
theorem dX6_splitUp_41 : decode cX6_splitUp 41 = .ok (.goto (-27), 3) := by decide +kernel
theorem dX6_splitUp_44 : decode cX6_splitUp 44 = .ok (.aload_n 0, 1) := by decide +kernel
theorem dX6_splitUp_45 : decode cX6_splitUp 45 = .ok (.iload_n 1, 1) := by decide +kernel
theorem dX6_splitUp_46 : decode cX6_splitUp 46 = .ok (.putfield 40, 3) := by decide +kernel
theorem dX6_splitUp_49 : decode cX6_splitUp 49 = .ok (.return_, 1) := by decide +kernel
theorem dX6_bestSplit_0 : decode cX6_bestSplit 0 = .ok (.iload_n 1, 1) := by decide +kernel
theorem dX6_bestSplit_1 : decode cX6_bestSplit 1 = .ok (.iload_n 1, 1) := by decide +kernel
theorem dX6_bestSplit_2 : decode cX6_bestSplit 2 = .ok (.ineg, 1) := by decide +kernel
theorem dX6_bestSplit_3 : decode cX6_bestSplit 3 = .ok (.iand, 1) := by decide +kernel
theorem dX6_bestSplit_4 : decode cX6_bestSplit 4 = .ok (.istore_n 2, 1) := by decide +kernel
theorem dX6_bestSplit_5 : decode cX6_bestSplit 5 = .ok (.iload_n 1, 1) := by decide +kernel
theorem dX6_bestSplit_6 : decode cX6_bestSplit 6 = .ok (.iload_n 2, 1) := by decide +kernel
theorem dX6_bestSplit_7 : decode cX6_bestSplit 7 = .ok (.iconst (-1), 1) := by decide +kernel
theorem dX6_bestSplit_8 : decode cX6_bestSplit 8 = .ok (.ixor, 1) := by decide +kernel
theorem dX6_bestSplit_9 : decode cX6_bestSplit 9 = .ok (.iand, 1) := by decide +kernel
theorem dX6_bestSplit_10 : decode cX6_bestSplit 10 = .ok (.istore_n 3, 1) := by decide +kernel
theorem dX6_bestSplit_11 : decode cX6_bestSplit 11 = .ok (.iconst 1, 1) := by decide +kernel
theorem dX6_bestSplit_12 : decode cX6_bestSplit 12 = .ok (.iload_n 3, 1) := by decide +kernel
theorem dX6_bestSplit_13 : decode cX6_bestSplit 13 = .ok (.invokestatic 107, 3) := by decide +kernel
theorem dX6_bestSplit_16 : decode cX6_bestSplit 16 = .ok (.ishl, 1) := by decide +kernel
theorem dX6_bestSplit_17 : decode cX6_bestSplit 17 = .ok (.istore 4, 2) := by decide +kernel
theorem dX6_bestSplit_19 : decode cX6_bestSplit 19 = .ok (.ldc 118, 2) := by decide +kernel
theorem dX6_bestSplit_21 : decode cX6_bestSplit 21 = .ok (.istore 5, 2) := by decide +kernel
theorem dX6_bestSplit_23 : decode cX6_bestSplit 23 = .ok (.iconst 0, 1) := by decide +kernel
theorem dX6_bestSplit_24 : decode cX6_bestSplit 24 = .ok (.istore 6, 2) := by decide +kernel
theorem dX6_bestSplit_26 : decode cX6_bestSplit 26 = .ok (.iconst 0, 1) := by decide +kernel
theorem dX6_bestSplit_27 : decode cX6_bestSplit 27 = .ok (.istore 7, 2) := by decide +kernel
theorem dX6_bestSplit_29 : decode cX6_bestSplit 29 = .ok (.iload 7, 2) := by decide +kernel
theorem dX6_bestSplit_31 : decode cX6_bestSplit 31 = .ok (.iload 4, 2) := by decide +kernel
theorem dX6_bestSplit_33 : decode cX6_bestSplit 33 = .ok (.if_icmp .ge 64, 3) := by decide +kernel
theorem dX6_bestSplit_36 : decode cX6_bestSplit 36 = .ok (.aload_n 0, 1) := by decide +kernel
theorem dX6_bestSplit_37 : decode cX6_bestSplit 37 = .ok (.getfield 18, 3) := by decide +kernel
theorem dX6_bestSplit_40 : decode cX6_bestSplit 40 = .ok (.iload_n 2, 1) := by decide +kernel
theorem dX6_bestSplit_41 : decode cX6_bestSplit 41 = .ok (.iload 6, 2) := by decide +kernel
theorem dX6_bestSplit_43 : decode cX6_bestSplit 43 = .ok (.ior, 1) := by decide +kernel
theorem dX6_bestSplit_44 : decode cX6_bestSplit 44 = .ok (.iaload, 1) := by decide +kernel
theorem dX6_bestSplit_45 : decode cX6_bestSplit 45 = .ok (.istore 8, 2) := by decide +kernel
theorem dX6_bestSplit_47 : decode cX6_bestSplit 47 = .ok (.iload 8, 2) := by decide +kernel
theorem dX6_bestSplit_49 : decode cX6_bestSplit 49 = .ok (.aload_n 0, 1) := by decide +kernel
theorem dX6_bestSplit_50 : decode cX6_bestSplit 50 = .ok (.getfield 32, 3) := by decide +kernel
theorem dX6_bestSplit_53 : decode cX6_bestSplit 53 = .ok (.getfield 122, 3) := by decide +kernel
theorem dX6_bestSplit_56 : decode cX6_bestSplit 56 = .ok (.if_icmp .gt 27, 3) := by decide +kernel
theorem dX6_bestSplit_59 : decode cX6_bestSplit 59 = .ok (.iload 5, 2) := by decide +kernel
theorem dX6_bestSplit_61 : decode cX6_bestSplit 61 = .ok (.ldc 71, 2) := by decide +kernel
theorem dX6_bestSplit_63 : decode cX6_bestSplit 63 = .ok (.iload 8, 2) := by decide +kernel
theorem dX6_bestSplit_65 : decode cX6_bestSplit 65 = .ok (.iadd, 1) := by decide +kernel
theorem dX6_bestSplit_66 : decode cX6_bestSplit 66 = .ok (.aload_n 0, 1) := by decide +kernel
theorem dX6_bestSplit_67 : decode cX6_bestSplit 67 = .ok (.getfield 21, 3) := by decide +kernel
theorem dX6_bestSplit_70 : decode cX6_bestSplit 70 = .ok (.iload_n 3, 1) := by decide +kernel
theorem dX6_bestSplit_71 : decode cX6_bestSplit 71 = .ok (.iload 6, 2) := by decide +kernel
theorem dX6_bestSplit_73 : decode cX6_bestSplit 73 = .ok (.iconst (-1), 1) := by decide +kernel
theorem dX6_bestSplit_74 : decode cX6_bestSplit 74 = .ok (.ixor, 1) := by decide +kernel
theorem dX6_bestSplit_75 : decode cX6_bestSplit 75 = .ok (.iand, 1) := by decide +kernel
theorem dX6_bestSplit_76 : decode cX6_bestSplit 76 = .ok (.iaload, 1) := by decide +kernel
theorem dX6_bestSplit_77 : decode cX6_bestSplit 77 = .ok (.iadd, 1) := by decide +kernel
theorem dX6_bestSplit_78 : decode cX6_bestSplit 78 = .ok (.invokestatic 98, 3) := by decide +kernel
theorem dX6_bestSplit_81 : decode cX6_bestSplit 81 = .ok (.istore 5, 2) := by decide +kernel
theorem dX6_bestSplit_83 : decode cX6_bestSplit 83 = .ok (.iload 6, 2) := by decide +kernel
theorem dX6_bestSplit_85 : decode cX6_bestSplit 85 = .ok (.iload_n 3, 1) := by decide +kernel
theorem dX6_bestSplit_86 : decode cX6_bestSplit 86 = .ok (.isub, 1) := by decide +kernel
theorem dX6_bestSplit_87 : decode cX6_bestSplit 87 = .ok (.iload_n 3, 1) := by decide +kernel
theorem dX6_bestSplit_88 : decode cX6_bestSplit 88 = .ok (.iand, 1) := by decide +kernel
theorem dX6_bestSplit_89 : decode cX6_bestSplit 89 = .ok (.istore 6, 2) := by decide +kernel
theorem dX6_bestSplit_91 : decode cX6_bestSplit 91 = .ok (.iinc 7 1, 3) := by decide +kernel
theorem dX6_bestSplit_94 : decode cX6_bestSplit 94 = .ok (.goto (-65), 3) := by decide +kernel
theorem dX6_bestSplit_97 : decode cX6_bestSplit 97 = .ok (.iload 5, 2) := by decide +kernel
theorem dX6_bestSplit_99 : decode cX6_bestSplit 99 = .ok (.ireturn, 1) := by decide +kernel
theorem dX7_init_0 : decode cX7_init 0 = .ok (.aload_n 0, 1) := by decide +kernel
theorem dX7_init_1 : decode cX7_init 1 = .ok (.invokespecial 3, 3) := by decide +kernel
theorem dX7_init_4 : decode cX7_init 4 = .ok (.aload_n 0, 1) := by decide +kernel
theorem dX7_init_5 : decode cX7_init 5 = .ok (.bipush 12, 2) := by decide +kernel
theorem dX7_init_7 : decode cX7_init 7 = .ok (.newarray .int, 2) := by decide +kernel
theorem dX7_init_9 : decode cX7_init 9 = .ok (.putfield 9, 3) := by decide +kernel
theorem dX7_init_12 : decode cX7_init 12 = .ok (.aload_n 0, 1) := by decide +kernel
theorem dX7_init_13 : decode cX7_init 13 = .ok (.bipush 12, 2) := by decide +kernel
theorem dX7_init_15 : decode cX7_init 15 = .ok (.newarray .int, 2) := by decide +kernel
theorem dX7_init_17 : decode cX7_init 17 = .ok (.putfield 15, 3) := by decide +kernel
theorem dX7_init_20 : decode cX7_init 20 = .ok (.aload_n 0, 1) := by decide +kernel
theorem dX7_init_21 : decode cX7_init 21 = .ok (.bipush 12, 2) := by decide +kernel
theorem dX7_init_23 : decode cX7_init 23 = .ok (.newarray .int, 2) := by decide +kernel
theorem dX7_init_25 : decode cX7_init 25 = .ok (.putfield 18, 3) := by decide +kernel
theorem dX7_init_28 : decode cX7_init 28 = .ok (.aload_n 0, 1) := by decide +kernel
theorem dX7_init_29 : decode cX7_init 29 = .ok (.bipush 12, 2) := by decide +kernel
theorem dX7_init_31 : decode cX7_init 31 = .ok (.newarray .int, 2) := by decide +kernel
theorem dX7_init_33 : decode cX7_init 33 = .ok (.putfield 21, 3) := by decide +kernel
theorem dX7_init_36 : decode cX7_init 36 = .ok (.aload_n 0, 1) := by decide +kernel
theorem dX7_init_37 : decode cX7_init 37 = .ok (.bipush 30, 2) := by decide +kernel
theorem dX7_init_39 : decode cX7_init 39 = .ok (.putfield 24, 3) := by decide +kernel
theorem dX7_init_42 : decode cX7_init 42 = .ok (.aload_n 0, 1) := by decide +kernel
theorem dX7_init_43 : decode cX7_init 43 = .ok (.bipush 25, 2) := by decide +kernel
theorem dX7_init_45 : decode cX7_init 45 = .ok (.putfield 28, 3) := by decide +kernel
theorem dX7_init_48 : decode cX7_init 48 = .ok (.return_, 1) := by decide +kernel
theorem dX7_add_0 : decode cX7_add 0 = .ok (.aload_n 0, 1) := by decide +kernel
theorem dX7_add_1 : decode cX7_add 1 = .ok (.getfield 9, 3) := by decide +kernel
theorem dX7_add_4 : decode cX7_add 4 = .ok (.aload_n 0, 1) := by decide +kernel
theorem dX7_add_5 : decode cX7_add 5 = .ok (.getfield 31, 3) := by decide +kernel
theorem dX7_add_8 : decode cX7_add 8 = .ok (.iload_n 1, 1) := by decide +kernel
theorem dX7_add_9 : decode cX7_add 9 = .ok (.iastore, 1) := by decide +kernel
theorem dX7_add_10 : decode cX7_add 10 = .ok (.aload_n 0, 1) := by decide +kernel
theorem dX7_add_11 : decode cX7_add 11 = .ok (.getfield 15, 3) := by decide +kernel
theorem dX7_add_14 : decode cX7_add 14 = .ok (.aload_n 0, 1) := by decide +kernel
theorem dX7_add_15 : decode cX7_add 15 = .ok (.getfield 31, 3) := by decide +kernel
theorem dX7_add_18 : decode cX7_add 18 = .ok (.iload_n 2, 1) := by decide +kernel
theorem dX7_add_19 : decode cX7_add 19 = .ok (.iastore, 1) := by decide +kernel
theorem dX7_add_20 : decode cX7_add 20 = .ok (.aload_n 0, 1) := by decide +kernel
theorem dX7_add_21 : decode cX7_add 21 = .ok (.getfield 18, 3) := by decide +kernel
theorem dX7_add_24 : decode cX7_add 24 = .ok (.aload_n 0, 1) := by decide +kernel
theorem dX7_add_25 : decode cX7_add 25 = .ok (.getfield 31, 3) := by decide +kernel
theorem dX7_add_28 : decode cX7_add 28 = .ok (.iload_n 3, 1) := by decide +kernel
theorem dX7_add_29 : decode cX7_add 29 = .ok (.iastore, 1) := by decide +kernel
theorem dX7_add_30 : decode cX7_add 30 = .ok (.aload_n 0, 1) := by decide +kernel
theorem dX7_add_31 : decode cX7_add 31 = .ok (.getfield 21, 3) := by decide +kernel
theorem dX7_add_34 : decode cX7_add 34 = .ok (.aload_n 0, 1) := by decide +kernel
theorem dX7_add_35 : decode cX7_add 35 = .ok (.getfield 31, 3) := by decide +kernel
theorem dX7_add_38 : decode cX7_add 38 = .ok (.iload 4, 2) := by decide +kernel
theorem dX7_add_40 : decode cX7_add 40 = .ok (.iastore, 1) := by decide +kernel
theorem dX7_add_41 : decode cX7_add 41 = .ok (.aload_n 0, 1) := by decide +kernel
theorem dX7_add_42 : decode cX7_add 42 = .ok (.dup, 1) := by decide +kernel
theorem dX7_add_43 : decode cX7_add 43 = .ok (.getfield 31, 3) := by decide +kernel
theorem dX7_add_46 : decode cX7_add 46 = .ok (.iconst 1, 1) := by decide +kernel
theorem dX7_add_47 : decode cX7_add 47 = .ok (.iadd, 1) := by decide +kernel
theorem dX7_add_48 : decode cX7_add 48 = .ok (.putfield 31, 3) := by decide +kernel
theorem dX7_add_51 : decode cX7_add 51 = .ok (.aload_n 0, 1) := by decide +kernel
theorem dX7_add_52 : decode cX7_add 52 = .ok (.getfield 31, 3) := by decide +kernel
theorem dX7_add_55 : decode cX7_add 55 = .ok (.iconst 1, 1) := by decide +kernel
theorem dX7_add_56 : decode cX7_add 56 = .ok (.isub, 1) := by decide +kernel
theorem dX7_add_57 : decode cX7_add 57 = .ok (.ireturn, 1) := by decide +kernel
theorem dX7_visibleFrom_0 : decode cX7_visibleFrom 0 = .ok (.iconst 0, 1) := by decide +kernel
theorem dX7_visibleFrom_1 : decode cX7_visibleFrom 1 = .ok (.istore_n 3, 1) := by decide +kernel
theorem dX7_visibleFrom_2 : decode cX7_visibleFrom 2 = .ok (.iconst 0, 1) := by decide +kernel
theorem dX7_visibleFrom_3 : decode cX7_visibleFrom 3 = .ok (.istore 4, 2) := by decide +kernel
theorem dX7_visibleFrom_5 : decode cX7_visibleFrom 5 = .ok (.iload 4, 2) := by decide +kernel
theorem dX7_visibleFrom_7 : decode cX7_visibleFrom 7 = .ok (.aload_n 0, 1) := by decide +kernel
theorem dX7_visibleFrom_8 : decode cX7_visibleFrom 8 = .ok (.getfield 31, 3) := by decide +kernel
theorem dX7_visibleFrom_11 : decode cX7_visibleFrom 11 = .ok (.if_icmp .ge 27, 3) := by decide +kernel
theorem dX7_visibleFrom_14 : decode cX7_visibleFrom 14 = .ok (.aload_n 0, 1) := by decide +kernel
theorem dX7_visibleFrom_15 : decode cX7_visibleFrom 15 = .ok (.iload_n 1, 1) := by decide +kernel
theorem dX7_visibleFrom_16 : decode cX7_visibleFrom 16 = .ok (.iload_n 2, 1) := by decide +kernel
theorem dX7_visibleFrom_17 : decode cX7_visibleFrom 17 = .ok (.iload 4, 2) := by decide +kernel
theorem dX7_visibleFrom_19 : decode cX7_visibleFrom 19 = .ok (.invokevirtual 34, 3) := by decide +kernel
theorem dX7_visibleFrom_22 : decode cX7_visibleFrom 22 = .ok (.ifCond .eq 10, 3) := by decide +kernel
theorem dX7_visibleFrom_25 : decode cX7_visibleFrom 25 = .ok (.iload_n 3, 1) := by decide +kernel
theorem dX7_visibleFrom_26 : decode cX7_visibleFrom 26 = .ok (.iconst 1, 1) := by decide +kernel
theorem dX7_visibleFrom_27 : decode cX7_visibleFrom 27 = .ok (.iload 4, 2) := by decide +kernel
theorem dX7_visibleFrom_29 : decode cX7_visibleFrom 29 = .ok (.ishl, 1) := by decide +kernel
theorem dX7_visibleFrom_30 : decode cX7_visibleFrom 30 = .ok (.ior, 1) := by decide +kernel
theorem dX7_visibleFrom_31 : decode cX7_visibleFrom 31 = .ok (.istore_n 3, 1) := by decide +kernel
theorem dX7_visibleFrom_32 : decode cX7_visibleFrom 32 = .ok (.iinc 4 1, 3) := by decide +kernel
theorem dX7_visibleFrom_35 : decode cX7_visibleFrom 35 = .ok (.goto (-30), 3) := by decide +kernel
theorem dX7_visibleFrom_38 : decode cX7_visibleFrom 38 = .ok (.iload_n 3, 1) := by decide +kernel
theorem dX7_visibleFrom_39 : decode cX7_visibleFrom 39 = .ok (.ireturn, 1) := by decide +kernel
theorem dX7_isVisible_0 : decode cX7_isVisible 0 = .ok (.aload_n 0, 1) := by decide +kernel
theorem dX7_isVisible_1 : decode cX7_isVisible 1 = .ok (.getfield 18, 3) := by decide +kernel
theorem dX7_isVisible_4 : decode cX7_isVisible 4 = .ok (.iload_n 3, 1) := by decide +kernel
theorem dX7_isVisible_5 : decode cX7_isVisible 5 = .ok (.iaload, 1) := by decide +kernel
theorem dX7_isVisible_6 : decode cX7_isVisible 6 = .ok (.aload_n 0, 1) := by decide +kernel
theorem dX7_isVisible_7 : decode cX7_isVisible 7 = .ok (.getfield 9, 3) := by decide +kernel
theorem dX7_isVisible_10 : decode cX7_isVisible 10 = .ok (.iload_n 3, 1) := by decide +kernel
theorem dX7_isVisible_11 : decode cX7_isVisible 11 = .ok (.iaload, 1) := by decide +kernel
theorem dX7_isVisible_12 : decode cX7_isVisible 12 = .ok (.isub, 1) := by decide +kernel
theorem dX7_isVisible_13 : decode cX7_isVisible 13 = .ok (.istore 4, 2) := by decide +kernel
theorem dX7_isVisible_15 : decode cX7_isVisible 15 = .ok (.aload_n 0, 1) := by decide +kernel
theorem dX7_isVisible_16 : decode cX7_isVisible 16 = .ok (.getfield 21, 3) := by decide +kernel
theorem dX7_isVisible_19 : decode cX7_isVisible 19 = .ok (.iload_n 3, 1) := by decide +kernel
theorem dX7_isVisible_20 : decode cX7_isVisible 20 = .ok (.iaload, 1) := by decide +kernel
theorem dX7_isVisible_21 : decode cX7_isVisible 21 = .ok (.aload_n 0, 1) := by decide +kernel
theorem dX7_isVisible_22 : decode cX7_isVisible 22 = .ok (.getfield 15, 3) := by decide +kernel
theorem dX7_isVisible_25 : decode cX7_isVisible 25 = .ok (.iload_n 3, 1) := by decide +kernel
theorem dX7_isVisible_26 : decode cX7_isVisible 26 = .ok (.iaload, 1) := by decide +kernel
theorem dX7_isVisible_27 : decode cX7_isVisible 27 = .ok (.isub, 1) := by decide +kernel
theorem dX7_isVisible_28 : decode cX7_isVisible 28 = .ok (.istore 5, 2) := by decide +kernel
theorem dX7_isVisible_30 : decode cX7_isVisible 30 = .ok (.aload_n 0, 1) := by decide +kernel
theorem dX7_isVisible_31 : decode cX7_isVisible 31 = .ok (.getfield 9, 3) := by decide +kernel
theorem dX7_isVisible_34 : decode cX7_isVisible 34 = .ok (.iload_n 3, 1) := by decide +kernel
theorem dX7_isVisible_35 : decode cX7_isVisible 35 = .ok (.iaload, 1) := by decide +kernel
theorem dX7_isVisible_36 : decode cX7_isVisible 36 = .ok (.aload_n 0, 1) := by decide +kernel
theorem dX7_isVisible_37 : decode cX7_isVisible 37 = .ok (.getfield 18, 3) := by decide +kernel
theorem dX7_isVisible_40 : decode cX7_isVisible 40 = .ok (.iload_n 3, 1) := by decide +kernel
theorem dX7_isVisible_41 : decode cX7_isVisible 41 = .ok (.iaload, 1) := by decide +kernel
theorem dX7_isVisible_42 : decode cX7_isVisible 42 = .ok (.iadd, 1) := by decide +kernel
theorem dX7_isVisible_43 : decode cX7_isVisible 43 = .ok (.istore 6, 2) := by decide +kernel
theorem dX7_isVisible_45 : decode cX7_isVisible 45 = .ok (.aload_n 0, 1) := by decide +kernel
theorem dX7_isVisible_46 : decode cX7_isVisible 46 = .ok (.getfield 15, 3) := by decide +kernel
theorem dX7_isVisible_49 : decode cX7_isVisible 49 = .ok (.iload_n 3, 1) := by decide +kernel
theorem dX7_isVisible_50 : decode cX7_isVisible 50 = .ok (.iaload, 1) := by decide +kernel
theorem dX7_isVisible_51 : decode cX7_isVisible 51 = .ok (.aload_n 0, 1) := by decide +kernel
theorem dX7_isVisible_52 : decode cX7_isVisible 52 = .ok (.getfield 21, 3) := by decide +kernel
theorem dX7_isVisible_55 : decode cX7_isVisible 55 = .ok (.iload_n 3, 1) := by decide +kernel
theorem dX7_isVisible_56 : decode cX7_isVisible 56 = .ok (.iaload, 1) := by decide +kernel
theorem dX7_isVisible_57 : decode cX7_isVisible 57 = .ok (.iadd, 1) := by decide +kernel
theorem dX7_isVisible_58 : decode cX7_isVisible 58 = .ok (.istore 7, 2) := by decide +kernel
theorem dX7_isVisible_60 : decode cX7_isVisible 60 = .ok (.iload 6, 2) := by decide +kernel
theorem dX7_isVisible_62 : decode cX7_isVisible 62 = .ok (.iconst 2, 1) := by decide +kernel
theorem dX7_isVisible_63 : decode cX7_isVisible 63 = .ok (.iload_n 1, 1) := by decide +kernel
theorem dX7_isVisible_64 : decode cX7_isVisible 64 = .ok (.imul, 1) := by decide +kernel
theorem dX7_isVisible_65 : decode cX7_isVisible 65 = .ok (.isub, 1) := by decide +kernel
theorem dX7_isVisible_66 : decode cX7_isVisible 66 = .ok (.istore 8, 2) := by decide +kernel
theorem dX7_isVisible_68 : decode cX7_isVisible 68 = .ok (.iload 7, 2) := by decide +kernel
theorem dX7_isVisible_70 : decode cX7_isVisible 70 = .ok (.iconst 2, 1) := by decide +kernel
theorem dX7_isVisible_71 : decode cX7_isVisible 71 = .ok (.iload_n 2, 1) := by decide +kernel
theorem dX7_isVisible_72 : decode cX7_isVisible 72 = .ok (.imul, 1) := by decide +kernel
theorem dX7_isVisible_73 : decode cX7_isVisible 73 = .ok (.isub, 1) := by decide +kernel
theorem dX7_isVisible_74 : decode cX7_isVisible 74 = .ok (.istore 9, 2) := by decide +kernel
theorem dX7_isVisible_76 : decode cX7_isVisible 76 = .ok (.iload 5, 2) := by decide +kernel
theorem dX7_isVisible_78 : decode cX7_isVisible 78 = .ok (.iload 8, 2) := by decide +kernel
theorem dX7_isVisible_80 : decode cX7_isVisible 80 = .ok (.imul, 1) := by decide +kernel
theorem dX7_isVisible_81 : decode cX7_isVisible 81 = .ok (.iload 4, 2) := by decide +kernel
theorem dX7_isVisible_83 : decode cX7_isVisible 83 = .ok (.iload 9, 2) := by decide +kernel
theorem dX7_isVisible_85 : decode cX7_isVisible 85 = .ok (.imul, 1) := by decide +kernel
theorem dX7_isVisible_86 : decode cX7_isVisible 86 = .ok (.isub, 1) := by decide +kernel
theorem dX7_isVisible_87 : decode cX7_isVisible 87 = .ok (.istore 10, 2) := by decide +kernel
theorem dX7_isVisible_89 : decode cX7_isVisible 89 = .ok (.iload 10, 2) := by decide +kernel
theorem dX7_isVisible_91 : decode cX7_isVisible 91 = .ok (.ifCond .gt 5, 3) := by decide +kernel
theorem dX7_isVisible_94 : decode cX7_isVisible 94 = .ok (.iconst 0, 1) := by decide +kernel
theorem dX7_isVisible_95 : decode cX7_isVisible 95 = .ok (.ireturn, 1) := by decide +kernel
theorem dX7_isVisible_96 : decode cX7_isVisible 96 = .ok (.iload 8, 2) := by decide +kernel
theorem dX7_isVisible_98 : decode cX7_isVisible 98 = .ok (.iload 8, 2) := by decide +kernel
theorem dX7_isVisible_100 : decode cX7_isVisible 100 = .ok (.imul, 1) := by decide +kernel
theorem dX7_isVisible_101 : decode cX7_isVisible 101 = .ok (.iload 9, 2) := by decide +kernel
theorem dX7_isVisible_103 : decode cX7_isVisible 103 = .ok (.iload 9, 2) := by decide +kernel
theorem dX7_isVisible_105 : decode cX7_isVisible 105 = .ok (.imul, 1) := by decide +kernel
theorem dX7_isVisible_106 : decode cX7_isVisible 106 = .ok (.iadd, 1) := by decide +kernel
theorem dX7_isVisible_107 : decode cX7_isVisible 107 = .ok (.istore 11, 2) := by decide +kernel
theorem dX7_isVisible_109 : decode cX7_isVisible 109 = .ok (.iload 11, 2) := by decide +kernel
theorem dX7_isVisible_111 : decode cX7_isVisible 111 = .ok (.iconst 4, 1) := by decide +kernel
theorem dX7_isVisible_112 : decode cX7_isVisible 112 = .ok (.aload_n 0, 1) := by decide +kernel
theorem dX7_isVisible_113 : decode cX7_isVisible 113 = .ok (.getfield 24, 3) := by decide +kernel
theorem dX7_isVisible_116 : decode cX7_isVisible 116 = .ok (.imul, 1) := by decide +kernel
theorem dX7_isVisible_117 : decode cX7_isVisible 117 = .ok (.aload_n 0, 1) := by decide +kernel
theorem dX7_isVisible_118 : decode cX7_isVisible 118 = .ok (.getfield 24, 3) := by decide +kernel
theorem dX7_isVisible_121 : decode cX7_isVisible 121 = .ok (.imul, 1) := by decide +kernel
theorem dX7_isVisible_122 : decode cX7_isVisible 122 = .ok (.if_icmp .le 5, 3) := by decide +kernel
theorem dX7_isVisible_125 : decode cX7_isVisible 125 = .ok (.iconst 0, 1) := by decide +kernel
theorem dX7_isVisible_126 : decode cX7_isVisible 126 = .ok (.ireturn, 1) := by decide +kernel
theorem dX7_isVisible_127 : decode cX7_isVisible 127 = .ok (.iload 4, 2) := by decide +kernel
theorem dX7_isVisible_129 : decode cX7_isVisible 129 = .ok (.iload 4, 2) := by decide +kernel
theorem dX7_isVisible_131 : decode cX7_isVisible 131 = .ok (.imul, 1) := by decide +kernel
theorem dX7_isVisible_132 : decode cX7_isVisible 132 = .ok (.iload 5, 2) := by decide +kernel
theorem dX7_isVisible_134 : decode cX7_isVisible 134 = .ok (.iload 5, 2) := by decide +kernel
theorem dX7_isVisible_136 : decode cX7_isVisible 136 = .ok (.imul, 1) := by decide +kernel
theorem dX7_isVisible_137 : decode cX7_isVisible 137 = .ok (.iadd, 1) := by decide +kernel
theorem dX7_isVisible_138 : decode cX7_isVisible 138 = .ok (.i2l, 1) := by decide +kernel
theorem dX7_isVisible_139 : decode cX7_isVisible 139 = .ok (.lstore 12, 2) := by decide +kernel
theorem dX7_isVisible_141 : decode cX7_isVisible 141 = .ok (.ldc2_w 38, 3) := by decide +kernel
theorem dX7_isVisible_144 : decode cX7_isVisible 144 = .ok (.iload 10, 2) := by decide +kernel
theorem dX7_isVisible_146 : decode cX7_isVisible 146 = .ok (.i2l, 1) := by decide +kernel
theorem dX7_isVisible_147 : decode cX7_isVisible 147 = .ok (.lmul, 1) := by decide +kernel
theorem dX7_isVisible_148 : decode cX7_isVisible 148 = .ok (.iload 10, 2) := by decide +kernel
theorem dX7_isVisible_150 : decode cX7_isVisible 150 = .ok (.i2l, 1) := by decide +kernel
theorem dX7_isVisible_151 : decode cX7_isVisible 151 = .ok (.lmul, 1) := by decide +kernel
theorem dX7_isVisible_152 : decode cX7_isVisible 152 = .ok (.aload_n 0, 1) := by decide +kernel
theorem dX7_isVisible_153 : decode cX7_isVisible 153 = .ok (.getfield 28, 3) := by decide +kernel
theorem dX7_isVisible_156 : decode cX7_isVisible 156 = .ok (.i2l, 1) := by decide +kernel
theorem dX7_isVisible_157 : decode cX7_isVisible 157 = .ok (.lload 12, 2) := by decide +kernel
theorem dX7_isVisible_159 : decode cX7_isVisible 159 = .ok (.lmul, 1) := by decide +kernel
theorem dX7_isVisible_160 : decode cX7_isVisible 160 = .ok (.iload 11, 2) := by decide +kernel
theorem dX7_isVisible_162 : decode cX7_isVisible 162 = .ok (.i2l, 1) := by decide +kernel
theorem dX7_isVisible_163 : decode cX7_isVisible 163 = .ok (.lmul, 1) := by decide +kernel
theorem dX7_isVisible_164 : decode cX7_isVisible 164 = .ok (.lcmp, 1) := by decide +kernel
theorem dX7_isVisible_165 : decode cX7_isVisible 165 = .ok (.ifCond .ge 5, 3) := by decide +kernel
theorem dX7_isVisible_168 : decode cX7_isVisible 168 = .ok (.iconst 0, 1) := by decide +kernel
theorem dX7_isVisible_169 : decode cX7_isVisible 169 = .ok (.ireturn, 1) := by decide +kernel
theorem dX7_isVisible_170 : decode cX7_isVisible 170 = .ok (.iconst 0, 1) := by decide +kernel
theorem dX7_isVisible_171 : decode cX7_isVisible 171 = .ok (.istore 14, 2) := by decide +kernel
theorem dX7_isVisible_173 : decode cX7_isVisible 173 = .ok (.iload 14, 2) := by decide +kernel
theorem dX7_isVisible_175 : decode cX7_isVisible 175 = .ok (.aload_n 0, 1) := by decide +kernel
theorem dX7_isVisible_176 : decode cX7_isVisible 176 = .ok (.getfield 31, 3) := by decide +kernel
theorem dX7_isVisible_179 : decode cX7_isVisible 179 = .ok (.if_icmp .ge 36, 3) := by decide +kernel
theorem dX7_isVisible_182 : decode cX7_isVisible 182 = .ok (.iload 14, 2) := by decide +kernel
theorem dX7_isVisible_184 : decode cX7_isVisible 184 = .ok (.iload_n 3, 1) := by decide +kernel
theorem dX7_isVisible_185 : decode cX7_isVisible 185 = .ok (.if_icmp .eq 24, 3) := by decide +kernel
theorem dX7_isVisible_188 : decode cX7_isVisible 188 = .ok (.aload_n 0, 1) := by decide +kernel
theorem dX7_isVisible_189 : decode cX7_isVisible 189 = .ok (.iload 14, 2) := by decide +kernel
theorem dX7_isVisible_191 : decode cX7_isVisible 191 = .ok (.iconst 2, 1) := by decide +kernel
theorem dX7_isVisible_192 : decode cX7_isVisible 192 = .ok (.iload_n 1, 1) := by decide +kernel
theorem dX7_isVisible_193 : decode cX7_isVisible 193 = .ok (.imul, 1) := by decide +kernel
theorem dX7_isVisible_194 : decode cX7_isVisible 194 = .ok (.iconst 2, 1) := by decide +kernel
theorem dX7_isVisible_195 : decode cX7_isVisible 195 = .ok (.iload_n 2, 1) := by decide +kernel
theorem dX7_isVisible_196 : decode cX7_isVisible 196 = .ok (.imul, 1) := by decide +kernel
theorem dX7_isVisible_197 : decode cX7_isVisible 197 = .ok (.iload 6, 2) := by decide +kernel
theorem dX7_isVisible_199 : decode cX7_isVisible 199 = .ok (.iload 7, 2) := by decide +kernel
theorem dX7_isVisible_201 : decode cX7_isVisible 201 = .ok (.invokevirtual 40, 3) := by decide +kernel
theorem dX7_isVisible_204 : decode cX7_isVisible 204 = .ok (.ifCond .eq 5, 3) := by decide +kernel
theorem dX7_isVisible_207 : decode cX7_isVisible 207 = .ok (.iconst 0, 1) := by decide +kernel
theorem dX7_isVisible_208 : decode cX7_isVisible 208 = .ok (.ireturn, 1) := by decide +kernel
theorem dX7_isVisible_209 : decode cX7_isVisible 209 = .ok (.iinc 14 1, 3) := by decide +kernel
theorem dX7_isVisible_212 : decode cX7_isVisible 212 = .ok (.goto (-39), 3) := by decide +kernel
theorem dX7_isVisible_215 : decode cX7_isVisible 215 = .ok (.iconst 1, 1) := by decide +kernel
theorem dX7_isVisible_216 : decode cX7_isVisible 216 = .ok (.ireturn, 1) := by decide +kernel
theorem dX7_isTouched_0 : decode cX7_isTouched 0 = .ok (.iconst 2, 1) := by decide +kernel
theorem dX7_isTouched_1 : decode cX7_isTouched 1 = .ok (.aload_n 0, 1) := by decide +kernel
theorem dX7_isTouched_2 : decode cX7_isTouched 2 = .ok (.getfield 9, 3) := by decide +kernel
theorem dX7_isTouched_5 : decode cX7_isTouched 5 = .ok (.iload_n 1, 1) := by decide +kernel
theorem dX7_isTouched_6 : decode cX7_isTouched 6 = .ok (.iaload, 1) := by decide +kernel
theorem dX7_isTouched_7 : decode cX7_isTouched 7 = .ok (.imul, 1) := by decide +kernel
theorem dX7_isTouched_8 : decode cX7_isTouched 8 = .ok (.istore 6, 2) := by decide +kernel
theorem dX7_isTouched_10 : decode cX7_isTouched 10 = .ok (.iconst 2, 1) := by decide +kernel
theorem dX7_isTouched_11 : decode cX7_isTouched 11 = .ok (.aload_n 0, 1) := by decide +kernel
theorem dX7_isTouched_12 : decode cX7_isTouched 12 = .ok (.getfield 15, 3) := by decide +kernel
theorem dX7_isTouched_15 : decode cX7_isTouched 15 = .ok (.iload_n 1, 1) := by decide +kernel
theorem dX7_isTouched_16 : decode cX7_isTouched 16 = .ok (.iaload, 1) := by decide +kernel
theorem dX7_isTouched_17 : decode cX7_isTouched 17 = .ok (.imul, 1) := by decide +kernel
theorem dX7_isTouched_18 : decode cX7_isTouched 18 = .ok (.istore 7, 2) := by decide +kernel
theorem dX7_isTouched_20 : decode cX7_isTouched 20 = .ok (.iconst 2, 1) := by decide +kernel
theorem dX7_isTouched_21 : decode cX7_isTouched 21 = .ok (.aload_n 0, 1) := by decide +kernel
theorem dX7_isTouched_22 : decode cX7_isTouched 22 = .ok (.getfield 18, 3) := by decide +kernel
theorem dX7_isTouched_25 : decode cX7_isTouched 25 = .ok (.iload_n 1, 1) := by decide +kernel
theorem dX7_isTouched_26 : decode cX7_isTouched 26 = .ok (.iaload, 1) := by decide +kernel
theorem dX7_isTouched_27 : decode cX7_isTouched 27 = .ok (.imul, 1) := by decide +kernel
theorem dX7_isTouched_28 : decode cX7_isTouched 28 = .ok (.istore 8, 2) := by decide +kernel
theorem dX7_isTouched_30 : decode cX7_isTouched 30 = .ok (.iconst 2, 1) := by decide +kernel
theorem dX7_isTouched_31 : decode cX7_isTouched 31 = .ok (.aload_n 0, 1) := by decide +kernel
theorem dX7_isTouched_32 : decode cX7_isTouched 32 = .ok (.getfield 21, 3) := by decide +kernel
theorem dX7_isTouched_35 : decode cX7_isTouched 35 = .ok (.iload_n 1, 1) := by decide +kernel
theorem dX7_isTouched_36 : decode cX7_isTouched 36 = .ok (.iaload, 1) := by decide +kernel
theorem dX7_isTouched_37 : decode cX7_isTouched 37 = .ok (.imul, 1) := by decide +kernel
theorem dX7_isTouched_38 : decode cX7_isTouched 38 = .ok (.istore 9, 2) := by decide +kernel
theorem dX7_isTouched_40 : decode cX7_isTouched 40 = .ok (.iload_n 2, 1) := by decide +kernel
theorem dX7_isTouched_41 : decode cX7_isTouched 41 = .ok (.iload 4, 2) := by decide +kernel
theorem dX7_isTouched_43 : decode cX7_isTouched 43 = .ok (.iload 6, 2) := by decide +kernel
theorem dX7_isTouched_45 : decode cX7_isTouched 45 = .ok (.iload 8, 2) := by decide +kernel
theorem dX7_isTouched_47 : decode cX7_isTouched 47 = .ok (.invokestatic 44, 3) := by decide +kernel
theorem dX7_isTouched_50 : decode cX7_isTouched 50 = .ok (.ifCond .eq 86, 3) := by decide +kernel
theorem dX7_isTouched_53 : decode cX7_isTouched 53 = .ok (.iload_n 3, 1) := by decide +kernel
theorem dX7_isTouched_54 : decode cX7_isTouched 54 = .ok (.iload 5, 2) := by decide +kernel
theorem dX7_isTouched_56 : decode cX7_isTouched 56 = .ok (.iload 7, 2) := by decide +kernel
theorem dX7_isTouched_58 : decode cX7_isTouched 58 = .ok (.iload 9, 2) := by decide +kernel
theorem dX7_isTouched_60 : decode cX7_isTouched 60 = .ok (.invokestatic 44, 3) := by decide +kernel
theorem dX7_isTouched_63 : decode cX7_isTouched 63 = .ok (.ifCond .eq 73, 3) := by decide +kernel
theorem dX7_isTouched_66 : decode cX7_isTouched 66 = .ok (.iload_n 2, 1) := by decide +kernel
theorem dX7_isTouched_67 : decode cX7_isTouched 67 = .ok (.iload_n 3, 1) := by decide +kernel
theorem dX7_isTouched_68 : decode cX7_isTouched 68 = .ok (.iload 4, 2) := by decide +kernel
theorem dX7_isTouched_70 : decode cX7_isTouched 70 = .ok (.iload 5, 2) := by decide +kernel
theorem dX7_isTouched_72 : decode cX7_isTouched 72 = .ok (.iload 6, 2) := by decide +kernel
theorem dX7_isTouched_74 : decode cX7_isTouched 74 = .ok (.iload 7, 2) := by decide +kernel
theorem dX7_isTouched_76 : decode cX7_isTouched 76 = .ok (.invokestatic 48, 3) := by decide +kernel
theorem dX7_isTouched_79 : decode cX7_isTouched 79 = .ok (.iload_n 2, 1) := by decide +kernel
theorem dX7_isTouched_80 : decode cX7_isTouched 80 = .ok (.iload_n 3, 1) := by decide +kernel
theorem dX7_isTouched_81 : decode cX7_isTouched 81 = .ok (.iload 4, 2) := by decide +kernel
theorem dX7_isTouched_83 : decode cX7_isTouched 83 = .ok (.iload 5, 2) := by decide +kernel
theorem dX7_isTouched_85 : decode cX7_isTouched 85 = .ok (.iload 8, 2) := by decide +kernel
theorem dX7_isTouched_87 : decode cX7_isTouched 87 = .ok (.iload 9, 2) := by decide +kernel
theorem dX7_isTouched_89 : decode cX7_isTouched 89 = .ok (.invokestatic 48, 3) := by decide +kernel
theorem dX7_isTouched_92 : decode cX7_isTouched 92 = .ok (.invokestatic 52, 3) := by decide +kernel
theorem dX7_isTouched_95 : decode cX7_isTouched 95 = .ok (.ifCond .eq 41, 3) := by decide +kernel
theorem dX7_isTouched_98 : decode cX7_isTouched 98 = .ok (.iload 6, 2) := by decide +kernel
theorem dX7_isTouched_100 : decode cX7_isTouched 100 = .ok (.iload 7, 2) := by decide +kernel
theorem dX7_isTouched_102 : decode cX7_isTouched 102 = .ok (.iload 8, 2) := by decide +kernel
theorem dX7_isTouched_104 : decode cX7_isTouched 104 = .ok (.iload 9, 2) := by decide +kernel
theorem dX7_isTouched_106 : decode cX7_isTouched 106 = .ok (.iload_n 2, 1) := by decide +kernel
theorem dX7_isTouched_107 : decode cX7_isTouched 107 = .ok (.iload_n 3, 1) := by decide +kernel
theorem dX7_isTouched_108 : decode cX7_isTouched 108 = .ok (.invokestatic 48, 3) := by decide +kernel
theorem dX7_isTouched_111 : decode cX7_isTouched 111 = .ok (.iload 6, 2) := by decide +kernel
theorem dX7_isTouched_113 : decode cX7_isTouched 113 = .ok (.iload 7, 2) := by decide +kernel
theorem dX7_isTouched_115 : decode cX7_isTouched 115 = .ok (.iload 8, 2) := by decide +kernel
theorem dX7_isTouched_117 : decode cX7_isTouched 117 = .ok (.iload 9, 2) := by decide +kernel
theorem dX7_isTouched_119 : decode cX7_isTouched 119 = .ok (.iload 4, 2) := by decide +kernel
theorem dX7_isTouched_121 : decode cX7_isTouched 121 = .ok (.iload 5, 2) := by decide +kernel
theorem dX7_isTouched_123 : decode cX7_isTouched 123 = .ok (.invokestatic 48, 3) := by decide +kernel
theorem dX7_isTouched_126 : decode cX7_isTouched 126 = .ok (.invokestatic 52, 3) := by decide +kernel
theorem dX7_isTouched_129 : decode cX7_isTouched 129 = .ok (.ifCond .eq 7, 3) := by decide +kernel
theorem dX7_isTouched_132 : decode cX7_isTouched 132 = .ok (.iconst 1, 1) := by decide +kernel
theorem dX7_isTouched_133 : decode cX7_isTouched 133 = .ok (.goto 4, 3) := by decide +kernel
theorem dX7_isTouched_136 : decode cX7_isTouched 136 = .ok (.iconst 0, 1) := by decide +kernel
theorem dX7_isTouched_137 : decode cX7_isTouched 137 = .ok (.ireturn, 1) := by decide +kernel
theorem dX7_doOverlap_0 : decode cX7_doOverlap 0 = .ok (.iload_n 0, 1) := by decide +kernel
theorem dX7_doOverlap_1 : decode cX7_doOverlap 1 = .ok (.iload_n 1, 1) := by decide +kernel
theorem dX7_doOverlap_2 : decode cX7_doOverlap 2 = .ok (.invokestatic 56, 3) := by decide +kernel
theorem dX7_doOverlap_5 : decode cX7_doOverlap 5 = .ok (.iload_n 2, 1) := by decide +kernel
theorem dX7_doOverlap_6 : decode cX7_doOverlap 6 = .ok (.iload_n 3, 1) := by decide +kernel
theorem dX7_doOverlap_7 : decode cX7_doOverlap 7 = .ok (.invokestatic 62, 3) := by decide +kernel
theorem dX7_doOverlap_10 : decode cX7_doOverlap 10 = .ok (.if_icmp .lt 20, 3) := by decide +kernel
theorem dX7_doOverlap_13 : decode cX7_doOverlap 13 = .ok (.iload_n 2, 1) := by decide +kernel
theorem dX7_doOverlap_14 : decode cX7_doOverlap 14 = .ok (.iload_n 3, 1) := by decide +kernel
theorem dX7_doOverlap_15 : decode cX7_doOverlap 15 = .ok (.invokestatic 56, 3) := by decide +kernel
theorem dX7_doOverlap_18 : decode cX7_doOverlap 18 = .ok (.iload_n 0, 1) := by decide +kernel
theorem dX7_doOverlap_19 : decode cX7_doOverlap 19 = .ok (.iload_n 1, 1) := by decide +kernel
theorem dX7_doOverlap_20 : decode cX7_doOverlap 20 = .ok (.invokestatic 62, 3) := by decide +kernel
theorem dX7_doOverlap_23 : decode cX7_doOverlap 23 = .ok (.if_icmp .lt 7, 3) := by decide +kernel
theorem dX7_doOverlap_26 : decode cX7_doOverlap 26 = .ok (.iconst 1, 1) := by decide +kernel
theorem dX7_doOverlap_27 : decode cX7_doOverlap 27 = .ok (.goto 4, 3) := by decide +kernel
theorem dX7_doOverlap_30 : decode cX7_doOverlap 30 = .ok (.iconst 0, 1) := by decide +kernel
theorem dX7_doOverlap_31 : decode cX7_doOverlap 31 = .ok (.ireturn, 1) := by decide +kernel
theorem dX7_areApart_0 : decode cX7_areApart 0 = .ok (.iload_n 0, 1) := by decide +kernel
theorem dX7_areApart_1 : decode cX7_areApart 1 = .ok (.iload_n 1, 1) := by decide +kernel
theorem dX7_areApart_2 : decode cX7_areApart 2 = .ok (.invokestatic 62, 3) := by decide +kernel
theorem dX7_areApart_5 : decode cX7_areApart 5 = .ok (.ifCond .gt 15, 3) := by decide +kernel
theorem dX7_areApart_8 : decode cX7_areApart 8 = .ok (.iload_n 0, 1) := by decide +kernel
theorem dX7_areApart_9 : decode cX7_areApart 9 = .ok (.iload_n 1, 1) := by decide +kernel
theorem dX7_areApart_10 : decode cX7_areApart 10 = .ok (.invokestatic 56, 3) := by decide +kernel
theorem dX7_areApart_13 : decode cX7_areApart 13 = .ok (.ifCond .lt 7, 3) := by decide +kernel
theorem dX7_areApart_16 : decode cX7_areApart 16 = .ok (.iconst 1, 1) := by decide +kernel
theorem dX7_areApart_17 : decode cX7_areApart 17 = .ok (.goto 4, 3) := by decide +kernel
theorem dX7_areApart_20 : decode cX7_areApart 20 = .ok (.iconst 0, 1) := by decide +kernel
theorem dX7_areApart_21 : decode cX7_areApart 21 = .ok (.ireturn, 1) := by decide +kernel
theorem dX8_init_0 : decode cX8_init 0 = .ok (.aload_n 0, 1) := by decide +kernel
theorem dX8_init_1 : decode cX8_init 1 = .ok (.invokespecial 1, 3) := by decide +kernel
theorem dX8_init_4 : decode cX8_init 4 = .ok (.aload_n 0, 1) := by decide +kernel
theorem dX8_init_5 : decode cX8_init 5 = .ok (.new 7, 3) := by decide +kernel
theorem dX8_init_8 : decode cX8_init 8 = .ok (.dup, 1) := by decide +kernel
theorem dX8_init_9 : decode cX8_init 9 = .ok (.invokespecial 9, 3) := by decide +kernel
theorem dX8_init_12 : decode cX8_init 12 = .ok (.putfield 10, 3) := by decide +kernel
theorem dX8_init_15 : decode cX8_init 15 = .ok (.aload_n 0, 1) := by decide +kernel
theorem dX8_init_16 : decode cX8_init 16 = .ok (.new 16, 3) := by decide +kernel
theorem dX8_init_19 : decode cX8_init 19 = .ok (.dup, 1) := by decide +kernel
theorem dX8_init_20 : decode cX8_init 20 = .ok (.bipush 10, 2) := by decide +kernel
theorem dX8_init_22 : decode cX8_init 22 = .ok (.invokespecial 18, 3) := by decide +kernel
theorem dX8_init_25 : decode cX8_init 25 = .ok (.putfield 21, 3) := by decide +kernel
theorem dX8_init_28 : decode cX8_init 28 = .ok (.aload_n 0, 1) := by decide +kernel
theorem dX8_init_29 : decode cX8_init 29 = .ok (.new 25, 3) := by decide +kernel
theorem dX8_init_32 : decode cX8_init 32 = .ok (.dup, 1) := by decide +kernel
theorem dX8_init_33 : decode cX8_init 33 = .ok (.invokespecial 27, 3) := by decide +kernel
theorem dX8_init_36 : decode cX8_init 36 = .ok (.putfield 28, 3) := by decide +kernel
theorem dX8_init_39 : decode cX8_init 39 = .ok (.aload_n 0, 1) := by decide +kernel
theorem dX8_init_40 : decode cX8_init 40 = .ok (.new 32, 3) := by decide +kernel
theorem dX8_init_43 : decode cX8_init 43 = .ok (.dup, 1) := by decide +kernel
theorem dX8_init_44 : decode cX8_init 44 = .ok (.invokespecial 34, 3) := by decide +kernel
theorem dX8_init_47 : decode cX8_init 47 = .ok (.putfield 35, 3) := by decide +kernel
theorem dX8_init_50 : decode cX8_init 50 = .ok (.aload_n 0, 1) := by decide +kernel
theorem dX8_init_51 : decode cX8_init 51 = .ok (.new 39, 3) := by decide +kernel
theorem dX8_init_54 : decode cX8_init 54 = .ok (.dup, 1) := by decide +kernel
theorem dX8_init_55 : decode cX8_init 55 = .ok (.invokespecial 41, 3) := by decide +kernel
theorem dX8_init_58 : decode cX8_init 58 = .ok (.putfield 42, 3) := by decide +kernel
theorem dX8_init_61 : decode cX8_init 61 = .ok (.aload_n 0, 1) := by decide +kernel
theorem dX8_init_62 : decode cX8_init 62 = .ok (.new 46, 3) := by decide +kernel
theorem dX8_init_65 : decode cX8_init 65 = .ok (.dup, 1) := by decide +kernel
theorem dX8_init_66 : decode cX8_init 66 = .ok (.invokespecial 48, 3) := by decide +kernel
theorem dX8_init_69 : decode cX8_init 69 = .ok (.putfield 49, 3) := by decide +kernel
theorem dX8_init_72 : decode cX8_init 72 = .ok (.aload_n 0, 1) := by decide +kernel
theorem dX8_init_73 : decode cX8_init 73 = .ok (.new 53, 3) := by decide +kernel
theorem dX8_init_76 : decode cX8_init 76 = .ok (.dup, 1) := by decide +kernel
theorem dX8_init_77 : decode cX8_init 77 = .ok (.invokespecial 55, 3) := by decide +kernel
theorem dX8_init_80 : decode cX8_init 80 = .ok (.putfield 56, 3) := by decide +kernel
theorem dX8_init_83 : decode cX8_init 83 = .ok (.return_, 1) := by decide +kernel
theorem dX8_panel_0 : decode cX8_panel 0 = .ok (.iload_n 1, 1) := by decide +kernel
theorem dX8_panel_1 : decode cX8_panel 1 = .ok (.iload_n 2, 1) := by decide +kernel
theorem dX8_panel_2 : decode cX8_panel 2 = .ok (.invokestatic 60, 3) := by decide +kernel
theorem dX8_panel_5 : decode cX8_panel 5 = .ok (.ifCond .eq 12, 3) := by decide +kernel
theorem dX8_panel_8 : decode cX8_panel 8 = .ok (.iload_n 3, 1) := by decide +kernel
theorem dX8_panel_9 : decode cX8_panel 9 = .ok (.iload 4, 2) := by decide +kernel
theorem dX8_panel_11 : decode cX8_panel 11 = .ok (.invokestatic 60, 3) := by decide +kernel
theorem dX8_panel_14 : decode cX8_panel 14 = .ok (.ifCond .ne 6, 3) := by decide +kernel
theorem dX8_panel_17 : decode cX8_panel 17 = .ok (.bipush (-2), 2) := by decide +kernel
theorem dX8_panel_19 : decode cX8_panel 19 = .ok (.ireturn, 1) := by decide +kernel
theorem dX8_panel_20 : decode cX8_panel 20 = .ok (.iload_n 1, 1) := by decide +kernel
theorem dX8_panel_21 : decode cX8_panel 21 = .ok (.iload_n 3, 1) := by decide +kernel
theorem dX8_panel_22 : decode cX8_panel 22 = .ok (.if_icmp .ne 12, 3) := by decide +kernel
theorem dX8_panel_25 : decode cX8_panel 25 = .ok (.iload_n 2, 1) := by decide +kernel
theorem dX8_panel_26 : decode cX8_panel 26 = .ok (.iload 4, 2) := by decide +kernel
theorem dX8_panel_28 : decode cX8_panel 28 = .ok (.if_icmp .ne 6, 3) := by decide +kernel
theorem dX8_panel_31 : decode cX8_panel 31 = .ok (.bipush (-3), 2) := by decide +kernel
theorem dX8_panel_33 : decode cX8_panel 33 = .ok (.ireturn, 1) := by decide +kernel
theorem dX8_panel_34 : decode cX8_panel 34 = .ok (.aload_n 0, 1) := by decide +kernel
theorem dX8_panel_35 : decode cX8_panel 35 = .ok (.getfield 10, 3) := by decide +kernel
theorem dX8_panel_38 : decode cX8_panel 38 = .ok (.getfield 64, 3) := by decide +kernel
theorem dX8_panel_41 : decode cX8_panel 41 = .ok (.bipush 12, 2) := by decide +kernel
theorem dX8_panel_43 : decode cX8_panel 43 = .ok (.if_icmp .lt 6, 3) := by decide +kernel
theorem dX8_panel_46 : decode cX8_panel 46 = .ok (.bipush (-4), 2) := by decide +kernel
theorem dX8_panel_48 : decode cX8_panel 48 = .ok (.ireturn, 1) := by decide +kernel
theorem dX8_panel_49 : decode cX8_panel 49 = .ok (.aload_n 0, 1) := by decide +kernel
theorem dX8_panel_50 : decode cX8_panel 50 = .ok (.getfield 10, 3) := by decide +kernel
theorem dX8_panel_53 : decode cX8_panel 53 = .ok (.iload_n 1, 1) := by decide +kernel
theorem dX8_panel_54 : decode cX8_panel 54 = .ok (.iload_n 2, 1) := by decide +kernel
theorem dX8_panel_55 : decode cX8_panel 55 = .ok (.iload_n 3, 1) := by decide +kernel
theorem dX8_panel_56 : decode cX8_panel 56 = .ok (.iload 4, 2) := by decide +kernel
theorem dX8_panel_58 : decode cX8_panel 58 = .ok (.invokevirtual 68, 3) := by decide +kernel
theorem dX8_panel_61 : decode cX8_panel 61 = .ok (.ireturn, 1) := by decide +kernel
theorem dX8_eye_0 : decode cX8_eye 0 = .ok (.iload_n 1, 1) := by decide +kernel
theorem dX8_eye_1 : decode cX8_eye 1 = .ok (.ifCond .ne 31, 3) := by decide +kernel
theorem dX8_eye_4 : decode cX8_eye 4 = .ok (.iload_n 2, 1) := by decide +kernel
theorem dX8_eye_5 : decode cX8_eye 5 = .ok (.iconst 1, 1) := by decide +kernel
theorem dX8_eye_6 : decode cX8_eye 6 = .ok (.bipush 90, 2) := by decide +kernel
theorem dX8_eye_8 : decode cX8_eye 8 = .ok (.invokestatic 72, 3) := by decide +kernel
theorem dX8_eye_11 : decode cX8_eye 11 = .ok (.ifCond .eq 21, 3) := by decide +kernel
theorem dX8_eye_14 : decode cX8_eye 14 = .ok (.aload_n 0, 1) := by decide +kernel
theorem dX8_eye_15 : decode cX8_eye 15 = .ok (.getfield 10, 3) := by decide +kernel
theorem dX8_eye_18 : decode cX8_eye 18 = .ok (.getfield 76, 3) := by decide +kernel
theorem dX8_eye_21 : decode cX8_eye 21 = .ok (.istore_n 3, 1) := by decide +kernel
theorem dX8_eye_22 : decode cX8_eye 22 = .ok (.aload_n 0, 1) := by decide +kernel
theorem dX8_eye_23 : decode cX8_eye 23 = .ok (.getfield 10, 3) := by decide +kernel
theorem dX8_eye_26 : decode cX8_eye 26 = .ok (.iload_n 2, 1) := by decide +kernel
theorem dX8_eye_27 : decode cX8_eye 27 = .ok (.putfield 76, 3) := by decide +kernel
theorem dX8_eye_30 : decode cX8_eye 30 = .ok (.iload_n 3, 1) := by decide +kernel
theorem dX8_eye_31 : decode cX8_eye 31 = .ok (.ireturn, 1) := by decide +kernel
theorem dX8_eye_32 : decode cX8_eye 32 = .ok (.iload_n 1, 1) := by decide +kernel
theorem dX8_eye_33 : decode cX8_eye 33 = .ok (.iconst 1, 1) := by decide +kernel
theorem dX8_eye_34 : decode cX8_eye 34 = .ok (.if_icmp .ne 31, 3) := by decide +kernel
theorem dX8_eye_37 : decode cX8_eye 37 = .ok (.iload_n 2, 1) := by decide +kernel
theorem dX8_eye_38 : decode cX8_eye 38 = .ok (.iconst 0, 1) := by decide +kernel
theorem dX8_eye_39 : decode cX8_eye 39 = .ok (.bipush 100, 2) := by decide +kernel
theorem dX8_eye_41 : decode cX8_eye 41 = .ok (.invokestatic 72, 3) := by decide +kernel
theorem dX8_eye_44 : decode cX8_eye 44 = .ok (.ifCond .eq 21, 3) := by decide +kernel
theorem dX8_eye_47 : decode cX8_eye 47 = .ok (.aload_n 0, 1) := by decide +kernel
theorem dX8_eye_48 : decode cX8_eye 48 = .ok (.getfield 10, 3) := by decide +kernel
theorem dX8_eye_51 : decode cX8_eye 51 = .ok (.getfield 79, 3) := by decide +kernel
theorem dX8_eye_54 : decode cX8_eye 54 = .ok (.istore_n 3, 1) := by decide +kernel
theorem dX8_eye_55 : decode cX8_eye 55 = .ok (.aload_n 0, 1) := by decide +kernel
theorem dX8_eye_56 : decode cX8_eye 56 = .ok (.getfield 10, 3) := by decide +kernel
theorem dX8_eye_59 : decode cX8_eye 59 = .ok (.iload_n 2, 1) := by decide +kernel
theorem dX8_eye_60 : decode cX8_eye 60 = .ok (.putfield 79, 3) := by decide +kernel
theorem dX8_eye_63 : decode cX8_eye 63 = .ok (.iload_n 3, 1) := by decide +kernel
theorem dX8_eye_64 : decode cX8_eye 64 = .ok (.ireturn, 1) := by decide +kernel
theorem dX8_eye_65 : decode cX8_eye 65 = .ok (.bipush (-2), 2) := by decide +kernel
theorem dX8_eye_67 : decode cX8_eye 67 = .ok (.ireturn, 1) := by decide +kernel
theorem dX8_view_0 : decode cX8_view 0 = .ok (.iload_n 1, 1) := by decide +kernel
theorem dX8_view_1 : decode cX8_view 1 = .ok (.iload_n 2, 1) := by decide +kernel
theorem dX8_view_2 : decode cX8_view 2 = .ok (.invokestatic 60, 3) := by decide +kernel
theorem dX8_view_5 : decode cX8_view 5 = .ok (.ifCond .ne 6, 3) := by decide +kernel
theorem dX8_view_8 : decode cX8_view 8 = .ok (.bipush (-2), 2) := by decide +kernel
theorem dX8_view_10 : decode cX8_view 10 = .ok (.ireturn, 1) := by decide +kernel
theorem dX8_view_11 : decode cX8_view 11 = .ok (.aload_n 0, 1) := by decide +kernel
theorem dX8_view_12 : decode cX8_view 12 = .ok (.getfield 21, 3) := by decide +kernel
theorem dX8_view_15 : decode cX8_view 15 = .ok (.getfield 82, 3) := by decide +kernel
theorem dX8_view_18 : decode cX8_view 18 = .ok (.bipush 10, 2) := by decide +kernel
theorem dX8_view_20 : decode cX8_view 20 = .ok (.if_icmp .lt 6, 3) := by decide +kernel
theorem dX8_view_23 : decode cX8_view 23 = .ok (.bipush (-4), 2) := by decide +kernel
theorem dX8_view_25 : decode cX8_view 25 = .ok (.ireturn, 1) := by decide +kernel
theorem dX8_view_26 : decode cX8_view 26 = .ok (.aload_n 0, 1) := by decide +kernel
theorem dX8_view_27 : decode cX8_view 27 = .ok (.getfield 21, 3) := by decide +kernel
theorem dX8_view_30 : decode cX8_view 30 = .ok (.iload_n 1, 1) := by decide +kernel
theorem dX8_view_31 : decode cX8_view 31 = .ok (.iload_n 2, 1) := by decide +kernel
theorem dX8_view_32 : decode cX8_view 32 = .ok (.invokevirtual 83, 3) := by decide +kernel
theorem dX8_view_35 : decode cX8_view 35 = .ok (.ireturn, 1) := by decide +kernel
theorem dX8_seen_0 : decode cX8_seen 0 = .ok (.iload_n 1, 1) := by decide +kernel
theorem dX8_seen_1 : decode cX8_seen 1 = .ok (.iload_n 2, 1) := by decide +kernel
theorem dX8_seen_2 : decode cX8_seen 2 = .ok (.invokestatic 60, 3) := by decide +kernel
theorem dX8_seen_5 : decode cX8_seen 5 = .ok (.ifCond .ne 6, 3) := by decide +kernel
theorem dX8_seen_8 : decode cX8_seen 8 = .ok (.bipush (-2), 2) := by decide +kernel
theorem dX8_seen_10 : decode cX8_seen 10 = .ok (.ireturn, 1) := by decide +kernel
theorem dX8_seen_11 : decode cX8_seen 11 = .ok (.aload_n 0, 1) := by decide +kernel
theorem dX8_seen_12 : decode cX8_seen 12 = .ok (.iload_n 3, 1) := by decide +kernel
theorem dX8_seen_13 : decode cX8_seen 13 = .ok (.invokevirtual 86, 3) := by decide +kernel
theorem dX8_seen_16 : decode cX8_seen 16 = .ok (.ifCond .ne 5, 3) := by decide +kernel
theorem dX8_seen_19 : decode cX8_seen 19 = .ok (.iconst (-1), 1) := by decide +kernel
theorem dX8_seen_20 : decode cX8_seen 20 = .ok (.ireturn, 1) := by decide +kernel
theorem dX8_seen_21 : decode cX8_seen 21 = .ok (.aload_n 0, 1) := by decide +kernel
theorem dX8_seen_22 : decode cX8_seen 22 = .ok (.getfield 10, 3) := by decide +kernel
theorem dX8_seen_25 : decode cX8_seen 25 = .ok (.iload_n 1, 1) := by decide +kernel
theorem dX8_seen_26 : decode cX8_seen 26 = .ok (.iload_n 2, 1) := by decide +kernel
theorem dX8_seen_27 : decode cX8_seen 27 = .ok (.iload_n 3, 1) := by decide +kernel
theorem dX8_seen_28 : decode cX8_seen 28 = .ok (.invokevirtual 90, 3) := by decide +kernel
theorem dX8_seen_31 : decode cX8_seen 31 = .ok (.invokestatic 93, 3) := by decide +kernel
theorem dX8_seen_34 : decode cX8_seen 34 = .ok (.ireturn, 1) := by decide +kernel
theorem dX8_sees_0 : decode cX8_sees 0 = .ok (.iload_n 1, 1) := by decide +kernel
theorem dX8_sees_1 : decode cX8_sees 1 = .ok (.ifCond .lt 14, 3) := by decide +kernel
theorem dX8_sees_4 : decode cX8_sees 4 = .ok (.iload_n 1, 1) := by decide +kernel
theorem dX8_sees_5 : decode cX8_sees 5 = .ok (.aload_n 0, 1) := by decide +kernel
theorem dX8_sees_6 : decode cX8_sees 6 = .ok (.getfield 21, 3) := by decide +kernel
theorem dX8_sees_9 : decode cX8_sees 9 = .ok (.getfield 82, 3) := by decide +kernel
theorem dX8_sees_12 : decode cX8_sees 12 = .ok (.if_icmp .lt 5, 3) := by decide +kernel
theorem dX8_sees_15 : decode cX8_sees 15 = .ok (.iconst (-1), 1) := by decide +kernel
theorem dX8_sees_16 : decode cX8_sees 16 = .ok (.ireturn, 1) := by decide +kernel
theorem dX8_sees_17 : decode cX8_sees 17 = .ok (.aload_n 0, 1) := by decide +kernel
theorem dX8_sees_18 : decode cX8_sees 18 = .ok (.getfield 10, 3) := by decide +kernel
theorem dX8_sees_21 : decode cX8_sees 21 = .ok (.aload_n 0, 1) := by decide +kernel
theorem dX8_sees_22 : decode cX8_sees 22 = .ok (.getfield 21, 3) := by decide +kernel
theorem dX8_sees_25 : decode cX8_sees 25 = .ok (.getfield 97, 3) := by decide +kernel
theorem dX8_sees_28 : decode cX8_sees 28 = .ok (.iload_n 1, 1) := by decide +kernel
theorem dX8_sees_29 : decode cX8_sees 29 = .ok (.iaload, 1) := by decide +kernel
theorem dX8_sees_30 : decode cX8_sees 30 = .ok (.aload_n 0, 1) := by decide +kernel
theorem dX8_sees_31 : decode cX8_sees 31 = .ok (.getfield 21, 3) := by decide +kernel
theorem dX8_sees_34 : decode cX8_sees 34 = .ok (.getfield 101, 3) := by decide +kernel
theorem dX8_sees_37 : decode cX8_sees 37 = .ok (.iload_n 1, 1) := by decide +kernel
theorem dX8_sees_38 : decode cX8_sees 38 = .ok (.iaload, 1) := by decide +kernel
theorem dX8_sees_39 : decode cX8_sees 39 = .ok (.invokevirtual 104, 3) := by decide +kernel
theorem dX8_sees_42 : decode cX8_sees 42 = .ok (.ireturn, 1) := by decide +kernel
theorem dX8_cover_0 : decode cX8_cover 0 = .ok (.iload_n 1, 1) := by decide +kernel
theorem dX8_cover_1 : decode cX8_cover 1 = .ok (.iconst 1, 1) := by decide +kernel
theorem dX8_cover_2 : decode cX8_cover 2 = .ok (.iconst 3, 1) := by decide +kernel
theorem dX8_cover_3 : decode cX8_cover 3 = .ok (.invokestatic 72, 3) := by decide +kernel
theorem dX8_cover_6 : decode cX8_cover 6 = .ok (.ifCond .ne 6, 3) := by decide +kernel
theorem dX8_cover_9 : decode cX8_cover 9 = .ok (.bipush (-2), 2) := by decide +kernel
theorem dX8_cover_11 : decode cX8_cover 11 = .ok (.ireturn, 1) := by decide +kernel
theorem dX8_cover_12 : decode cX8_cover 12 = .ok (.aload_n 0, 1) := by decide +kernel
theorem dX8_cover_13 : decode cX8_cover 13 = .ok (.getfield 28, 3) := by decide +kernel
theorem dX8_cover_16 : decode cX8_cover 16 = .ok (.aload_n 0, 1) := by decide +kernel
theorem dX8_cover_17 : decode cX8_cover 17 = .ok (.getfield 10, 3) := by decide +kernel
theorem dX8_cover_20 : decode cX8_cover 20 = .ok (.aload_n 0, 1) := by decide +kernel
theorem dX8_cover_21 : decode cX8_cover 21 = .ok (.getfield 21, 3) := by decide +kernel
theorem dX8_cover_24 : decode cX8_cover 24 = .ok (.invokevirtual 107, 3) := by decide +kernel
theorem dX8_cover_27 : decode cX8_cover 27 = .ok (.aload_n 0, 1) := by decide +kernel
theorem dX8_cover_28 : decode cX8_cover 28 = .ok (.getfield 28, 3) := by decide +kernel
theorem dX8_cover_31 : decode cX8_cover 31 = .ok (.iload_n 1, 1) := by decide +kernel
theorem dX8_cover_32 : decode cX8_cover 32 = .ok (.iconst 1, 1) := by decide +kernel
theorem dX8_cover_33 : decode cX8_cover 33 = .ok (.aload_n 0, 1) := by decide +kernel
theorem dX8_cover_34 : decode cX8_cover 34 = .ok (.getfield 21, 3) := by decide +kernel
theorem dX8_cover_37 : decode cX8_cover 37 = .ok (.getfield 82, 3) := by decide +kernel
theorem dX8_cover_40 : decode cX8_cover 40 = .ok (.ishl, 1) := by decide +kernel
theorem dX8_cover_41 : decode cX8_cover 41 = .ok (.invokevirtual 111, 3) := by decide +kernel
theorem dX8_cover_44 : decode cX8_cover 44 = .ok (.ireturn, 1) := by decide +kernel
theorem dX8_covers_0 : decode cX8_covers 0 = .ok (.aload_n 0, 1) := by decide +kernel
theorem dX8_covers_1 : decode cX8_covers 1 = .ok (.iload_n 1, 1) := by decide +kernel
theorem dX8_covers_2 : decode cX8_covers 2 = .ok (.invokevirtual 114, 3) := by decide +kernel
theorem dX8_covers_5 : decode cX8_covers 5 = .ok (.ifCond .ne 5, 3) := by decide +kernel
theorem dX8_covers_8 : decode cX8_covers 8 = .ok (.iconst (-1), 1) := by decide +kernel
theorem dX8_covers_9 : decode cX8_covers 9 = .ok (.ireturn, 1) := by decide +kernel
theorem dX8_covers_10 : decode cX8_covers 10 = .ok (.iload_n 2, 1) := by decide +kernel
theorem dX8_covers_11 : decode cX8_covers 11 = .ok (.iconst 1, 1) := by decide +kernel
theorem dX8_covers_12 : decode cX8_covers 12 = .ok (.iconst 3, 1) := by decide +kernel
theorem dX8_covers_13 : decode cX8_covers 13 = .ok (.invokestatic 72, 3) := by decide +kernel
theorem dX8_covers_16 : decode cX8_covers 16 = .ok (.ifCond .ne 6, 3) := by decide +kernel
theorem dX8_covers_19 : decode cX8_covers 19 = .ok (.bipush (-2), 2) := by decide +kernel
theorem dX8_covers_21 : decode cX8_covers 21 = .ok (.ireturn, 1) := by decide +kernel
theorem dX8_covers_22 : decode cX8_covers 22 = .ok (.aload_n 0, 1) := by decide +kernel
theorem dX8_covers_23 : decode cX8_covers 23 = .ok (.getfield 28, 3) := by decide +kernel
theorem dX8_covers_26 : decode cX8_covers 26 = .ok (.aload_n 0, 1) := by decide +kernel
theorem dX8_covers_27 : decode cX8_covers 27 = .ok (.getfield 10, 3) := by decide +kernel
theorem dX8_covers_30 : decode cX8_covers 30 = .ok (.aload_n 0, 1) := by decide +kernel
theorem dX8_covers_31 : decode cX8_covers 31 = .ok (.getfield 21, 3) := by decide +kernel
theorem dX8_covers_34 : decode cX8_covers 34 = .ok (.invokevirtual 107, 3) := by decide +kernel
theorem dX8_covers_37 : decode cX8_covers 37 = .ok (.aload_n 0, 1) := by decide +kernel
theorem dX8_covers_38 : decode cX8_covers 38 = .ok (.getfield 28, 3) := by decide +kernel
theorem dX8_covers_41 : decode cX8_covers 41 = .ok (.iload_n 1, 1) := by decide +kernel
theorem dX8_covers_42 : decode cX8_covers 42 = .ok (.invokevirtual 117, 3) := by decide +kernel
theorem dX8_covers_45 : decode cX8_covers 45 = .ok (.iload_n 2, 1) := by decide +kernel
theorem dX8_covers_46 : decode cX8_covers 46 = .ok (.if_icmp .lt 7, 3) := by decide +kernel
theorem dX8_covers_49 : decode cX8_covers 49 = .ok (.iconst 1, 1) := by decide +kernel
theorem dX8_covers_50 : decode cX8_covers 50 = .ok (.goto 4, 3) := by decide +kernel
theorem dX8_covers_53 : decode cX8_covers 53 = .ok (.iconst 0, 1) := by decide +kernel
theorem dX8_covers_54 : decode cX8_covers 54 = .ok (.invokestatic 93, 3) := by decide +kernel
theorem dX8_covers_57 : decode cX8_covers 57 = .ok (.ireturn, 1) := by decide +kernel
theorem dX8_times_0 : decode cX8_times 0 = .ok (.aload_n 0, 1) := by decide +kernel
theorem dX8_times_1 : decode cX8_times 1 = .ok (.iload_n 1, 1) := by decide +kernel
theorem dX8_times_2 : decode cX8_times 2 = .ok (.invokevirtual 114, 3) := by decide +kernel
theorem dX8_times_5 : decode cX8_times 5 = .ok (.ifCond .ne 5, 3) := by decide +kernel
theorem dX8_times_8 : decode cX8_times 8 = .ok (.iconst (-1), 1) := by decide +kernel
theorem dX8_times_9 : decode cX8_times 9 = .ok (.ireturn, 1) := by decide +kernel
theorem dX8_times_10 : decode cX8_times 10 = .ok (.aload_n 0, 1) := by decide +kernel
theorem dX8_times_11 : decode cX8_times 11 = .ok (.getfield 10, 3) := by decide +kernel
theorem dX8_times_14 : decode cX8_times 14 = .ok (.getfield 64, 3) := by decide +kernel
theorem dX8_times_17 : decode cX8_times 17 = .ok (.ifCond .ne 6, 3) := by decide +kernel
theorem dX8_times_20 : decode cX8_times 20 = .ok (.bipush (-9), 2) := by decide +kernel
theorem dX8_times_22 : decode cX8_times 22 = .ok (.ireturn, 1) := by decide +kernel
theorem dX8_times_23 : decode cX8_times 23 = .ok (.aload_n 0, 1) := by decide +kernel
theorem dX8_times_24 : decode cX8_times 24 = .ok (.getfield 28, 3) := by decide +kernel
theorem dX8_times_27 : decode cX8_times 27 = .ok (.aload_n 0, 1) := by decide +kernel
theorem dX8_times_28 : decode cX8_times 28 = .ok (.getfield 10, 3) := by decide +kernel
theorem dX8_times_31 : decode cX8_times 31 = .ok (.aload_n 0, 1) := by decide +kernel
theorem dX8_times_32 : decode cX8_times 32 = .ok (.getfield 21, 3) := by decide +kernel
theorem dX8_times_35 : decode cX8_times 35 = .ok (.invokevirtual 107, 3) := by decide +kernel
theorem dX8_times_38 : decode cX8_times 38 = .ok (.aload_n 0, 1) := by decide +kernel
theorem dX8_times_39 : decode cX8_times 39 = .ok (.getfield 28, 3) := by decide +kernel
theorem dX8_times_42 : decode cX8_times 42 = .ok (.iload_n 1, 1) := by decide +kernel
theorem dX8_times_43 : decode cX8_times 43 = .ok (.invokevirtual 117, 3) := by decide +kernel
theorem dX8_times_46 : decode cX8_times 46 = .ok (.ireturn, 1) := by decide +kernel
theorem dX8_close_0 : decode cX8_close 0 = .ok (.iload_n 1, 1) := by decide +kernel
theorem dX8_close_1 : decode cX8_close 1 = .ok (.iload_n 2, 1) := by decide +kernel
theorem dX8_close_2 : decode cX8_close 2 = .ok (.invokestatic 60, 3) := by decide +kernel
theorem dX8_close_5 : decode cX8_close 5 = .ok (.ifCond .eq 12, 3) := by decide +kernel
theorem dX8_close_8 : decode cX8_close 8 = .ok (.iload_n 3, 1) := by decide +kernel
theorem dX8_close_9 : decode cX8_close 9 = .ok (.iload 4, 2) := by decide +kernel
theorem dX8_close_11 : decode cX8_close 11 = .ok (.invokestatic 60, 3) := by decide +kernel
theorem dX8_close_14 : decode cX8_close 14 = .ok (.ifCond .ne 6, 3) := by decide +kernel
theorem dX8_close_17 : decode cX8_close 17 = .ok (.bipush (-2), 2) := by decide +kernel
theorem dX8_close_19 : decode cX8_close 19 = .ok (.ireturn, 1) := by decide +kernel
theorem dX8_close_20 : decode cX8_close 20 = .ok (.iload_n 3, 1) := by decide +kernel
theorem dX8_close_21 : decode cX8_close 21 = .ok (.iload_n 1, 1) := by decide +kernel
theorem dX8_close_22 : decode cX8_close 22 = .ok (.if_icmp .le 9, 3) := by decide +kernel
theorem dX8_close_25 : decode cX8_close 25 = .ok (.iload 4, 2) := by decide +kernel
theorem dX8_close_27 : decode cX8_close 27 = .ok (.iload_n 2, 1) := by decide +kernel
theorem dX8_close_28 : decode cX8_close 28 = .ok (.if_icmp .gt 6, 3) := by decide +kernel
theorem dX8_close_31 : decode cX8_close 31 = .ok (.bipush (-3), 2) := by decide +kernel
theorem dX8_close_33 : decode cX8_close 33 = .ok (.ireturn, 1) := by decide +kernel
theorem dX8_close_34 : decode cX8_close 34 = .ok (.aload_n 0, 1) := by decide +kernel
theorem dX8_close_35 : decode cX8_close 35 = .ok (.getfield 35, 3) := by decide +kernel
theorem dX8_close_38 : decode cX8_close 38 = .ok (.getfield 121, 3) := by decide +kernel
theorem dX8_close_41 : decode cX8_close 41 = .ok (.iconst 4, 1) := by decide +kernel
theorem dX8_close_42 : decode cX8_close 42 = .ok (.if_icmp .lt 6, 3) := by decide +kernel
theorem dX8_close_45 : decode cX8_close 45 = .ok (.bipush (-4), 2) := by decide +kernel
theorem dX8_close_47 : decode cX8_close 47 = .ok (.ireturn, 1) := by decide +kernel
theorem dX8_close_48 : decode cX8_close 48 = .ok (.aload_n 0, 1) := by decide +kernel
theorem dX8_close_49 : decode cX8_close 49 = .ok (.getfield 35, 3) := by decide +kernel
theorem dX8_close_52 : decode cX8_close 52 = .ok (.iload_n 1, 1) := by decide +kernel
theorem dX8_close_53 : decode cX8_close 53 = .ok (.iload_n 2, 1) := by decide +kernel
theorem dX8_close_54 : decode cX8_close 54 = .ok (.iload_n 3, 1) := by decide +kernel
theorem dX8_close_55 : decode cX8_close 55 = .ok (.iload 4, 2) := by decide +kernel
theorem dX8_close_57 : decode cX8_close 57 = .ok (.invokevirtual 122, 3) := by decide +kernel
theorem dX8_close_60 : decode cX8_close 60 = .ok (.aload_n 0, 1) := by decide +kernel
theorem dX8_close_61 : decode cX8_close 61 = .ok (.invokevirtual 125, 3) := by decide +kernel
theorem dX8_close_64 : decode cX8_close 64 = .ok (.aload_n 0, 1) := by decide +kernel
theorem dX8_close_65 : decode cX8_close 65 = .ok (.getfield 35, 3) := by decide +kernel
theorem dX8_close_68 : decode cX8_close 68 = .ok (.getfield 121, 3) := by decide +kernel
theorem dX8_close_71 : decode cX8_close 71 = .ok (.ireturn, 1) := by decide +kernel
theorem dX8_open_0 : decode cX8_open 0 = .ok (.aload_n 0, 1) := by decide +kernel
theorem dX8_open_1 : decode cX8_open 1 = .ok (.getfield 35, 3) := by decide +kernel
theorem dX8_open_4 : decode cX8_open 4 = .ok (.getfield 121, 3) := by decide +kernel
theorem dX8_open_7 : decode cX8_open 7 = .ok (.ifCond .ne 6, 3) := by decide +kernel
theorem dX8_open_10 : decode cX8_open 10 = .ok (.bipush (-3), 2) := by decide +kernel
theorem dX8_open_12 : decode cX8_open 12 = .ok (.ireturn, 1) := by decide +kernel
theorem dX8_open_13 : decode cX8_open 13 = .ok (.aload_n 0, 1) := by decide +kernel
theorem dX8_open_14 : decode cX8_open 14 = .ok (.getfield 35, 3) := by decide +kernel
theorem dX8_open_17 : decode cX8_open 17 = .ok (.dup, 1) := by decide +kernel
theorem dX8_open_18 : decode cX8_open 18 = .ok (.getfield 121, 3) := by decide +kernel
theorem dX8_open_21 : decode cX8_open 21 = .ok (.iconst 1, 1) := by decide +kernel
theorem dX8_open_22 : decode cX8_open 22 = .ok (.isub, 1) := by decide +kernel
theorem dX8_open_23 : decode cX8_open 23 = .ok (.putfield 121, 3) := by decide +kernel
theorem dX8_open_26 : decode cX8_open 26 = .ok (.aload_n 0, 1) := by decide +kernel
theorem dX8_open_27 : decode cX8_open 27 = .ok (.invokevirtual 125, 3) := by decide +kernel
theorem dX8_open_30 : decode cX8_open 30 = .ok (.aload_n 0, 1) := by decide +kernel
theorem dX8_open_31 : decode cX8_open 31 = .ok (.getfield 35, 3) := by decide +kernel
theorem dX8_open_34 : decode cX8_open 34 = .ok (.getfield 121, 3) := by decide +kernel
theorem dX8_open_37 : decode cX8_open 37 = .ok (.ireturn, 1) := by decide +kernel
theorem dX8_wind_0 : decode cX8_wind 0 = .ok (.iload_n 1, 1) := by decide +kernel
theorem dX8_wind_1 : decode cX8_wind 1 = .ok (.bipush (-9), 2) := by decide +kernel
theorem dX8_wind_3 : decode cX8_wind 3 = .ok (.bipush 9, 2) := by decide +kernel
theorem dX8_wind_5 : decode cX8_wind 5 = .ok (.invokestatic 72, 3) := by decide +kernel
theorem dX8_wind_8 : decode cX8_wind 8 = .ok (.ifCond .eq 14, 3) := by decide +kernel
theorem dX8_wind_11 : decode cX8_wind 11 = .ok (.iload_n 2, 1) := by decide +kernel
theorem dX8_wind_12 : decode cX8_wind 12 = .ok (.bipush (-9), 2) := by decide +kernel
theorem dX8_wind_14 : decode cX8_wind 14 = .ok (.bipush 9, 2) := by decide +kernel
theorem dX8_wind_16 : decode cX8_wind 16 = .ok (.invokestatic 72, 3) := by decide +kernel
theorem dX8_wind_19 : decode cX8_wind 19 = .ok (.ifCond .ne 6, 3) := by decide +kernel
theorem dX8_wind_22 : decode cX8_wind 22 = .ok (.bipush (-2), 2) := by decide +kernel
theorem dX8_wind_24 : decode cX8_wind 24 = .ok (.ireturn, 1) := by decide +kernel
theorem dX8_wind_25 : decode cX8_wind 25 = .ok (.bipush 100, 2) := by decide +kernel
theorem dX8_wind_27 : decode cX8_wind 27 = .ok (.aload_n 0, 1) := by decide +kernel
theorem dX8_wind_28 : decode cX8_wind 28 = .ok (.getfield 35, 3) := by decide +kernel
theorem dX8_wind_31 : decode cX8_wind 31 = .ok (.getfield 128, 3) := by decide +kernel
theorem dX8_wind_34 : decode cX8_wind 34 = .ok (.imul, 1) := by decide +kernel
theorem dX8_wind_35 : decode cX8_wind 35 = .ok (.aload_n 0, 1) := by decide +kernel
theorem dX8_wind_36 : decode cX8_wind 36 = .ok (.getfield 35, 3) := by decide +kernel
theorem dX8_wind_39 : decode cX8_wind 39 = .ok (.getfield 131, 3) := by decide +kernel
theorem dX8_wind_42 : decode cX8_wind 42 = .ok (.iadd, 1) := by decide +kernel
theorem dX8_wind_43 : decode cX8_wind 43 = .ok (.sipush 909, 3) := by decide +kernel
theorem dX8_wind_46 : decode cX8_wind 46 = .ok (.iadd, 1) := by decide +kernel
theorem dX8_wind_47 : decode cX8_wind 47 = .ok (.istore_n 3, 1) := by decide +kernel
theorem dX8_wind_48 : decode cX8_wind 48 = .ok (.aload_n 0, 1) := by decide +kernel
theorem dX8_wind_49 : decode cX8_wind 49 = .ok (.getfield 35, 3) := by decide +kernel
theorem dX8_wind_52 : decode cX8_wind 52 = .ok (.iload_n 1, 1) := by decide +kernel
theorem dX8_wind_53 : decode cX8_wind 53 = .ok (.putfield 128, 3) := by decide +kernel
theorem dX8_wind_56 : decode cX8_wind 56 = .ok (.aload_n 0, 1) := by decide +kernel
theorem dX8_wind_57 : decode cX8_wind 57 = .ok (.getfield 35, 3) := by decide +kernel
theorem dX8_wind_60 : decode cX8_wind 60 = .ok (.iload_n 2, 1) := by decide +kernel
theorem dX8_wind_61 : decode cX8_wind 61 = .ok (.putfield 131, 3) := by decide +kernel
theorem dX8_wind_64 : decode cX8_wind 64 = .ok (.aload_n 0, 1) := by decide +kernel
theorem dX8_wind_65 : decode cX8_wind 65 = .ok (.invokevirtual 125, 3) := by decide +kernel
theorem dX8_wind_68 : decode cX8_wind 68 = .ok (.iload_n 3, 1) := by decide +kernel
theorem dX8_wind_69 : decode cX8_wind 69 = .ok (.ireturn, 1) := by decide +kernel
theorem dX8_base_0 : decode cX8_base 0 = .ok (.iload_n 1, 1) := by decide +kernel
theorem dX8_base_1 : decode cX8_base 1 = .ok (.iload_n 2, 1) := by decide +kernel
theorem dX8_base_2 : decode cX8_base 2 = .ok (.invokestatic 60, 3) := by decide +kernel
theorem dX8_base_5 : decode cX8_base 5 = .ok (.ifCond .ne 6, 3) := by decide +kernel
theorem dX8_base_8 : decode cX8_base 8 = .ok (.bipush (-2), 2) := by decide +kernel
theorem dX8_base_10 : decode cX8_base 10 = .ok (.ireturn, 1) := by decide +kernel
theorem dX8_base_11 : decode cX8_base 11 = .ok (.bipush 100, 2) := by decide +kernel
theorem dX8_base_13 : decode cX8_base 13 = .ok (.aload_n 0, 1) := by decide +kernel
theorem dX8_base_14 : decode cX8_base 14 = .ok (.getfield 42, 3) := by decide +kernel
theorem dX8_base_17 : decode cX8_base 17 = .ok (.getfield 134, 3) := by decide +kernel
theorem dX8_base_20 : decode cX8_base 20 = .ok (.imul, 1) := by decide +kernel
theorem dX8_base_21 : decode cX8_base 21 = .ok (.aload_n 0, 1) := by decide +kernel
theorem dX8_base_22 : decode cX8_base 22 = .ok (.getfield 42, 3) := by decide +kernel
theorem dX8_base_25 : decode cX8_base 25 = .ok (.getfield 137, 3) := by decide +kernel
theorem dX8_base_28 : decode cX8_base 28 = .ok (.iadd, 1) := by decide +kernel
theorem dX8_base_29 : decode cX8_base 29 = .ok (.istore_n 3, 1) := by decide +kernel
theorem dX8_base_30 : decode cX8_base 30 = .ok (.aload_n 0, 1) := by decide +kernel
theorem dX8_base_31 : decode cX8_base 31 = .ok (.getfield 42, 3) := by decide +kernel
theorem dX8_base_34 : decode cX8_base 34 = .ok (.iload_n 1, 1) := by decide +kernel
theorem dX8_base_35 : decode cX8_base 35 = .ok (.putfield 134, 3) := by decide +kernel
theorem dX8_base_38 : decode cX8_base 38 = .ok (.aload_n 0, 1) := by decide +kernel
theorem dX8_base_39 : decode cX8_base 39 = .ok (.getfield 42, 3) := by decide +kernel
theorem dX8_base_42 : decode cX8_base 42 = .ok (.iload_n 2, 1) := by decide +kernel
theorem dX8_base_43 : decode cX8_base 43 = .ok (.putfield 137, 3) := by decide +kernel
theorem dX8_base_46 : decode cX8_base 46 = .ok (.aload_n 0, 1) := by decide +kernel
theorem dX8_base_47 : decode cX8_base 47 = .ok (.invokevirtual 125, 3) := by decide +kernel
theorem dX8_base_50 : decode cX8_base 50 = .ok (.iload_n 3, 1) := by decide +kernel
theorem dX8_base_51 : decode cX8_base 51 = .ok (.ireturn, 1) := by decide +kernel
theorem dX8_store_0 : decode cX8_store 0 = .ok (.iload_n 1, 1) := by decide +kernel
theorem dX8_store_1 : decode cX8_store 1 = .ok (.ifCond .ne 36, 3) := by decide +kernel
theorem dX8_store_4 : decode cX8_store 4 = .ok (.iload_n 2, 1) := by decide +kernel
theorem dX8_store_5 : decode cX8_store 5 = .ok (.iconst 1, 1) := by decide +kernel
theorem dX8_store_6 : decode cX8_store 6 = .ok (.sipush 30000, 3) := by decide +kernel
theorem dX8_store_9 : decode cX8_store 9 = .ok (.invokestatic 72, 3) := by decide +kernel
theorem dX8_store_12 : decode cX8_store 12 = .ok (.ifCond .eq 25, 3) := by decide +kernel
theorem dX8_store_15 : decode cX8_store 15 = .ok (.aload_n 0, 1) := by decide +kernel
theorem dX8_store_16 : decode cX8_store 16 = .ok (.getfield 42, 3) := by decide +kernel
theorem dX8_store_19 : decode cX8_store 19 = .ok (.getfield 140, 3) := by decide +kernel
theorem dX8_store_22 : decode cX8_store 22 = .ok (.istore_n 3, 1) := by decide +kernel
theorem dX8_store_23 : decode cX8_store 23 = .ok (.aload_n 0, 1) := by decide +kernel
theorem dX8_store_24 : decode cX8_store 24 = .ok (.getfield 42, 3) := by decide +kernel
theorem dX8_store_27 : decode cX8_store 27 = .ok (.iload_n 2, 1) := by decide +kernel
theorem dX8_store_28 : decode cX8_store 28 = .ok (.putfield 140, 3) := by decide +kernel
theorem dX8_store_31 : decode cX8_store 31 = .ok (.aload_n 0, 1) := by decide +kernel
theorem dX8_store_32 : decode cX8_store 32 = .ok (.invokevirtual 125, 3) := by decide +kernel
theorem dX8_store_35 : decode cX8_store 35 = .ok (.iload_n 3, 1) := by decide +kernel
theorem dX8_store_36 : decode cX8_store 36 = .ok (.ireturn, 1) := by decide +kernel
theorem dX8_store_37 : decode cX8_store 37 = .ok (.iload_n 1, 1) := by decide +kernel
theorem dX8_store_38 : decode cX8_store 38 = .ok (.iconst 1, 1) := by decide +kernel
theorem dX8_store_39 : decode cX8_store 39 = .ok (.if_icmp .ne 36, 3) := by decide +kernel
theorem dX8_store_42 : decode cX8_store 42 = .ok (.iload_n 2, 1) := by decide +kernel
theorem dX8_store_43 : decode cX8_store 43 = .ok (.iconst 0, 1) := by decide +kernel
theorem dX8_store_44 : decode cX8_store 44 = .ok (.sipush 500, 3) := by decide +kernel
theorem dX8_store_47 : decode cX8_store 47 = .ok (.invokestatic 72, 3) := by decide +kernel
theorem dX8_store_50 : decode cX8_store 50 = .ok (.ifCond .eq 25, 3) := by decide +kernel
theorem dX8_store_53 : decode cX8_store 53 = .ok (.aload_n 0, 1) := by decide +kernel
theorem dX8_store_54 : decode cX8_store 54 = .ok (.getfield 42, 3) := by decide +kernel
theorem dX8_store_57 : decode cX8_store 57 = .ok (.getfield 143, 3) := by decide +kernel
theorem dX8_store_60 : decode cX8_store 60 = .ok (.istore_n 3, 1) := by decide +kernel
theorem dX8_store_61 : decode cX8_store 61 = .ok (.aload_n 0, 1) := by decide +kernel
theorem dX8_store_62 : decode cX8_store 62 = .ok (.getfield 42, 3) := by decide +kernel
theorem dX8_store_65 : decode cX8_store 65 = .ok (.iload_n 2, 1) := by decide +kernel
theorem dX8_store_66 : decode cX8_store 66 = .ok (.putfield 143, 3) := by decide +kernel
theorem dX8_store_69 : decode cX8_store 69 = .ok (.aload_n 0, 1) := by decide +kernel
theorem dX8_store_70 : decode cX8_store 70 = .ok (.invokevirtual 125, 3) := by decide +kernel
theorem dX8_store_73 : decode cX8_store 73 = .ok (.iload_n 3, 1) := by decide +kernel
theorem dX8_store_74 : decode cX8_store 74 = .ok (.ireturn, 1) := by decide +kernel
theorem dX8_store_75 : decode cX8_store 75 = .ok (.bipush (-2), 2) := by decide +kernel
theorem dX8_store_77 : decode cX8_store 77 = .ok (.ireturn, 1) := by decide +kernel
theorem dX8_leg_0 : decode cX8_leg 0 = .ok (.iload_n 1, 1) := by decide +kernel
theorem dX8_leg_1 : decode cX8_leg 1 = .ok (.iload_n 2, 1) := by decide +kernel
theorem dX8_leg_2 : decode cX8_leg 2 = .ok (.invokestatic 60, 3) := by decide +kernel
theorem dX8_leg_5 : decode cX8_leg 5 = .ok (.ifCond .eq 12, 3) := by decide +kernel
theorem dX8_leg_8 : decode cX8_leg 8 = .ok (.iload_n 3, 1) := by decide +kernel
theorem dX8_leg_9 : decode cX8_leg 9 = .ok (.iload 4, 2) := by decide +kernel
theorem dX8_leg_11 : decode cX8_leg 11 = .ok (.invokestatic 60, 3) := by decide +kernel
theorem dX8_leg_14 : decode cX8_leg 14 = .ok (.ifCond .ne 6, 3) := by decide +kernel
theorem dX8_leg_17 : decode cX8_leg 17 = .ok (.bipush (-2), 2) := by decide +kernel
theorem dX8_leg_19 : decode cX8_leg 19 = .ok (.ireturn, 1) := by decide +kernel
theorem dX8_leg_20 : decode cX8_leg 20 = .ok (.aload_n 0, 1) := by decide +kernel
theorem dX8_leg_21 : decode cX8_leg 21 = .ok (.getfield 35, 3) := by decide +kernel
theorem dX8_leg_24 : decode cX8_leg 24 = .ok (.iload_n 1, 1) := by decide +kernel
theorem dX8_leg_25 : decode cX8_leg 25 = .ok (.iload_n 2, 1) := by decide +kernel
theorem dX8_leg_26 : decode cX8_leg 26 = .ok (.iload_n 3, 1) := by decide +kernel
theorem dX8_leg_27 : decode cX8_leg 27 = .ok (.iload 4, 2) := by decide +kernel
theorem dX8_leg_29 : decode cX8_leg 29 = .ok (.invokevirtual 146, 3) := by decide +kernel
theorem dX8_leg_32 : decode cX8_leg 32 = .ok (.ifCond .eq 6, 3) := by decide +kernel
theorem dX8_leg_35 : decode cX8_leg 35 = .ok (.bipush (-9), 2) := by decide +kernel
theorem dX8_leg_37 : decode cX8_leg 37 = .ok (.ireturn, 1) := by decide +kernel
theorem dX8_leg_38 : decode cX8_leg 38 = .ok (.aload_n 0, 1) := by decide +kernel
theorem dX8_leg_39 : decode cX8_leg 39 = .ok (.getfield 35, 3) := by decide +kernel
theorem dX8_leg_42 : decode cX8_leg 42 = .ok (.iload_n 3, 1) := by decide +kernel
theorem dX8_leg_43 : decode cX8_leg 43 = .ok (.iload_n 1, 1) := by decide +kernel
theorem dX8_leg_44 : decode cX8_leg 44 = .ok (.isub, 1) := by decide +kernel
theorem dX8_leg_45 : decode cX8_leg 45 = .ok (.iload 4, 2) := by decide +kernel
theorem dX8_leg_47 : decode cX8_leg 47 = .ok (.iload_n 2, 1) := by decide +kernel
theorem dX8_leg_48 : decode cX8_leg 48 = .ok (.isub, 1) := by decide +kernel
theorem dX8_leg_49 : decode cX8_leg 49 = .ok (.invokevirtual 150, 3) := by decide +kernel
theorem dX8_leg_52 : decode cX8_leg 52 = .ok (.ireturn, 1) := by decide +kernel
theorem dX8_round_0 : decode cX8_round 0 = .ok (.aload_n 0, 1) := by decide +kernel
theorem dX8_round_1 : decode cX8_round 1 = .ok (.iload_n 1, 1) := by decide +kernel
theorem dX8_round_2 : decode cX8_round 2 = .ok (.invokevirtual 114, 3) := by decide +kernel
theorem dX8_round_5 : decode cX8_round 5 = .ok (.ifCond .ne 5, 3) := by decide +kernel
theorem dX8_round_8 : decode cX8_round 8 = .ok (.iconst (-1), 1) := by decide +kernel
theorem dX8_round_9 : decode cX8_round 9 = .ok (.ireturn, 1) := by decide +kernel
theorem dX8_round_10 : decode cX8_round 10 = .ok (.aload_n 0, 1) := by decide +kernel
theorem dX8_round_11 : decode cX8_round 11 = .ok (.iload_n 1, 1) := by decide +kernel
theorem dX8_round_12 : decode cX8_round 12 = .ok (.invokevirtual 153, 3) := by decide +kernel
theorem dX8_round_15 : decode cX8_round 15 = .ok (.iload_n 1, 1) := by decide +kernel
theorem dX8_round_16 : decode cX8_round 16 = .ok (.invokevirtual 157, 3) := by decide +kernel
theorem dX8_round_19 : decode cX8_round 19 = .ok (.ireturn, 1) := by decide +kernel
theorem dX8_stop_0 : decode cX8_stop 0 = .ok (.aload_n 0, 1) := by decide +kernel
theorem dX8_stop_1 : decode cX8_stop 1 = .ok (.iload_n 1, 1) := by decide +kernel
theorem dX8_stop_2 : decode cX8_stop 2 = .ok (.invokevirtual 114, 3) := by decide +kernel
theorem dX8_stop_5 : decode cX8_stop 5 = .ok (.ifCond .ne 5, 3) := by decide +kernel
theorem dX8_stop_8 : decode cX8_stop 8 = .ok (.iconst (-1), 1) := by decide +kernel
theorem dX8_stop_9 : decode cX8_stop 9 = .ok (.ireturn, 1) := by decide +kernel
theorem dX8_stop_10 : decode cX8_stop 10 = .ok (.aload_n 0, 1) := by decide +kernel
theorem dX8_stop_11 : decode cX8_stop 11 = .ok (.iload_n 1, 1) := by decide +kernel
theorem dX8_stop_12 : decode cX8_stop 12 = .ok (.invokevirtual 153, 3) := by decide +kernel
theorem dX8_stop_15 : decode cX8_stop 15 = .ok (.iload_n 1, 1) := by decide +kernel
theorem dX8_stop_16 : decode cX8_stop 16 = .ok (.iload_n 2, 1) := by decide +kernel
theorem dX8_stop_17 : decode cX8_stop 17 = .ok (.invokevirtual 162, 3) := by decide +kernel
theorem dX8_stop_20 : decode cX8_stop 20 = .ok (.ireturn, 1) := by decide +kernel
theorem dX8_flights_0 : decode cX8_flights 0 = .ok (.aload_n 0, 1) := by decide +kernel
theorem dX8_flights_1 : decode cX8_flights 1 = .ok (.iload_n 1, 1) := by decide +kernel
theorem dX8_flights_2 : decode cX8_flights 2 = .ok (.invokevirtual 114, 3) := by decide +kernel
theorem dX8_flights_5 : decode cX8_flights 5 = .ok (.ifCond .ne 5, 3) := by decide +kernel
theorem dX8_flights_8 : decode cX8_flights 8 = .ok (.iconst (-1), 1) := by decide +kernel
theorem dX8_flights_9 : decode cX8_flights 9 = .ok (.ireturn, 1) := by decide +kernel
theorem dX8_flights_10 : decode cX8_flights 10 = .ok (.aload_n 0, 1) := by decide +kernel
theorem dX8_flights_11 : decode cX8_flights 11 = .ok (.iload_n 1, 1) := by decide +kernel
theorem dX8_flights_12 : decode cX8_flights 12 = .ok (.invokevirtual 153, 3) := by decide +kernel
theorem dX8_flights_15 : decode cX8_flights 15 = .ok (.iload_n 1, 1) := by decide +kernel
theorem dX8_flights_16 : decode cX8_flights 16 = .ok (.invokevirtual 165, 3) := by decide +kernel
theorem dX8_flights_19 : decode cX8_flights 19 = .ok (.ireturn, 1) := by decide +kernel
theorem dX8_energy_0 : decode cX8_energy 0 = .ok (.aload_n 0, 1) := by decide +kernel
theorem dX8_energy_1 : decode cX8_energy 1 = .ok (.iload_n 1, 1) := by decide +kernel
theorem dX8_energy_2 : decode cX8_energy 2 = .ok (.invokevirtual 114, 3) := by decide +kernel
theorem dX8_energy_5 : decode cX8_energy 5 = .ok (.ifCond .ne 5, 3) := by decide +kernel
theorem dX8_energy_8 : decode cX8_energy 8 = .ok (.iconst (-1), 1) := by decide +kernel
theorem dX8_energy_9 : decode cX8_energy 9 = .ok (.ireturn, 1) := by decide +kernel
theorem dX8_energy_10 : decode cX8_energy 10 = .ok (.aload_n 0, 1) := by decide +kernel
theorem dX8_energy_11 : decode cX8_energy 11 = .ok (.iload_n 1, 1) := by decide +kernel
theorem dX8_energy_12 : decode cX8_energy 12 = .ok (.invokevirtual 153, 3) := by decide +kernel
theorem dX8_energy_15 : decode cX8_energy 15 = .ok (.iload_n 1, 1) := by decide +kernel
theorem dX8_energy_16 : decode cX8_energy 16 = .ok (.invokevirtual 168, 3) := by decide +kernel
theorem dX8_energy_19 : decode cX8_energy 19 = .ok (.ireturn, 1) := by decide +kernel
theorem dX8_log_0 : decode cX8_log 0 = .ok (.iload_n 1, 1) := by decide +kernel
theorem dX8_log_1 : decode cX8_log 1 = .ok (.iload_n 2, 1) := by decide +kernel
theorem dX8_log_2 : decode cX8_log 2 = .ok (.invokestatic 60, 3) := by decide +kernel
theorem dX8_log_5 : decode cX8_log 5 = .ok (.ifCond .eq 12, 3) := by decide +kernel
theorem dX8_log_8 : decode cX8_log 8 = .ok (.iload_n 3, 1) := by decide +kernel
theorem dX8_log_9 : decode cX8_log 9 = .ok (.iconst 0, 1) := by decide +kernel
theorem dX8_log_10 : decode cX8_log 10 = .ok (.iconst 5, 1) := by decide +kernel
theorem dX8_log_11 : decode cX8_log 11 = .ok (.invokestatic 72, 3) := by decide +kernel
theorem dX8_log_14 : decode cX8_log 14 = .ok (.ifCond .ne 6, 3) := by decide +kernel
theorem dX8_log_17 : decode cX8_log 17 = .ok (.bipush (-2), 2) := by decide +kernel
theorem dX8_log_19 : decode cX8_log 19 = .ok (.ireturn, 1) := by decide +kernel
theorem dX8_log_20 : decode cX8_log 20 = .ok (.aload_n 0, 1) := by decide +kernel
theorem dX8_log_21 : decode cX8_log 21 = .ok (.getfield 49, 3) := by decide +kernel
theorem dX8_log_24 : decode cX8_log 24 = .ok (.getfield 171, 3) := by decide +kernel
theorem dX8_log_27 : decode cX8_log 27 = .ok (.getfield 82, 3) := by decide +kernel
theorem dX8_log_30 : decode cX8_log 30 = .ok (.bipush 20, 2) := by decide +kernel
theorem dX8_log_32 : decode cX8_log 32 = .ok (.if_icmp .lt 6, 3) := by decide +kernel
theorem dX8_log_35 : decode cX8_log 35 = .ok (.bipush (-4), 2) := by decide +kernel
theorem dX8_log_37 : decode cX8_log 37 = .ok (.ireturn, 1) := by decide +kernel
theorem dX8_log_38 : decode cX8_log 38 = .ok (.aload_n 0, 1) := by decide +kernel
theorem dX8_log_39 : decode cX8_log 39 = .ok (.getfield 49, 3) := by decide +kernel
theorem dX8_log_42 : decode cX8_log 42 = .ok (.iload_n 1, 1) := by decide +kernel
theorem dX8_log_43 : decode cX8_log 43 = .ok (.iload_n 2, 1) := by decide +kernel
theorem dX8_log_44 : decode cX8_log 44 = .ok (.iload_n 3, 1) := by decide +kernel
theorem dX8_log_45 : decode cX8_log 45 = .ok (.invokevirtual 174, 3) := by decide +kernel
theorem dX8_log_48 : decode cX8_log 48 = .ok (.ireturn, 1) := by decide +kernel
theorem dX8_proves_0 : decode cX8_proves 0 = .ok (.iload_n 1, 1) := by decide +kernel
theorem dX8_proves_1 : decode cX8_proves 1 = .ok (.ifCond .lt 25, 3) := by decide +kernel
theorem dX8_proves_4 : decode cX8_proves 4 = .ok (.iload_n 1, 1) := by decide +kernel
theorem dX8_proves_5 : decode cX8_proves 5 = .ok (.aload_n 0, 1) := by decide +kernel
theorem dX8_proves_6 : decode cX8_proves 6 = .ok (.getfield 49, 3) := by decide +kernel
theorem dX8_proves_9 : decode cX8_proves 9 = .ok (.getfield 171, 3) := by decide +kernel
theorem dX8_proves_12 : decode cX8_proves 12 = .ok (.getfield 82, 3) := by decide +kernel
theorem dX8_proves_15 : decode cX8_proves 15 = .ok (.if_icmp .ge 11, 3) := by decide +kernel
theorem dX8_proves_18 : decode cX8_proves 18 = .ok (.aload_n 0, 1) := by decide +kernel
theorem dX8_proves_19 : decode cX8_proves 19 = .ok (.iload_n 2, 1) := by decide +kernel
theorem dX8_proves_20 : decode cX8_proves 20 = .ok (.invokevirtual 86, 3) := by decide +kernel
theorem dX8_proves_23 : decode cX8_proves 23 = .ok (.ifCond .ne 5, 3) := by decide +kernel
theorem dX8_proves_26 : decode cX8_proves 26 = .ok (.iconst (-1), 1) := by decide +kernel
theorem dX8_proves_27 : decode cX8_proves 27 = .ok (.ireturn, 1) := by decide +kernel
theorem dX8_proves_28 : decode cX8_proves 28 = .ok (.aload_n 0, 1) := by decide +kernel
theorem dX8_proves_29 : decode cX8_proves 29 = .ok (.getfield 49, 3) := by decide +kernel
theorem dX8_proves_32 : decode cX8_proves 32 = .ok (.iload_n 1, 1) := by decide +kernel
theorem dX8_proves_33 : decode cX8_proves 33 = .ok (.aload_n 0, 1) := by decide +kernel
theorem dX8_proves_34 : decode cX8_proves 34 = .ok (.getfield 10, 3) := by decide +kernel
theorem dX8_proves_37 : decode cX8_proves 37 = .ok (.iload_n 2, 1) := by decide +kernel
theorem dX8_proves_38 : decode cX8_proves 38 = .ok (.invokevirtual 177, 3) := by decide +kernel
theorem dX8_proves_41 : decode cX8_proves 41 = .ok (.invokestatic 93, 3) := by decide +kernel
theorem dX8_proves_44 : decode cX8_proves 44 = .ok (.ireturn, 1) := by decide +kernel
theorem dX8_proved_0 : decode cX8_proved 0 = .ok (.aload_n 0, 1) := by decide +kernel
theorem dX8_proved_1 : decode cX8_proved 1 = .ok (.iload_n 1, 1) := by decide +kernel
theorem dX8_proved_2 : decode cX8_proved 2 = .ok (.invokevirtual 86, 3) := by decide +kernel
theorem dX8_proved_5 : decode cX8_proved 5 = .ok (.ifCond .ne 5, 3) := by decide +kernel
theorem dX8_proved_8 : decode cX8_proved 8 = .ok (.iconst (-1), 1) := by decide +kernel
theorem dX8_proved_9 : decode cX8_proved 9 = .ok (.ireturn, 1) := by decide +kernel
theorem dX8_proved_10 : decode cX8_proved 10 = .ok (.aload_n 0, 1) := by decide +kernel
theorem dX8_proved_11 : decode cX8_proved 11 = .ok (.getfield 49, 3) := by decide +kernel
theorem dX8_proved_14 : decode cX8_proved 14 = .ok (.aload_n 0, 1) := by decide +kernel
theorem dX8_proved_15 : decode cX8_proved 15 = .ok (.getfield 10, 3) := by decide +kernel
theorem dX8_proved_18 : decode cX8_proved 18 = .ok (.iload_n 1, 1) := by decide +kernel
theorem dX8_proved_19 : decode cX8_proved 19 = .ok (.bipush 20, 2) := by decide +kernel
theorem dX8_proved_21 : decode cX8_proved 21 = .ok (.invokevirtual 181, 3) := by decide +kernel
theorem dX8_proved_24 : decode cX8_proved 24 = .ok (.ireturn, 1) := by decide +kernel
theorem dX8_missing_0 : decode cX8_missing 0 = .ok (.iload_n 2, 1) := by decide +kernel
theorem dX8_missing_1 : decode cX8_missing 1 = .ok (.iconst 1, 1) := by decide +kernel
theorem dX8_missing_2 : decode cX8_missing 2 = .ok (.iconst 3, 1) := by decide +kernel
theorem dX8_missing_3 : decode cX8_missing 3 = .ok (.invokestatic 72, 3) := by decide +kernel
theorem dX8_missing_6 : decode cX8_missing 6 = .ok (.ifCond .ne 6, 3) := by decide +kernel
theorem dX8_missing_9 : decode cX8_missing 9 = .ok (.bipush (-2), 2) := by decide +kernel
theorem dX8_missing_11 : decode cX8_missing 11 = .ok (.ireturn, 1) := by decide +kernel
theorem dX8_missing_12 : decode cX8_missing 12 = .ok (.iconst 0, 1) := by decide +kernel
theorem dX8_missing_13 : decode cX8_missing 13 = .ok (.istore_n 3, 1) := by decide +kernel
theorem dX8_missing_14 : decode cX8_missing 14 = .ok (.iconst 0, 1) := by decide +kernel
theorem dX8_missing_15 : decode cX8_missing 15 = .ok (.istore 4, 2) := by decide +kernel
theorem dX8_missing_17 : decode cX8_missing 17 = .ok (.iload 4, 2) := by decide +kernel
theorem dX8_missing_19 : decode cX8_missing 19 = .ok (.aload_n 0, 1) := by decide +kernel
theorem dX8_missing_20 : decode cX8_missing 20 = .ok (.getfield 10, 3) := by decide +kernel
theorem dX8_missing_23 : decode cX8_missing 23 = .ok (.getfield 64, 3) := by decide +kernel
theorem dX8_missing_26 : decode cX8_missing 26 = .ok (.if_icmp .ge 38, 3) := by decide +kernel
theorem dX8_missing_29 : decode cX8_missing 29 = .ok (.aload_n 0, 1) := by decide +kernel
theorem dX8_missing_30 : decode cX8_missing 30 = .ok (.getfield 49, 3) := by decide +kernel
theorem dX8_missing_33 : decode cX8_missing 33 = .ok (.aload_n 0, 1) := by decide +kernel
theorem dX8_missing_34 : decode cX8_missing 34 = .ok (.getfield 10, 3) := by decide +kernel
theorem dX8_missing_37 : decode cX8_missing 37 = .ok (.iload 4, 2) := by decide +kernel
theorem dX8_missing_39 : decode cX8_missing 39 = .ok (.iload_n 2, 1) := by decide +kernel
theorem dX8_missing_40 : decode cX8_missing 40 = .ok (.invokevirtual 181, 3) := by decide +kernel
theorem dX8_missing_43 : decode cX8_missing 43 = .ok (.iload_n 2, 1) := by decide +kernel
theorem dX8_missing_44 : decode cX8_missing 44 = .ok (.if_icmp .ge 14, 3) := by decide +kernel
theorem dX8_missing_47 : decode cX8_missing 47 = .ok (.iload_n 3, 1) := by decide +kernel
theorem dX8_missing_48 : decode cX8_missing 48 = .ok (.iload_n 1, 1) := by decide +kernel
theorem dX8_missing_49 : decode cX8_missing 49 = .ok (.if_icmp .ne 6, 3) := by decide +kernel
theorem dX8_missing_52 : decode cX8_missing 52 = .ok (.iload 4, 2) := by decide +kernel
theorem dX8_missing_54 : decode cX8_missing 54 = .ok (.ireturn, 1) := by decide +kernel
theorem dX8_missing_55 : decode cX8_missing 55 = .ok (.iinc 3 1, 3) := by decide +kernel
theorem dX8_missing_58 : decode cX8_missing 58 = .ok (.iinc 4 1, 3) := by decide +kernel
theorem dX8_missing_61 : decode cX8_missing 61 = .ok (.goto (-44), 3) := by decide +kernel
theorem dX8_missing_64 : decode cX8_missing 64 = .ok (.bipush (-9), 2) := by decide +kernel
theorem dX8_missing_66 : decode cX8_missing 66 = .ok (.ireturn, 1) := by decide +kernel
theorem dX8_mark_0 : decode cX8_mark 0 = .ok (.aload_n 0, 1) := by decide +kernel
theorem dX8_mark_1 : decode cX8_mark 1 = .ok (.iload_n 1, 1) := by decide +kernel
theorem dX8_mark_2 : decode cX8_mark 2 = .ok (.invokevirtual 86, 3) := by decide +kernel
theorem dX8_mark_5 : decode cX8_mark 5 = .ok (.ifCond .ne 5, 3) := by decide +kernel
theorem dX8_mark_8 : decode cX8_mark 8 = .ok (.iconst (-1), 1) := by decide +kernel
theorem dX8_mark_9 : decode cX8_mark 9 = .ok (.ireturn, 1) := by decide +kernel
theorem dX8_mark_10 : decode cX8_mark 10 = .ok (.iload_n 2, 1) := by decide +kernel
theorem dX8_mark_11 : decode cX8_mark 11 = .ok (.iconst 0, 1) := by decide +kernel
theorem dX8_mark_12 : decode cX8_mark 12 = .ok (.sipush 1000, 3) := by decide +kernel
theorem dX8_mark_15 : decode cX8_mark 15 = .ok (.invokestatic 72, 3) := by decide +kernel
theorem dX8_mark_18 : decode cX8_mark 18 = .ok (.ifCond .eq 22, 3) := by decide +kernel
theorem dX8_mark_21 : decode cX8_mark 21 = .ok (.iload_n 3, 1) := by decide +kernel
theorem dX8_mark_22 : decode cX8_mark 22 = .ok (.iconst 0, 1) := by decide +kernel
theorem dX8_mark_23 : decode cX8_mark 23 = .ok (.sipush 500, 3) := by decide +kernel
theorem dX8_mark_26 : decode cX8_mark 26 = .ok (.invokestatic 72, 3) := by decide +kernel
theorem dX8_mark_29 : decode cX8_mark 29 = .ok (.ifCond .eq 11, 3) := by decide +kernel
theorem dX8_mark_32 : decode cX8_mark 32 = .ok (.iload 4, 2) := by decide +kernel
theorem dX8_mark_34 : decode cX8_mark 34 = .ok (.invokestatic 185, 3) := by decide +kernel
theorem dX8_mark_37 : decode cX8_mark 37 = .ok (.ifCond .ne 6, 3) := by decide +kernel
theorem dX8_mark_40 : decode cX8_mark 40 = .ok (.bipush (-2), 2) := by decide +kernel
theorem dX8_mark_42 : decode cX8_mark 42 = .ok (.ireturn, 1) := by decide +kernel
theorem dX8_mark_43 : decode cX8_mark 43 = .ok (.aload_n 0, 1) := by decide +kernel
theorem dX8_mark_44 : decode cX8_mark 44 = .ok (.getfield 56, 3) := by decide +kernel
theorem dX8_mark_47 : decode cX8_mark 47 = .ok (.getfield 188, 3) := by decide +kernel
theorem dX8_mark_50 : decode cX8_mark 50 = .ok (.bipush 40, 2) := by decide +kernel
theorem dX8_mark_52 : decode cX8_mark 52 = .ok (.if_icmp .lt 6, 3) := by decide +kernel
theorem dX8_mark_55 : decode cX8_mark 55 = .ok (.bipush (-4), 2) := by decide +kernel
theorem dX8_mark_57 : decode cX8_mark 57 = .ok (.ireturn, 1) := by decide +kernel
theorem dX8_mark_58 : decode cX8_mark 58 = .ok (.aload_n 0, 1) := by decide +kernel
theorem dX8_mark_59 : decode cX8_mark 59 = .ok (.getfield 56, 3) := by decide +kernel
theorem dX8_mark_62 : decode cX8_mark 62 = .ok (.iload_n 1, 1) := by decide +kernel
theorem dX8_mark_63 : decode cX8_mark 63 = .ok (.iload_n 2, 1) := by decide +kernel
theorem dX8_mark_64 : decode cX8_mark 64 = .ok (.iload_n 3, 1) := by decide +kernel
theorem dX8_mark_65 : decode cX8_mark 65 = .ok (.iload 4, 2) := by decide +kernel
theorem dX8_mark_67 : decode cX8_mark 67 = .ok (.invokevirtual 189, 3) := by decide +kernel
theorem dX8_mark_70 : decode cX8_mark 70 = .ok (.ireturn, 1) := by decide +kernel
theorem dX8_wipe_0 : decode cX8_wipe 0 = .ok (.iload_n 1, 1) := by decide +kernel
theorem dX8_wipe_1 : decode cX8_wipe 1 = .ok (.ifCond .lt 14, 3) := by decide +kernel
theorem dX8_wipe_4 : decode cX8_wipe 4 = .ok (.iload_n 1, 1) := by decide +kernel
theorem dX8_wipe_5 : decode cX8_wipe 5 = .ok (.aload_n 0, 1) := by decide +kernel
theorem dX8_wipe_6 : decode cX8_wipe 6 = .ok (.getfield 56, 3) := by decide +kernel
theorem dX8_wipe_9 : decode cX8_wipe 9 = .ok (.getfield 188, 3) := by decide +kernel
theorem dX8_wipe_12 : decode cX8_wipe 12 = .ok (.if_icmp .lt 5, 3) := by decide +kernel
theorem dX8_wipe_15 : decode cX8_wipe 15 = .ok (.iconst (-1), 1) := by decide +kernel
theorem dX8_wipe_16 : decode cX8_wipe 16 = .ok (.ireturn, 1) := by decide +kernel
theorem dX8_wipe_17 : decode cX8_wipe 17 = .ok (.aload_n 0, 1) := by decide +kernel
theorem dX8_wipe_18 : decode cX8_wipe 18 = .ok (.getfield 56, 3) := by decide +kernel
theorem dX8_wipe_21 : decode cX8_wipe 21 = .ok (.getfield 190, 3) := by decide +kernel
theorem dX8_wipe_24 : decode cX8_wipe 24 = .ok (.iload_n 1, 1) := by decide +kernel
theorem dX8_wipe_25 : decode cX8_wipe 25 = .ok (.baload, 1) := by decide +kernel
theorem dX8_wipe_26 : decode cX8_wipe 26 = .ok (.ifCond .eq 6, 3) := by decide +kernel
theorem dX8_wipe_29 : decode cX8_wipe 29 = .ok (.bipush (-3), 2) := by decide +kernel
theorem dX8_wipe_31 : decode cX8_wipe 31 = .ok (.ireturn, 1) := by decide +kernel
theorem dX8_wipe_32 : decode cX8_wipe 32 = .ok (.aload_n 0, 1) := by decide +kernel
theorem dX8_wipe_33 : decode cX8_wipe 33 = .ok (.getfield 56, 3) := by decide +kernel
theorem dX8_wipe_36 : decode cX8_wipe 36 = .ok (.getfield 190, 3) := by decide +kernel
theorem dX8_wipe_39 : decode cX8_wipe 39 = .ok (.iload_n 1, 1) := by decide +kernel
theorem dX8_wipe_40 : decode cX8_wipe 40 = .ok (.iconst 1, 1) := by decide +kernel
theorem dX8_wipe_41 : decode cX8_wipe 41 = .ok (.bastore, 1) := by decide +kernel
theorem dX8_wipe_42 : decode cX8_wipe 42 = .ok (.iconst 1, 1) := by decide +kernel
theorem dX8_wipe_43 : decode cX8_wipe 43 = .ok (.ireturn, 1) := by decide +kernel
theorem dX8_marks_0 : decode cX8_marks 0 = .ok (.aload_n 0, 1) := by decide +kernel
theorem dX8_marks_1 : decode cX8_marks 1 = .ok (.iload_n 1, 1) := by decide +kernel
theorem dX8_marks_2 : decode cX8_marks 2 = .ok (.invokevirtual 86, 3) := by decide +kernel
theorem dX8_marks_5 : decode cX8_marks 5 = .ok (.ifCond .ne 5, 3) := by decide +kernel
theorem dX8_marks_8 : decode cX8_marks 8 = .ok (.iconst (-1), 1) := by decide +kernel
theorem dX8_marks_9 : decode cX8_marks 9 = .ok (.ireturn, 1) := by decide +kernel
theorem dX8_marks_10 : decode cX8_marks 10 = .ok (.iload_n 2, 1) := by decide +kernel
theorem dX8_marks_11 : decode cX8_marks 11 = .ok (.invokestatic 185, 3) := by decide +kernel
theorem dX8_marks_14 : decode cX8_marks 14 = .ok (.ifCond .ne 6, 3) := by decide +kernel
theorem dX8_marks_17 : decode cX8_marks 17 = .ok (.bipush (-2), 2) := by decide +kernel
theorem dX8_marks_19 : decode cX8_marks 19 = .ok (.ireturn, 1) := by decide +kernel
theorem dX8_marks_20 : decode cX8_marks 20 = .ok (.aload_n 0, 1) := by decide +kernel
theorem dX8_marks_21 : decode cX8_marks 21 = .ok (.getfield 56, 3) := by decide +kernel
theorem dX8_marks_24 : decode cX8_marks 24 = .ok (.iload_n 1, 1) := by decide +kernel
theorem dX8_marks_25 : decode cX8_marks 25 = .ok (.iload_n 2, 1) := by decide +kernel
theorem dX8_marks_26 : decode cX8_marks 26 = .ok (.iload_n 3, 1) := by decide +kernel
theorem dX8_marks_27 : decode cX8_marks 27 = .ok (.invokevirtual 194, 3) := by decide +kernel
theorem dX8_marks_30 : decode cX8_marks 30 = .ok (.ireturn, 1) := by decide +kernel
theorem dX8_match_0 : decode cX8_match 0 = .ok (.aload_n 0, 1) := by decide +kernel
theorem dX8_match_1 : decode cX8_match 1 = .ok (.iload_n 1, 1) := by decide +kernel
theorem dX8_match_2 : decode cX8_match 2 = .ok (.invokevirtual 86, 3) := by decide +kernel
theorem dX8_match_5 : decode cX8_match 5 = .ok (.ifCond .ne 5, 3) := by decide +kernel
theorem dX8_match_8 : decode cX8_match 8 = .ok (.iconst (-1), 1) := by decide +kernel
theorem dX8_match_9 : decode cX8_match 9 = .ok (.ireturn, 1) := by decide +kernel
theorem dX8_match_10 : decode cX8_match 10 = .ok (.iload_n 2, 1) := by decide +kernel
theorem dX8_match_11 : decode cX8_match 11 = .ok (.invokestatic 185, 3) := by decide +kernel
theorem dX8_match_14 : decode cX8_match 14 = .ok (.ifCond .eq 22, 3) := by decide +kernel
theorem dX8_match_17 : decode cX8_match 17 = .ok (.iload_n 3, 1) := by decide +kernel
theorem dX8_match_18 : decode cX8_match 18 = .ok (.invokestatic 185, 3) := by decide +kernel
theorem dX8_match_21 : decode cX8_match 21 = .ok (.ifCond .eq 15, 3) := by decide +kernel
theorem dX8_match_24 : decode cX8_match 24 = .ok (.iload 4, 2) := by decide +kernel
theorem dX8_match_26 : decode cX8_match 26 = .ok (.iconst 0, 1) := by decide +kernel
theorem dX8_match_27 : decode cX8_match 27 = .ok (.sipush 1000, 3) := by decide +kernel
theorem dX8_match_30 : decode cX8_match 30 = .ok (.invokestatic 72, 3) := by decide +kernel
theorem dX8_match_33 : decode cX8_match 33 = .ok (.ifCond .ne 6, 3) := by decide +kernel
theorem dX8_match_36 : decode cX8_match 36 = .ok (.bipush (-2), 2) := by decide +kernel
theorem dX8_match_38 : decode cX8_match 38 = .ok (.ireturn, 1) := by decide +kernel
theorem dX8_match_39 : decode cX8_match 39 = .ok (.iload_n 2, 1) := by decide +kernel
theorem dX8_match_40 : decode cX8_match 40 = .ok (.iload_n 3, 1) := by decide +kernel
theorem dX8_match_41 : decode cX8_match 41 = .ok (.if_icmp .ne 6, 3) := by decide +kernel
theorem dX8_match_44 : decode cX8_match 44 = .ok (.bipush (-3), 2) := by decide +kernel
theorem dX8_match_46 : decode cX8_match 46 = .ok (.ireturn, 1) := by decide +kernel
theorem dX8_match_47 : decode cX8_match 47 = .ok (.aload_n 0, 1) := by decide +kernel
theorem dX8_match_48 : decode cX8_match 48 = .ok (.getfield 56, 3) := by decide +kernel
theorem dX8_match_51 : decode cX8_match 51 = .ok (.iload_n 1, 1) := by decide +kernel
theorem dX8_match_52 : decode cX8_match 52 = .ok (.iload_n 2, 1) := by decide +kernel
theorem dX8_match_53 : decode cX8_match 53 = .ok (.iload_n 3, 1) := by decide +kernel
theorem dX8_match_54 : decode cX8_match 54 = .ok (.iload 4, 2) := by decide +kernel
theorem dX8_match_56 : decode cX8_match 56 = .ok (.invokevirtual 198, 3) := by decide +kernel
theorem dX8_match_59 : decode cX8_match 59 = .ok (.iload 5, 2) := by decide +kernel
theorem dX8_match_61 : decode cX8_match 61 = .ok (.ifCond .eq 13, 3) := by decide +kernel
theorem dX8_match_64 : decode cX8_match 64 = .ok (.aload_n 0, 1) := by decide +kernel
theorem dX8_match_65 : decode cX8_match 65 = .ok (.getfield 56, 3) := by decide +kernel
theorem dX8_match_68 : decode cX8_match 68 = .ok (.getfield 201, 3) := by decide +kernel
theorem dX8_match_71 : decode cX8_match 71 = .ok (.goto 10, 3) := by decide +kernel
theorem dX8_match_74 : decode cX8_match 74 = .ok (.aload_n 0, 1) := by decide +kernel
theorem dX8_match_75 : decode cX8_match 75 = .ok (.getfield 56, 3) := by decide +kernel
theorem dX8_match_78 : decode cX8_match 78 = .ok (.getfield 204, 3) := by decide +kernel
theorem dX8_match_81 : decode cX8_match 81 = .ok (.ireturn, 1) := by decide +kernel
theorem dX8_count_0 : decode cX8_count 0 = .ok (.iload_n 1, 1) := by decide +kernel
theorem dX8_count_1 : decode cX8_count 1 = .ok (.tableswitch 78 0 4 #[35, 43, 51, 59, 70], 35) := by decide +kernel
theorem dX8_count_36 : decode cX8_count 36 = .ok (.aload_n 0, 1) := by decide +kernel
theorem dX8_count_37 : decode cX8_count 37 = .ok (.getfield 10, 3) := by decide +kernel
theorem dX8_count_40 : decode cX8_count 40 = .ok (.getfield 64, 3) := by decide +kernel
theorem dX8_count_43 : decode cX8_count 43 = .ok (.ireturn, 1) := by decide +kernel
theorem dX8_count_44 : decode cX8_count 44 = .ok (.aload_n 0, 1) := by decide +kernel
theorem dX8_count_45 : decode cX8_count 45 = .ok (.getfield 21, 3) := by decide +kernel
theorem dX8_count_48 : decode cX8_count 48 = .ok (.getfield 82, 3) := by decide +kernel
theorem dX8_count_51 : decode cX8_count 51 = .ok (.ireturn, 1) := by decide +kernel
theorem dX8_count_52 : decode cX8_count 52 = .ok (.aload_n 0, 1) := by decide +kernel
theorem dX8_count_53 : decode cX8_count 53 = .ok (.getfield 35, 3) := by decide +kernel
theorem dX8_count_56 : decode cX8_count 56 = .ok (.getfield 121, 3) := by decide +kernel
theorem dX8_count_59 : decode cX8_count 59 = .ok (.ireturn, 1) := by decide +kernel
theorem dX8_count_60 : decode cX8_count 60 = .ok (.aload_n 0, 1) := by decide +kernel
theorem dX8_count_61 : decode cX8_count 61 = .ok (.getfield 49, 3) := by decide +kernel
theorem dX8_count_64 : decode cX8_count 64 = .ok (.getfield 171, 3) := by decide +kernel
theorem dX8_count_67 : decode cX8_count 67 = .ok (.getfield 82, 3) := by decide +kernel
theorem dX8_count_70 : decode cX8_count 70 = .ok (.ireturn, 1) := by decide +kernel
theorem dX8_count_71 : decode cX8_count 71 = .ok (.aload_n 0, 1) := by decide +kernel
theorem dX8_count_72 : decode cX8_count 72 = .ok (.getfield 56, 3) := by decide +kernel
theorem dX8_count_75 : decode cX8_count 75 = .ok (.invokevirtual 207, 3) := by decide +kernel
theorem dX8_count_78 : decode cX8_count 78 = .ok (.ireturn, 1) := by decide +kernel
theorem dX8_count_79 : decode cX8_count 79 = .ok (.bipush (-2), 2) := by decide +kernel
theorem dX8_count_81 : decode cX8_count 81 = .ok (.ireturn, 1) := by decide +kernel
theorem dX8_isWithin_0 : decode cX8_isWithin 0 = .ok (.iload_n 0, 1) := by decide +kernel
theorem dX8_isWithin_1 : decode cX8_isWithin 1 = .ok (.iload_n 1, 1) := by decide +kernel
theorem dX8_isWithin_2 : decode cX8_isWithin 2 = .ok (.if_icmp .lt 12, 3) := by decide +kernel
theorem dX8_isWithin_5 : decode cX8_isWithin 5 = .ok (.iload_n 0, 1) := by decide +kernel
theorem dX8_isWithin_6 : decode cX8_isWithin 6 = .ok (.iload_n 2, 1) := by decide +kernel
theorem dX8_isWithin_7 : decode cX8_isWithin 7 = .ok (.if_icmp .gt 7, 3) := by decide +kernel
theorem dX8_isWithin_10 : decode cX8_isWithin 10 = .ok (.iconst 1, 1) := by decide +kernel
theorem dX8_isWithin_11 : decode cX8_isWithin 11 = .ok (.goto 4, 3) := by decide +kernel
theorem dX8_isWithin_14 : decode cX8_isWithin 14 = .ok (.iconst 0, 1) := by decide +kernel
theorem dX8_isWithin_15 : decode cX8_isWithin 15 = .ok (.ireturn, 1) := by decide +kernel
theorem dX8_isPoint_0 : decode cX8_isPoint 0 = .ok (.iload_n 0, 1) := by decide +kernel
theorem dX8_isPoint_1 : decode cX8_isPoint 1 = .ok (.iconst 0, 1) := by decide +kernel
theorem dX8_isPoint_2 : decode cX8_isPoint 2 = .ok (.bipush 60, 2) := by decide +kernel
theorem dX8_isPoint_4 : decode cX8_isPoint 4 = .ok (.invokestatic 72, 3) := by decide +kernel
theorem dX8_isPoint_7 : decode cX8_isPoint 7 = .ok (.ifCond .eq 17, 3) := by decide +kernel
theorem dX8_isPoint_10 : decode cX8_isPoint 10 = .ok (.iload_n 1, 1) := by decide +kernel
theorem dX8_isPoint_11 : decode cX8_isPoint 11 = .ok (.iconst 0, 1) := by decide +kernel
theorem dX8_isPoint_12 : decode cX8_isPoint 12 = .ok (.bipush 60, 2) := by decide +kernel
theorem dX8_isPoint_14 : decode cX8_isPoint 14 = .ok (.invokestatic 72, 3) := by decide +kernel
theorem dX8_isPoint_17 : decode cX8_isPoint 17 = .ok (.ifCond .eq 7, 3) := by decide +kernel
theorem dX8_isPoint_20 : decode cX8_isPoint 20 = .ok (.iconst 1, 1) := by decide +kernel
theorem dX8_isPoint_21 : decode cX8_isPoint 21 = .ok (.goto 4, 3) := by decide +kernel
theorem dX8_isPoint_24 : decode cX8_isPoint 24 = .ok (.iconst 0, 1) := by decide +kernel
theorem dX8_isPoint_25 : decode cX8_isPoint 25 = .ok (.ireturn, 1) := by decide +kernel
theorem dX8_isYear_0 : decode cX8_isYear 0 = .ok (.iload_n 0, 1) := by decide +kernel
theorem dX8_isYear_1 : decode cX8_isYear 1 = .ok (.iconst 0, 1) := by decide +kernel
theorem dX8_isYear_2 : decode cX8_isYear 2 = .ok (.bipush 9, 2) := by decide +kernel
theorem dX8_isYear_4 : decode cX8_isYear 4 = .ok (.invokestatic 72, 3) := by decide +kernel
theorem dX8_isYear_7 : decode cX8_isYear 7 = .ok (.ireturn, 1) := by decide +kernel
theorem dX8_asNumber_0 : decode cX8_asNumber 0 = .ok (.iload_n 0, 1) := by decide +kernel
theorem dX8_asNumber_1 : decode cX8_asNumber 1 = .ok (.ifCond .eq 7, 3) := by decide +kernel
theorem dX8_asNumber_4 : decode cX8_asNumber 4 = .ok (.iconst 1, 1) := by decide +kernel
theorem dX8_asNumber_5 : decode cX8_asNumber 5 = .ok (.goto 4, 3) := by decide +kernel
theorem dX8_asNumber_8 : decode cX8_asNumber 8 = .ok (.iconst 0, 1) := by decide +kernel
theorem dX8_asNumber_9 : decode cX8_asNumber 9 = .ok (.ireturn, 1) := by decide +kernel
theorem dX8_has_0 : decode cX8_has 0 = .ok (.iload_n 0, 1) := by decide +kernel
theorem dX8_has_1 : decode cX8_has 1 = .ok (.iload_n 1, 1) := by decide +kernel
theorem dX8_has_2 : decode cX8_has 2 = .ok (.ishr, 1) := by decide +kernel
theorem dX8_has_3 : decode cX8_has 3 = .ok (.iconst 1, 1) := by decide +kernel
theorem dX8_has_4 : decode cX8_has 4 = .ok (.iand, 1) := by decide +kernel
theorem dX8_has_5 : decode cX8_has 5 = .ok (.ifCond .eq 7, 3) := by decide +kernel
theorem dX8_has_8 : decode cX8_has 8 = .ok (.iconst 1, 1) := by decide +kernel
theorem dX8_has_9 : decode cX8_has 9 = .ok (.goto 4, 3) := by decide +kernel
theorem dX8_has_12 : decode cX8_has 12 = .ok (.iconst 0, 1) := by decide +kernel
theorem dX8_has_13 : decode cX8_has 13 = .ok (.ireturn, 1) := by decide +kernel
theorem dX8_turn_0 : decode cX8_turn 0 = .ok (.iload_n 2, 1) := by decide +kernel
theorem dX8_turn_1 : decode cX8_turn 1 = .ok (.iload_n 0, 1) := by decide +kernel
theorem dX8_turn_2 : decode cX8_turn 2 = .ok (.isub, 1) := by decide +kernel
theorem dX8_turn_3 : decode cX8_turn 3 = .ok (.iload 5, 2) := by decide +kernel
theorem dX8_turn_5 : decode cX8_turn 5 = .ok (.iload_n 1, 1) := by decide +kernel
theorem dX8_turn_6 : decode cX8_turn 6 = .ok (.isub, 1) := by decide +kernel
theorem dX8_turn_7 : decode cX8_turn 7 = .ok (.imul, 1) := by decide +kernel
theorem dX8_turn_8 : decode cX8_turn 8 = .ok (.iload_n 3, 1) := by decide +kernel
theorem dX8_turn_9 : decode cX8_turn 9 = .ok (.iload_n 1, 1) := by decide +kernel
theorem dX8_turn_10 : decode cX8_turn 10 = .ok (.isub, 1) := by decide +kernel
theorem dX8_turn_11 : decode cX8_turn 11 = .ok (.iload 4, 2) := by decide +kernel
theorem dX8_turn_13 : decode cX8_turn 13 = .ok (.iload_n 0, 1) := by decide +kernel
theorem dX8_turn_14 : decode cX8_turn 14 = .ok (.isub, 1) := by decide +kernel
theorem dX8_turn_15 : decode cX8_turn 15 = .ok (.imul, 1) := by decide +kernel
theorem dX8_turn_16 : decode cX8_turn 16 = .ok (.isub, 1) := by decide +kernel
theorem dX8_turn_17 : decode cX8_turn 17 = .ok (.ireturn, 1) := by decide +kernel
theorem dX8_isPanel_0 : decode cX8_isPanel 0 = .ok (.iload_n 1, 1) := by decide +kernel
theorem dX8_isPanel_1 : decode cX8_isPanel 1 = .ok (.ifCond .lt 18, 3) := by decide +kernel
theorem dX8_isPanel_4 : decode cX8_isPanel 4 = .ok (.iload_n 1, 1) := by decide +kernel
theorem dX8_isPanel_5 : decode cX8_isPanel 5 = .ok (.aload_n 0, 1) := by decide +kernel
theorem dX8_isPanel_6 : decode cX8_isPanel 6 = .ok (.getfield 10, 3) := by decide +kernel
theorem dX8_isPanel_9 : decode cX8_isPanel 9 = .ok (.getfield 64, 3) := by decide +kernel
theorem dX8_isPanel_12 : decode cX8_isPanel 12 = .ok (.if_icmp .ge 7, 3) := by decide +kernel
theorem dX8_isPanel_15 : decode cX8_isPanel 15 = .ok (.iconst 1, 1) := by decide +kernel
theorem dX8_isPanel_16 : decode cX8_isPanel 16 = .ok (.goto 4, 3) := by decide +kernel
theorem dX8_isPanel_19 : decode cX8_isPanel 19 = .ok (.iconst 0, 1) := by decide +kernel
theorem dX8_isPanel_20 : decode cX8_isPanel 20 = .ok (.ireturn, 1) := by decide +kernel
theorem dX8_isViewSet_0 : decode cX8_isViewSet 0 = .ok (.iload_n 1, 1) := by decide +kernel
theorem dX8_isViewSet_1 : decode cX8_isViewSet 1 = .ok (.iconst 1, 1) := by decide +kernel
theorem dX8_isViewSet_2 : decode cX8_isViewSet 2 = .ok (.aload_n 0, 1) := by decide +kernel
theorem dX8_isViewSet_3 : decode cX8_isViewSet 3 = .ok (.getfield 21, 3) := by decide +kernel
theorem dX8_isViewSet_6 : decode cX8_isViewSet 6 = .ok (.getfield 82, 3) := by decide +kernel
theorem dX8_isViewSet_9 : decode cX8_isViewSet 9 = .ok (.ishl, 1) := by decide +kernel
theorem dX8_isViewSet_10 : decode cX8_isViewSet 10 = .ok (.ineg, 1) := by decide +kernel
theorem dX8_isViewSet_11 : decode cX8_isViewSet 11 = .ok (.iand, 1) := by decide +kernel
theorem dX8_isViewSet_12 : decode cX8_isViewSet 12 = .ok (.ifCond .ne 7, 3) := by decide +kernel
theorem dX8_isViewSet_15 : decode cX8_isViewSet 15 = .ok (.iconst 1, 1) := by decide +kernel
theorem dX8_isViewSet_16 : decode cX8_isViewSet 16 = .ok (.goto 4, 3) := by decide +kernel
theorem dX8_isViewSet_19 : decode cX8_isViewSet 19 = .ok (.iconst 0, 1) := by decide +kernel
theorem dX8_isViewSet_20 : decode cX8_isViewSet 20 = .ok (.ireturn, 1) := by decide +kernel
theorem dX8_routesFor_0 : decode cX8_routesFor 0 = .ok (.aload_n 0, 1) := by decide +kernel
theorem dX8_routesFor_1 : decode cX8_routesFor 1 = .ok (.getfield 211, 3) := by decide +kernel
theorem dX8_routesFor_4 : decode cX8_routesFor 4 = .ok (.ifnonnull 26, 3) := by decide +kernel
theorem dX8_routesFor_7 : decode cX8_routesFor 7 = .ok (.aload_n 0, 1) := by decide +kernel
theorem dX8_routesFor_8 : decode cX8_routesFor 8 = .ok (.new 158, 3) := by decide +kernel
theorem dX8_routesFor_11 : decode cX8_routesFor 11 = .ok (.dup, 1) := by decide +kernel
theorem dX8_routesFor_12 : decode cX8_routesFor 12 = .ok (.aload_n 0, 1) := by decide +kernel
theorem dX8_routesFor_13 : decode cX8_routesFor 13 = .ok (.getfield 21, 3) := by decide +kernel
theorem dX8_routesFor_16 : decode cX8_routesFor 16 = .ok (.aload_n 0, 1) := by decide +kernel
theorem dX8_routesFor_17 : decode cX8_routesFor 17 = .ok (.getfield 35, 3) := by decide +kernel
theorem dX8_routesFor_20 : decode cX8_routesFor 20 = .ok (.aload_n 0, 1) := by decide +kernel
theorem dX8_routesFor_21 : decode cX8_routesFor 21 = .ok (.getfield 42, 3) := by decide +kernel
theorem dX8_routesFor_24 : decode cX8_routesFor 24 = .ok (.invokespecial 215, 3) := by decide +kernel
theorem dX8_routesFor_27 : decode cX8_routesFor 27 = .ok (.putfield 211, 3) := by decide +kernel
theorem dX8_routesFor_30 : decode cX8_routesFor 30 = .ok (.aload_n 0, 1) := by decide +kernel
theorem dX8_routesFor_31 : decode cX8_routesFor 31 = .ok (.getfield 211, 3) := by decide +kernel
theorem dX8_routesFor_34 : decode cX8_routesFor 34 = .ok (.iload_n 1, 1) := by decide +kernel
theorem dX8_routesFor_35 : decode cX8_routesFor 35 = .ok (.invokevirtual 218, 3) := by decide +kernel
theorem dX8_routesFor_38 : decode cX8_routesFor 38 = .ok (.aload_n 0, 1) := by decide +kernel
theorem dX8_routesFor_39 : decode cX8_routesFor 39 = .ok (.getfield 211, 3) := by decide +kernel
theorem dX8_routesFor_42 : decode cX8_routesFor 42 = .ok (.areturn, 1) := by decide +kernel
theorem dX8_forgetRoutes_0 : decode cX8_forgetRoutes 0 = .ok (.aload_n 0, 1) := by decide +kernel
theorem dX8_forgetRoutes_1 : decode cX8_forgetRoutes 1 = .ok (.getfield 211, 3) := by decide +kernel
theorem dX8_forgetRoutes_4 : decode cX8_forgetRoutes 4 = .ok (.ifnull 10, 3) := by decide +kernel
theorem dX8_forgetRoutes_7 : decode cX8_forgetRoutes 7 = .ok (.aload_n 0, 1) := by decide +kernel
theorem dX8_forgetRoutes_8 : decode cX8_forgetRoutes 8 = .ok (.getfield 211, 3) := by decide +kernel
theorem dX8_forgetRoutes_11 : decode cX8_forgetRoutes 11 = .ok (.invokevirtual 221, 3) := by decide +kernel
theorem dX8_forgetRoutes_14 : decode cX8_forgetRoutes 14 = .ok (.return_, 1) := by decide +kernel
theorem dJ6_bitCount_0f7a4_0 : decode cJ6_bitCount_0f7a4 0 = .ok (.iload_n 0, 1) := by decide +kernel
theorem dJ6_bitCount_0f7a4_1 : decode cJ6_bitCount_0f7a4 1 = .ok (.iload_n 0, 1) := by decide +kernel
theorem dJ6_bitCount_0f7a4_2 : decode cJ6_bitCount_0f7a4 2 = .ok (.iconst 1, 1) := by decide +kernel
theorem dJ6_bitCount_0f7a4_3 : decode cJ6_bitCount_0f7a4 3 = .ok (.iushr, 1) := by decide +kernel
theorem dJ6_bitCount_0f7a4_4 : decode cJ6_bitCount_0f7a4 4 = .ok (.ldc_w 265, 3) := by decide +kernel
theorem dJ6_bitCount_0f7a4_7 : decode cJ6_bitCount_0f7a4 7 = .ok (.iand, 1) := by decide +kernel
theorem dJ6_bitCount_0f7a4_8 : decode cJ6_bitCount_0f7a4 8 = .ok (.isub, 1) := by decide +kernel
theorem dJ6_bitCount_0f7a4_9 : decode cJ6_bitCount_0f7a4 9 = .ok (.istore_n 0, 1) := by decide +kernel
theorem dJ6_bitCount_0f7a4_10 : decode cJ6_bitCount_0f7a4 10 = .ok (.iload_n 0, 1) := by decide +kernel
theorem dJ6_bitCount_0f7a4_11 : decode cJ6_bitCount_0f7a4 11 = .ok (.ldc_w 266, 3) := by decide +kernel
theorem dJ6_bitCount_0f7a4_14 : decode cJ6_bitCount_0f7a4 14 = .ok (.iand, 1) := by decide +kernel
theorem dJ6_bitCount_0f7a4_15 : decode cJ6_bitCount_0f7a4 15 = .ok (.iload_n 0, 1) := by decide +kernel
theorem dJ6_bitCount_0f7a4_16 : decode cJ6_bitCount_0f7a4 16 = .ok (.iconst 2, 1) := by decide +kernel
theorem dJ6_bitCount_0f7a4_17 : decode cJ6_bitCount_0f7a4 17 = .ok (.iushr, 1) := by decide +kernel
theorem dJ6_bitCount_0f7a4_18 : decode cJ6_bitCount_0f7a4 18 = .ok (.ldc_w 266, 3) := by decide +kernel
theorem dJ6_bitCount_0f7a4_21 : decode cJ6_bitCount_0f7a4 21 = .ok (.iand, 1) := by decide +kernel
theorem dJ6_bitCount_0f7a4_22 : decode cJ6_bitCount_0f7a4 22 = .ok (.iadd, 1) := by decide +kernel
theorem dJ6_bitCount_0f7a4_23 : decode cJ6_bitCount_0f7a4 23 = .ok (.istore_n 0, 1) := by decide +kernel
theorem dJ6_bitCount_0f7a4_24 : decode cJ6_bitCount_0f7a4 24 = .ok (.iload_n 0, 1) := by decide +kernel
theorem dJ6_bitCount_0f7a4_25 : decode cJ6_bitCount_0f7a4 25 = .ok (.iload_n 0, 1) := by decide +kernel
theorem dJ6_bitCount_0f7a4_26 : decode cJ6_bitCount_0f7a4 26 = .ok (.iconst 4, 1) := by decide +kernel
theorem dJ6_bitCount_0f7a4_27 : decode cJ6_bitCount_0f7a4 27 = .ok (.iushr, 1) := by decide +kernel
theorem dJ6_bitCount_0f7a4_28 : decode cJ6_bitCount_0f7a4 28 = .ok (.iadd, 1) := by decide +kernel
theorem dJ6_bitCount_0f7a4_29 : decode cJ6_bitCount_0f7a4 29 = .ok (.ldc_w 267, 3) := by decide +kernel
theorem dJ6_bitCount_0f7a4_32 : decode cJ6_bitCount_0f7a4 32 = .ok (.iand, 1) := by decide +kernel
theorem dJ6_bitCount_0f7a4_33 : decode cJ6_bitCount_0f7a4 33 = .ok (.istore_n 0, 1) := by decide +kernel
theorem dJ6_bitCount_0f7a4_34 : decode cJ6_bitCount_0f7a4 34 = .ok (.iload_n 0, 1) := by decide +kernel
theorem dJ6_bitCount_0f7a4_35 : decode cJ6_bitCount_0f7a4 35 = .ok (.iload_n 0, 1) := by decide +kernel
theorem dJ6_bitCount_0f7a4_36 : decode cJ6_bitCount_0f7a4 36 = .ok (.bipush 8, 2) := by decide +kernel
theorem dJ6_bitCount_0f7a4_38 : decode cJ6_bitCount_0f7a4 38 = .ok (.iushr, 1) := by decide +kernel
theorem dJ6_bitCount_0f7a4_39 : decode cJ6_bitCount_0f7a4 39 = .ok (.iadd, 1) := by decide +kernel
theorem dJ6_bitCount_0f7a4_40 : decode cJ6_bitCount_0f7a4 40 = .ok (.istore_n 0, 1) := by decide +kernel
theorem dJ6_bitCount_0f7a4_41 : decode cJ6_bitCount_0f7a4 41 = .ok (.iload_n 0, 1) := by decide +kernel
theorem dJ6_bitCount_0f7a4_42 : decode cJ6_bitCount_0f7a4 42 = .ok (.iload_n 0, 1) := by decide +kernel
theorem dJ6_bitCount_0f7a4_43 : decode cJ6_bitCount_0f7a4 43 = .ok (.bipush 16, 2) := by decide +kernel
theorem dJ6_bitCount_0f7a4_45 : decode cJ6_bitCount_0f7a4 45 = .ok (.iushr, 1) := by decide +kernel
theorem dJ6_bitCount_0f7a4_46 : decode cJ6_bitCount_0f7a4 46 = .ok (.iadd, 1) := by decide +kernel
theorem dJ6_bitCount_0f7a4_47 : decode cJ6_bitCount_0f7a4 47 = .ok (.istore_n 0, 1) := by decide +kernel
theorem dJ6_bitCount_0f7a4_48 : decode cJ6_bitCount_0f7a4 48 = .ok (.iload_n 0, 1) := by decide +kernel
theorem dJ6_bitCount_0f7a4_49 : decode cJ6_bitCount_0f7a4 49 = .ok (.bipush 63, 2) := by decide +kernel
theorem dJ6_bitCount_0f7a4_51 : decode cJ6_bitCount_0f7a4 51 = .ok (.iand, 1) := by decide +kernel
theorem dJ6_bitCount_0f7a4_52 : decode cJ6_bitCount_0f7a4 52 = .ok (.ireturn, 1) := by decide +kernel
theorem dJ9_abs_0f7a4_0 : decode cJ9_abs_0f7a4 0 = .ok (.iload_n 0, 1) := by decide +kernel
theorem dJ9_abs_0f7a4_1 : decode cJ9_abs_0f7a4 1 = .ok (.ifCond .ge 8, 3) := by decide +kernel
theorem dJ9_abs_0f7a4_4 : decode cJ9_abs_0f7a4 4 = .ok (.iload_n 0, 1) := by decide +kernel
theorem dJ9_abs_0f7a4_5 : decode cJ9_abs_0f7a4 5 = .ok (.ineg, 1) := by decide +kernel
theorem dJ9_abs_0f7a4_6 : decode cJ9_abs_0f7a4 6 = .ok (.goto 4, 3) := by decide +kernel
theorem dJ9_abs_0f7a4_9 : decode cJ9_abs_0f7a4 9 = .ok (.iload_n 0, 1) := by decide +kernel
theorem dJ9_abs_0f7a4_10 : decode cJ9_abs_0f7a4 10 = .ok (.ireturn, 1) := by decide +kernel
theorem dJ9_max_7cf53_0 : decode cJ9_max_7cf53 0 = .ok (.iload_n 0, 1) := by decide +kernel
theorem dJ9_max_7cf53_1 : decode cJ9_max_7cf53 1 = .ok (.iload_n 1, 1) := by decide +kernel
theorem dJ9_max_7cf53_2 : decode cJ9_max_7cf53 2 = .ok (.if_icmp .lt 7, 3) := by decide +kernel
theorem dJ9_max_7cf53_5 : decode cJ9_max_7cf53 5 = .ok (.iload_n 0, 1) := by decide +kernel
theorem dJ9_max_7cf53_6 : decode cJ9_max_7cf53 6 = .ok (.goto 4, 3) := by decide +kernel
theorem dJ9_max_7cf53_9 : decode cJ9_max_7cf53 9 = .ok (.iload_n 1, 1) := by decide +kernel
theorem dJ9_max_7cf53_10 : decode cJ9_max_7cf53 10 = .ok (.ireturn, 1) := by decide +kernel
theorem dJ9_min_7cf53_0 : decode cJ9_min_7cf53 0 = .ok (.iload_n 0, 1) := by decide +kernel
theorem dJ9_min_7cf53_1 : decode cJ9_min_7cf53 1 = .ok (.iload_n 1, 1) := by decide +kernel
theorem dJ9_min_7cf53_2 : decode cJ9_min_7cf53 2 = .ok (.if_icmp .gt 7, 3) := by decide +kernel
theorem dJ9_min_7cf53_5 : decode cJ9_min_7cf53 5 = .ok (.iload_n 0, 1) := by decide +kernel
theorem dJ9_min_7cf53_6 : decode cJ9_min_7cf53 6 = .ok (.goto 4, 3) := by decide +kernel
theorem dJ9_min_7cf53_9 : decode cJ9_min_7cf53 9 = .ok (.iload_n 1, 1) := by decide +kernel
theorem dJ9_min_7cf53_10 : decode cJ9_min_7cf53 10 = .ok (.ireturn, 1) := by decide +kernel
theorem dL_law_0 : decode cL_law 0 = .ok (.new 7, 3) := by decide +kernel
theorem dL_law_3 : decode cL_law 3 = .ok (.dup, 1) := by decide +kernel
theorem dL_law_4 : decode cL_law 4 = .ok (.invokespecial 9, 3) := by decide +kernel
theorem dL_law_7 : decode cL_law 7 = .ok (.astore_n 1, 1) := by decide +kernel
theorem dL_law_8 : decode cL_law 8 = .ok (.new 10, 3) := by decide +kernel
theorem dL_law_11 : decode cL_law 11 = .ok (.dup, 1) := by decide +kernel
theorem dL_law_12 : decode cL_law 12 = .ok (.invokespecial 12, 3) := by decide +kernel
theorem dL_law_15 : decode cL_law 15 = .ok (.astore_n 2, 1) := by decide +kernel
theorem dL_law_16 : decode cL_law 16 = .ok (.iconst 0, 1) := by decide +kernel
theorem dL_law_17 : decode cL_law 17 = .ok (.istore_n 3, 1) := by decide +kernel
theorem dL_law_18 : decode cL_law 18 = .ok (.iload_n 3, 1) := by decide +kernel
theorem dL_law_19 : decode cL_law 19 = .ok (.aload_n 0, 1) := by decide +kernel
theorem dL_law_20 : decode cL_law 20 = .ok (.arraylength, 1) := by decide +kernel
theorem dL_law_21 : decode cL_law 21 = .ok (.bipush 6, 2) := by decide +kernel
theorem dL_law_23 : decode cL_law 23 = .ok (.isub, 1) := by decide +kernel
theorem dL_law_24 : decode cL_law 24 = .ok (.if_icmp .gt 1091, 3) := by decide +kernel
theorem dL_law_27 : decode cL_law 27 = .ok (.aload_n 0, 1) := by decide +kernel
theorem dL_law_28 : decode cL_law 28 = .ok (.iload_n 3, 1) := by decide +kernel
theorem dL_law_29 : decode cL_law 29 = .ok (.iaload, 1) := by decide +kernel
theorem dL_law_30 : decode cL_law 30 = .ok (.bipush 31, 2) := by decide +kernel
theorem dL_law_32 : decode cL_law 32 = .ok (.iand, 1) := by decide +kernel
theorem dL_law_33 : decode cL_law 33 = .ok (.tableswitch 1076 0 26 #[123, 176, 209, 242, 285, 308, 331, 364, 387, 440, 453, 486, 519, 552, 605, 628, 661, 684, 707, 750, 783, 806, 839, 892, 915, 974, 1053], 123) := by decide +kernel
theorem dL_law_156 : decode cL_law 156 = .ok (.aload_n 1, 1) := by decide +kernel
theorem dL_law_157 : decode cL_law 157 = .ok (.aload_n 0, 1) := by decide +kernel
theorem dL_law_158 : decode cL_law 158 = .ok (.iload_n 3, 1) := by decide +kernel
theorem dL_law_159 : decode cL_law 159 = .ok (.iconst 1, 1) := by decide +kernel
theorem dL_law_160 : decode cL_law 160 = .ok (.iadd, 1) := by decide +kernel
theorem dL_law_161 : decode cL_law 161 = .ok (.iaload, 1) := by decide +kernel
theorem dL_law_162 : decode cL_law 162 = .ok (.aload_n 0, 1) := by decide +kernel
theorem dL_law_163 : decode cL_law 163 = .ok (.iload_n 3, 1) := by decide +kernel
theorem dL_law_164 : decode cL_law 164 = .ok (.iconst 2, 1) := by decide +kernel
theorem dL_law_165 : decode cL_law 165 = .ok (.iadd, 1) := by decide +kernel
theorem dL_law_166 : decode cL_law 166 = .ok (.iaload, 1) := by decide +kernel
theorem dL_law_167 : decode cL_law 167 = .ok (.aload_n 0, 1) := by decide +kernel
theorem dL_law_168 : decode cL_law 168 = .ok (.iload_n 3, 1) := by decide +kernel
theorem dL_law_169 : decode cL_law 169 = .ok (.iconst 3, 1) := by decide +kernel
theorem dL_law_170 : decode cL_law 170 = .ok (.iadd, 1) := by decide +kernel
theorem dL_law_171 : decode cL_law 171 = .ok (.iaload, 1) := by decide +kernel
theorem dL_law_172 : decode cL_law 172 = .ok (.aload_n 0, 1) := by decide +kernel
theorem dL_law_173 : decode cL_law 173 = .ok (.iload_n 3, 1) := by decide +kernel
theorem dL_law_174 : decode cL_law 174 = .ok (.iconst 4, 1) := by decide +kernel
theorem dL_law_175 : decode cL_law 175 = .ok (.iadd, 1) := by decide +kernel
theorem dL_law_176 : decode cL_law 176 = .ok (.iaload, 1) := by decide +kernel
theorem dL_law_177 : decode cL_law 177 = .ok (.invokevirtual 13, 3) := by decide +kernel
theorem dL_law_180 : decode cL_law 180 = .ok (.aload_n 2, 1) := by decide +kernel
theorem dL_law_181 : decode cL_law 181 = .ok (.aload_n 0, 1) := by decide +kernel
theorem dL_law_182 : decode cL_law 182 = .ok (.iload_n 3, 1) := by decide +kernel
theorem dL_law_183 : decode cL_law 183 = .ok (.iconst 1, 1) := by decide +kernel
theorem dL_law_184 : decode cL_law 184 = .ok (.iadd, 1) := by decide +kernel
theorem dL_law_185 : decode cL_law 185 = .ok (.iaload, 1) := by decide +kernel
theorem dL_law_186 : decode cL_law 186 = .ok (.aload_n 0, 1) := by decide +kernel
theorem dL_law_187 : decode cL_law 187 = .ok (.iload_n 3, 1) := by decide +kernel
theorem dL_law_188 : decode cL_law 188 = .ok (.iconst 2, 1) := by decide +kernel
theorem dL_law_189 : decode cL_law 189 = .ok (.iadd, 1) := by decide +kernel
theorem dL_law_190 : decode cL_law 190 = .ok (.iaload, 1) := by decide +kernel
theorem dL_law_191 : decode cL_law 191 = .ok (.aload_n 0, 1) := by decide +kernel
theorem dL_law_192 : decode cL_law 192 = .ok (.iload_n 3, 1) := by decide +kernel
theorem dL_law_193 : decode cL_law 193 = .ok (.iconst 3, 1) := by decide +kernel
theorem dL_law_194 : decode cL_law 194 = .ok (.iadd, 1) := by decide +kernel
theorem dL_law_195 : decode cL_law 195 = .ok (.iaload, 1) := by decide +kernel
theorem dL_law_196 : decode cL_law 196 = .ok (.aload_n 0, 1) := by decide +kernel
theorem dL_law_197 : decode cL_law 197 = .ok (.iload_n 3, 1) := by decide +kernel
theorem dL_law_198 : decode cL_law 198 = .ok (.iconst 4, 1) := by decide +kernel
theorem dL_law_199 : decode cL_law 199 = .ok (.iadd, 1) := by decide +kernel
theorem dL_law_200 : decode cL_law 200 = .ok (.iaload, 1) := by decide +kernel
theorem dL_law_201 : decode cL_law 201 = .ok (.invokevirtual 17, 3) := by decide +kernel
theorem dL_law_204 : decode cL_law 204 = .ok (.if_icmp .eq 905, 3) := by decide +kernel
theorem dL_law_207 : decode cL_law 207 = .ok (.iconst 0, 1) := by decide +kernel
theorem dL_law_208 : decode cL_law 208 = .ok (.ireturn, 1) := by decide +kernel
theorem dL_law_209 : decode cL_law 209 = .ok (.aload_n 1, 1) := by decide +kernel
theorem dL_law_210 : decode cL_law 210 = .ok (.aload_n 0, 1) := by decide +kernel
theorem dL_law_211 : decode cL_law 211 = .ok (.iload_n 3, 1) := by decide +kernel
theorem dL_law_212 : decode cL_law 212 = .ok (.iconst 1, 1) := by decide +kernel
theorem dL_law_213 : decode cL_law 213 = .ok (.iadd, 1) := by decide +kernel
theorem dL_law_214 : decode cL_law 214 = .ok (.iaload, 1) := by decide +kernel
theorem dL_law_215 : decode cL_law 215 = .ok (.aload_n 0, 1) := by decide +kernel
theorem dL_law_216 : decode cL_law 216 = .ok (.iload_n 3, 1) := by decide +kernel
theorem dL_law_217 : decode cL_law 217 = .ok (.iconst 2, 1) := by decide +kernel
theorem dL_law_218 : decode cL_law 218 = .ok (.iadd, 1) := by decide +kernel
theorem dL_law_219 : decode cL_law 219 = .ok (.iaload, 1) := by decide +kernel
theorem dL_law_220 : decode cL_law 220 = .ok (.invokevirtual 18, 3) := by decide +kernel
theorem dL_law_223 : decode cL_law 223 = .ok (.aload_n 2, 1) := by decide +kernel
theorem dL_law_224 : decode cL_law 224 = .ok (.aload_n 0, 1) := by decide +kernel
theorem dL_law_225 : decode cL_law 225 = .ok (.iload_n 3, 1) := by decide +kernel
theorem dL_law_226 : decode cL_law 226 = .ok (.iconst 1, 1) := by decide +kernel
theorem dL_law_227 : decode cL_law 227 = .ok (.iadd, 1) := by decide +kernel
theorem dL_law_228 : decode cL_law 228 = .ok (.iaload, 1) := by decide +kernel
theorem dL_law_229 : decode cL_law 229 = .ok (.aload_n 0, 1) := by decide +kernel
theorem dL_law_230 : decode cL_law 230 = .ok (.iload_n 3, 1) := by decide +kernel
theorem dL_law_231 : decode cL_law 231 = .ok (.iconst 2, 1) := by decide +kernel
theorem dL_law_232 : decode cL_law 232 = .ok (.iadd, 1) := by decide +kernel
theorem dL_law_233 : decode cL_law 233 = .ok (.iaload, 1) := by decide +kernel
theorem dL_law_234 : decode cL_law 234 = .ok (.invokevirtual 22, 3) := by decide +kernel
theorem dL_law_237 : decode cL_law 237 = .ok (.if_icmp .eq 872, 3) := by decide +kernel
theorem dL_law_240 : decode cL_law 240 = .ok (.iconst 0, 1) := by decide +kernel
theorem dL_law_241 : decode cL_law 241 = .ok (.ireturn, 1) := by decide +kernel
theorem dL_law_242 : decode cL_law 242 = .ok (.aload_n 1, 1) := by decide +kernel
theorem dL_law_243 : decode cL_law 243 = .ok (.aload_n 0, 1) := by decide +kernel
theorem dL_law_244 : decode cL_law 244 = .ok (.iload_n 3, 1) := by decide +kernel
theorem dL_law_245 : decode cL_law 245 = .ok (.iconst 1, 1) := by decide +kernel
theorem dL_law_246 : decode cL_law 246 = .ok (.iadd, 1) := by decide +kernel
theorem dL_law_247 : decode cL_law 247 = .ok (.iaload, 1) := by decide +kernel
theorem dL_law_248 : decode cL_law 248 = .ok (.aload_n 0, 1) := by decide +kernel
theorem dL_law_249 : decode cL_law 249 = .ok (.iload_n 3, 1) := by decide +kernel
theorem dL_law_250 : decode cL_law 250 = .ok (.iconst 2, 1) := by decide +kernel
theorem dL_law_251 : decode cL_law 251 = .ok (.iadd, 1) := by decide +kernel
theorem dL_law_252 : decode cL_law 252 = .ok (.iaload, 1) := by decide +kernel
theorem dL_law_253 : decode cL_law 253 = .ok (.invokevirtual 23, 3) := by decide +kernel
theorem dL_law_256 : decode cL_law 256 = .ok (.aload_n 2, 1) := by decide +kernel
theorem dL_law_257 : decode cL_law 257 = .ok (.aload_n 0, 1) := by decide +kernel
theorem dL_law_258 : decode cL_law 258 = .ok (.iload_n 3, 1) := by decide +kernel
theorem dL_law_259 : decode cL_law 259 = .ok (.iconst 1, 1) := by decide +kernel
theorem dL_law_260 : decode cL_law 260 = .ok (.iadd, 1) := by decide +kernel
theorem dL_law_261 : decode cL_law 261 = .ok (.iaload, 1) := by decide +kernel
theorem dL_law_262 : decode cL_law 262 = .ok (.aload_n 0, 1) := by decide +kernel
theorem dL_law_263 : decode cL_law 263 = .ok (.iload_n 3, 1) := by decide +kernel
theorem dL_law_264 : decode cL_law 264 = .ok (.iconst 2, 1) := by decide +kernel
theorem dL_law_265 : decode cL_law 265 = .ok (.iadd, 1) := by decide +kernel
theorem dL_law_266 : decode cL_law 266 = .ok (.iaload, 1) := by decide +kernel
theorem dL_law_267 : decode cL_law 267 = .ok (.invokevirtual 26, 3) := by decide +kernel
theorem dL_law_270 : decode cL_law 270 = .ok (.if_icmp .eq 839, 3) := by decide +kernel
theorem dL_law_273 : decode cL_law 273 = .ok (.iconst 0, 1) := by decide +kernel
theorem dL_law_274 : decode cL_law 274 = .ok (.ireturn, 1) := by decide +kernel
theorem dL_law_275 : decode cL_law 275 = .ok (.aload_n 1, 1) := by decide +kernel
theorem dL_law_276 : decode cL_law 276 = .ok (.aload_n 0, 1) := by decide +kernel
theorem dL_law_277 : decode cL_law 277 = .ok (.iload_n 3, 1) := by decide +kernel
theorem dL_law_278 : decode cL_law 278 = .ok (.iconst 1, 1) := by decide +kernel
theorem dL_law_279 : decode cL_law 279 = .ok (.iadd, 1) := by decide +kernel
theorem dL_law_280 : decode cL_law 280 = .ok (.iaload, 1) := by decide +kernel
theorem dL_law_281 : decode cL_law 281 = .ok (.aload_n 0, 1) := by decide +kernel
theorem dL_law_282 : decode cL_law 282 = .ok (.iload_n 3, 1) := by decide +kernel
theorem dL_law_283 : decode cL_law 283 = .ok (.iconst 2, 1) := by decide +kernel
theorem dL_law_284 : decode cL_law 284 = .ok (.iadd, 1) := by decide +kernel
theorem dL_law_285 : decode cL_law 285 = .ok (.iaload, 1) := by decide +kernel
theorem dL_law_286 : decode cL_law 286 = .ok (.aload_n 0, 1) := by decide +kernel
theorem dL_law_287 : decode cL_law 287 = .ok (.iload_n 3, 1) := by decide +kernel
theorem dL_law_288 : decode cL_law 288 = .ok (.iconst 3, 1) := by decide +kernel
theorem dL_law_289 : decode cL_law 289 = .ok (.iadd, 1) := by decide +kernel
theorem dL_law_290 : decode cL_law 290 = .ok (.iaload, 1) := by decide +kernel
theorem dL_law_291 : decode cL_law 291 = .ok (.invokevirtual 27, 3) := by decide +kernel
theorem dL_law_294 : decode cL_law 294 = .ok (.aload_n 2, 1) := by decide +kernel
theorem dL_law_295 : decode cL_law 295 = .ok (.aload_n 0, 1) := by decide +kernel
theorem dL_law_296 : decode cL_law 296 = .ok (.iload_n 3, 1) := by decide +kernel
theorem dL_law_297 : decode cL_law 297 = .ok (.iconst 1, 1) := by decide +kernel
theorem dL_law_298 : decode cL_law 298 = .ok (.iadd, 1) := by decide +kernel
theorem dL_law_299 : decode cL_law 299 = .ok (.iaload, 1) := by decide +kernel
theorem dL_law_300 : decode cL_law 300 = .ok (.aload_n 0, 1) := by decide +kernel
theorem dL_law_301 : decode cL_law 301 = .ok (.iload_n 3, 1) := by decide +kernel
theorem dL_law_302 : decode cL_law 302 = .ok (.iconst 2, 1) := by decide +kernel
theorem dL_law_303 : decode cL_law 303 = .ok (.iadd, 1) := by decide +kernel
theorem dL_law_304 : decode cL_law 304 = .ok (.iaload, 1) := by decide +kernel
theorem dL_law_305 : decode cL_law 305 = .ok (.aload_n 0, 1) := by decide +kernel
theorem dL_law_306 : decode cL_law 306 = .ok (.iload_n 3, 1) := by decide +kernel
theorem dL_law_307 : decode cL_law 307 = .ok (.iconst 3, 1) := by decide +kernel
theorem dL_law_308 : decode cL_law 308 = .ok (.iadd, 1) := by decide +kernel
theorem dL_law_309 : decode cL_law 309 = .ok (.iaload, 1) := by decide +kernel
theorem dL_law_310 : decode cL_law 310 = .ok (.invokevirtual 31, 3) := by decide +kernel
theorem dL_law_313 : decode cL_law 313 = .ok (.if_icmp .eq 796, 3) := by decide +kernel
theorem dL_law_316 : decode cL_law 316 = .ok (.iconst 0, 1) := by decide +kernel
theorem dL_law_317 : decode cL_law 317 = .ok (.ireturn, 1) := by decide +kernel
theorem dL_law_318 : decode cL_law 318 = .ok (.aload_n 1, 1) := by decide +kernel
theorem dL_law_319 : decode cL_law 319 = .ok (.aload_n 0, 1) := by decide +kernel
theorem dL_law_320 : decode cL_law 320 = .ok (.iload_n 3, 1) := by decide +kernel
theorem dL_law_321 : decode cL_law 321 = .ok (.iconst 1, 1) := by decide +kernel
theorem dL_law_322 : decode cL_law 322 = .ok (.iadd, 1) := by decide +kernel
theorem dL_law_323 : decode cL_law 323 = .ok (.iaload, 1) := by decide +kernel
theorem dL_law_324 : decode cL_law 324 = .ok (.invokevirtual 32, 3) := by decide +kernel
theorem dL_law_327 : decode cL_law 327 = .ok (.aload_n 2, 1) := by decide +kernel
theorem dL_law_328 : decode cL_law 328 = .ok (.aload_n 0, 1) := by decide +kernel
theorem dL_law_329 : decode cL_law 329 = .ok (.iload_n 3, 1) := by decide +kernel
theorem dL_law_330 : decode cL_law 330 = .ok (.iconst 1, 1) := by decide +kernel
theorem dL_law_331 : decode cL_law 331 = .ok (.iadd, 1) := by decide +kernel
theorem dL_law_332 : decode cL_law 332 = .ok (.iaload, 1) := by decide +kernel
theorem dL_law_333 : decode cL_law 333 = .ok (.invokevirtual 36, 3) := by decide +kernel
theorem dL_law_336 : decode cL_law 336 = .ok (.if_icmp .eq 773, 3) := by decide +kernel
theorem dL_law_339 : decode cL_law 339 = .ok (.iconst 0, 1) := by decide +kernel
theorem dL_law_340 : decode cL_law 340 = .ok (.ireturn, 1) := by decide +kernel
theorem dL_law_341 : decode cL_law 341 = .ok (.aload_n 1, 1) := by decide +kernel
theorem dL_law_342 : decode cL_law 342 = .ok (.aload_n 0, 1) := by decide +kernel
theorem dL_law_343 : decode cL_law 343 = .ok (.iload_n 3, 1) := by decide +kernel
theorem dL_law_344 : decode cL_law 344 = .ok (.iconst 1, 1) := by decide +kernel
theorem dL_law_345 : decode cL_law 345 = .ok (.iadd, 1) := by decide +kernel
theorem dL_law_346 : decode cL_law 346 = .ok (.iaload, 1) := by decide +kernel
theorem dL_law_347 : decode cL_law 347 = .ok (.invokevirtual 37, 3) := by decide +kernel
theorem dL_law_350 : decode cL_law 350 = .ok (.aload_n 2, 1) := by decide +kernel
theorem dL_law_351 : decode cL_law 351 = .ok (.aload_n 0, 1) := by decide +kernel
theorem dL_law_352 : decode cL_law 352 = .ok (.iload_n 3, 1) := by decide +kernel
theorem dL_law_353 : decode cL_law 353 = .ok (.iconst 1, 1) := by decide +kernel
theorem dL_law_354 : decode cL_law 354 = .ok (.iadd, 1) := by decide +kernel
theorem dL_law_355 : decode cL_law 355 = .ok (.iaload, 1) := by decide +kernel
theorem dL_law_356 : decode cL_law 356 = .ok (.invokevirtual 40, 3) := by decide +kernel
theorem dL_law_359 : decode cL_law 359 = .ok (.if_icmp .eq 750, 3) := by decide +kernel
theorem dL_law_362 : decode cL_law 362 = .ok (.iconst 0, 1) := by decide +kernel
theorem dL_law_363 : decode cL_law 363 = .ok (.ireturn, 1) := by decide +kernel
theorem dL_law_364 : decode cL_law 364 = .ok (.aload_n 1, 1) := by decide +kernel
theorem dL_law_365 : decode cL_law 365 = .ok (.aload_n 0, 1) := by decide +kernel
theorem dL_law_366 : decode cL_law 366 = .ok (.iload_n 3, 1) := by decide +kernel
theorem dL_law_367 : decode cL_law 367 = .ok (.iconst 1, 1) := by decide +kernel
theorem dL_law_368 : decode cL_law 368 = .ok (.iadd, 1) := by decide +kernel
theorem dL_law_369 : decode cL_law 369 = .ok (.iaload, 1) := by decide +kernel
theorem dL_law_370 : decode cL_law 370 = .ok (.aload_n 0, 1) := by decide +kernel
theorem dL_law_371 : decode cL_law 371 = .ok (.iload_n 3, 1) := by decide +kernel
theorem dL_law_372 : decode cL_law 372 = .ok (.iconst 2, 1) := by decide +kernel
theorem dL_law_373 : decode cL_law 373 = .ok (.iadd, 1) := by decide +kernel
theorem dL_law_374 : decode cL_law 374 = .ok (.iaload, 1) := by decide +kernel
theorem dL_law_375 : decode cL_law 375 = .ok (.invokevirtual 41, 3) := by decide +kernel
theorem dL_law_378 : decode cL_law 378 = .ok (.aload_n 2, 1) := by decide +kernel
theorem dL_law_379 : decode cL_law 379 = .ok (.aload_n 0, 1) := by decide +kernel
theorem dL_law_380 : decode cL_law 380 = .ok (.iload_n 3, 1) := by decide +kernel
theorem dL_law_381 : decode cL_law 381 = .ok (.iconst 1, 1) := by decide +kernel
theorem dL_law_382 : decode cL_law 382 = .ok (.iadd, 1) := by decide +kernel
theorem dL_law_383 : decode cL_law 383 = .ok (.iaload, 1) := by decide +kernel
theorem dL_law_384 : decode cL_law 384 = .ok (.aload_n 0, 1) := by decide +kernel
theorem dL_law_385 : decode cL_law 385 = .ok (.iload_n 3, 1) := by decide +kernel
theorem dL_law_386 : decode cL_law 386 = .ok (.iconst 2, 1) := by decide +kernel
theorem dL_law_387 : decode cL_law 387 = .ok (.iadd, 1) := by decide +kernel
theorem dL_law_388 : decode cL_law 388 = .ok (.iaload, 1) := by decide +kernel
theorem dL_law_389 : decode cL_law 389 = .ok (.invokevirtual 44, 3) := by decide +kernel
theorem dL_law_392 : decode cL_law 392 = .ok (.if_icmp .eq 717, 3) := by decide +kernel
theorem dL_law_395 : decode cL_law 395 = .ok (.iconst 0, 1) := by decide +kernel
theorem dL_law_396 : decode cL_law 396 = .ok (.ireturn, 1) := by decide +kernel
theorem dL_law_397 : decode cL_law 397 = .ok (.aload_n 1, 1) := by decide +kernel
theorem dL_law_398 : decode cL_law 398 = .ok (.aload_n 0, 1) := by decide +kernel
theorem dL_law_399 : decode cL_law 399 = .ok (.iload_n 3, 1) := by decide +kernel
theorem dL_law_400 : decode cL_law 400 = .ok (.iconst 1, 1) := by decide +kernel
theorem dL_law_401 : decode cL_law 401 = .ok (.iadd, 1) := by decide +kernel
theorem dL_law_402 : decode cL_law 402 = .ok (.iaload, 1) := by decide +kernel
theorem dL_law_403 : decode cL_law 403 = .ok (.invokevirtual 45, 3) := by decide +kernel
theorem dL_law_406 : decode cL_law 406 = .ok (.aload_n 2, 1) := by decide +kernel
theorem dL_law_407 : decode cL_law 407 = .ok (.aload_n 0, 1) := by decide +kernel
theorem dL_law_408 : decode cL_law 408 = .ok (.iload_n 3, 1) := by decide +kernel
theorem dL_law_409 : decode cL_law 409 = .ok (.iconst 1, 1) := by decide +kernel
theorem dL_law_410 : decode cL_law 410 = .ok (.iadd, 1) := by decide +kernel
theorem dL_law_411 : decode cL_law 411 = .ok (.iaload, 1) := by decide +kernel
theorem dL_law_412 : decode cL_law 412 = .ok (.invokevirtual 48, 3) := by decide +kernel
theorem dL_law_415 : decode cL_law 415 = .ok (.if_icmp .eq 694, 3) := by decide +kernel
theorem dL_law_418 : decode cL_law 418 = .ok (.iconst 0, 1) := by decide +kernel
theorem dL_law_419 : decode cL_law 419 = .ok (.ireturn, 1) := by decide +kernel
theorem dL_law_420 : decode cL_law 420 = .ok (.aload_n 1, 1) := by decide +kernel
theorem dL_law_421 : decode cL_law 421 = .ok (.aload_n 0, 1) := by decide +kernel
theorem dL_law_422 : decode cL_law 422 = .ok (.iload_n 3, 1) := by decide +kernel
theorem dL_law_423 : decode cL_law 423 = .ok (.iconst 1, 1) := by decide +kernel
theorem dL_law_424 : decode cL_law 424 = .ok (.iadd, 1) := by decide +kernel
theorem dL_law_425 : decode cL_law 425 = .ok (.iaload, 1) := by decide +kernel
theorem dL_law_426 : decode cL_law 426 = .ok (.aload_n 0, 1) := by decide +kernel
theorem dL_law_427 : decode cL_law 427 = .ok (.iload_n 3, 1) := by decide +kernel
theorem dL_law_428 : decode cL_law 428 = .ok (.iconst 2, 1) := by decide +kernel
theorem dL_law_429 : decode cL_law 429 = .ok (.iadd, 1) := by decide +kernel
theorem dL_law_430 : decode cL_law 430 = .ok (.iaload, 1) := by decide +kernel
theorem dL_law_431 : decode cL_law 431 = .ok (.aload_n 0, 1) := by decide +kernel
theorem dL_law_432 : decode cL_law 432 = .ok (.iload_n 3, 1) := by decide +kernel
theorem dL_law_433 : decode cL_law 433 = .ok (.iconst 3, 1) := by decide +kernel
theorem dL_law_434 : decode cL_law 434 = .ok (.iadd, 1) := by decide +kernel
theorem dL_law_435 : decode cL_law 435 = .ok (.iaload, 1) := by decide +kernel
theorem dL_law_436 : decode cL_law 436 = .ok (.aload_n 0, 1) := by decide +kernel
theorem dL_law_437 : decode cL_law 437 = .ok (.iload_n 3, 1) := by decide +kernel
theorem dL_law_438 : decode cL_law 438 = .ok (.iconst 4, 1) := by decide +kernel
theorem dL_law_439 : decode cL_law 439 = .ok (.iadd, 1) := by decide +kernel
theorem dL_law_440 : decode cL_law 440 = .ok (.iaload, 1) := by decide +kernel
theorem dL_law_441 : decode cL_law 441 = .ok (.invokevirtual 49, 3) := by decide +kernel
theorem dL_law_444 : decode cL_law 444 = .ok (.aload_n 2, 1) := by decide +kernel
theorem dL_law_445 : decode cL_law 445 = .ok (.aload_n 0, 1) := by decide +kernel
theorem dL_law_446 : decode cL_law 446 = .ok (.iload_n 3, 1) := by decide +kernel
theorem dL_law_447 : decode cL_law 447 = .ok (.iconst 1, 1) := by decide +kernel
theorem dL_law_448 : decode cL_law 448 = .ok (.iadd, 1) := by decide +kernel
theorem dL_law_449 : decode cL_law 449 = .ok (.iaload, 1) := by decide +kernel
theorem dL_law_450 : decode cL_law 450 = .ok (.aload_n 0, 1) := by decide +kernel
theorem dL_law_451 : decode cL_law 451 = .ok (.iload_n 3, 1) := by decide +kernel
theorem dL_law_452 : decode cL_law 452 = .ok (.iconst 2, 1) := by decide +kernel
theorem dL_law_453 : decode cL_law 453 = .ok (.iadd, 1) := by decide +kernel
theorem dL_law_454 : decode cL_law 454 = .ok (.iaload, 1) := by decide +kernel
theorem dL_law_455 : decode cL_law 455 = .ok (.aload_n 0, 1) := by decide +kernel
theorem dL_law_456 : decode cL_law 456 = .ok (.iload_n 3, 1) := by decide +kernel
theorem dL_law_457 : decode cL_law 457 = .ok (.iconst 3, 1) := by decide +kernel
theorem dL_law_458 : decode cL_law 458 = .ok (.iadd, 1) := by decide +kernel
theorem dL_law_459 : decode cL_law 459 = .ok (.iaload, 1) := by decide +kernel
theorem dL_law_460 : decode cL_law 460 = .ok (.aload_n 0, 1) := by decide +kernel
theorem dL_law_461 : decode cL_law 461 = .ok (.iload_n 3, 1) := by decide +kernel
theorem dL_law_462 : decode cL_law 462 = .ok (.iconst 4, 1) := by decide +kernel
theorem dL_law_463 : decode cL_law 463 = .ok (.iadd, 1) := by decide +kernel
theorem dL_law_464 : decode cL_law 464 = .ok (.iaload, 1) := by decide +kernel
theorem dL_law_465 : decode cL_law 465 = .ok (.invokevirtual 52, 3) := by decide +kernel
theorem dL_law_468 : decode cL_law 468 = .ok (.if_icmp .eq 641, 3) := by decide +kernel
theorem dL_law_471 : decode cL_law 471 = .ok (.iconst 0, 1) := by decide +kernel
theorem dL_law_472 : decode cL_law 472 = .ok (.ireturn, 1) := by decide +kernel
theorem dL_law_473 : decode cL_law 473 = .ok (.aload_n 1, 1) := by decide +kernel
theorem dL_law_474 : decode cL_law 474 = .ok (.invokevirtual 53, 3) := by decide +kernel
theorem dL_law_477 : decode cL_law 477 = .ok (.aload_n 2, 1) := by decide +kernel
theorem dL_law_478 : decode cL_law 478 = .ok (.invokevirtual 57, 3) := by decide +kernel
theorem dL_law_481 : decode cL_law 481 = .ok (.if_icmp .eq 628, 3) := by decide +kernel
theorem dL_law_484 : decode cL_law 484 = .ok (.iconst 0, 1) := by decide +kernel
theorem dL_law_485 : decode cL_law 485 = .ok (.ireturn, 1) := by decide +kernel
theorem dL_law_486 : decode cL_law 486 = .ok (.aload_n 1, 1) := by decide +kernel
theorem dL_law_487 : decode cL_law 487 = .ok (.aload_n 0, 1) := by decide +kernel
theorem dL_law_488 : decode cL_law 488 = .ok (.iload_n 3, 1) := by decide +kernel
theorem dL_law_489 : decode cL_law 489 = .ok (.iconst 1, 1) := by decide +kernel
theorem dL_law_490 : decode cL_law 490 = .ok (.iadd, 1) := by decide +kernel
theorem dL_law_491 : decode cL_law 491 = .ok (.iaload, 1) := by decide +kernel
theorem dL_law_492 : decode cL_law 492 = .ok (.aload_n 0, 1) := by decide +kernel
theorem dL_law_493 : decode cL_law 493 = .ok (.iload_n 3, 1) := by decide +kernel
theorem dL_law_494 : decode cL_law 494 = .ok (.iconst 2, 1) := by decide +kernel
theorem dL_law_495 : decode cL_law 495 = .ok (.iadd, 1) := by decide +kernel
theorem dL_law_496 : decode cL_law 496 = .ok (.iaload, 1) := by decide +kernel
theorem dL_law_497 : decode cL_law 497 = .ok (.invokevirtual 58, 3) := by decide +kernel
theorem dL_law_500 : decode cL_law 500 = .ok (.aload_n 2, 1) := by decide +kernel
theorem dL_law_501 : decode cL_law 501 = .ok (.aload_n 0, 1) := by decide +kernel
theorem dL_law_502 : decode cL_law 502 = .ok (.iload_n 3, 1) := by decide +kernel
theorem dL_law_503 : decode cL_law 503 = .ok (.iconst 1, 1) := by decide +kernel
theorem dL_law_504 : decode cL_law 504 = .ok (.iadd, 1) := by decide +kernel
theorem dL_law_505 : decode cL_law 505 = .ok (.iaload, 1) := by decide +kernel
theorem dL_law_506 : decode cL_law 506 = .ok (.aload_n 0, 1) := by decide +kernel
theorem dL_law_507 : decode cL_law 507 = .ok (.iload_n 3, 1) := by decide +kernel
theorem dL_law_508 : decode cL_law 508 = .ok (.iconst 2, 1) := by decide +kernel
theorem dL_law_509 : decode cL_law 509 = .ok (.iadd, 1) := by decide +kernel
theorem dL_law_510 : decode cL_law 510 = .ok (.iaload, 1) := by decide +kernel
theorem dL_law_511 : decode cL_law 511 = .ok (.invokevirtual 61, 3) := by decide +kernel
theorem dL_law_514 : decode cL_law 514 = .ok (.if_icmp .eq 595, 3) := by decide +kernel
theorem dL_law_517 : decode cL_law 517 = .ok (.iconst 0, 1) := by decide +kernel
theorem dL_law_518 : decode cL_law 518 = .ok (.ireturn, 1) := by decide +kernel
theorem dL_law_519 : decode cL_law 519 = .ok (.aload_n 1, 1) := by decide +kernel
theorem dL_law_520 : decode cL_law 520 = .ok (.aload_n 0, 1) := by decide +kernel
theorem dL_law_521 : decode cL_law 521 = .ok (.iload_n 3, 1) := by decide +kernel
theorem dL_law_522 : decode cL_law 522 = .ok (.iconst 1, 1) := by decide +kernel
theorem dL_law_523 : decode cL_law 523 = .ok (.iadd, 1) := by decide +kernel
theorem dL_law_524 : decode cL_law 524 = .ok (.iaload, 1) := by decide +kernel
theorem dL_law_525 : decode cL_law 525 = .ok (.aload_n 0, 1) := by decide +kernel
theorem dL_law_526 : decode cL_law 526 = .ok (.iload_n 3, 1) := by decide +kernel
theorem dL_law_527 : decode cL_law 527 = .ok (.iconst 2, 1) := by decide +kernel
theorem dL_law_528 : decode cL_law 528 = .ok (.iadd, 1) := by decide +kernel
theorem dL_law_529 : decode cL_law 529 = .ok (.iaload, 1) := by decide +kernel
theorem dL_law_530 : decode cL_law 530 = .ok (.invokevirtual 62, 3) := by decide +kernel
theorem dL_law_533 : decode cL_law 533 = .ok (.aload_n 2, 1) := by decide +kernel
theorem dL_law_534 : decode cL_law 534 = .ok (.aload_n 0, 1) := by decide +kernel
theorem dL_law_535 : decode cL_law 535 = .ok (.iload_n 3, 1) := by decide +kernel
theorem dL_law_536 : decode cL_law 536 = .ok (.iconst 1, 1) := by decide +kernel
theorem dL_law_537 : decode cL_law 537 = .ok (.iadd, 1) := by decide +kernel
theorem dL_law_538 : decode cL_law 538 = .ok (.iaload, 1) := by decide +kernel
theorem dL_law_539 : decode cL_law 539 = .ok (.aload_n 0, 1) := by decide +kernel
theorem dL_law_540 : decode cL_law 540 = .ok (.iload_n 3, 1) := by decide +kernel
theorem dL_law_541 : decode cL_law 541 = .ok (.iconst 2, 1) := by decide +kernel
theorem dL_law_542 : decode cL_law 542 = .ok (.iadd, 1) := by decide +kernel
theorem dL_law_543 : decode cL_law 543 = .ok (.iaload, 1) := by decide +kernel
theorem dL_law_544 : decode cL_law 544 = .ok (.invokevirtual 65, 3) := by decide +kernel
theorem dL_law_547 : decode cL_law 547 = .ok (.if_icmp .eq 562, 3) := by decide +kernel
theorem dL_law_550 : decode cL_law 550 = .ok (.iconst 0, 1) := by decide +kernel
theorem dL_law_551 : decode cL_law 551 = .ok (.ireturn, 1) := by decide +kernel
theorem dL_law_552 : decode cL_law 552 = .ok (.aload_n 1, 1) := by decide +kernel
theorem dL_law_553 : decode cL_law 553 = .ok (.aload_n 0, 1) := by decide +kernel
theorem dL_law_554 : decode cL_law 554 = .ok (.iload_n 3, 1) := by decide +kernel
theorem dL_law_555 : decode cL_law 555 = .ok (.iconst 1, 1) := by decide +kernel
theorem dL_law_556 : decode cL_law 556 = .ok (.iadd, 1) := by decide +kernel
theorem dL_law_557 : decode cL_law 557 = .ok (.iaload, 1) := by decide +kernel
theorem dL_law_558 : decode cL_law 558 = .ok (.aload_n 0, 1) := by decide +kernel
theorem dL_law_559 : decode cL_law 559 = .ok (.iload_n 3, 1) := by decide +kernel
theorem dL_law_560 : decode cL_law 560 = .ok (.iconst 2, 1) := by decide +kernel
theorem dL_law_561 : decode cL_law 561 = .ok (.iadd, 1) := by decide +kernel
theorem dL_law_562 : decode cL_law 562 = .ok (.iaload, 1) := by decide +kernel
theorem dL_law_563 : decode cL_law 563 = .ok (.invokevirtual 66, 3) := by decide +kernel
theorem dL_law_566 : decode cL_law 566 = .ok (.aload_n 2, 1) := by decide +kernel
theorem dL_law_567 : decode cL_law 567 = .ok (.aload_n 0, 1) := by decide +kernel
theorem dL_law_568 : decode cL_law 568 = .ok (.iload_n 3, 1) := by decide +kernel
theorem dL_law_569 : decode cL_law 569 = .ok (.iconst 1, 1) := by decide +kernel
theorem dL_law_570 : decode cL_law 570 = .ok (.iadd, 1) := by decide +kernel
theorem dL_law_571 : decode cL_law 571 = .ok (.iaload, 1) := by decide +kernel
theorem dL_law_572 : decode cL_law 572 = .ok (.aload_n 0, 1) := by decide +kernel
theorem dL_law_573 : decode cL_law 573 = .ok (.iload_n 3, 1) := by decide +kernel
theorem dL_law_574 : decode cL_law 574 = .ok (.iconst 2, 1) := by decide +kernel
theorem dL_law_575 : decode cL_law 575 = .ok (.iadd, 1) := by decide +kernel
theorem dL_law_576 : decode cL_law 576 = .ok (.iaload, 1) := by decide +kernel
theorem dL_law_577 : decode cL_law 577 = .ok (.invokevirtual 69, 3) := by decide +kernel
theorem dL_law_580 : decode cL_law 580 = .ok (.if_icmp .eq 529, 3) := by decide +kernel
theorem dL_law_583 : decode cL_law 583 = .ok (.iconst 0, 1) := by decide +kernel
theorem dL_law_584 : decode cL_law 584 = .ok (.ireturn, 1) := by decide +kernel
theorem dL_law_585 : decode cL_law 585 = .ok (.aload_n 1, 1) := by decide +kernel
theorem dL_law_586 : decode cL_law 586 = .ok (.aload_n 0, 1) := by decide +kernel
theorem dL_law_587 : decode cL_law 587 = .ok (.iload_n 3, 1) := by decide +kernel
theorem dL_law_588 : decode cL_law 588 = .ok (.iconst 1, 1) := by decide +kernel
theorem dL_law_589 : decode cL_law 589 = .ok (.iadd, 1) := by decide +kernel
theorem dL_law_590 : decode cL_law 590 = .ok (.iaload, 1) := by decide +kernel
theorem dL_law_591 : decode cL_law 591 = .ok (.aload_n 0, 1) := by decide +kernel
theorem dL_law_592 : decode cL_law 592 = .ok (.iload_n 3, 1) := by decide +kernel
theorem dL_law_593 : decode cL_law 593 = .ok (.iconst 2, 1) := by decide +kernel
theorem dL_law_594 : decode cL_law 594 = .ok (.iadd, 1) := by decide +kernel
theorem dL_law_595 : decode cL_law 595 = .ok (.iaload, 1) := by decide +kernel
theorem dL_law_596 : decode cL_law 596 = .ok (.aload_n 0, 1) := by decide +kernel
theorem dL_law_597 : decode cL_law 597 = .ok (.iload_n 3, 1) := by decide +kernel
theorem dL_law_598 : decode cL_law 598 = .ok (.iconst 3, 1) := by decide +kernel
theorem dL_law_599 : decode cL_law 599 = .ok (.iadd, 1) := by decide +kernel
theorem dL_law_600 : decode cL_law 600 = .ok (.iaload, 1) := by decide +kernel
theorem dL_law_601 : decode cL_law 601 = .ok (.aload_n 0, 1) := by decide +kernel
theorem dL_law_602 : decode cL_law 602 = .ok (.iload_n 3, 1) := by decide +kernel
theorem dL_law_603 : decode cL_law 603 = .ok (.iconst 4, 1) := by decide +kernel
theorem dL_law_604 : decode cL_law 604 = .ok (.iadd, 1) := by decide +kernel
theorem dL_law_605 : decode cL_law 605 = .ok (.iaload, 1) := by decide +kernel
theorem dL_law_606 : decode cL_law 606 = .ok (.invokevirtual 70, 3) := by decide +kernel
theorem dL_law_609 : decode cL_law 609 = .ok (.aload_n 2, 1) := by decide +kernel
theorem dL_law_610 : decode cL_law 610 = .ok (.aload_n 0, 1) := by decide +kernel
theorem dL_law_611 : decode cL_law 611 = .ok (.iload_n 3, 1) := by decide +kernel
theorem dL_law_612 : decode cL_law 612 = .ok (.iconst 1, 1) := by decide +kernel
theorem dL_law_613 : decode cL_law 613 = .ok (.iadd, 1) := by decide +kernel
theorem dL_law_614 : decode cL_law 614 = .ok (.iaload, 1) := by decide +kernel
theorem dL_law_615 : decode cL_law 615 = .ok (.aload_n 0, 1) := by decide +kernel
theorem dL_law_616 : decode cL_law 616 = .ok (.iload_n 3, 1) := by decide +kernel
theorem dL_law_617 : decode cL_law 617 = .ok (.iconst 2, 1) := by decide +kernel
theorem dL_law_618 : decode cL_law 618 = .ok (.iadd, 1) := by decide +kernel
theorem dL_law_619 : decode cL_law 619 = .ok (.iaload, 1) := by decide +kernel
theorem dL_law_620 : decode cL_law 620 = .ok (.aload_n 0, 1) := by decide +kernel
theorem dL_law_621 : decode cL_law 621 = .ok (.iload_n 3, 1) := by decide +kernel
theorem dL_law_622 : decode cL_law 622 = .ok (.iconst 3, 1) := by decide +kernel
theorem dL_law_623 : decode cL_law 623 = .ok (.iadd, 1) := by decide +kernel
theorem dL_law_624 : decode cL_law 624 = .ok (.iaload, 1) := by decide +kernel
theorem dL_law_625 : decode cL_law 625 = .ok (.aload_n 0, 1) := by decide +kernel
theorem dL_law_626 : decode cL_law 626 = .ok (.iload_n 3, 1) := by decide +kernel
theorem dL_law_627 : decode cL_law 627 = .ok (.iconst 4, 1) := by decide +kernel
theorem dL_law_628 : decode cL_law 628 = .ok (.iadd, 1) := by decide +kernel
theorem dL_law_629 : decode cL_law 629 = .ok (.iaload, 1) := by decide +kernel
theorem dL_law_630 : decode cL_law 630 = .ok (.invokevirtual 73, 3) := by decide +kernel
theorem dL_law_633 : decode cL_law 633 = .ok (.if_icmp .eq 476, 3) := by decide +kernel
theorem dL_law_636 : decode cL_law 636 = .ok (.iconst 0, 1) := by decide +kernel
theorem dL_law_637 : decode cL_law 637 = .ok (.ireturn, 1) := by decide +kernel
theorem dL_law_638 : decode cL_law 638 = .ok (.aload_n 1, 1) := by decide +kernel
theorem dL_law_639 : decode cL_law 639 = .ok (.aload_n 0, 1) := by decide +kernel
theorem dL_law_640 : decode cL_law 640 = .ok (.iload_n 3, 1) := by decide +kernel
theorem dL_law_641 : decode cL_law 641 = .ok (.iconst 1, 1) := by decide +kernel
theorem dL_law_642 : decode cL_law 642 = .ok (.iadd, 1) := by decide +kernel
theorem dL_law_643 : decode cL_law 643 = .ok (.iaload, 1) := by decide +kernel
theorem dL_law_644 : decode cL_law 644 = .ok (.invokevirtual 74, 3) := by decide +kernel
theorem dL_law_647 : decode cL_law 647 = .ok (.aload_n 2, 1) := by decide +kernel
theorem dL_law_648 : decode cL_law 648 = .ok (.aload_n 0, 1) := by decide +kernel
theorem dL_law_649 : decode cL_law 649 = .ok (.iload_n 3, 1) := by decide +kernel
theorem dL_law_650 : decode cL_law 650 = .ok (.iconst 1, 1) := by decide +kernel
theorem dL_law_651 : decode cL_law 651 = .ok (.iadd, 1) := by decide +kernel
theorem dL_law_652 : decode cL_law 652 = .ok (.iaload, 1) := by decide +kernel
theorem dL_law_653 : decode cL_law 653 = .ok (.invokevirtual 77, 3) := by decide +kernel
theorem dL_law_656 : decode cL_law 656 = .ok (.if_icmp .eq 453, 3) := by decide +kernel
theorem dL_law_659 : decode cL_law 659 = .ok (.iconst 0, 1) := by decide +kernel
theorem dL_law_660 : decode cL_law 660 = .ok (.ireturn, 1) := by decide +kernel
theorem dL_law_661 : decode cL_law 661 = .ok (.aload_n 1, 1) := by decide +kernel
theorem dL_law_662 : decode cL_law 662 = .ok (.aload_n 0, 1) := by decide +kernel
theorem dL_law_663 : decode cL_law 663 = .ok (.iload_n 3, 1) := by decide +kernel
theorem dL_law_664 : decode cL_law 664 = .ok (.iconst 1, 1) := by decide +kernel
theorem dL_law_665 : decode cL_law 665 = .ok (.iadd, 1) := by decide +kernel
theorem dL_law_666 : decode cL_law 666 = .ok (.iaload, 1) := by decide +kernel
theorem dL_law_667 : decode cL_law 667 = .ok (.aload_n 0, 1) := by decide +kernel
theorem dL_law_668 : decode cL_law 668 = .ok (.iload_n 3, 1) := by decide +kernel
theorem dL_law_669 : decode cL_law 669 = .ok (.iconst 2, 1) := by decide +kernel
theorem dL_law_670 : decode cL_law 670 = .ok (.iadd, 1) := by decide +kernel
theorem dL_law_671 : decode cL_law 671 = .ok (.iaload, 1) := by decide +kernel
theorem dL_law_672 : decode cL_law 672 = .ok (.invokevirtual 78, 3) := by decide +kernel
theorem dL_law_675 : decode cL_law 675 = .ok (.aload_n 2, 1) := by decide +kernel
theorem dL_law_676 : decode cL_law 676 = .ok (.aload_n 0, 1) := by decide +kernel
theorem dL_law_677 : decode cL_law 677 = .ok (.iload_n 3, 1) := by decide +kernel
theorem dL_law_678 : decode cL_law 678 = .ok (.iconst 1, 1) := by decide +kernel
theorem dL_law_679 : decode cL_law 679 = .ok (.iadd, 1) := by decide +kernel
theorem dL_law_680 : decode cL_law 680 = .ok (.iaload, 1) := by decide +kernel
theorem dL_law_681 : decode cL_law 681 = .ok (.aload_n 0, 1) := by decide +kernel
theorem dL_law_682 : decode cL_law 682 = .ok (.iload_n 3, 1) := by decide +kernel
theorem dL_law_683 : decode cL_law 683 = .ok (.iconst 2, 1) := by decide +kernel
theorem dL_law_684 : decode cL_law 684 = .ok (.iadd, 1) := by decide +kernel
theorem dL_law_685 : decode cL_law 685 = .ok (.iaload, 1) := by decide +kernel
theorem dL_law_686 : decode cL_law 686 = .ok (.invokevirtual 81, 3) := by decide +kernel
theorem dL_law_689 : decode cL_law 689 = .ok (.if_icmp .eq 420, 3) := by decide +kernel
theorem dL_law_692 : decode cL_law 692 = .ok (.iconst 0, 1) := by decide +kernel
theorem dL_law_693 : decode cL_law 693 = .ok (.ireturn, 1) := by decide +kernel
theorem dL_law_694 : decode cL_law 694 = .ok (.aload_n 1, 1) := by decide +kernel
theorem dL_law_695 : decode cL_law 695 = .ok (.aload_n 0, 1) := by decide +kernel
theorem dL_law_696 : decode cL_law 696 = .ok (.iload_n 3, 1) := by decide +kernel
theorem dL_law_697 : decode cL_law 697 = .ok (.iconst 1, 1) := by decide +kernel
theorem dL_law_698 : decode cL_law 698 = .ok (.iadd, 1) := by decide +kernel
theorem dL_law_699 : decode cL_law 699 = .ok (.iaload, 1) := by decide +kernel
theorem dL_law_700 : decode cL_law 700 = .ok (.invokevirtual 82, 3) := by decide +kernel
theorem dL_law_703 : decode cL_law 703 = .ok (.aload_n 2, 1) := by decide +kernel
theorem dL_law_704 : decode cL_law 704 = .ok (.aload_n 0, 1) := by decide +kernel
theorem dL_law_705 : decode cL_law 705 = .ok (.iload_n 3, 1) := by decide +kernel
theorem dL_law_706 : decode cL_law 706 = .ok (.iconst 1, 1) := by decide +kernel
theorem dL_law_707 : decode cL_law 707 = .ok (.iadd, 1) := by decide +kernel
theorem dL_law_708 : decode cL_law 708 = .ok (.iaload, 1) := by decide +kernel
theorem dL_law_709 : decode cL_law 709 = .ok (.invokevirtual 85, 3) := by decide +kernel
theorem dL_law_712 : decode cL_law 712 = .ok (.if_icmp .eq 397, 3) := by decide +kernel
theorem dL_law_715 : decode cL_law 715 = .ok (.iconst 0, 1) := by decide +kernel
theorem dL_law_716 : decode cL_law 716 = .ok (.ireturn, 1) := by decide +kernel
theorem dL_law_717 : decode cL_law 717 = .ok (.aload_n 1, 1) := by decide +kernel
theorem dL_law_718 : decode cL_law 718 = .ok (.aload_n 0, 1) := by decide +kernel
theorem dL_law_719 : decode cL_law 719 = .ok (.iload_n 3, 1) := by decide +kernel
theorem dL_law_720 : decode cL_law 720 = .ok (.iconst 1, 1) := by decide +kernel
theorem dL_law_721 : decode cL_law 721 = .ok (.iadd, 1) := by decide +kernel
theorem dL_law_722 : decode cL_law 722 = .ok (.iaload, 1) := by decide +kernel
theorem dL_law_723 : decode cL_law 723 = .ok (.invokevirtual 86, 3) := by decide +kernel
theorem dL_law_726 : decode cL_law 726 = .ok (.aload_n 2, 1) := by decide +kernel
theorem dL_law_727 : decode cL_law 727 = .ok (.aload_n 0, 1) := by decide +kernel
theorem dL_law_728 : decode cL_law 728 = .ok (.iload_n 3, 1) := by decide +kernel
theorem dL_law_729 : decode cL_law 729 = .ok (.iconst 1, 1) := by decide +kernel
theorem dL_law_730 : decode cL_law 730 = .ok (.iadd, 1) := by decide +kernel
theorem dL_law_731 : decode cL_law 731 = .ok (.iaload, 1) := by decide +kernel
theorem dL_law_732 : decode cL_law 732 = .ok (.invokevirtual 89, 3) := by decide +kernel
theorem dL_law_735 : decode cL_law 735 = .ok (.if_icmp .eq 374, 3) := by decide +kernel
theorem dL_law_738 : decode cL_law 738 = .ok (.iconst 0, 1) := by decide +kernel
theorem dL_law_739 : decode cL_law 739 = .ok (.ireturn, 1) := by decide +kernel
theorem dL_law_740 : decode cL_law 740 = .ok (.aload_n 1, 1) := by decide +kernel
theorem dL_law_741 : decode cL_law 741 = .ok (.aload_n 0, 1) := by decide +kernel
theorem dL_law_742 : decode cL_law 742 = .ok (.iload_n 3, 1) := by decide +kernel
theorem dL_law_743 : decode cL_law 743 = .ok (.iconst 1, 1) := by decide +kernel
theorem dL_law_744 : decode cL_law 744 = .ok (.iadd, 1) := by decide +kernel
theorem dL_law_745 : decode cL_law 745 = .ok (.iaload, 1) := by decide +kernel
theorem dL_law_746 : decode cL_law 746 = .ok (.aload_n 0, 1) := by decide +kernel
theorem dL_law_747 : decode cL_law 747 = .ok (.iload_n 3, 1) := by decide +kernel
theorem dL_law_748 : decode cL_law 748 = .ok (.iconst 2, 1) := by decide +kernel
theorem dL_law_749 : decode cL_law 749 = .ok (.iadd, 1) := by decide +kernel
theorem dL_law_750 : decode cL_law 750 = .ok (.iaload, 1) := by decide +kernel
theorem dL_law_751 : decode cL_law 751 = .ok (.aload_n 0, 1) := by decide +kernel
theorem dL_law_752 : decode cL_law 752 = .ok (.iload_n 3, 1) := by decide +kernel
theorem dL_law_753 : decode cL_law 753 = .ok (.iconst 3, 1) := by decide +kernel
theorem dL_law_754 : decode cL_law 754 = .ok (.iadd, 1) := by decide +kernel
theorem dL_law_755 : decode cL_law 755 = .ok (.iaload, 1) := by decide +kernel
theorem dL_law_756 : decode cL_law 756 = .ok (.invokevirtual 90, 3) := by decide +kernel
theorem dL_law_759 : decode cL_law 759 = .ok (.aload_n 2, 1) := by decide +kernel
theorem dL_law_760 : decode cL_law 760 = .ok (.aload_n 0, 1) := by decide +kernel
theorem dL_law_761 : decode cL_law 761 = .ok (.iload_n 3, 1) := by decide +kernel
theorem dL_law_762 : decode cL_law 762 = .ok (.iconst 1, 1) := by decide +kernel
theorem dL_law_763 : decode cL_law 763 = .ok (.iadd, 1) := by decide +kernel
theorem dL_law_764 : decode cL_law 764 = .ok (.iaload, 1) := by decide +kernel
theorem dL_law_765 : decode cL_law 765 = .ok (.aload_n 0, 1) := by decide +kernel
theorem dL_law_766 : decode cL_law 766 = .ok (.iload_n 3, 1) := by decide +kernel
theorem dL_law_767 : decode cL_law 767 = .ok (.iconst 2, 1) := by decide +kernel
theorem dL_law_768 : decode cL_law 768 = .ok (.iadd, 1) := by decide +kernel
theorem dL_law_769 : decode cL_law 769 = .ok (.iaload, 1) := by decide +kernel
theorem dL_law_770 : decode cL_law 770 = .ok (.aload_n 0, 1) := by decide +kernel
theorem dL_law_771 : decode cL_law 771 = .ok (.iload_n 3, 1) := by decide +kernel
theorem dL_law_772 : decode cL_law 772 = .ok (.iconst 3, 1) := by decide +kernel
theorem dL_law_773 : decode cL_law 773 = .ok (.iadd, 1) := by decide +kernel
theorem dL_law_774 : decode cL_law 774 = .ok (.iaload, 1) := by decide +kernel
theorem dL_law_775 : decode cL_law 775 = .ok (.invokevirtual 93, 3) := by decide +kernel
theorem dL_law_778 : decode cL_law 778 = .ok (.if_icmp .eq 331, 3) := by decide +kernel
theorem dL_law_781 : decode cL_law 781 = .ok (.iconst 0, 1) := by decide +kernel
theorem dL_law_782 : decode cL_law 782 = .ok (.ireturn, 1) := by decide +kernel
theorem dL_law_783 : decode cL_law 783 = .ok (.aload_n 1, 1) := by decide +kernel
theorem dL_law_784 : decode cL_law 784 = .ok (.aload_n 0, 1) := by decide +kernel
theorem dL_law_785 : decode cL_law 785 = .ok (.iload_n 3, 1) := by decide +kernel
theorem dL_law_786 : decode cL_law 786 = .ok (.iconst 1, 1) := by decide +kernel
theorem dL_law_787 : decode cL_law 787 = .ok (.iadd, 1) := by decide +kernel
theorem dL_law_788 : decode cL_law 788 = .ok (.iaload, 1) := by decide +kernel
theorem dL_law_789 : decode cL_law 789 = .ok (.aload_n 0, 1) := by decide +kernel
theorem dL_law_790 : decode cL_law 790 = .ok (.iload_n 3, 1) := by decide +kernel
theorem dL_law_791 : decode cL_law 791 = .ok (.iconst 2, 1) := by decide +kernel
theorem dL_law_792 : decode cL_law 792 = .ok (.iadd, 1) := by decide +kernel
theorem dL_law_793 : decode cL_law 793 = .ok (.iaload, 1) := by decide +kernel
theorem dL_law_794 : decode cL_law 794 = .ok (.invokevirtual 94, 3) := by decide +kernel
theorem dL_law_797 : decode cL_law 797 = .ok (.aload_n 2, 1) := by decide +kernel
theorem dL_law_798 : decode cL_law 798 = .ok (.aload_n 0, 1) := by decide +kernel
theorem dL_law_799 : decode cL_law 799 = .ok (.iload_n 3, 1) := by decide +kernel
theorem dL_law_800 : decode cL_law 800 = .ok (.iconst 1, 1) := by decide +kernel
theorem dL_law_801 : decode cL_law 801 = .ok (.iadd, 1) := by decide +kernel
theorem dL_law_802 : decode cL_law 802 = .ok (.iaload, 1) := by decide +kernel
theorem dL_law_803 : decode cL_law 803 = .ok (.aload_n 0, 1) := by decide +kernel
theorem dL_law_804 : decode cL_law 804 = .ok (.iload_n 3, 1) := by decide +kernel
theorem dL_law_805 : decode cL_law 805 = .ok (.iconst 2, 1) := by decide +kernel
theorem dL_law_806 : decode cL_law 806 = .ok (.iadd, 1) := by decide +kernel
theorem dL_law_807 : decode cL_law 807 = .ok (.iaload, 1) := by decide +kernel
theorem dL_law_808 : decode cL_law 808 = .ok (.invokevirtual 97, 3) := by decide +kernel
theorem dL_law_811 : decode cL_law 811 = .ok (.if_icmp .eq 298, 3) := by decide +kernel
theorem dL_law_814 : decode cL_law 814 = .ok (.iconst 0, 1) := by decide +kernel
theorem dL_law_815 : decode cL_law 815 = .ok (.ireturn, 1) := by decide +kernel
theorem dL_law_816 : decode cL_law 816 = .ok (.aload_n 1, 1) := by decide +kernel
theorem dL_law_817 : decode cL_law 817 = .ok (.aload_n 0, 1) := by decide +kernel
theorem dL_law_818 : decode cL_law 818 = .ok (.iload_n 3, 1) := by decide +kernel
theorem dL_law_819 : decode cL_law 819 = .ok (.iconst 1, 1) := by decide +kernel
theorem dL_law_820 : decode cL_law 820 = .ok (.iadd, 1) := by decide +kernel
theorem dL_law_821 : decode cL_law 821 = .ok (.iaload, 1) := by decide +kernel
theorem dL_law_822 : decode cL_law 822 = .ok (.invokevirtual 98, 3) := by decide +kernel
theorem dL_law_825 : decode cL_law 825 = .ok (.aload_n 2, 1) := by decide +kernel
theorem dL_law_826 : decode cL_law 826 = .ok (.aload_n 0, 1) := by decide +kernel
theorem dL_law_827 : decode cL_law 827 = .ok (.iload_n 3, 1) := by decide +kernel
theorem dL_law_828 : decode cL_law 828 = .ok (.iconst 1, 1) := by decide +kernel
theorem dL_law_829 : decode cL_law 829 = .ok (.iadd, 1) := by decide +kernel
theorem dL_law_830 : decode cL_law 830 = .ok (.iaload, 1) := by decide +kernel
theorem dL_law_831 : decode cL_law 831 = .ok (.invokevirtual 101, 3) := by decide +kernel
theorem dL_law_834 : decode cL_law 834 = .ok (.if_icmp .eq 275, 3) := by decide +kernel
theorem dL_law_837 : decode cL_law 837 = .ok (.iconst 0, 1) := by decide +kernel
theorem dL_law_838 : decode cL_law 838 = .ok (.ireturn, 1) := by decide +kernel
theorem dL_law_839 : decode cL_law 839 = .ok (.aload_n 1, 1) := by decide +kernel
theorem dL_law_840 : decode cL_law 840 = .ok (.aload_n 0, 1) := by decide +kernel
theorem dL_law_841 : decode cL_law 841 = .ok (.iload_n 3, 1) := by decide +kernel
theorem dL_law_842 : decode cL_law 842 = .ok (.iconst 1, 1) := by decide +kernel
theorem dL_law_843 : decode cL_law 843 = .ok (.iadd, 1) := by decide +kernel
theorem dL_law_844 : decode cL_law 844 = .ok (.iaload, 1) := by decide +kernel
theorem dL_law_845 : decode cL_law 845 = .ok (.aload_n 0, 1) := by decide +kernel
theorem dL_law_846 : decode cL_law 846 = .ok (.iload_n 3, 1) := by decide +kernel
theorem dL_law_847 : decode cL_law 847 = .ok (.iconst 2, 1) := by decide +kernel
theorem dL_law_848 : decode cL_law 848 = .ok (.iadd, 1) := by decide +kernel
theorem dL_law_849 : decode cL_law 849 = .ok (.iaload, 1) := by decide +kernel
theorem dL_law_850 : decode cL_law 850 = .ok (.invokevirtual 102, 3) := by decide +kernel
theorem dL_law_853 : decode cL_law 853 = .ok (.aload_n 2, 1) := by decide +kernel
theorem dL_law_854 : decode cL_law 854 = .ok (.aload_n 0, 1) := by decide +kernel
theorem dL_law_855 : decode cL_law 855 = .ok (.iload_n 3, 1) := by decide +kernel
theorem dL_law_856 : decode cL_law 856 = .ok (.iconst 1, 1) := by decide +kernel
theorem dL_law_857 : decode cL_law 857 = .ok (.iadd, 1) := by decide +kernel
theorem dL_law_858 : decode cL_law 858 = .ok (.iaload, 1) := by decide +kernel
theorem dL_law_859 : decode cL_law 859 = .ok (.aload_n 0, 1) := by decide +kernel
theorem dL_law_860 : decode cL_law 860 = .ok (.iload_n 3, 1) := by decide +kernel
theorem dL_law_861 : decode cL_law 861 = .ok (.iconst 2, 1) := by decide +kernel
theorem dL_law_862 : decode cL_law 862 = .ok (.iadd, 1) := by decide +kernel
theorem dL_law_863 : decode cL_law 863 = .ok (.iaload, 1) := by decide +kernel
theorem dL_law_864 : decode cL_law 864 = .ok (.invokevirtual 105, 3) := by decide +kernel
theorem dL_law_867 : decode cL_law 867 = .ok (.if_icmp .eq 242, 3) := by decide +kernel
theorem dL_law_870 : decode cL_law 870 = .ok (.iconst 0, 1) := by decide +kernel
theorem dL_law_871 : decode cL_law 871 = .ok (.ireturn, 1) := by decide +kernel
theorem dL_law_872 : decode cL_law 872 = .ok (.aload_n 1, 1) := by decide +kernel
theorem dL_law_873 : decode cL_law 873 = .ok (.aload_n 0, 1) := by decide +kernel
theorem dL_law_874 : decode cL_law 874 = .ok (.iload_n 3, 1) := by decide +kernel
theorem dL_law_875 : decode cL_law 875 = .ok (.iconst 1, 1) := by decide +kernel
theorem dL_law_876 : decode cL_law 876 = .ok (.iadd, 1) := by decide +kernel
theorem dL_law_877 : decode cL_law 877 = .ok (.iaload, 1) := by decide +kernel
theorem dL_law_878 : decode cL_law 878 = .ok (.aload_n 0, 1) := by decide +kernel
theorem dL_law_879 : decode cL_law 879 = .ok (.iload_n 3, 1) := by decide +kernel
theorem dL_law_880 : decode cL_law 880 = .ok (.iconst 2, 1) := by decide +kernel
theorem dL_law_881 : decode cL_law 881 = .ok (.iadd, 1) := by decide +kernel
theorem dL_law_882 : decode cL_law 882 = .ok (.iaload, 1) := by decide +kernel
theorem dL_law_883 : decode cL_law 883 = .ok (.aload_n 0, 1) := by decide +kernel
theorem dL_law_884 : decode cL_law 884 = .ok (.iload_n 3, 1) := by decide +kernel
theorem dL_law_885 : decode cL_law 885 = .ok (.iconst 3, 1) := by decide +kernel
theorem dL_law_886 : decode cL_law 886 = .ok (.iadd, 1) := by decide +kernel
theorem dL_law_887 : decode cL_law 887 = .ok (.iaload, 1) := by decide +kernel
theorem dL_law_888 : decode cL_law 888 = .ok (.aload_n 0, 1) := by decide +kernel
theorem dL_law_889 : decode cL_law 889 = .ok (.iload_n 3, 1) := by decide +kernel
theorem dL_law_890 : decode cL_law 890 = .ok (.iconst 4, 1) := by decide +kernel
theorem dL_law_891 : decode cL_law 891 = .ok (.iadd, 1) := by decide +kernel
theorem dL_law_892 : decode cL_law 892 = .ok (.iaload, 1) := by decide +kernel
theorem dL_law_893 : decode cL_law 893 = .ok (.invokevirtual 106, 3) := by decide +kernel
theorem dL_law_896 : decode cL_law 896 = .ok (.aload_n 2, 1) := by decide +kernel
theorem dL_law_897 : decode cL_law 897 = .ok (.aload_n 0, 1) := by decide +kernel
theorem dL_law_898 : decode cL_law 898 = .ok (.iload_n 3, 1) := by decide +kernel
theorem dL_law_899 : decode cL_law 899 = .ok (.iconst 1, 1) := by decide +kernel
theorem dL_law_900 : decode cL_law 900 = .ok (.iadd, 1) := by decide +kernel
theorem dL_law_901 : decode cL_law 901 = .ok (.iaload, 1) := by decide +kernel
theorem dL_law_902 : decode cL_law 902 = .ok (.aload_n 0, 1) := by decide +kernel
theorem dL_law_903 : decode cL_law 903 = .ok (.iload_n 3, 1) := by decide +kernel
theorem dL_law_904 : decode cL_law 904 = .ok (.iconst 2, 1) := by decide +kernel
theorem dL_law_905 : decode cL_law 905 = .ok (.iadd, 1) := by decide +kernel
theorem dL_law_906 : decode cL_law 906 = .ok (.iaload, 1) := by decide +kernel
theorem dL_law_907 : decode cL_law 907 = .ok (.aload_n 0, 1) := by decide +kernel
theorem dL_law_908 : decode cL_law 908 = .ok (.iload_n 3, 1) := by decide +kernel
theorem dL_law_909 : decode cL_law 909 = .ok (.iconst 3, 1) := by decide +kernel
theorem dL_law_910 : decode cL_law 910 = .ok (.iadd, 1) := by decide +kernel
theorem dL_law_911 : decode cL_law 911 = .ok (.iaload, 1) := by decide +kernel
theorem dL_law_912 : decode cL_law 912 = .ok (.aload_n 0, 1) := by decide +kernel
theorem dL_law_913 : decode cL_law 913 = .ok (.iload_n 3, 1) := by decide +kernel
theorem dL_law_914 : decode cL_law 914 = .ok (.iconst 4, 1) := by decide +kernel
theorem dL_law_915 : decode cL_law 915 = .ok (.iadd, 1) := by decide +kernel
theorem dL_law_916 : decode cL_law 916 = .ok (.iaload, 1) := by decide +kernel
theorem dL_law_917 : decode cL_law 917 = .ok (.invokevirtual 109, 3) := by decide +kernel
theorem dL_law_920 : decode cL_law 920 = .ok (.if_icmp .eq 189, 3) := by decide +kernel
theorem dL_law_923 : decode cL_law 923 = .ok (.iconst 0, 1) := by decide +kernel
theorem dL_law_924 : decode cL_law 924 = .ok (.ireturn, 1) := by decide +kernel
theorem dL_law_925 : decode cL_law 925 = .ok (.aload_n 1, 1) := by decide +kernel
theorem dL_law_926 : decode cL_law 926 = .ok (.aload_n 0, 1) := by decide +kernel
theorem dL_law_927 : decode cL_law 927 = .ok (.iload_n 3, 1) := by decide +kernel
theorem dL_law_928 : decode cL_law 928 = .ok (.iconst 1, 1) := by decide +kernel
theorem dL_law_929 : decode cL_law 929 = .ok (.iadd, 1) := by decide +kernel
theorem dL_law_930 : decode cL_law 930 = .ok (.iaload, 1) := by decide +kernel
theorem dL_law_931 : decode cL_law 931 = .ok (.invokevirtual 110, 3) := by decide +kernel
theorem dL_law_934 : decode cL_law 934 = .ok (.aload_n 2, 1) := by decide +kernel
theorem dL_law_935 : decode cL_law 935 = .ok (.aload_n 0, 1) := by decide +kernel
theorem dL_law_936 : decode cL_law 936 = .ok (.iload_n 3, 1) := by decide +kernel
theorem dL_law_937 : decode cL_law 937 = .ok (.iconst 1, 1) := by decide +kernel
theorem dL_law_938 : decode cL_law 938 = .ok (.iadd, 1) := by decide +kernel
theorem dL_law_939 : decode cL_law 939 = .ok (.iaload, 1) := by decide +kernel
theorem dL_law_940 : decode cL_law 940 = .ok (.invokevirtual 113, 3) := by decide +kernel
theorem dL_law_943 : decode cL_law 943 = .ok (.if_icmp .eq 166, 3) := by decide +kernel
theorem dL_law_946 : decode cL_law 946 = .ok (.iconst 0, 1) := by decide +kernel
theorem dL_law_947 : decode cL_law 947 = .ok (.ireturn, 1) := by decide +kernel
theorem dL_law_948 : decode cL_law 948 = .ok (.aload_n 1, 1) := by decide +kernel
theorem dL_law_949 : decode cL_law 949 = .ok (.aload_n 0, 1) := by decide +kernel
theorem dL_law_950 : decode cL_law 950 = .ok (.iload_n 3, 1) := by decide +kernel
theorem dL_law_951 : decode cL_law 951 = .ok (.iconst 1, 1) := by decide +kernel
theorem dL_law_952 : decode cL_law 952 = .ok (.iadd, 1) := by decide +kernel
theorem dL_law_953 : decode cL_law 953 = .ok (.iaload, 1) := by decide +kernel
theorem dL_law_954 : decode cL_law 954 = .ok (.aload_n 0, 1) := by decide +kernel
theorem dL_law_955 : decode cL_law 955 = .ok (.iload_n 3, 1) := by decide +kernel
theorem dL_law_956 : decode cL_law 956 = .ok (.iconst 2, 1) := by decide +kernel
theorem dL_law_957 : decode cL_law 957 = .ok (.iadd, 1) := by decide +kernel
theorem dL_law_958 : decode cL_law 958 = .ok (.iaload, 1) := by decide +kernel
theorem dL_law_959 : decode cL_law 959 = .ok (.aload_n 0, 1) := by decide +kernel
theorem dL_law_960 : decode cL_law 960 = .ok (.iload_n 3, 1) := by decide +kernel
theorem dL_law_961 : decode cL_law 961 = .ok (.iconst 3, 1) := by decide +kernel
theorem dL_law_962 : decode cL_law 962 = .ok (.iadd, 1) := by decide +kernel
theorem dL_law_963 : decode cL_law 963 = .ok (.iaload, 1) := by decide +kernel
theorem dL_law_964 : decode cL_law 964 = .ok (.ifCond .eq 7, 3) := by decide +kernel
theorem dL_law_967 : decode cL_law 967 = .ok (.iconst 1, 1) := by decide +kernel
theorem dL_law_968 : decode cL_law 968 = .ok (.goto 4, 3) := by decide +kernel
theorem dL_law_971 : decode cL_law 971 = .ok (.iconst 0, 1) := by decide +kernel
theorem dL_law_972 : decode cL_law 972 = .ok (.invokevirtual 114, 3) := by decide +kernel
theorem dL_law_975 : decode cL_law 975 = .ok (.aload_n 2, 1) := by decide +kernel
theorem dL_law_976 : decode cL_law 976 = .ok (.aload_n 0, 1) := by decide +kernel
theorem dL_law_977 : decode cL_law 977 = .ok (.iload_n 3, 1) := by decide +kernel
theorem dL_law_978 : decode cL_law 978 = .ok (.iconst 1, 1) := by decide +kernel
theorem dL_law_979 : decode cL_law 979 = .ok (.iadd, 1) := by decide +kernel
theorem dL_law_980 : decode cL_law 980 = .ok (.iaload, 1) := by decide +kernel
theorem dL_law_981 : decode cL_law 981 = .ok (.aload_n 0, 1) := by decide +kernel
theorem dL_law_982 : decode cL_law 982 = .ok (.iload_n 3, 1) := by decide +kernel
theorem dL_law_983 : decode cL_law 983 = .ok (.iconst 2, 1) := by decide +kernel
theorem dL_law_984 : decode cL_law 984 = .ok (.iadd, 1) := by decide +kernel
theorem dL_law_985 : decode cL_law 985 = .ok (.iaload, 1) := by decide +kernel
theorem dL_law_986 : decode cL_law 986 = .ok (.aload_n 0, 1) := by decide +kernel
theorem dL_law_987 : decode cL_law 987 = .ok (.iload_n 3, 1) := by decide +kernel
theorem dL_law_988 : decode cL_law 988 = .ok (.iconst 3, 1) := by decide +kernel
theorem dL_law_989 : decode cL_law 989 = .ok (.iadd, 1) := by decide +kernel
theorem dL_law_990 : decode cL_law 990 = .ok (.iaload, 1) := by decide +kernel
theorem dL_law_991 : decode cL_law 991 = .ok (.ifCond .eq 7, 3) := by decide +kernel
theorem dL_law_994 : decode cL_law 994 = .ok (.iconst 1, 1) := by decide +kernel
theorem dL_law_995 : decode cL_law 995 = .ok (.goto 4, 3) := by decide +kernel
theorem dL_law_998 : decode cL_law 998 = .ok (.iconst 0, 1) := by decide +kernel
theorem dL_law_999 : decode cL_law 999 = .ok (.invokevirtual 118, 3) := by decide +kernel
theorem dL_law_1002 : decode cL_law 1002 = .ok (.if_icmp .eq 107, 3) := by decide +kernel
theorem dL_law_1005 : decode cL_law 1005 = .ok (.iconst 0, 1) := by decide +kernel
theorem dL_law_1006 : decode cL_law 1006 = .ok (.ireturn, 1) := by decide +kernel
theorem dL_law_1007 : decode cL_law 1007 = .ok (.aload_n 1, 1) := by decide +kernel
theorem dL_law_1008 : decode cL_law 1008 = .ok (.aload_n 0, 1) := by decide +kernel
theorem dL_law_1009 : decode cL_law 1009 = .ok (.iload_n 3, 1) := by decide +kernel
theorem dL_law_1010 : decode cL_law 1010 = .ok (.iconst 1, 1) := by decide +kernel
theorem dL_law_1011 : decode cL_law 1011 = .ok (.iadd, 1) := by decide +kernel
theorem dL_law_1012 : decode cL_law 1012 = .ok (.iaload, 1) := by decide +kernel
theorem dL_law_1013 : decode cL_law 1013 = .ok (.aload_n 0, 1) := by decide +kernel
theorem dL_law_1014 : decode cL_law 1014 = .ok (.iload_n 3, 1) := by decide +kernel
theorem dL_law_1015 : decode cL_law 1015 = .ok (.iconst 2, 1) := by decide +kernel
theorem dL_law_1016 : decode cL_law 1016 = .ok (.iadd, 1) := by decide +kernel
theorem dL_law_1017 : decode cL_law 1017 = .ok (.iaload, 1) := by decide +kernel
theorem dL_law_1018 : decode cL_law 1018 = .ok (.aload_n 0, 1) := by decide +kernel
theorem dL_law_1019 : decode cL_law 1019 = .ok (.iload_n 3, 1) := by decide +kernel
theorem dL_law_1020 : decode cL_law 1020 = .ok (.iconst 3, 1) := by decide +kernel
theorem dL_law_1021 : decode cL_law 1021 = .ok (.iadd, 1) := by decide +kernel
theorem dL_law_1022 : decode cL_law 1022 = .ok (.iaload, 1) := by decide +kernel
theorem dL_law_1023 : decode cL_law 1023 = .ok (.aload_n 0, 1) := by decide +kernel
theorem dL_law_1024 : decode cL_law 1024 = .ok (.iload_n 3, 1) := by decide +kernel
theorem dL_law_1025 : decode cL_law 1025 = .ok (.iconst 4, 1) := by decide +kernel
theorem dL_law_1026 : decode cL_law 1026 = .ok (.iadd, 1) := by decide +kernel
theorem dL_law_1027 : decode cL_law 1027 = .ok (.iaload, 1) := by decide +kernel
theorem dL_law_1028 : decode cL_law 1028 = .ok (.aload_n 0, 1) := by decide +kernel
theorem dL_law_1029 : decode cL_law 1029 = .ok (.iload_n 3, 1) := by decide +kernel
theorem dL_law_1030 : decode cL_law 1030 = .ok (.iconst 5, 1) := by decide +kernel
theorem dL_law_1031 : decode cL_law 1031 = .ok (.iadd, 1) := by decide +kernel
theorem dL_law_1032 : decode cL_law 1032 = .ok (.iaload, 1) := by decide +kernel
theorem dL_law_1033 : decode cL_law 1033 = .ok (.ifCond .eq 7, 3) := by decide +kernel
theorem dL_law_1036 : decode cL_law 1036 = .ok (.iconst 1, 1) := by decide +kernel
theorem dL_law_1037 : decode cL_law 1037 = .ok (.goto 4, 3) := by decide +kernel
theorem dL_law_1040 : decode cL_law 1040 = .ok (.iconst 0, 1) := by decide +kernel
theorem dL_law_1041 : decode cL_law 1041 = .ok (.invokevirtual 119, 3) := by decide +kernel
theorem dL_law_1044 : decode cL_law 1044 = .ok (.aload_n 2, 1) := by decide +kernel
theorem dL_law_1045 : decode cL_law 1045 = .ok (.aload_n 0, 1) := by decide +kernel
theorem dL_law_1046 : decode cL_law 1046 = .ok (.iload_n 3, 1) := by decide +kernel
theorem dL_law_1047 : decode cL_law 1047 = .ok (.iconst 1, 1) := by decide +kernel
theorem dL_law_1048 : decode cL_law 1048 = .ok (.iadd, 1) := by decide +kernel
theorem dL_law_1049 : decode cL_law 1049 = .ok (.iaload, 1) := by decide +kernel
theorem dL_law_1050 : decode cL_law 1050 = .ok (.aload_n 0, 1) := by decide +kernel
theorem dL_law_1051 : decode cL_law 1051 = .ok (.iload_n 3, 1) := by decide +kernel
theorem dL_law_1052 : decode cL_law 1052 = .ok (.iconst 2, 1) := by decide +kernel
theorem dL_law_1053 : decode cL_law 1053 = .ok (.iadd, 1) := by decide +kernel
theorem dL_law_1054 : decode cL_law 1054 = .ok (.iaload, 1) := by decide +kernel
theorem dL_law_1055 : decode cL_law 1055 = .ok (.aload_n 0, 1) := by decide +kernel
theorem dL_law_1056 : decode cL_law 1056 = .ok (.iload_n 3, 1) := by decide +kernel
theorem dL_law_1057 : decode cL_law 1057 = .ok (.iconst 3, 1) := by decide +kernel
theorem dL_law_1058 : decode cL_law 1058 = .ok (.iadd, 1) := by decide +kernel
theorem dL_law_1059 : decode cL_law 1059 = .ok (.iaload, 1) := by decide +kernel
theorem dL_law_1060 : decode cL_law 1060 = .ok (.aload_n 0, 1) := by decide +kernel
theorem dL_law_1061 : decode cL_law 1061 = .ok (.iload_n 3, 1) := by decide +kernel
theorem dL_law_1062 : decode cL_law 1062 = .ok (.iconst 4, 1) := by decide +kernel
theorem dL_law_1063 : decode cL_law 1063 = .ok (.iadd, 1) := by decide +kernel
theorem dL_law_1064 : decode cL_law 1064 = .ok (.iaload, 1) := by decide +kernel
theorem dL_law_1065 : decode cL_law 1065 = .ok (.aload_n 0, 1) := by decide +kernel
theorem dL_law_1066 : decode cL_law 1066 = .ok (.iload_n 3, 1) := by decide +kernel
theorem dL_law_1067 : decode cL_law 1067 = .ok (.iconst 5, 1) := by decide +kernel
theorem dL_law_1068 : decode cL_law 1068 = .ok (.iadd, 1) := by decide +kernel
theorem dL_law_1069 : decode cL_law 1069 = .ok (.iaload, 1) := by decide +kernel
theorem dL_law_1070 : decode cL_law 1070 = .ok (.ifCond .eq 7, 3) := by decide +kernel
theorem dL_law_1073 : decode cL_law 1073 = .ok (.iconst 1, 1) := by decide +kernel
theorem dL_law_1074 : decode cL_law 1074 = .ok (.goto 4, 3) := by decide +kernel
theorem dL_law_1077 : decode cL_law 1077 = .ok (.iconst 0, 1) := by decide +kernel
theorem dL_law_1078 : decode cL_law 1078 = .ok (.invokevirtual 123, 3) := by decide +kernel
theorem dL_law_1081 : decode cL_law 1081 = .ok (.if_icmp .eq 28, 3) := by decide +kernel
theorem dL_law_1084 : decode cL_law 1084 = .ok (.iconst 0, 1) := by decide +kernel
theorem dL_law_1085 : decode cL_law 1085 = .ok (.ireturn, 1) := by decide +kernel
theorem dL_law_1086 : decode cL_law 1086 = .ok (.aload_n 1, 1) := by decide +kernel
theorem dL_law_1087 : decode cL_law 1087 = .ok (.aload_n 0, 1) := by decide +kernel
theorem dL_law_1088 : decode cL_law 1088 = .ok (.iload_n 3, 1) := by decide +kernel
theorem dL_law_1089 : decode cL_law 1089 = .ok (.iconst 1, 1) := by decide +kernel
theorem dL_law_1090 : decode cL_law 1090 = .ok (.iadd, 1) := by decide +kernel
theorem dL_law_1091 : decode cL_law 1091 = .ok (.iaload, 1) := by decide +kernel
theorem dL_law_1092 : decode cL_law 1092 = .ok (.invokevirtual 124, 3) := by decide +kernel
theorem dL_law_1095 : decode cL_law 1095 = .ok (.aload_n 2, 1) := by decide +kernel
theorem dL_law_1096 : decode cL_law 1096 = .ok (.aload_n 0, 1) := by decide +kernel
theorem dL_law_1097 : decode cL_law 1097 = .ok (.iload_n 3, 1) := by decide +kernel
theorem dL_law_1098 : decode cL_law 1098 = .ok (.iconst 1, 1) := by decide +kernel
theorem dL_law_1099 : decode cL_law 1099 = .ok (.iadd, 1) := by decide +kernel
theorem dL_law_1100 : decode cL_law 1100 = .ok (.iaload, 1) := by decide +kernel
theorem dL_law_1101 : decode cL_law 1101 = .ok (.invokevirtual 127, 3) := by decide +kernel
theorem dL_law_1104 : decode cL_law 1104 = .ok (.if_icmp .eq 5, 3) := by decide +kernel
theorem dL_law_1107 : decode cL_law 1107 = .ok (.iconst 0, 1) := by decide +kernel
theorem dL_law_1108 : decode cL_law 1108 = .ok (.ireturn, 1) := by decide +kernel
theorem dL_law_1109 : decode cL_law 1109 = .ok (.iinc 3 6, 3) := by decide +kernel
theorem dL_law_1112 : decode cL_law 1112 = .ok (.goto (-1094), 3) := by decide +kernel
theorem dL_law_1115 : decode cL_law 1115 = .ok (.iconst 1, 1) := by decide +kernel
theorem dL_law_1116 : decode cL_law 1116 = .ok (.ireturn, 1) := by decide +kernel
